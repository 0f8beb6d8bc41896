set_option maxRecDepth 20000 in
theorem ggL_line_J4_init_da8c8 : GoodIn wsL_line wsJ4_init_da8c8 := goodIn_r _ [6, 7, 8, 9, 10, 11, 12, 13, 14, 15, 16, 17, 18, 19, 20, 21, 22, 23, 24, 25, 202, 203, 204, 205] (by decide +kernel) (by decide +kernel)
set_option maxRecDepth 20000 in
theorem gL_line_J4_init_da8c8 : GoodIn wsL_line (wsJ4_init_da8c8) := ggL_line_J4_init_da8c8
set_option maxRecDepth 20000 in
theorem ggL_line_X7_written : GoodIn wsL_line wsX7_written := goodIn_r _ [30, 31, 32, 33, 34, 3, 35, 36, 37, 38, 39, 9, 40, 41, 42, 43, 44, 45, 46, 47, 48, 49, 17, 16, 50, 51, 52, 53, 54, 55, 56, 57, 58, 59, 60, 61, 62, 63, 64, 20, 65, 66, 67, 68, 69, 70, 71, 206, 207, 208, 209, 210, 211, 212, 213, 214, 215, 202, 203, 204, 205] (by decide +kernel) (by decide +kernel)
set_option maxRecDepth 20000 in
theorem gL_line_X7_written : GoodIn wsL_line (wsV RL 70 RX7 yX7_written wsX7_written) := goodIn_app (goodIn_of _ (by decide +kernel)) ggL_line_X7_written
set_option maxRecDepth 20000 in
theorem ggL_line_J4_append_cf468 : GoodIn wsL_line wsJ4_append_cf468 := goodIn_r _ [75, 76, 77, 38, 78, 9, 79, 41, 16, 80, 81, 82, 83, 84, 17, 85, 86, 87, 88, 89, 90, 91, 92, 93, 94, 95, 96, 52, 97, 98, 99, 100, 101, 102, 103, 104, 105, 106, 107, 108, 109, 110, 111, 15, 112, 51, 53, 113, 114, 115, 116, 117, 118, 119, 120, 121, 14, 122, 123, 124, 125, 126, 127, 128, 129, 130, 18, 19, 20, 21, 22, 23, 24, 25, 131, 132, 133, 134, 135, 136, 137, 138, 139, 69, 70, 71, 140, 141, 56, 142, 58, 143, 144, 61, 145, 146, 147, 148, 66, 67, 68, 149, 150, 151, 152, 153, 154, 155, 55, 57, 59, 60, 62, 202, 203, 204, 205] (by decide +kernel) (by decide +kernel)
set_option maxRecDepth 20000 in
theorem gL_line_J4_append_cf468 : GoodIn wsL_line (wsV RL 73 RJ4 yJ4_append_cf468 wsJ4_append_cf468) := goodIn_app (goodIn_of _ (by decide +kernel)) ggL_line_J4_append_cf468
set_option maxRecDepth 20000 in
theorem ggL_line_J4_toString_0e30d : GoodIn wsL_line wsJ4_toString_0e30d := goodIn_r _ [159, 160, 161, 56, 162, 163, 164, 165, 166, 167, 168, 12, 13, 169, 170, 171, 172, 173, 174, 175, 176, 9, 177, 16, 178, 37, 179, 180, 33, 3, 35, 36, 38, 39, 40, 41, 181, 118, 119, 120, 121, 14, 17, 182, 183, 104, 184, 106, 107, 108, 109, 110, 111, 185, 186, 187, 15, 112, 51, 52, 53, 113, 114, 115, 116, 188, 189, 190, 191, 192, 20, 193, 194, 195, 196, 137, 138, 139, 69, 70, 71, 140, 141, 142, 58, 143, 144, 61, 145, 197, 64, 65, 66, 67, 68, 22, 23, 24, 25, 198, 199, 200, 201, 216, 217, 218, 219, 202, 203, 204, 205] (by decide +kernel) (by decide +kernel)
set_option maxRecDepth 20000 in
theorem gL_line_J4_toString_0e30d : GoodIn wsL_line (wsV RL 76 RJ4 yJ4_toString_0e30d wsJ4_toString_0e30d) := goodIn_app (goodIn_of _ (by decide +kernel)) ggL_line_J4_toString_0e30d
theorem dL_line_0 : decode cL_line 0 = .ok (.new 67, 3) := by decide +kernel
theorem dL_line_3 : decode cL_line 3 = .ok (.dup, 1) := by decide +kernel
theorem dL_line_4 : decode cL_line 4 = .ok (.invokespecial 69, 3) := by decide +kernel
theorem dL_line_7 : decode cL_line 7 = .ok (.astore_n 2, 1) := by decide +kernel
theorem dL_line_8 : decode cL_line 8 = .ok (.iconst 0, 1) := by decide +kernel
theorem dL_line_9 : decode cL_line 9 = .ok (.istore_n 3, 1) := by decide +kernel
theorem dL_line_10 : decode cL_line 10 = .ok (.iload_n 3, 1) := by decide +kernel
theorem dL_line_11 : decode cL_line 11 = .ok (.iload_n 1, 1) := by decide +kernel
theorem dL_line_12 : decode cL_line 12 = .ok (.if_icmp .ge 20, 3) := by decide +kernel
theorem dL_line_15 : decode cL_line 15 = .ok (.aload_n 2, 1) := by decide +kernel
theorem dL_line_16 : decode cL_line 16 = .ok (.aload_n 0, 1) := by decide +kernel
theorem dL_line_17 : decode cL_line 17 = .ok (.iload_n 3, 1) := by decide +kernel
theorem dL_line_18 : decode cL_line 18 = .ok (.invokevirtual 70, 3) := by decide +kernel
theorem dL_line_21 : decode cL_line 21 = .ok (.i2c, 1) := by decide +kernel
theorem dL_line_22 : decode cL_line 22 = .ok (.invokevirtual 73, 3) := by decide +kernel
theorem dL_line_25 : decode cL_line 25 = .ok (.pop, 1) := by decide +kernel
theorem dL_line_26 : decode cL_line 26 = .ok (.iinc 3 1, 3) := by decide +kernel
theorem dL_line_29 : decode cL_line 29 = .ok (.goto (-19), 3) := by decide +kernel
theorem dL_line_32 : decode cL_line 32 = .ok (.aload_n 2, 1) := by decide +kernel
theorem dL_line_33 : decode cL_line 33 = .ok (.invokevirtual 76, 3) := by decide +kernel
theorem dL_line_36 : decode cL_line 36 = .ok (.areturn, 1) := by decide +kernel
