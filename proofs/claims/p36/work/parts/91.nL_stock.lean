set_option maxRecDepth 20000 in
theorem ggL_stock_X7_treaty : GoodIn wsL_stock wsX7_treaty := goodIn_r _ [5, 6, 7, 8, 4, 9, 10, 11, 12, 13, 14, 15, 16, 17, 18, 19, 20, 21, 22, 23, 24, 25, 26, 27, 28, 29, 30, 31, 32, 33, 34, 35, 36, 37, 38, 39, 40, 41, 42, 43, 44, 45, 46, 47, 48, 49, 50, 51, 52, 53, 54, 55, 56, 57, 58, 59, 60, 61, 62, 63, 64, 65, 66, 67, 68, 69, 70, 71, 72, 73, 74, 75, 76, 77, 78, 79, 80, 81, 82, 83, 84, 85, 86, 87, 88, 89, 90, 91, 92, 93, 94, 95, 96, 97, 98, 99, 100, 101, 102, 103, 104, 105, 106, 107, 108, 109, 110, 111, 112, 113, 114, 115, 116, 117, 118, 119, 120, 121, 122, 123, 124, 125, 126, 127, 128, 129, 130, 131, 132, 133, 134, 135, 136, 137, 138, 139, 140, 141, 142, 143, 144, 145, 146, 147, 148, 149, 150, 151, 152, 153, 154, 155, 156, 157, 158, 159, 160, 161, 162, 163, 164, 165, 166, 167, 168, 169, 170, 171, 172, 173, 174, 175, 176, 177, 178, 179, 180, 181, 182, 183, 184, 185, 186, 187, 188, 189, 190, 191, 192, 193, 194, 195, 196, 197, 198, 199, 200, 201, 202, 203, 204, 205, 206, 207, 208, 209, 210, 211, 212, 213, 214, 215, 216, 217, 218, 219, 220, 221, 222, 223, 240, 241, 242, 243, 244, 245, 246, 247, 248, 249, 250, 251, 252, 253, 254, 255, 256, 257, 258, 259, 260, 261, 262, 263, 264, 265, 266, 267, 268, 269, 270, 271, 272, 273, 274, 275, 276, 277, 278] (by decide +kernel) (by decide +kernel)
set_option maxRecDepth 20000 in
theorem gL_stock_X7_treaty : GoodIn wsL_stock (wsV RL 41 RX7 yX7_treaty wsX7_treaty) := goodIn_app (goodIn_of _ (by decide +kernel)) ggL_stock_X7_treaty
set_option maxRecDepth 20000 in
theorem ggL_stock_X7_credit : GoodIn wsL_stock wsX7_credit := goodIn_r _ [227, 6, 7, 8, 4, 9, 10, 11, 12, 13, 14, 15, 16, 17, 18, 19, 20, 21, 22, 23, 24, 25, 26, 27, 28, 29, 30, 31, 32, 33, 34, 35, 36, 37, 38, 39, 40, 41, 42, 43, 44, 45, 46, 47, 48, 49, 50, 51, 52, 53, 54, 55, 56, 57, 58, 59, 60, 61, 62, 63, 64, 65, 66, 67, 68, 69, 70, 71, 72, 73, 74, 75, 76, 77, 78, 79, 80, 81, 82, 83, 84, 85, 86, 87, 88, 89, 90, 91, 92, 93, 94, 95, 96, 97, 98, 99, 100, 101, 102, 103, 104, 105, 106, 107, 108, 109, 110, 111, 112, 113, 114, 115, 116, 117, 118, 119, 120, 121, 122, 123, 124, 125, 126, 127, 128, 129, 130, 131, 132, 133, 134, 135, 136, 137, 138, 139, 140, 141, 142, 143, 144, 145, 146, 147, 148, 149, 150, 151, 152, 153, 154, 155, 156, 157, 158, 159, 160, 161, 162, 163, 164, 165, 166, 167, 168, 169, 170, 171, 172, 173, 174, 175, 176, 177, 178, 179, 180, 181, 182, 183, 184, 185, 186, 187, 188, 189, 190, 191, 192, 193, 194, 195, 196, 197, 198, 199, 200, 201, 202, 203, 204, 205, 206, 207, 208, 209, 210, 211, 212, 213, 214, 215, 216, 217, 218, 219, 220, 221, 222, 223, 240, 241, 242, 243, 244, 245, 246, 247, 248, 249, 250, 251, 252, 253, 254, 255, 256, 257, 258, 259, 260, 261, 262, 263, 264, 265, 266, 267, 268, 269, 270, 271, 272, 273, 274, 275, 276, 277, 278] (by decide +kernel) (by decide +kernel)
set_option maxRecDepth 20000 in
theorem gL_stock_X7_credit : GoodIn wsL_stock (wsV RL 45 RX7 yX7_credit wsX7_credit) := goodIn_app (goodIn_of _ (by decide +kernel)) ggL_stock_X7_credit
set_option maxRecDepth 20000 in
theorem ggL_stock_X7_buy : GoodIn wsL_stock wsX7_buy := goodIn_r _ [231, 6, 7, 8, 4, 9, 10, 11, 12, 13, 14, 15, 16, 17, 18, 19, 20, 21, 22, 23, 24, 25, 26, 27, 28, 29, 30, 31, 32, 33, 34, 35, 36, 37, 38, 39, 40, 41, 42, 43, 44, 45, 46, 47, 48, 49, 50, 51, 52, 53, 54, 55, 56, 57, 58, 59, 60, 61, 62, 63, 64, 65, 66, 67, 68, 69, 70, 71, 72, 73, 74, 75, 76, 77, 78, 79, 80, 81, 82, 83, 84, 85, 86, 87, 88, 89, 90, 91, 92, 93, 94, 95, 96, 97, 98, 99, 100, 101, 102, 103, 104, 105, 106, 107, 108, 109, 110, 111, 112, 113, 114, 115, 116, 117, 118, 119, 120, 121, 122, 123, 124, 125, 126, 127, 128, 129, 130, 131, 132, 133, 134, 135, 136, 137, 138, 139, 140, 141, 142, 143, 144, 145, 146, 147, 148, 149, 150, 151, 152, 153, 154, 155, 156, 157, 158, 159, 160, 161, 162, 163, 164, 165, 166, 167, 168, 169, 170, 171, 172, 173, 174, 175, 176, 177, 178, 179, 180, 181, 182, 183, 184, 185, 186, 187, 188, 189, 190, 191, 192, 193, 194, 195, 196, 197, 198, 199, 200, 201, 202, 203, 204, 205, 206, 207, 208, 209, 210, 211, 212, 213, 214, 215, 216, 217, 218, 219, 220, 221, 222, 223, 240, 241, 242, 243, 244, 245, 246, 247, 248, 249, 250, 251, 252, 253, 254, 255, 256, 257, 258, 259, 260, 261, 262, 263, 264, 265, 266, 267, 268, 269, 270, 271, 272, 273, 274, 275, 276, 277, 278] (by decide +kernel) (by decide +kernel)
set_option maxRecDepth 20000 in
theorem gL_stock_X7_buy : GoodIn wsL_stock (wsV RL 61 RX7 yX7_buy wsX7_buy) := goodIn_app (goodIn_of _ (by decide +kernel)) ggL_stock_X7_buy
set_option maxRecDepth 20000 in
theorem ggL_stock_X7_rain : GoodIn wsL_stock wsX7_rain := goodIn_r _ [235, 6, 7, 8, 4, 9, 10, 11, 12, 13, 14, 15, 16, 17, 18, 19, 20, 21, 22, 23, 24, 25, 26, 27, 28, 29, 30, 31, 32, 33, 34, 35, 36, 37, 38, 39, 40, 41, 42, 43, 44, 45, 46, 47, 48, 49, 50, 51, 52, 53, 54, 55, 56, 57, 58, 59, 60, 61, 62, 63, 64, 65, 66, 67, 68, 69, 70, 71, 72, 73, 74, 75, 76, 77, 78, 79, 80, 81, 82, 83, 84, 85, 86, 87, 88, 89, 90, 91, 92, 93, 94, 95, 96, 97, 98, 99, 100, 101, 102, 103, 104, 105, 106, 107, 108, 109, 110, 111, 112, 113, 114, 115, 116, 117, 118, 119, 120, 121, 122, 123, 124, 125, 126, 127, 128, 129, 130, 131, 132, 133, 134, 135, 136, 137, 138, 139, 140, 141, 142, 143, 144, 145, 146, 147, 148, 149, 150, 151, 152, 153, 154, 155, 156, 157, 158, 159, 160, 161, 162, 163, 164, 165, 166, 167, 168, 169, 170, 171, 172, 173, 174, 175, 176, 177, 178, 179, 180, 181, 182, 183, 184, 185, 186, 187, 188, 189, 190, 191, 192, 193, 194, 195, 196, 197, 198, 199, 200, 201, 202, 203, 204, 205, 206, 207, 208, 209, 210, 211, 212, 213, 214, 215, 216, 217, 218, 219, 220, 221, 222, 223, 240, 241, 242, 243, 244, 245, 246, 247, 248, 249, 250, 251, 252, 253, 254, 255, 256, 257, 258, 259, 260, 261, 262, 263, 264, 265, 266, 267, 268, 269, 270, 271, 272, 273, 274, 275, 276, 277, 278] (by decide +kernel) (by decide +kernel)
set_option maxRecDepth 20000 in
theorem gL_stock_X7_rain : GoodIn wsL_stock (wsV RL 55 RX7 yX7_rain wsX7_rain) := goodIn_app (goodIn_of _ (by decide +kernel)) ggL_stock_X7_rain
set_option maxRecDepth 20000 in
theorem ggL_stock_X7_month : GoodIn wsL_stock wsX7_month := goodIn_r _ [239, 6, 7, 8, 4, 9, 10, 11, 12, 13, 14, 15, 16, 17, 18, 19, 20, 21, 22, 23, 24, 25, 26, 27, 28, 29, 30, 31, 32, 33, 34, 35, 36, 37, 38, 39, 40, 41, 42, 43, 44, 45, 46, 47, 48, 49, 50, 51, 52, 53, 54, 55, 56, 57, 58, 59, 60, 61, 62, 63, 64, 65, 66, 67, 68, 69, 70, 71, 72, 73, 74, 75, 76, 77, 78, 79, 80, 81, 82, 83, 84, 85, 86, 87, 88, 89, 90, 91, 92, 93, 94, 95, 96, 97, 98, 99, 100, 101, 102, 103, 104, 105, 106, 107, 108, 109, 110, 111, 112, 113, 114, 115, 116, 117, 118, 119, 120, 121, 122, 123, 124, 125, 126, 127, 128, 129, 130, 131, 132, 133, 134, 135, 136, 137, 138, 139, 140, 141, 142, 143, 144, 145, 146, 147, 148, 149, 150, 151, 152, 153, 154, 155, 156, 157, 158, 159, 160, 161, 162, 163, 164, 165, 166, 167, 168, 169, 170, 171, 172, 173, 174, 175, 176, 177, 178, 179, 180, 181, 182, 183, 184, 185, 186, 187, 188, 189, 190, 191, 192, 193, 194, 195, 196, 197, 198, 199, 200, 201, 202, 203, 204, 205, 206, 207, 208, 209, 210, 211, 212, 213, 214, 215, 216, 217, 218, 219, 220, 221, 222, 223, 240, 241, 242, 243, 244, 245, 246, 247, 248, 249, 250, 251, 252, 253, 254, 255, 256, 257, 258, 259, 260, 261, 262, 263, 264, 265, 266, 267, 268, 269, 270, 271, 272, 273, 274, 275, 276, 277, 278] (by decide +kernel) (by decide +kernel)
set_option maxRecDepth 20000 in
theorem gL_stock_X7_month : GoodIn wsL_stock (wsV RL 64 RX7 yX7_month wsX7_month) := goodIn_app (goodIn_of _ (by decide +kernel)) ggL_stock_X7_month
theorem dL_stock_0 : decode cL_stock 0 = .ok (.aload_n 0, 1) := by decide +kernel
theorem dL_stock_1 : decode cL_stock 1 = .ok (.iconst 0, 1) := by decide +kernel
theorem dL_stock_2 : decode cL_stock 2 = .ok (.iconst 1, 1) := by decide +kernel
theorem dL_stock_3 : decode cL_stock 3 = .ok (.iconst 1, 1) := by decide +kernel
theorem dL_stock_4 : decode cL_stock 4 = .ok (.invokevirtual 41, 3) := by decide +kernel
theorem dL_stock_7 : decode cL_stock 7 = .ok (.aload_n 0, 1) := by decide +kernel
theorem dL_stock_8 : decode cL_stock 8 = .ok (.iconst 1, 1) := by decide +kernel
theorem dL_stock_9 : decode cL_stock 9 = .ok (.iconst 2, 1) := by decide +kernel
theorem dL_stock_10 : decode cL_stock 10 = .ok (.iconst 1, 1) := by decide +kernel
theorem dL_stock_11 : decode cL_stock 11 = .ok (.invokevirtual 41, 3) := by decide +kernel
theorem dL_stock_14 : decode cL_stock 14 = .ok (.iadd, 1) := by decide +kernel
theorem dL_stock_15 : decode cL_stock 15 = .ok (.aload_n 0, 1) := by decide +kernel
theorem dL_stock_16 : decode cL_stock 16 = .ok (.iconst 3, 1) := by decide +kernel
theorem dL_stock_17 : decode cL_stock 17 = .ok (.iconst 4, 1) := by decide +kernel
theorem dL_stock_18 : decode cL_stock 18 = .ok (.iconst 1, 1) := by decide +kernel
theorem dL_stock_19 : decode cL_stock 19 = .ok (.invokevirtual 41, 3) := by decide +kernel
theorem dL_stock_22 : decode cL_stock 22 = .ok (.iadd, 1) := by decide +kernel
theorem dL_stock_23 : decode cL_stock 23 = .ok (.aload_n 0, 1) := by decide +kernel
theorem dL_stock_24 : decode cL_stock 24 = .ok (.iconst 0, 1) := by decide +kernel
theorem dL_stock_25 : decode cL_stock 25 = .ok (.bipush 12, 2) := by decide +kernel
theorem dL_stock_27 : decode cL_stock 27 = .ok (.iconst 1, 1) := by decide +kernel
theorem dL_stock_28 : decode cL_stock 28 = .ok (.invokevirtual 45, 3) := by decide +kernel
theorem dL_stock_31 : decode cL_stock 31 = .ok (.iadd, 1) := by decide +kernel
theorem dL_stock_32 : decode cL_stock 32 = .ok (.aload_n 0, 1) := by decide +kernel
theorem dL_stock_33 : decode cL_stock 33 = .ok (.iconst 2, 1) := by decide +kernel
theorem dL_stock_34 : decode cL_stock 34 = .ok (.iconst 5, 1) := by decide +kernel
theorem dL_stock_35 : decode cL_stock 35 = .ok (.iconst 3, 1) := by decide +kernel
theorem dL_stock_36 : decode cL_stock 36 = .ok (.invokevirtual 45, 3) := by decide +kernel
theorem dL_stock_39 : decode cL_stock 39 = .ok (.iadd, 1) := by decide +kernel
theorem dL_stock_40 : decode cL_stock 40 = .ok (.aload_n 0, 1) := by decide +kernel
theorem dL_stock_41 : decode cL_stock 41 = .ok (.iconst 1, 1) := by decide +kernel
theorem dL_stock_42 : decode cL_stock 42 = .ok (.bipush 20, 2) := by decide +kernel
theorem dL_stock_44 : decode cL_stock 44 = .ok (.iconst 2, 1) := by decide +kernel
theorem dL_stock_45 : decode cL_stock 45 = .ok (.invokevirtual 45, 3) := by decide +kernel
theorem dL_stock_48 : decode cL_stock 48 = .ok (.iadd, 1) := by decide +kernel
theorem dL_stock_49 : decode cL_stock 49 = .ok (.istore_n 1, 1) := by decide +kernel
theorem dL_stock_50 : decode cL_stock 50 = .ok (.iload_n 1, 1) := by decide +kernel
theorem dL_stock_51 : decode cL_stock 51 = .ok (.aload_n 0, 1) := by decide +kernel
theorem dL_stock_52 : decode cL_stock 52 = .ok (.iconst 0, 1) := by decide +kernel
theorem dL_stock_53 : decode cL_stock 53 = .ok (.invokevirtual 61, 3) := by decide +kernel
theorem dL_stock_56 : decode cL_stock 56 = .ok (.iadd, 1) := by decide +kernel
theorem dL_stock_57 : decode cL_stock 57 = .ok (.aload_n 0, 1) := by decide +kernel
theorem dL_stock_58 : decode cL_stock 58 = .ok (.iconst 0, 1) := by decide +kernel
theorem dL_stock_59 : decode cL_stock 59 = .ok (.invokevirtual 61, 3) := by decide +kernel
theorem dL_stock_62 : decode cL_stock 62 = .ok (.iadd, 1) := by decide +kernel
theorem dL_stock_63 : decode cL_stock 63 = .ok (.aload_n 0, 1) := by decide +kernel
theorem dL_stock_64 : decode cL_stock 64 = .ok (.iconst 0, 1) := by decide +kernel
theorem dL_stock_65 : decode cL_stock 65 = .ok (.invokevirtual 61, 3) := by decide +kernel
theorem dL_stock_68 : decode cL_stock 68 = .ok (.iadd, 1) := by decide +kernel
theorem dL_stock_69 : decode cL_stock 69 = .ok (.aload_n 0, 1) := by decide +kernel
theorem dL_stock_70 : decode cL_stock 70 = .ok (.iconst 3, 1) := by decide +kernel
theorem dL_stock_71 : decode cL_stock 71 = .ok (.bipush 7, 2) := by decide +kernel
theorem dL_stock_73 : decode cL_stock 73 = .ok (.invokevirtual 55, 3) := by decide +kernel
theorem dL_stock_76 : decode cL_stock 76 = .ok (.iadd, 1) := by decide +kernel
theorem dL_stock_77 : decode cL_stock 77 = .ok (.aload_n 0, 1) := by decide +kernel
theorem dL_stock_78 : decode cL_stock 78 = .ok (.invokevirtual 64, 3) := by decide +kernel
theorem dL_stock_81 : decode cL_stock 81 = .ok (.iadd, 1) := by decide +kernel
theorem dL_stock_82 : decode cL_stock 82 = .ok (.ireturn, 1) := by decide +kernel
