set_option maxRecDepth 20000 in
theorem ggL_foretold_X7_save : GoodIn wsL_foretold wsX7_save := goodIn_r _ [10, 11, 12, 13, 14, 15, 16, 17, 18, 19, 20, 21, 22, 23, 24, 25, 26, 27, 28, 29, 30, 31, 32, 33, 34, 35, 36, 37, 38, 39, 40, 41, 42, 43, 44, 45, 46, 47, 48, 49, 50, 51, 52, 53, 54, 55, 56, 57, 58, 59, 60, 61, 319, 320, 321, 322, 323, 324, 325, 326, 327, 328, 329, 330, 331, 332, 333, 334, 335, 336, 337, 338, 339, 340, 341, 342, 343, 344, 345, 346, 347, 348, 349, 350] (by decide +kernel) (by decide +kernel)
set_option maxRecDepth 20000 in
theorem gL_foretold_X7_save : GoodIn wsL_foretold (wsV RL 161 RX7 yX7_save wsX7_save) := goodIn_app (goodIn_of _ (by decide +kernel)) ggL_foretold_X7_save
set_option maxRecDepth 20000 in
theorem ggL_foretold_X8_next : GoodIn wsL_foretold wsX8_next := goodIn_r _ [66, 67, 68, 351] (by decide +kernel) (by decide +kernel)
set_option maxRecDepth 20000 in
theorem gL_foretold_X8_next : GoodIn wsL_foretold (wsV RL 23 RX8 yX8_next wsX8_next) := goodIn_app (goodIn_of _ (by decide +kernel)) ggL_foretold_X8_next
set_option maxRecDepth 20000 in
theorem ggL_foretold_X7_most : GoodIn wsL_foretold wsX7_most := goodIn_r _ [72, 12, 73, 74, 75, 76, 77, 78, 3, 79, 80, 81, 9, 82, 83, 84, 85, 86, 87, 88, 89, 90, 14, 15, 16, 17, 18, 19, 20, 21, 22, 23, 24, 25, 26, 27, 28, 29, 30, 31, 32, 33, 34, 35, 36, 37, 38, 39, 40, 41, 42, 43, 44, 45, 46, 47, 48, 49, 50, 51, 52, 53, 54, 55, 56, 57, 58, 59, 60, 61, 91, 92, 93, 94, 95, 96, 97, 98, 99, 100, 101, 102, 103, 104, 105, 2, 4, 106, 107, 108, 109, 110, 111, 112, 113, 114, 115, 116, 117, 118, 119, 120, 121, 122, 123, 124, 125, 126, 127, 128, 129, 130, 131, 132, 133, 134, 135, 136, 137, 138, 139, 140, 141, 142, 143, 144, 145, 146, 147, 148, 149, 150, 151, 152, 153, 319, 320, 321, 322, 323, 324, 325, 326, 327, 328, 329, 330, 331, 332, 333, 334, 335, 336, 339, 340, 341, 342, 337, 338, 343, 344, 345, 346, 347, 348, 349, 350] (by decide +kernel) (by decide +kernel)
set_option maxRecDepth 20000 in
theorem gL_foretold_X7_most : GoodIn wsL_foretold (wsV RL 164 RX7 yX7_most wsX7_most) := goodIn_app (goodIn_of _ (by decide +kernel)) ggL_foretold_X7_most
set_option maxRecDepth 20000 in
theorem ggL_foretold_X7_account : GoodIn wsL_foretold wsX7_account := goodIn_r _ [157, 12, 14, 74, 75, 158, 76, 159, 73, 160, 161, 162, 163, 164, 165, 166, 167, 168, 35, 169, 170, 171, 172, 173, 37, 81, 9, 82, 174, 175, 176, 177, 178, 179, 180, 181, 182, 183, 184, 185, 186, 187, 188, 189, 190, 191, 192, 193, 194, 195, 196, 197, 198, 52, 199, 54, 55, 57, 58, 59, 60, 61, 319, 320, 321, 322, 323, 324, 325, 326, 327, 328, 329, 330, 331, 332, 333, 334, 335, 336, 339, 340, 341, 342, 352, 353, 354, 355, 356, 357, 358, 359, 337, 338, 360, 361, 362, 363, 343, 344, 345, 346, 347, 348, 349, 350] (by decide +kernel) (by decide +kernel)
set_option maxRecDepth 20000 in
theorem gL_foretold_X7_account : GoodIn wsL_foretold (wsV RL 49 RX7 yX7_account wsX7_account) := goodIn_app (goodIn_of _ (by decide +kernel)) ggL_foretold_X7_account
set_option maxRecDepth 20000 in
theorem ggL_foretold_X7_credit : GoodIn wsL_foretold wsX7_credit := goodIn_r _ [203, 204, 205, 206, 9, 207, 208, 12, 163, 15, 16, 17, 18, 19, 20, 21, 22, 23, 24, 25, 26, 27, 28, 29, 30, 31, 32, 33, 34, 35, 36, 37, 38, 39, 40, 41, 42, 43, 44, 45, 46, 47, 48, 49, 50, 51, 52, 53, 54, 55, 56, 57, 58, 59, 60, 61, 209, 210, 211, 212, 213, 214, 215, 216, 217, 158, 80, 81, 82, 218, 219, 220, 221, 222, 223, 224, 225, 226, 227, 228, 229, 230, 231, 232, 233, 234, 166, 167, 168, 169, 170, 171, 172, 173, 174, 175, 176, 177, 178, 179, 180, 235, 236, 237, 238, 73, 74, 75, 76, 239, 240, 241, 83, 84, 85, 91, 92, 93, 94, 95, 96, 97, 98, 99, 242, 243, 244, 245, 246, 247, 165, 248, 249, 119, 120, 121, 250, 251, 252, 253, 118, 254, 115, 116, 117, 255, 256, 257, 258, 259, 131, 132, 133, 134, 104, 78, 3, 79, 135, 136, 137, 138, 139, 260, 261, 262, 263, 160, 264, 2, 4, 265, 266, 267, 268, 269, 100, 101, 102, 103, 105, 106, 107, 108, 109, 110, 111, 112, 113, 114, 122, 123, 124, 125, 126, 127, 128, 129, 130, 140, 141, 142, 143, 144, 145, 146, 147, 148, 149, 270, 271, 272, 273, 274, 275, 276, 277, 278, 279, 280, 319, 320, 321, 322, 323, 324, 325, 326, 327, 328, 329, 330, 331, 332, 333, 334, 335, 336, 337, 338, 339, 340, 341, 342, 343, 344, 345, 346, 347, 348, 349, 350, 364, 365, 366, 367, 357, 358, 359] (by decide +kernel) (by decide +kernel)
set_option maxRecDepth 20000 in
theorem gL_foretold_X7_credit : GoodIn wsL_foretold (wsV RL 45 RX7 yX7_credit wsX7_credit) := goodIn_app (goodIn_of _ (by decide +kernel)) ggL_foretold_X7_credit
set_option maxRecDepth 20000 in
theorem ggL_foretold_X7_month : GoodIn wsL_foretold wsX7_month := goodIn_r _ [284, 204, 205, 206, 9, 207, 208, 12, 163, 15, 16, 17, 18, 19, 20, 21, 22, 23, 24, 25, 26, 27, 28, 29, 30, 31, 32, 33, 34, 35, 36, 37, 38, 39, 40, 41, 42, 43, 44, 45, 46, 47, 48, 49, 50, 51, 52, 53, 54, 55, 56, 57, 58, 59, 60, 61, 209, 210, 211, 212, 213, 214, 215, 216, 217, 158, 80, 81, 82, 218, 219, 220, 221, 222, 223, 224, 225, 226, 227, 228, 229, 230, 231, 232, 233, 234, 166, 167, 168, 169, 170, 171, 172, 173, 174, 175, 176, 177, 178, 179, 180, 235, 236, 237, 238, 73, 74, 75, 76, 239, 240, 241, 83, 84, 85, 91, 92, 93, 94, 95, 96, 97, 98, 99, 242, 243, 244, 245, 246, 247, 165, 248, 249, 119, 120, 121, 250, 251, 252, 253, 118, 254, 115, 116, 117, 255, 256, 257, 258, 259, 131, 132, 133, 134, 104, 78, 3, 79, 135, 136, 137, 138, 139, 260, 261, 262, 263, 160, 264, 2, 4, 265, 266, 267, 268, 269, 100, 101, 102, 103, 105, 106, 107, 108, 109, 110, 111, 112, 113, 114, 122, 123, 124, 125, 126, 127, 128, 129, 130, 140, 141, 142, 143, 144, 145, 146, 147, 148, 149, 270, 271, 272, 273, 274, 275, 276, 277, 278, 279, 280, 319, 320, 321, 322, 323, 324, 325, 326, 327, 328, 329, 330, 331, 332, 333, 334, 335, 336, 337, 338, 339, 340, 341, 342, 343, 344, 345, 346, 347, 348, 349, 350, 364, 365, 366, 367, 357, 358, 359] (by decide +kernel) (by decide +kernel)
set_option maxRecDepth 20000 in
theorem gL_foretold_X7_month : GoodIn wsL_foretold (wsV RL 64 RX7 yX7_month wsX7_month) := goodIn_app (goodIn_of _ (by decide +kernel)) ggL_foretold_X7_month
set_option maxRecDepth 20000 in
theorem ggL_foretold_X7_creditOf : GoodIn wsL_foretold wsX7_creditOf := goodIn_r _ [288, 12, 74, 246, 247, 289, 14, 249, 119, 120, 42, 121, 44, 319, 320, 321, 322, 323, 324, 325, 326, 327, 328, 329, 330, 331, 332, 333, 334, 335, 336, 339, 340, 341, 342] (by decide +kernel) (by decide +kernel)
set_option maxRecDepth 20000 in
theorem gL_foretold_X7_creditOf : GoodIn wsL_foretold (wsV RL 113 RX7 yX7_creditOf wsX7_creditOf) := goodIn_app (goodIn_of _ (by decide +kernel)) ggL_foretold_X7_creditOf
set_option maxRecDepth 20000 in
theorem ggL_foretold_X7_townOf : GoodIn wsL_foretold wsX7_townOf := goodIn_r _ [293, 12, 74, 158, 80, 81, 9, 82, 294, 295, 296, 42, 297, 44, 45, 298, 171, 172, 35, 173, 37, 174, 175, 176, 177, 178, 179, 180, 299, 300, 301, 302, 303, 304, 305, 306, 307, 308, 309, 18, 310, 21, 26, 27, 28, 319, 320, 321, 322, 323, 324, 325, 326, 327, 328, 329, 330, 331, 332, 333, 334, 335, 336, 339, 340, 341, 342, 337, 338] (by decide +kernel) (by decide +kernel)
set_option maxRecDepth 20000 in
theorem gL_foretold_X7_townOf : GoodIn wsL_foretold (wsV RL 110 RX7 yX7_townOf wsX7_townOf) := goodIn_app (goodIn_of _ (by decide +kernel)) ggL_foretold_X7_townOf
set_option maxRecDepth 20000 in
theorem ggL_foretold_X7_restore : GoodIn wsL_foretold wsX7_restore := goodIn_r _ [314, 13, 12, 11, 163, 164, 14, 15, 16, 17, 18, 19, 20, 21, 22, 23, 24, 25, 26, 27, 28, 29, 30, 31, 32, 33, 34, 35, 36, 37, 38, 39, 40, 41, 42, 43, 44, 45, 46, 47, 48, 49, 50, 51, 52, 53, 54, 55, 56, 57, 58, 59, 60, 61, 319, 320, 321, 322, 323, 324, 325, 326, 327, 328, 357, 358, 359, 329, 330, 331, 332, 333, 334, 335, 336, 337, 338, 339, 340, 341, 342, 343, 344, 345, 346, 347, 348, 349, 350] (by decide +kernel) (by decide +kernel)
set_option maxRecDepth 20000 in
theorem gL_foretold_X7_restore : GoodIn wsL_foretold (wsV RL 167 RX7 yX7_restore wsX7_restore) := goodIn_app (goodIn_of _ (by decide +kernel)) ggL_foretold_X7_restore
set_option maxRecDepth 20000 in
theorem ggL_foretold_X7_would : GoodIn wsL_foretold wsX7_would := goodIn_r _ [318, 90, 12, 80, 81, 9, 82, 15, 16, 17, 18, 19, 20, 21, 22, 23, 24, 25, 26, 27, 28, 29, 30, 31, 32, 33, 34, 35, 36, 37, 38, 39, 40, 41, 42, 43, 44, 45, 46, 47, 48, 49, 50, 51, 52, 53, 54, 55, 56, 57, 58, 59, 60, 61, 100, 101, 102, 103, 104, 78, 3, 79, 95, 105, 2, 4, 106, 107, 108, 109, 110, 111, 112, 113, 114, 115, 116, 117, 118, 119, 120, 121, 122, 123, 124, 125, 126, 127, 128, 129, 130, 131, 132, 133, 134, 135, 136, 137, 138, 139, 140, 141, 142, 143, 144, 145, 146, 147, 148, 149, 307, 308, 309, 310, 319, 320, 321, 322, 323, 324, 325, 326, 327, 328, 329, 330, 331, 332, 333, 334, 335, 336, 337, 338, 339, 340, 341, 342, 343, 344, 345, 346, 347, 348, 349, 350] (by decide +kernel) (by decide +kernel)
set_option maxRecDepth 20000 in
theorem gL_foretold_X7_would : GoodIn wsL_foretold (wsV RL 170 RX7 yX7_would wsX7_would) := goodIn_app (goodIn_of _ (by decide +kernel)) ggL_foretold_X7_would
theorem dL_foretold_0 : decode cL_foretold 0 = .ok (.aload_n 0, 1) := by decide +kernel
theorem dL_foretold_1 : decode cL_foretold 1 = .ok (.invokevirtual 161, 3) := by decide +kernel
theorem dL_foretold_4 : decode cL_foretold 4 = .ok (.istore_n 2, 1) := by decide +kernel
theorem dL_foretold_5 : decode cL_foretold 5 = .ok (.aload_n 1, 1) := by decide +kernel
theorem dL_foretold_6 : decode cL_foretold 6 = .ok (.iconst 5, 1) := by decide +kernel
theorem dL_foretold_7 : decode cL_foretold 7 = .ok (.invokevirtual 23, 3) := by decide +kernel
theorem dL_foretold_10 : decode cL_foretold 10 = .ok (.istore_n 3, 1) := by decide +kernel
theorem dL_foretold_11 : decode cL_foretold 11 = .ok (.iconst 1, 1) := by decide +kernel
theorem dL_foretold_12 : decode cL_foretold 12 = .ok (.aload_n 1, 1) := by decide +kernel
theorem dL_foretold_13 : decode cL_foretold 13 = .ok (.bipush 6, 2) := by decide +kernel
theorem dL_foretold_15 : decode cL_foretold 15 = .ok (.invokevirtual 23, 3) := by decide +kernel
theorem dL_foretold_18 : decode cL_foretold 18 = .ok (.iadd, 1) := by decide +kernel
theorem dL_foretold_19 : decode cL_foretold 19 = .ok (.istore 4, 2) := by decide +kernel
theorem dL_foretold_21 : decode cL_foretold 21 = .ok (.aload_n 0, 1) := by decide +kernel
theorem dL_foretold_22 : decode cL_foretold 22 = .ok (.iload_n 3, 1) := by decide +kernel
theorem dL_foretold_23 : decode cL_foretold 23 = .ok (.iload 4, 2) := by decide +kernel
theorem dL_foretold_25 : decode cL_foretold 25 = .ok (.invokevirtual 164, 3) := by decide +kernel
theorem dL_foretold_28 : decode cL_foretold 28 = .ok (.istore 5, 2) := by decide +kernel
theorem dL_foretold_30 : decode cL_foretold 30 = .ok (.iconst 1, 1) := by decide +kernel
theorem dL_foretold_31 : decode cL_foretold 31 = .ok (.istore 6, 2) := by decide +kernel
theorem dL_foretold_33 : decode cL_foretold 33 = .ok (.aload_n 0, 1) := by decide +kernel
theorem dL_foretold_34 : decode cL_foretold 34 = .ok (.iconst 1, 1) := by decide +kernel
theorem dL_foretold_35 : decode cL_foretold 35 = .ok (.invokevirtual 49, 3) := by decide +kernel
theorem dL_foretold_38 : decode cL_foretold 38 = .ok (.istore 7, 2) := by decide +kernel
theorem dL_foretold_40 : decode cL_foretold 40 = .ok (.bipush 20, 2) := by decide +kernel
theorem dL_foretold_42 : decode cL_foretold 42 = .ok (.istore 8, 2) := by decide +kernel
theorem dL_foretold_44 : decode cL_foretold 44 = .ok (.iload 8, 2) := by decide +kernel
theorem dL_foretold_46 : decode cL_foretold 46 = .ok (.iconst 1, 1) := by decide +kernel
theorem dL_foretold_47 : decode cL_foretold 47 = .ok (.iload 5, 2) := by decide +kernel
theorem dL_foretold_49 : decode cL_foretold 49 = .ok (.invokestatic 29, 3) := by decide +kernel
theorem dL_foretold_52 : decode cL_foretold 52 = .ok (.if_icmp .lt 175, 3) := by decide +kernel
theorem dL_foretold_55 : decode cL_foretold 55 = .ok (.aload_n 0, 1) := by decide +kernel
theorem dL_foretold_56 : decode cL_foretold 56 = .ok (.iload_n 3, 1) := by decide +kernel
theorem dL_foretold_57 : decode cL_foretold 57 = .ok (.iload 8, 2) := by decide +kernel
theorem dL_foretold_59 : decode cL_foretold 59 = .ok (.iload 4, 2) := by decide +kernel
theorem dL_foretold_61 : decode cL_foretold 61 = .ok (.invokevirtual 45, 3) := by decide +kernel
theorem dL_foretold_64 : decode cL_foretold 64 = .ok (.iload 7, 2) := by decide +kernel
theorem dL_foretold_66 : decode cL_foretold 66 = .ok (.if_icmp .ne 7, 3) := by decide +kernel
theorem dL_foretold_69 : decode cL_foretold 69 = .ok (.iconst 1, 1) := by decide +kernel
theorem dL_foretold_70 : decode cL_foretold 70 = .ok (.goto 4, 3) := by decide +kernel
theorem dL_foretold_73 : decode cL_foretold 73 = .ok (.iconst 0, 1) := by decide +kernel
theorem dL_foretold_74 : decode cL_foretold 74 = .ok (.istore 9, 2) := by decide +kernel
theorem dL_foretold_76 : decode cL_foretold 76 = .ok (.iconst 1, 1) := by decide +kernel
theorem dL_foretold_77 : decode cL_foretold 77 = .ok (.istore 10, 2) := by decide +kernel
theorem dL_foretold_79 : decode cL_foretold 79 = .ok (.iload 10, 2) := by decide +kernel
theorem dL_foretold_81 : decode cL_foretold 81 = .ok (.iload 4, 2) := by decide +kernel
theorem dL_foretold_83 : decode cL_foretold 83 = .ok (.if_icmp .ge 20, 3) := by decide +kernel
theorem dL_foretold_86 : decode cL_foretold 86 = .ok (.iload 9, 2) := by decide +kernel
theorem dL_foretold_88 : decode cL_foretold 88 = .ok (.ifCond .eq 15, 3) := by decide +kernel
theorem dL_foretold_91 : decode cL_foretold 91 = .ok (.aload_n 0, 1) := by decide +kernel
theorem dL_foretold_92 : decode cL_foretold 92 = .ok (.invokevirtual 64, 3) := by decide +kernel
theorem dL_foretold_95 : decode cL_foretold 95 = .ok (.istore 11, 2) := by decide +kernel
theorem dL_foretold_97 : decode cL_foretold 97 = .ok (.iinc 10 1, 3) := by decide +kernel
theorem dL_foretold_100 : decode cL_foretold 100 = .ok (.goto (-21), 3) := by decide +kernel
theorem dL_foretold_103 : decode cL_foretold 103 = .ok (.iconst 0, 1) := by decide +kernel
theorem dL_foretold_104 : decode cL_foretold 104 = .ok (.istore 10, 2) := by decide +kernel
theorem dL_foretold_106 : decode cL_foretold 106 = .ok (.iconst 0, 1) := by decide +kernel
theorem dL_foretold_107 : decode cL_foretold 107 = .ok (.istore 11, 2) := by decide +kernel
theorem dL_foretold_109 : decode cL_foretold 109 = .ok (.iload 11, 2) := by decide +kernel
theorem dL_foretold_111 : decode cL_foretold 111 = .ok (.aload_n 0, 1) := by decide +kernel
theorem dL_foretold_112 : decode cL_foretold 112 = .ok (.iconst 1, 1) := by decide +kernel
theorem dL_foretold_113 : decode cL_foretold 113 = .ok (.invokevirtual 49, 3) := by decide +kernel
theorem dL_foretold_116 : decode cL_foretold 116 = .ok (.if_icmp .ge 47, 3) := by decide +kernel
theorem dL_foretold_119 : decode cL_foretold 119 = .ok (.iload 10, 2) := by decide +kernel
theorem dL_foretold_121 : decode cL_foretold 121 = .ok (.aload_n 0, 1) := by decide +kernel
theorem dL_foretold_122 : decode cL_foretold 122 = .ok (.iload 11, 2) := by decide +kernel
theorem dL_foretold_124 : decode cL_foretold 124 = .ok (.iconst 0, 1) := by decide +kernel
theorem dL_foretold_125 : decode cL_foretold 125 = .ok (.invokevirtual 113, 3) := by decide +kernel
theorem dL_foretold_128 : decode cL_foretold 128 = .ok (.iload_n 3, 1) := by decide +kernel
theorem dL_foretold_129 : decode cL_foretold 129 = .ok (.if_icmp .ne 24, 3) := by decide +kernel
theorem dL_foretold_132 : decode cL_foretold 132 = .ok (.aload_n 0, 1) := by decide +kernel
theorem dL_foretold_133 : decode cL_foretold 133 = .ok (.iload 11, 2) := by decide +kernel
theorem dL_foretold_135 : decode cL_foretold 135 = .ok (.iconst 3, 1) := by decide +kernel
theorem dL_foretold_136 : decode cL_foretold 136 = .ok (.invokevirtual 113, 3) := by decide +kernel
theorem dL_foretold_139 : decode cL_foretold 139 = .ok (.iconst 1, 1) := by decide +kernel
theorem dL_foretold_140 : decode cL_foretold 140 = .ok (.if_icmp .ne 13, 3) := by decide +kernel
theorem dL_foretold_143 : decode cL_foretold 143 = .ok (.aload_n 0, 1) := by decide +kernel
theorem dL_foretold_144 : decode cL_foretold 144 = .ok (.iload 11, 2) := by decide +kernel
theorem dL_foretold_146 : decode cL_foretold 146 = .ok (.iconst 1, 1) := by decide +kernel
theorem dL_foretold_147 : decode cL_foretold 147 = .ok (.invokevirtual 113, 3) := by decide +kernel
theorem dL_foretold_150 : decode cL_foretold 150 = .ok (.goto 4, 3) := by decide +kernel
theorem dL_foretold_153 : decode cL_foretold 153 = .ok (.iconst 0, 1) := by decide +kernel
theorem dL_foretold_154 : decode cL_foretold 154 = .ok (.iadd, 1) := by decide +kernel
theorem dL_foretold_155 : decode cL_foretold 155 = .ok (.istore 10, 2) := by decide +kernel
theorem dL_foretold_157 : decode cL_foretold 157 = .ok (.iinc 11 1, 3) := by decide +kernel
theorem dL_foretold_160 : decode cL_foretold 160 = .ok (.goto (-51), 3) := by decide +kernel
theorem dL_foretold_163 : decode cL_foretold 163 = .ok (.iload 9, 2) := by decide +kernel
theorem dL_foretold_165 : decode cL_foretold 165 = .ok (.ifCond .eq 18, 3) := by decide +kernel
theorem dL_foretold_168 : decode cL_foretold 168 = .ok (.iload 10, 2) := by decide +kernel
theorem dL_foretold_170 : decode cL_foretold 170 = .ok (.aload_n 0, 1) := by decide +kernel
theorem dL_foretold_171 : decode cL_foretold 171 = .ok (.iload_n 3, 1) := by decide +kernel
theorem dL_foretold_172 : decode cL_foretold 172 = .ok (.iconst 0, 1) := by decide +kernel
theorem dL_foretold_173 : decode cL_foretold 173 = .ok (.invokevirtual 110, 3) := by decide +kernel
theorem dL_foretold_176 : decode cL_foretold 176 = .ok (.if_icmp .gt 7, 3) := by decide +kernel
