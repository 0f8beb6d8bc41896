set_option maxRecDepth 20000 in
theorem ggL_towns_X7_townOf : GoodIn wsL_towns wsX7_townOf := goodIn_r _ [10, 11, 12, 13, 14, 15, 9, 16, 17, 18, 19, 20, 21, 22, 23, 24, 25, 26, 27, 28, 29, 30, 31, 32, 33, 34, 35, 36, 37, 38, 39, 40, 41, 42, 43, 44, 45, 46, 47, 48, 49, 50, 51, 52, 53, 478, 479, 480, 481, 482, 483, 484, 485, 486, 487, 488, 489, 490, 491, 492, 493, 494, 495, 496, 497, 498, 499, 500, 501] (by decide +kernel) (by decide +kernel)
set_option maxRecDepth 20000 in
theorem gL_towns_X7_townOf : GoodIn wsL_towns (wsV RL 110 RX7 yX7_townOf wsX7_townOf) := goodIn_app (goodIn_of _ (by decide +kernel)) ggL_towns_X7_townOf
set_option maxRecDepth 20000 in
theorem ggL_towns_J4_init_da8c8 : GoodIn wsL_towns wsJ4_init_da8c8 := goodIn_r _ [56, 57, 58, 59, 60, 61, 62, 63, 64, 65, 66, 67, 68, 69, 70, 71, 72, 73, 74, 75, 474, 475, 476, 477] (by decide +kernel) (by decide +kernel)
set_option maxRecDepth 20000 in
theorem gL_towns_J4_init_da8c8 : GoodIn wsL_towns (wsJ4_init_da8c8) := ggL_towns_J4_init_da8c8
set_option maxRecDepth 20000 in
theorem ggL_towns_J4_append_bf812 : GoodIn wsL_towns wsJ4_append_bf812 := goodIn_r _ [79, 80, 81, 82, 83, 59, 84, 85, 66, 86, 87, 32, 88, 89, 90, 91, 92, 93, 67, 94, 95, 96, 97, 98, 99, 100, 101, 102, 103, 104, 105, 106, 107, 108, 109, 110, 111, 112, 113, 114, 115, 116, 117, 118, 119, 120, 121, 65, 122, 123, 124, 125, 126, 127, 128, 129, 130, 131, 132, 133, 64, 134, 135, 136, 137, 138, 139, 140, 70, 141, 142, 143, 144, 145, 146, 147, 148, 149, 150, 151, 152, 153, 154, 155, 156, 157, 158, 159, 160, 161, 162, 163, 164, 165, 166, 167, 474, 475, 476, 477] (by decide +kernel) (by decide +kernel)
set_option maxRecDepth 20000 in
theorem gL_towns_J4_append_bf812 : GoodIn wsL_towns (wsV RL 80 RJ4 yJ4_append_bf812 wsJ4_append_bf812) := goodIn_app (goodIn_of _ (by decide +kernel)) ggL_towns_J4_append_bf812
set_option maxRecDepth 20000 in
theorem ggL_towns_J4_append_15ec4 : GoodIn wsL_towns wsJ4_append_15ec4 := goodIn_r _ [171, 172, 173, 82, 174, 59, 175, 85, 176, 177, 178, 179, 180, 66, 89, 90, 91, 92, 93, 67, 94, 95, 96, 97, 98, 99, 100, 101, 102, 103, 104, 105, 106, 107, 108, 109, 110, 111, 112, 113, 114, 115, 116, 117, 118, 119, 120, 121, 65, 122, 123, 124, 125, 126, 127, 128, 129, 130, 131, 132, 133, 64, 181, 182, 70, 183, 142, 143, 144, 145, 146, 147, 148, 149, 150, 151, 152, 153, 154, 155, 156, 157, 163, 164, 165, 166, 167, 184, 185, 186, 187, 188, 189, 190, 191, 192, 193, 194, 195, 196, 197, 198, 199, 200, 201, 202, 203, 204, 205, 206, 207, 208, 209, 210, 68, 69, 71, 72, 73, 74, 75, 211, 212, 213, 214, 215, 216, 217, 218, 219, 220, 221, 222, 223, 224, 225, 226, 227, 228, 229, 230, 231, 232, 474, 475, 476, 477, 502, 503, 504, 505] (by decide +kernel) (by decide +kernel)
set_option maxRecDepth 20000 in
theorem gL_towns_J4_append_15ec4 : GoodIn wsL_towns (wsV RL 90 RJ4 yJ4_append_15ec4 wsJ4_append_15ec4) := goodIn_app (goodIn_of _ (by decide +kernel)) ggL_towns_J4_append_15ec4
set_option maxRecDepth 20000 in
theorem ggL_towns_J4_toString_0e30d : GoodIn wsL_towns wsJ4_toString_0e30d := goodIn_r _ [236, 237, 238, 151, 239, 240, 241, 242, 243, 244, 245, 62, 63, 194, 188, 193, 246, 247, 248, 249, 250, 59, 251, 66, 252, 253, 254, 255, 256, 4, 257, 258, 82, 259, 260, 85, 261, 130, 131, 132, 133, 64, 67, 262, 263, 114, 264, 116, 117, 118, 119, 120, 121, 265, 266, 267, 65, 122, 123, 106, 124, 125, 126, 127, 128, 268, 269, 270, 271, 272, 70, 273, 274, 275, 276, 218, 219, 220, 146, 147, 148, 221, 222, 223, 153, 224, 225, 156, 226, 277, 278, 279, 142, 166, 167, 72, 73, 74, 75, 280, 281, 282, 283, 502, 503, 504, 505, 474, 475, 476, 477] (by decide +kernel) (by decide +kernel)
set_option maxRecDepth 20000 in
theorem gL_towns_J4_toString_0e30d : GoodIn wsL_towns (wsV RL 76 RJ4 yJ4_toString_0e30d wsJ4_toString_0e30d) := goodIn_app (goodIn_of _ (by decide +kernel)) ggL_towns_J4_toString_0e30d
set_option maxRecDepth 20000 in
theorem ggL_towns_X7_ranked : GoodIn wsL_towns wsX7_ranked := goodIn_r _ [287, 11, 288, 289, 290, 48, 291, 292, 293, 294, 295, 53, 50, 15, 9, 16, 478, 479, 480, 481, 482, 483, 484, 485, 486, 487, 488, 489, 490, 491, 492, 493, 494, 495] (by decide +kernel) (by decide +kernel)
set_option maxRecDepth 20000 in
theorem gL_towns_X7_ranked : GoodIn wsL_towns (wsV RL 144 RX7 yX7_ranked wsX7_ranked) := goodIn_app (goodIn_of _ (by decide +kernel)) ggL_towns_X7_ranked
set_option maxRecDepth 20000 in
theorem ggL_towns_X7_write : GoodIn wsL_towns wsX7_write := goodIn_r _ [299, 300, 11, 301, 302, 303, 304, 14, 15, 9, 16, 305, 306, 307, 4, 308, 309, 310, 82, 311, 59, 312, 85, 66, 313, 89, 90, 91, 92, 93, 67, 94, 95, 96, 97, 98, 99, 100, 101, 102, 103, 104, 105, 106, 107, 108, 109, 110, 111, 112, 113, 114, 115, 116, 117, 118, 119, 120, 121, 65, 122, 123, 124, 125, 126, 127, 128, 129, 130, 131, 132, 133, 64, 314, 315, 213, 316, 317, 318, 319, 320, 321, 322, 323, 324, 70, 325, 326, 327, 77, 78, 79, 80, 81, 83, 84, 86, 87, 32, 88, 134, 135, 136, 137, 138, 139, 140, 141, 142, 143, 144, 145, 146, 147, 148, 149, 150, 151, 152, 153, 154, 155, 156, 157, 158, 159, 160, 161, 162, 163, 164, 165, 166, 167, 328, 329, 330, 331, 332, 333, 334, 335, 336, 337, 338, 206, 207, 208, 209, 210, 68, 69, 71, 72, 73, 74, 75, 211, 212, 214, 215, 216, 217, 218, 219, 220, 221, 222, 223, 224, 225, 226, 339, 340, 341, 342, 343, 344, 345, 346, 347, 348, 349, 350, 351, 256, 352, 257, 258, 253, 259, 260, 478, 479, 480, 481, 482, 483, 484, 485, 486, 487, 488, 489, 490, 491, 492, 493, 494, 495, 474, 475, 476, 477] (by decide +kernel) (by decide +kernel)
set_option maxRecDepth 20000 in
theorem gL_towns_X7_write : GoodIn wsL_towns (wsV RL 83 RX7 yX7_write wsX7_write) := goodIn_app (goodIn_of _ (by decide +kernel)) ggL_towns_X7_write
set_option maxRecDepth 20000 in
theorem ggL_towns_L_line : GoodIn wsL_towns wsL_line := goodIn_r _ [356, 2, 3, 4, 54, 55, 56, 57, 58, 59, 60, 61, 62, 63, 64, 65, 66, 67, 68, 69, 70, 71, 72, 73, 74, 75, 357, 358, 359, 9, 360, 300, 351, 256, 352, 257, 258, 253, 82, 259, 260, 85, 361, 362, 363, 364, 365, 366, 367, 368, 369, 123, 106, 124, 370, 346, 151, 347, 153, 348, 349, 156, 350, 371, 278, 279, 142, 166, 167, 146, 147, 148, 372, 329, 330, 331, 332, 333, 334, 335, 89, 90, 91, 92, 93, 94, 95, 96, 97, 98, 99, 100, 101, 102, 103, 104, 105, 107, 108, 109, 110, 111, 112, 113, 114, 115, 116, 117, 118, 119, 120, 121, 122, 125, 126, 127, 128, 129, 130, 131, 132, 133, 336, 337, 213, 338, 206, 207, 208, 209, 210, 211, 212, 214, 215, 216, 217, 218, 219, 220, 221, 222, 223, 224, 225, 226, 163, 164, 165, 339, 340, 341, 342, 343, 344, 345, 233, 234, 235, 236, 237, 238, 239, 240, 241, 242, 243, 244, 245, 194, 188, 193, 246, 247, 248, 249, 250, 251, 252, 254, 255, 261, 262, 263, 264, 265, 266, 267, 268, 269, 270, 271, 272, 273, 274, 275, 276, 277, 280, 281, 282, 283, 474, 475, 476, 477, 478, 479, 480, 481, 482, 483, 484, 485, 486, 487, 502, 503, 504, 505] (by decide +kernel) (by decide +kernel)
set_option maxRecDepth 20000 in
theorem gL_towns_L_line : GoodIn wsL_towns (va_wsS RL 86 yL_line wsL_line) := goodIn_app (goodIn_of _ (by decide +kernel)) ggL_towns_L_line
set_option maxRecDepth 20000 in
theorem ggL_towns_J0_equals_9ea2d : GoodIn wsL_towns wsJ0_equals_9ea2d := goodIn_r _ [376, 377, 193, 194, 188, 378, 379, 213, 380, 502, 503, 504, 505] (by decide +kernel) (by decide +kernel)
set_option maxRecDepth 20000 in
theorem gL_towns_J0_equals_9ea2d : GoodIn wsL_towns (wsV RL 130 RJ0 yJ0_equals_9ea2d wsJ0_equals_9ea2d) := goodIn_app (goodIn_of _ (by decide +kernel)) ggL_towns_J0_equals_9ea2d
set_option maxRecDepth 20000 in
theorem ggL_towns_X7_account : GoodIn wsL_towns wsX7_account := goodIn_r _ [384, 11, 385, 12, 386, 13, 301, 302, 304, 303, 387, 388, 389, 390, 391, 392, 393, 394, 27, 395, 396, 25, 26, 28, 29, 15, 9, 16, 30, 31, 32, 33, 34, 35, 36, 397, 398, 399, 351, 256, 352, 4, 257, 258, 253, 82, 259, 59, 260, 85, 400, 401, 402, 403, 404, 405, 406, 407, 408, 409, 410, 411, 478, 479, 480, 481, 482, 483, 484, 485, 486, 487, 488, 489, 490, 491, 492, 493, 494, 495, 496, 497, 498, 499, 506, 507, 508, 509, 510, 511, 512, 513, 500, 501, 474, 475, 476, 477, 514, 515, 516, 517, 518, 519, 520, 521] (by decide +kernel) (by decide +kernel)
set_option maxRecDepth 20000 in
theorem gL_towns_X7_account : GoodIn wsL_towns (wsV RL 49 RX7 yX7_account wsX7_account) := goodIn_app (goodIn_of _ (by decide +kernel)) ggL_towns_X7_account
set_option maxRecDepth 20000 in
theorem ggL_towns_X7_meanSun : GoodIn wsL_towns wsX7_meanSun := goodIn_r _ [415, 11, 301, 416, 397, 398, 9, 399, 478, 479, 480, 481, 482, 483, 484, 485, 486, 487, 488, 489, 490, 491, 492, 493, 494, 495] (by decide +kernel) (by decide +kernel)
set_option maxRecDepth 20000 in
theorem gL_towns_X7_meanSun : GoodIn wsL_towns (wsV RL 149 RX7 yX7_meanSun wsX7_meanSun) := goodIn_app (goodIn_of _ (by decide +kernel)) ggL_towns_X7_meanSun
set_option maxRecDepth 20000 in
theorem ggL_towns_X7_paidShare : GoodIn wsL_towns wsX7_paidShare := goodIn_r _ [420, 11, 391, 421, 422, 478, 479, 480, 481, 482, 483, 484, 485, 486, 487, 488, 489, 490, 491, 492, 493, 494, 495, 514, 515, 516, 517, 518, 519, 520, 521] (by decide +kernel) (by decide +kernel)
set_option maxRecDepth 20000 in
theorem gL_towns_X7_paidShare : GoodIn wsL_towns (wsV RL 153 RX7 yX7_paidShare wsX7_paidShare) := goodIn_app (goodIn_of _ (by decide +kernel)) ggL_towns_X7_paidShare
set_option maxRecDepth 20000 in
theorem ggL_towns_X7_isCounted : GoodIn wsL_towns wsX7_isCounted := goodIn_r _ [426, 11, 427, 428, 429, 9, 430, 12, 431, 432, 433, 20, 434, 22, 23, 435, 436, 437, 438, 48, 439, 440, 441, 442, 443, 444, 445, 446, 447, 448, 449, 450, 13, 451, 452, 453, 454, 27, 455, 456, 29, 457, 458, 459, 460, 461, 462, 463, 464, 41, 42, 43, 44, 465, 466, 467, 468, 469, 470, 50, 471, 472, 473, 398, 399, 478, 479, 480, 481, 482, 483, 484, 485, 486, 487, 488, 489, 490, 491, 492, 493, 494, 495, 496, 497, 498, 499, 500, 501, 514, 515, 516, 517, 518, 519, 520, 521] (by decide +kernel) (by decide +kernel)
set_option maxRecDepth 20000 in
theorem gL_towns_X7_isCounted : GoodIn wsL_towns (wsV RL 157 RX7 yX7_isCounted wsX7_isCounted) := goodIn_app (goodIn_of _ (by decide +kernel)) ggL_towns_X7_isCounted
theorem dL_towns_0 : decode cL_towns 0 = .ok (.iconst 4, 1) := by decide +kernel
theorem dL_towns_1 : decode cL_towns 1 = .ok (.newarray .int, 2) := by decide +kernel
theorem dL_towns_3 : decode cL_towns 3 = .ok (.astore_n 1, 1) := by decide +kernel
theorem dL_towns_4 : decode cL_towns 4 = .ok (.iconst (-1), 1) := by decide +kernel
theorem dL_towns_5 : decode cL_towns 5 = .ok (.istore_n 2, 1) := by decide +kernel
theorem dL_towns_6 : decode cL_towns 6 = .ok (.iconst 0, 1) := by decide +kernel
theorem dL_towns_7 : decode cL_towns 7 = .ok (.istore_n 3, 1) := by decide +kernel
theorem dL_towns_8 : decode cL_towns 8 = .ok (.iload_n 3, 1) := by decide +kernel
theorem dL_towns_9 : decode cL_towns 9 = .ok (.iconst 5, 1) := by decide +kernel
theorem dL_towns_10 : decode cL_towns 10 = .ok (.if_icmp .ge 318, 3) := by decide +kernel
theorem dL_towns_13 : decode cL_towns 13 = .ok (.iconst 0, 1) := by decide +kernel
theorem dL_towns_14 : decode cL_towns 14 = .ok (.istore 4, 2) := by decide +kernel
theorem dL_towns_16 : decode cL_towns 16 = .ok (.iload 4, 2) := by decide +kernel
theorem dL_towns_18 : decode cL_towns 18 = .ok (.iconst 4, 1) := by decide +kernel
theorem dL_towns_19 : decode cL_towns 19 = .ok (.if_icmp .ge 23, 3) := by decide +kernel
theorem dL_towns_22 : decode cL_towns 22 = .ok (.aload_n 1, 1) := by decide +kernel
theorem dL_towns_23 : decode cL_towns 23 = .ok (.iload 4, 2) := by decide +kernel
theorem dL_towns_25 : decode cL_towns 25 = .ok (.dup2, 1) := by decide +kernel
theorem dL_towns_26 : decode cL_towns 26 = .ok (.iaload, 1) := by decide +kernel
theorem dL_towns_27 : decode cL_towns 27 = .ok (.aload_n 0, 1) := by decide +kernel
theorem dL_towns_28 : decode cL_towns 28 = .ok (.iload_n 3, 1) := by decide +kernel
theorem dL_towns_29 : decode cL_towns 29 = .ok (.iload 4, 2) := by decide +kernel
theorem dL_towns_31 : decode cL_towns 31 = .ok (.invokevirtual 110, 3) := by decide +kernel
theorem dL_towns_34 : decode cL_towns 34 = .ok (.iadd, 1) := by decide +kernel
theorem dL_towns_35 : decode cL_towns 35 = .ok (.iastore, 1) := by decide +kernel
theorem dL_towns_36 : decode cL_towns 36 = .ok (.iinc 4 1, 3) := by decide +kernel
theorem dL_towns_39 : decode cL_towns 39 = .ok (.goto (-23), 3) := by decide +kernel
theorem dL_towns_42 : decode cL_towns 42 = .ok (.new 67, 3) := by decide +kernel
theorem dL_towns_45 : decode cL_towns 45 = .ok (.dup, 1) := by decide +kernel
theorem dL_towns_46 : decode cL_towns 46 = .ok (.invokespecial 69, 3) := by decide +kernel
theorem dL_towns_49 : decode cL_towns 49 = .ok (.iload_n 3, 1) := by decide +kernel
theorem dL_towns_50 : decode cL_towns 50 = .ok (.invokevirtual 80, 3) := by decide +kernel
theorem dL_towns_53 : decode cL_towns 53 = .ok (.ldc 134, 2) := by decide +kernel
theorem dL_towns_55 : decode cL_towns 55 = .ok (.invokevirtual 90, 3) := by decide +kernel
theorem dL_towns_58 : decode cL_towns 58 = .ok (.aload_n 0, 1) := by decide +kernel
theorem dL_towns_59 : decode cL_towns 59 = .ok (.iload_n 3, 1) := by decide +kernel
theorem dL_towns_60 : decode cL_towns 60 = .ok (.iconst 0, 1) := by decide +kernel
theorem dL_towns_61 : decode cL_towns 61 = .ok (.invokevirtual 110, 3) := by decide +kernel
theorem dL_towns_64 : decode cL_towns 64 = .ok (.invokevirtual 80, 3) := by decide +kernel
theorem dL_towns_67 : decode cL_towns 67 = .ok (.ldc 136, 2) := by decide +kernel
theorem dL_towns_69 : decode cL_towns 69 = .ok (.invokevirtual 90, 3) := by decide +kernel
theorem dL_towns_72 : decode cL_towns 72 = .ok (.aload_n 0, 1) := by decide +kernel
theorem dL_towns_73 : decode cL_towns 73 = .ok (.iload_n 3, 1) := by decide +kernel
theorem dL_towns_74 : decode cL_towns 74 = .ok (.iconst 1, 1) := by decide +kernel
theorem dL_towns_75 : decode cL_towns 75 = .ok (.invokevirtual 110, 3) := by decide +kernel
theorem dL_towns_78 : decode cL_towns 78 = .ok (.invokevirtual 80, 3) := by decide +kernel
theorem dL_towns_81 : decode cL_towns 81 = .ok (.ldc 138, 2) := by decide +kernel
theorem dL_towns_83 : decode cL_towns 83 = .ok (.invokevirtual 90, 3) := by decide +kernel
theorem dL_towns_86 : decode cL_towns 86 = .ok (.aload_n 0, 1) := by decide +kernel
theorem dL_towns_87 : decode cL_towns 87 = .ok (.iload_n 3, 1) := by decide +kernel
theorem dL_towns_88 : decode cL_towns 88 = .ok (.iconst 2, 1) := by decide +kernel
theorem dL_towns_89 : decode cL_towns 89 = .ok (.invokevirtual 110, 3) := by decide +kernel
theorem dL_towns_92 : decode cL_towns 92 = .ok (.invokevirtual 80, 3) := by decide +kernel
theorem dL_towns_95 : decode cL_towns 95 = .ok (.ldc 140, 2) := by decide +kernel
theorem dL_towns_97 : decode cL_towns 97 = .ok (.invokevirtual 90, 3) := by decide +kernel
theorem dL_towns_100 : decode cL_towns 100 = .ok (.aload_n 0, 1) := by decide +kernel
theorem dL_towns_101 : decode cL_towns 101 = .ok (.iload_n 3, 1) := by decide +kernel
theorem dL_towns_102 : decode cL_towns 102 = .ok (.iconst 3, 1) := by decide +kernel
theorem dL_towns_103 : decode cL_towns 103 = .ok (.invokevirtual 110, 3) := by decide +kernel
theorem dL_towns_106 : decode cL_towns 106 = .ok (.ifCond .le 30, 3) := by decide +kernel
theorem dL_towns_109 : decode cL_towns 109 = .ok (.new 67, 3) := by decide +kernel
theorem dL_towns_112 : decode cL_towns 112 = .ok (.dup, 1) := by decide +kernel
theorem dL_towns_113 : decode cL_towns 113 = .ok (.invokespecial 69, 3) := by decide +kernel
theorem dL_towns_116 : decode cL_towns 116 = .ok (.aload_n 0, 1) := by decide +kernel
theorem dL_towns_117 : decode cL_towns 117 = .ok (.iload_n 3, 1) := by decide +kernel
theorem dL_towns_118 : decode cL_towns 118 = .ok (.iconst 3, 1) := by decide +kernel
theorem dL_towns_119 : decode cL_towns 119 = .ok (.invokevirtual 110, 3) := by decide +kernel
theorem dL_towns_122 : decode cL_towns 122 = .ok (.invokevirtual 80, 3) := by decide +kernel
theorem dL_towns_125 : decode cL_towns 125 = .ok (.ldc 142, 2) := by decide +kernel
theorem dL_towns_127 : decode cL_towns 127 = .ok (.invokevirtual 90, 3) := by decide +kernel
theorem dL_towns_130 : decode cL_towns 130 = .ok (.invokevirtual 76, 3) := by decide +kernel
theorem dL_towns_133 : decode cL_towns 133 = .ok (.goto 5, 3) := by decide +kernel
theorem dL_towns_136 : decode cL_towns 136 = .ok (.ldc 116, 2) := by decide +kernel
theorem dL_towns_138 : decode cL_towns 138 = .ok (.invokevirtual 90, 3) := by decide +kernel
theorem dL_towns_141 : decode cL_towns 141 = .ok (.invokevirtual 76, 3) := by decide +kernel
theorem dL_towns_144 : decode cL_towns 144 = .ok (.astore 4, 2) := by decide +kernel
theorem dL_towns_146 : decode cL_towns 146 = .ok (.aload_n 0, 1) := by decide +kernel
theorem dL_towns_147 : decode cL_towns 147 = .ok (.iload_n 3, 1) := by decide +kernel
theorem dL_towns_148 : decode cL_towns 148 = .ok (.iconst 0, 1) := by decide +kernel
theorem dL_towns_149 : decode cL_towns 149 = .ok (.invokevirtual 110, 3) := by decide +kernel
theorem dL_towns_152 : decode cL_towns 152 = .ok (.ifCond .lt 67, 3) := by decide +kernel
theorem dL_towns_155 : decode cL_towns 155 = .ok (.aload_n 0, 1) := by decide +kernel
theorem dL_towns_156 : decode cL_towns 156 = .ok (.iload_n 3, 1) := by decide +kernel
theorem dL_towns_157 : decode cL_towns 157 = .ok (.iconst 0, 1) := by decide +kernel
theorem dL_towns_158 : decode cL_towns 158 = .ok (.invokevirtual 110, 3) := by decide +kernel
theorem dL_towns_161 : decode cL_towns 161 = .ok (.bipush 60, 2) := by decide +kernel
theorem dL_towns_163 : decode cL_towns 163 = .ok (.if_icmp .gt 56, 3) := by decide +kernel
theorem dL_towns_166 : decode cL_towns 166 = .ok (.aload_n 0, 1) := by decide +kernel
theorem dL_towns_167 : decode cL_towns 167 = .ok (.iload_n 3, 1) := by decide +kernel
theorem dL_towns_168 : decode cL_towns 168 = .ok (.iconst 1, 1) := by decide +kernel
theorem dL_towns_169 : decode cL_towns 169 = .ok (.invokevirtual 110, 3) := by decide +kernel
theorem dL_towns_172 : decode cL_towns 172 = .ok (.ifCond .lt 47, 3) := by decide +kernel
theorem dL_towns_175 : decode cL_towns 175 = .ok (.aload_n 0, 1) := by decide +kernel
theorem dL_towns_176 : decode cL_towns 176 = .ok (.iload_n 3, 1) := by decide +kernel
theorem dL_towns_177 : decode cL_towns 177 = .ok (.iconst 1, 1) := by decide +kernel
theorem dL_towns_178 : decode cL_towns 178 = .ok (.invokevirtual 110, 3) := by decide +kernel
theorem dL_towns_181 : decode cL_towns 181 = .ok (.bipush 60, 2) := by decide +kernel
theorem dL_towns_183 : decode cL_towns 183 = .ok (.if_icmp .gt 36, 3) := by decide +kernel
theorem dL_towns_186 : decode cL_towns 186 = .ok (.aload_n 0, 1) := by decide +kernel
theorem dL_towns_187 : decode cL_towns 187 = .ok (.iload_n 3, 1) := by decide +kernel
theorem dL_towns_188 : decode cL_towns 188 = .ok (.iconst 2, 1) := by decide +kernel
theorem dL_towns_189 : decode cL_towns 189 = .ok (.invokevirtual 110, 3) := by decide +kernel
theorem dL_towns_192 : decode cL_towns 192 = .ok (.ifCond .lt 27, 3) := by decide +kernel
theorem dL_towns_195 : decode cL_towns 195 = .ok (.aload_n 0, 1) := by decide +kernel
theorem dL_towns_196 : decode cL_towns 196 = .ok (.iload_n 3, 1) := by decide +kernel
theorem dL_towns_197 : decode cL_towns 197 = .ok (.iconst 2, 1) := by decide +kernel
theorem dL_towns_198 : decode cL_towns 198 = .ok (.invokevirtual 110, 3) := by decide +kernel
theorem dL_towns_201 : decode cL_towns 201 = .ok (.bipush 9, 2) := by decide +kernel
theorem dL_towns_203 : decode cL_towns 203 = .ok (.if_icmp .gt 16, 3) := by decide +kernel
theorem dL_towns_206 : decode cL_towns 206 = .ok (.aload_n 0, 1) := by decide +kernel
theorem dL_towns_207 : decode cL_towns 207 = .ok (.iload_n 3, 1) := by decide +kernel
theorem dL_towns_208 : decode cL_towns 208 = .ok (.iconst 3, 1) := by decide +kernel
theorem dL_towns_209 : decode cL_towns 209 = .ok (.invokevirtual 110, 3) := by decide +kernel
theorem dL_towns_212 : decode cL_towns 212 = .ok (.ifCond .lt 7, 3) := by decide +kernel
theorem dL_towns_215 : decode cL_towns 215 = .ok (.iconst 1, 1) := by decide +kernel
theorem dL_towns_216 : decode cL_towns 216 = .ok (.goto 4, 3) := by decide +kernel
theorem dL_towns_219 : decode cL_towns 219 = .ok (.iconst 0, 1) := by decide +kernel
theorem dL_towns_220 : decode cL_towns 220 = .ok (.istore 5, 2) := by decide +kernel
theorem dL_towns_222 : decode cL_towns 222 = .ok (.aload_n 0, 1) := by decide +kernel
theorem dL_towns_223 : decode cL_towns 223 = .ok (.iload_n 3, 1) := by decide +kernel
theorem dL_towns_224 : decode cL_towns 224 = .ok (.invokevirtual 144, 3) := by decide +kernel
theorem dL_towns_227 : decode cL_towns 227 = .ok (.istore 6, 2) := by decide +kernel
theorem dL_towns_229 : decode cL_towns 229 = .ok (.iload_n 2, 1) := by decide +kernel
theorem dL_towns_230 : decode cL_towns 230 = .ok (.ifCond .ge 7, 3) := by decide +kernel
theorem dL_towns_233 : decode cL_towns 233 = .ok (.iconst 1, 1) := by decide +kernel
theorem dL_towns_234 : decode cL_towns 234 = .ok (.goto 17, 3) := by decide +kernel
theorem dL_towns_237 : decode cL_towns 237 = .ok (.aload_n 0, 1) := by decide +kernel
theorem dL_towns_238 : decode cL_towns 238 = .ok (.iload_n 2, 1) := by decide +kernel
theorem dL_towns_239 : decode cL_towns 239 = .ok (.iconst 3, 1) := by decide +kernel
theorem dL_towns_240 : decode cL_towns 240 = .ok (.invokevirtual 110, 3) := by decide +kernel
theorem dL_towns_243 : decode cL_towns 243 = .ok (.aload_n 0, 1) := by decide +kernel
theorem dL_towns_244 : decode cL_towns 244 = .ok (.iload 6, 2) := by decide +kernel
theorem dL_towns_246 : decode cL_towns 246 = .ok (.iconst 3, 1) := by decide +kernel
theorem dL_towns_247 : decode cL_towns 247 = .ok (.invokevirtual 110, 3) := by decide +kernel
theorem dL_towns_250 : decode cL_towns 250 = .ok (.isub, 1) := by decide +kernel
theorem dL_towns_251 : decode cL_towns 251 = .ok (.istore 7, 2) := by decide +kernel
theorem dL_towns_253 : decode cL_towns 253 = .ok (.iload 7, 2) := by decide +kernel
theorem dL_towns_255 : decode cL_towns 255 = .ok (.ifCond .eq 8, 3) := by decide +kernel
theorem dL_towns_258 : decode cL_towns 258 = .ok (.iload 7, 2) := by decide +kernel
theorem dL_towns_260 : decode cL_towns 260 = .ok (.goto 17, 3) := by decide +kernel
theorem dL_towns_263 : decode cL_towns 263 = .ok (.aload_n 0, 1) := by decide +kernel
theorem dL_towns_264 : decode cL_towns 264 = .ok (.iload 6, 2) := by decide +kernel
theorem dL_towns_266 : decode cL_towns 266 = .ok (.iconst 0, 1) := by decide +kernel
theorem dL_towns_267 : decode cL_towns 267 = .ok (.invokevirtual 110, 3) := by decide +kernel
theorem dL_towns_270 : decode cL_towns 270 = .ok (.aload_n 0, 1) := by decide +kernel
theorem dL_towns_271 : decode cL_towns 271 = .ok (.iload_n 2, 1) := by decide +kernel
theorem dL_towns_272 : decode cL_towns 272 = .ok (.iconst 0, 1) := by decide +kernel
