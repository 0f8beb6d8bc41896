set_option maxRecDepth 20000 in
theorem ggL_credits_X7_account : GoodIn wsL_credits wsX7_account := goodIn_r _ [9, 10, 11, 12, 13, 14, 15, 16, 17, 18, 19, 20, 21, 22, 23, 24, 25, 26, 27, 28, 29, 30, 31, 32, 33, 34, 8, 35, 36, 37, 38, 39, 40, 41, 42, 43, 44, 45, 46, 47, 48, 4, 49, 50, 51, 52, 53, 54, 55, 56, 57, 58, 59, 60, 61, 62, 63, 64, 65, 66, 67, 68, 456, 457, 458, 459, 460, 461, 462, 463, 464, 465, 466, 467, 468, 469, 470, 471, 472, 473, 474, 475, 476, 477, 478, 479, 480, 481, 482, 483, 484, 485, 486, 487, 452, 453, 454, 455, 488, 489, 490, 491, 492, 493, 494, 495] (by decide +kernel) (by decide +kernel)
set_option maxRecDepth 20000 in
theorem gL_credits_X7_account : GoodIn wsL_credits (wsV RL 49 RX7 yX7_account wsX7_account) := goodIn_app (goodIn_of _ (by decide +kernel)) ggL_credits_X7_account
set_option maxRecDepth 20000 in
theorem ggL_credits_J4_init_da8c8 : GoodIn wsL_credits wsJ4_init_da8c8 := goodIn_r _ [71, 72, 73, 54, 74, 75, 76, 77, 78, 79, 80, 81, 82, 83, 84, 85, 86, 87, 88, 89, 452, 453, 454, 455] (by decide +kernel) (by decide +kernel)
set_option maxRecDepth 20000 in
theorem gL_credits_J4_init_da8c8 : GoodIn wsL_credits (wsJ4_init_da8c8) := ggL_credits_J4_init_da8c8
set_option maxRecDepth 20000 in
theorem ggL_credits_X7_creditOf : GoodIn wsL_credits wsX7_creditOf := goodIn_r _ [93, 10, 12, 94, 95, 96, 11, 97, 98, 99, 100, 101, 102, 456, 457, 458, 459, 460, 461, 462, 463, 464, 465, 466, 467, 468, 469, 470, 471, 472, 473, 474, 475, 476, 477] (by decide +kernel) (by decide +kernel)
set_option maxRecDepth 20000 in
theorem gL_credits_X7_creditOf : GoodIn wsL_credits (wsV RL 113 RX7 yX7_creditOf wsX7_creditOf) := goodIn_app (goodIn_of _ (by decide +kernel)) ggL_credits_X7_creditOf
set_option maxRecDepth 20000 in
theorem ggL_credits_J4_append_15ec4 : GoodIn wsL_credits wsJ4_append_15ec4 := goodIn_r _ [106, 107, 108, 52, 109, 54, 110, 56, 111, 112, 113, 114, 115, 80, 116, 117, 118, 119, 120, 81, 121, 122, 123, 124, 125, 126, 127, 128, 129, 130, 131, 132, 133, 134, 135, 136, 137, 138, 139, 140, 141, 142, 143, 144, 145, 146, 147, 148, 79, 149, 150, 151, 152, 153, 154, 155, 156, 157, 158, 159, 160, 78, 161, 162, 84, 163, 164, 165, 166, 167, 168, 169, 170, 171, 172, 173, 174, 175, 176, 177, 178, 179, 180, 181, 182, 183, 184, 185, 186, 187, 188, 189, 190, 191, 192, 193, 194, 195, 196, 197, 198, 199, 200, 201, 202, 203, 204, 205, 206, 207, 208, 209, 210, 211, 82, 83, 85, 86, 87, 88, 89, 212, 213, 214, 215, 216, 217, 218, 219, 220, 221, 222, 223, 224, 225, 226, 227, 228, 229, 230, 231, 232, 233, 452, 453, 454, 455, 496, 497, 498, 499] (by decide +kernel) (by decide +kernel)
set_option maxRecDepth 20000 in
theorem gL_credits_J4_append_15ec4 : GoodIn wsL_credits (wsV RL 90 RJ4 yJ4_append_15ec4 wsJ4_append_15ec4) := goodIn_app (goodIn_of _ (by decide +kernel)) ggL_credits_J4_append_15ec4
set_option maxRecDepth 20000 in
theorem ggL_credits_J4_append_bf812 : GoodIn wsL_credits wsJ4_append_bf812 := goodIn_r _ [237, 238, 239, 52, 240, 54, 241, 56, 80, 242, 243, 38, 244, 116, 117, 118, 119, 120, 81, 121, 122, 123, 124, 125, 126, 127, 128, 129, 130, 131, 132, 133, 134, 135, 136, 137, 138, 139, 140, 141, 142, 143, 144, 145, 146, 147, 148, 79, 149, 150, 151, 152, 153, 154, 155, 156, 157, 158, 159, 160, 78, 245, 246, 247, 248, 249, 250, 251, 84, 252, 164, 165, 166, 167, 168, 169, 170, 171, 172, 173, 174, 175, 176, 177, 178, 179, 253, 254, 255, 256, 257, 180, 181, 182, 183, 184, 452, 453, 454, 455] (by decide +kernel) (by decide +kernel)
set_option maxRecDepth 20000 in
theorem gL_credits_J4_append_bf812 : GoodIn wsL_credits (wsV RL 80 RJ4 yJ4_append_bf812 wsJ4_append_bf812) := goodIn_app (goodIn_of _ (by decide +kernel)) ggL_credits_J4_append_bf812
set_option maxRecDepth 20000 in
theorem ggL_credits_J4_append_cf468 : GoodIn wsL_credits wsJ4_append_cf468 := goodIn_r _ [261, 262, 263, 52, 264, 54, 265, 56, 80, 116, 117, 118, 119, 120, 81, 121, 122, 123, 124, 125, 126, 127, 128, 129, 130, 131, 132, 133, 134, 135, 136, 137, 138, 139, 140, 141, 142, 143, 144, 145, 146, 147, 148, 79, 149, 150, 151, 152, 153, 154, 155, 156, 157, 158, 159, 160, 78, 266, 267, 214, 268, 207, 208, 209, 210, 211, 82, 83, 84, 85, 86, 87, 88, 89, 212, 213, 215, 216, 217, 218, 219, 220, 221, 168, 169, 170, 222, 223, 173, 224, 175, 225, 226, 178, 227, 180, 181, 182, 164, 183, 184, 269, 270, 271, 272, 273, 274, 275, 276, 277, 278, 279, 280, 452, 453, 454, 455] (by decide +kernel) (by decide +kernel)
set_option maxRecDepth 20000 in
theorem gL_credits_J4_append_cf468 : GoodIn wsL_credits (wsV RL 73 RJ4 yJ4_append_cf468 wsJ4_append_cf468) := goodIn_app (goodIn_of _ (by decide +kernel)) ggL_credits_J4_append_cf468
set_option maxRecDepth 20000 in
theorem ggL_credits_X7_next : GoodIn wsL_credits wsX7_next := goodIn_r _ [284, 10, 12, 13, 285, 286, 287, 100, 288, 102, 289, 290, 291, 292, 293, 294, 295, 98, 99, 101, 456, 457, 458, 459, 460, 461, 462, 463, 464, 465, 466, 467, 468, 469, 470, 471, 472, 473, 474, 475, 476, 477] (by decide +kernel) (by decide +kernel)
set_option maxRecDepth 20000 in
theorem gL_credits_X7_next : GoodIn wsL_credits (wsV RL 120 RX7 yX7_next wsX7_next) := goodIn_app (goodIn_of _ (by decide +kernel)) ggL_credits_X7_next
set_option maxRecDepth 20000 in
theorem ggL_credits_X7_owes : GoodIn wsL_credits wsX7_owes := goodIn_r _ [299, 10, 12, 300, 34, 8, 35, 301, 302, 303, 100, 304, 102, 305, 294, 456, 457, 458, 459, 460, 461, 462, 463, 464, 465, 466, 467, 468, 469, 470, 471, 472, 473, 474, 475, 476, 477] (by decide +kernel) (by decide +kernel)
set_option maxRecDepth 20000 in
theorem gL_credits_X7_owes : GoodIn wsL_credits (wsV RL 121 RX7 yX7_owes wsX7_owes) := goodIn_app (goodIn_of _ (by decide +kernel)) ggL_credits_X7_owes
set_option maxRecDepth 20000 in
theorem ggL_credits_X7_owesAgain : GoodIn wsL_credits wsX7_owesAgain := goodIn_r _ [309, 10, 300, 34, 8, 35, 310, 311, 312, 313, 314, 315, 316, 317, 318, 319, 100, 320, 102, 305, 293, 294, 456, 457, 458, 459, 460, 461, 462, 463, 464, 465, 466, 467, 468, 469, 470, 471, 472, 473, 474, 475, 476, 477] (by decide +kernel) (by decide +kernel)
set_option maxRecDepth 20000 in
theorem gL_credits_X7_owesAgain : GoodIn wsL_credits (wsV RL 124 RX7 yX7_owesAgain wsX7_owesAgain) := goodIn_app (goodIn_of _ (by decide +kernel)) ggL_credits_X7_owesAgain
set_option maxRecDepth 20000 in
theorem ggL_credits_X7_townOf : GoodIn wsL_credits wsX7_townOf := goodIn_r _ [324, 10, 12, 14, 300, 34, 8, 35, 325, 326, 327, 100, 328, 102, 305, 329, 30, 31, 27, 32, 33, 36, 37, 38, 39, 40, 41, 42, 330, 331, 332, 333, 334, 335, 336, 337, 338, 339, 340, 313, 341, 342, 343, 344, 345, 456, 457, 458, 459, 460, 461, 462, 463, 464, 465, 466, 467, 468, 469, 470, 471, 472, 473, 474, 475, 476, 477, 486, 487] (by decide +kernel) (by decide +kernel)
set_option maxRecDepth 20000 in
theorem gL_credits_X7_townOf : GoodIn wsL_credits (wsV RL 110 RX7 yX7_townOf wsX7_townOf) := goodIn_app (goodIn_of _ (by decide +kernel)) ggL_credits_X7_townOf
set_option maxRecDepth 20000 in
theorem ggL_credits_X7_due : GoodIn wsL_credits wsX7_due := goodIn_r _ [349, 10, 12, 11, 350, 318, 319, 100, 320, 102, 305, 293, 294, 456, 457, 458, 459, 460, 461, 462, 463, 464, 465, 466, 467, 468, 469, 470, 471, 472, 473, 474, 475, 476, 477] (by decide +kernel) (by decide +kernel)
set_option maxRecDepth 20000 in
theorem gL_credits_X7_due : GoodIn wsL_credits (wsV RL 127 RX7 yX7_due wsX7_due) := goodIn_app (goodIn_of _ (by decide +kernel)) ggL_credits_X7_due
set_option maxRecDepth 20000 in
theorem ggL_credits_X7_writeCredits : GoodIn wsL_credits wsX7_writeCredits := goodIn_r _ [354, 355, 10, 12, 13, 94, 95, 96, 356, 357, 358, 4, 359, 360, 361, 52, 362, 54, 363, 56, 80, 364, 116, 117, 118, 119, 120, 81, 121, 122, 123, 124, 125, 126, 127, 128, 129, 130, 131, 132, 133, 134, 135, 136, 137, 138, 139, 140, 141, 142, 143, 144, 145, 146, 147, 148, 79, 149, 150, 151, 152, 153, 154, 155, 156, 157, 158, 159, 160, 78, 365, 366, 214, 367, 368, 369, 370, 371, 372, 373, 374, 375, 84, 376, 377, 378, 259, 260, 261, 262, 263, 264, 265, 266, 267, 268, 207, 208, 209, 210, 211, 82, 83, 85, 86, 87, 88, 89, 212, 213, 215, 216, 217, 218, 219, 220, 221, 168, 169, 170, 222, 223, 173, 224, 175, 225, 226, 178, 227, 180, 181, 182, 164, 183, 184, 269, 270, 271, 272, 273, 274, 275, 276, 277, 278, 279, 280, 379, 235, 236, 237, 238, 239, 240, 241, 242, 243, 38, 244, 245, 246, 247, 248, 249, 250, 251, 252, 165, 166, 167, 171, 172, 174, 176, 177, 179, 253, 254, 255, 256, 257, 46, 47, 48, 49, 50, 51, 53, 55, 456, 457, 458, 459, 460, 461, 462, 463, 464, 465, 466, 467, 468, 469, 470, 471, 472, 473, 474, 475, 476, 477, 452, 453, 454, 455] (by decide +kernel) (by decide +kernel)
set_option maxRecDepth 20000 in
theorem gL_credits_X7_writeCredits : GoodIn wsL_credits (wsV RL 96 RX7 yX7_writeCredits wsX7_writeCredits) := goodIn_app (goodIn_of _ (by decide +kernel)) ggL_credits_X7_writeCredits
set_option maxRecDepth 20000 in
theorem ggL_credits_L_line : GoodIn wsL_credits wsL_line := goodIn_r _ [383, 2, 3, 4, 69, 70, 71, 72, 73, 54, 74, 75, 76, 77, 78, 79, 80, 81, 82, 83, 84, 85, 86, 87, 88, 89, 384, 385, 386, 8, 387, 355, 46, 47, 48, 49, 50, 51, 52, 53, 55, 56, 388, 389, 390, 391, 392, 393, 394, 395, 396, 150, 133, 151, 397, 276, 173, 277, 175, 278, 279, 178, 280, 398, 399, 400, 164, 183, 184, 168, 169, 170, 258, 259, 260, 261, 262, 263, 264, 265, 116, 117, 118, 119, 120, 121, 122, 123, 124, 125, 126, 127, 128, 129, 130, 131, 132, 134, 135, 136, 137, 138, 139, 140, 141, 142, 143, 144, 145, 146, 147, 148, 149, 152, 153, 154, 155, 156, 157, 158, 159, 160, 266, 267, 214, 268, 207, 208, 209, 210, 211, 212, 213, 215, 216, 217, 218, 219, 220, 221, 222, 223, 224, 225, 226, 227, 180, 181, 182, 269, 270, 271, 272, 273, 274, 275, 401, 402, 403, 404, 405, 406, 407, 408, 409, 410, 411, 412, 413, 195, 189, 194, 414, 415, 416, 417, 418, 419, 420, 421, 422, 423, 424, 425, 426, 427, 428, 429, 430, 431, 432, 433, 434, 435, 436, 437, 438, 439, 440, 441, 442, 443, 452, 453, 454, 455, 456, 457, 458, 459, 460, 461, 462, 463, 464, 465, 496, 497, 498, 499] (by decide +kernel) (by decide +kernel)
set_option maxRecDepth 20000 in
theorem gL_credits_L_line : GoodIn wsL_credits (va_wsS RL 86 yL_line wsL_line) := goodIn_app (goodIn_of _ (by decide +kernel)) ggL_credits_L_line
set_option maxRecDepth 20000 in
theorem ggL_credits_J4_toString_0e30d : GoodIn wsL_credits wsJ4_toString_0e30d := goodIn_r _ [404, 405, 406, 173, 407, 408, 409, 410, 411, 412, 413, 76, 77, 195, 189, 194, 414, 415, 416, 417, 418, 54, 419, 80, 420, 51, 421, 422, 47, 4, 49, 50, 52, 53, 55, 56, 423, 157, 158, 159, 160, 78, 81, 424, 425, 141, 426, 143, 144, 145, 146, 147, 148, 427, 428, 429, 79, 149, 150, 133, 151, 152, 153, 154, 155, 430, 431, 432, 433, 434, 84, 435, 436, 437, 438, 219, 220, 221, 168, 169, 170, 222, 223, 224, 175, 225, 226, 178, 227, 439, 399, 400, 164, 183, 184, 86, 87, 88, 89, 440, 441, 442, 443, 496, 497, 498, 499, 452, 453, 454, 455] (by decide +kernel) (by decide +kernel)
set_option maxRecDepth 20000 in
theorem gL_credits_J4_toString_0e30d : GoodIn wsL_credits (wsV RL 76 RJ4 yJ4_toString_0e30d wsJ4_toString_0e30d) := goodIn_app (goodIn_of _ (by decide +kernel)) ggL_credits_J4_toString_0e30d
set_option maxRecDepth 20000 in
theorem ggL_credits_J0_equals_9ea2d : GoodIn wsL_credits wsJ0_equals_9ea2d := goodIn_r _ [447, 448, 194, 195, 189, 449, 450, 214, 451, 496, 497, 498, 499] (by decide +kernel) (by decide +kernel)
set_option maxRecDepth 20000 in
theorem gL_credits_J0_equals_9ea2d : GoodIn wsL_credits (wsV RL 130 RJ0 yJ0_equals_9ea2d wsJ0_equals_9ea2d) := goodIn_app (goodIn_of _ (by decide +kernel)) ggL_credits_J0_equals_9ea2d
theorem dL_credits_0 : decode cL_credits 0 = .ok (.aload_n 0, 1) := by decide +kernel
theorem dL_credits_1 : decode cL_credits 1 = .ok (.iconst 1, 1) := by decide +kernel
theorem dL_credits_2 : decode cL_credits 2 = .ok (.invokevirtual 49, 3) := by decide +kernel
theorem dL_credits_5 : decode cL_credits 5 = .ok (.istore_n 1, 1) := by decide +kernel
theorem dL_credits_6 : decode cL_credits 6 = .ok (.aload_n 0, 1) := by decide +kernel
theorem dL_credits_7 : decode cL_credits 7 = .ok (.iconst 0, 1) := by decide +kernel
theorem dL_credits_8 : decode cL_credits 8 = .ok (.invokevirtual 49, 3) := by decide +kernel
theorem dL_credits_11 : decode cL_credits 11 = .ok (.istore_n 2, 1) := by decide +kernel
theorem dL_credits_12 : decode cL_credits 12 = .ok (.iconst 5, 1) := by decide +kernel
theorem dL_credits_13 : decode cL_credits 13 = .ok (.newarray .int, 2) := by decide +kernel
theorem dL_credits_15 : decode cL_credits 15 = .ok (.astore_n 3, 1) := by decide +kernel
theorem dL_credits_16 : decode cL_credits 16 = .ok (.iconst 5, 1) := by decide +kernel
theorem dL_credits_17 : decode cL_credits 17 = .ok (.newarray .int, 2) := by decide +kernel
theorem dL_credits_19 : decode cL_credits 19 = .ok (.astore 4, 2) := by decide +kernel
theorem dL_credits_21 : decode cL_credits 21 = .ok (.bipush 7, 2) := by decide +kernel
theorem dL_credits_23 : decode cL_credits 23 = .ok (.newarray .int, 2) := by decide +kernel
theorem dL_credits_25 : decode cL_credits 25 = .ok (.astore 5, 2) := by decide +kernel
theorem dL_credits_27 : decode cL_credits 27 = .ok (.iconst (-1), 1) := by decide +kernel
theorem dL_credits_28 : decode cL_credits 28 = .ok (.istore 6, 2) := by decide +kernel
theorem dL_credits_30 : decode cL_credits 30 = .ok (.new 67, 3) := by decide +kernel
theorem dL_credits_33 : decode cL_credits 33 = .ok (.dup, 1) := by decide +kernel
theorem dL_credits_34 : decode cL_credits 34 = .ok (.invokespecial 69, 3) := by decide +kernel
theorem dL_credits_37 : decode cL_credits 37 = .ok (.astore 7, 2) := by decide +kernel
theorem dL_credits_39 : decode cL_credits 39 = .ok (.iconst 0, 1) := by decide +kernel
theorem dL_credits_40 : decode cL_credits 40 = .ok (.istore 8, 2) := by decide +kernel
theorem dL_credits_42 : decode cL_credits 42 = .ok (.iload 8, 2) := by decide +kernel
theorem dL_credits_44 : decode cL_credits 44 = .ok (.iload_n 1, 1) := by decide +kernel
theorem dL_credits_45 : decode cL_credits 45 = .ok (.if_icmp .ge 237, 3) := by decide +kernel
theorem dL_credits_48 : decode cL_credits 48 = .ok (.aload_n 0, 1) := by decide +kernel
theorem dL_credits_49 : decode cL_credits 49 = .ok (.iload 8, 2) := by decide +kernel
theorem dL_credits_51 : decode cL_credits 51 = .ok (.iconst 2, 1) := by decide +kernel
theorem dL_credits_52 : decode cL_credits 52 = .ok (.invokevirtual 113, 3) := by decide +kernel
theorem dL_credits_55 : decode cL_credits 55 = .ok (.iload_n 2, 1) := by decide +kernel
theorem dL_credits_56 : decode cL_credits 56 = .ok (.isub, 1) := by decide +kernel
theorem dL_credits_57 : decode cL_credits 57 = .ok (.istore 9, 2) := by decide +kernel
theorem dL_credits_59 : decode cL_credits 59 = .ok (.aload_n 3, 1) := by decide +kernel
theorem dL_credits_60 : decode cL_credits 60 = .ok (.aload_n 0, 1) := by decide +kernel
theorem dL_credits_61 : decode cL_credits 61 = .ok (.iload 8, 2) := by decide +kernel
theorem dL_credits_63 : decode cL_credits 63 = .ok (.iconst 0, 1) := by decide +kernel
theorem dL_credits_64 : decode cL_credits 64 = .ok (.invokevirtual 113, 3) := by decide +kernel
theorem dL_credits_67 : decode cL_credits 67 = .ok (.dup2, 1) := by decide +kernel
theorem dL_credits_68 : decode cL_credits 68 = .ok (.iaload, 1) := by decide +kernel
theorem dL_credits_69 : decode cL_credits 69 = .ok (.aload_n 0, 1) := by decide +kernel
theorem dL_credits_70 : decode cL_credits 70 = .ok (.iload 8, 2) := by decide +kernel
theorem dL_credits_72 : decode cL_credits 72 = .ok (.iconst 1, 1) := by decide +kernel
theorem dL_credits_73 : decode cL_credits 73 = .ok (.invokevirtual 113, 3) := by decide +kernel
theorem dL_credits_76 : decode cL_credits 76 = .ok (.iadd, 1) := by decide +kernel
theorem dL_credits_77 : decode cL_credits 77 = .ok (.iastore, 1) := by decide +kernel
theorem dL_credits_78 : decode cL_credits 78 = .ok (.aload 4, 2) := by decide +kernel
theorem dL_credits_80 : decode cL_credits 80 = .ok (.aload_n 0, 1) := by decide +kernel
theorem dL_credits_81 : decode cL_credits 81 = .ok (.iload 8, 2) := by decide +kernel
theorem dL_credits_83 : decode cL_credits 83 = .ok (.iconst 0, 1) := by decide +kernel
theorem dL_credits_84 : decode cL_credits 84 = .ok (.invokevirtual 113, 3) := by decide +kernel
theorem dL_credits_87 : decode cL_credits 87 = .ok (.dup2, 1) := by decide +kernel
theorem dL_credits_88 : decode cL_credits 88 = .ok (.iaload, 1) := by decide +kernel
theorem dL_credits_89 : decode cL_credits 89 = .ok (.iconst 1, 1) := by decide +kernel
theorem dL_credits_90 : decode cL_credits 90 = .ok (.iadd, 1) := by decide +kernel
theorem dL_credits_91 : decode cL_credits 91 = .ok (.iastore, 1) := by decide +kernel
theorem dL_credits_92 : decode cL_credits 92 = .ok (.iload 9, 2) := by decide +kernel
theorem dL_credits_94 : decode cL_credits 94 = .ok (.iconst 1, 1) := by decide +kernel
theorem dL_credits_95 : decode cL_credits 95 = .ok (.if_icmp .lt 22, 3) := by decide +kernel
theorem dL_credits_98 : decode cL_credits 98 = .ok (.iload 9, 2) := by decide +kernel
theorem dL_credits_100 : decode cL_credits 100 = .ok (.bipush 6, 2) := by decide +kernel
theorem dL_credits_102 : decode cL_credits 102 = .ok (.if_icmp .gt 15, 3) := by decide +kernel
theorem dL_credits_105 : decode cL_credits 105 = .ok (.aload_n 0, 1) := by decide +kernel
theorem dL_credits_106 : decode cL_credits 106 = .ok (.iload 8, 2) := by decide +kernel
theorem dL_credits_108 : decode cL_credits 108 = .ok (.iconst 3, 1) := by decide +kernel
theorem dL_credits_109 : decode cL_credits 109 = .ok (.invokevirtual 113, 3) := by decide +kernel
theorem dL_credits_112 : decode cL_credits 112 = .ok (.iload 9, 2) := by decide +kernel
theorem dL_credits_114 : decode cL_credits 114 = .ok (.if_icmp .eq 5, 3) := by decide +kernel
theorem dL_credits_117 : decode cL_credits 117 = .ok (.iconst 0, 1) := by decide +kernel
theorem dL_credits_118 : decode cL_credits 118 = .ok (.ireturn, 1) := by decide +kernel
theorem dL_credits_119 : decode cL_credits 119 = .ok (.aload 5, 2) := by decide +kernel
theorem dL_credits_121 : decode cL_credits 121 = .ok (.iload 9, 2) := by decide +kernel
theorem dL_credits_123 : decode cL_credits 123 = .ok (.dup2, 1) := by decide +kernel
theorem dL_credits_124 : decode cL_credits 124 = .ok (.iaload, 1) := by decide +kernel
theorem dL_credits_125 : decode cL_credits 125 = .ok (.aload_n 0, 1) := by decide +kernel
theorem dL_credits_126 : decode cL_credits 126 = .ok (.iload 8, 2) := by decide +kernel
theorem dL_credits_128 : decode cL_credits 128 = .ok (.iconst 1, 1) := by decide +kernel
theorem dL_credits_129 : decode cL_credits 129 = .ok (.invokevirtual 113, 3) := by decide +kernel
theorem dL_credits_132 : decode cL_credits 132 = .ok (.iadd, 1) := by decide +kernel
theorem dL_credits_133 : decode cL_credits 133 = .ok (.iastore, 1) := by decide +kernel
theorem dL_credits_134 : decode cL_credits 134 = .ok (.aload 7, 2) := by decide +kernel
theorem dL_credits_136 : decode cL_credits 136 = .ok (.iload 8, 2) := by decide +kernel
theorem dL_credits_138 : decode cL_credits 138 = .ok (.ifCond .ne 8, 3) := by decide +kernel
theorem dL_credits_141 : decode cL_credits 141 = .ok (.ldc 116, 2) := by decide +kernel
theorem dL_credits_143 : decode cL_credits 143 = .ok (.goto 5, 3) := by decide +kernel
theorem dL_credits_146 : decode cL_credits 146 = .ok (.ldc 118, 2) := by decide +kernel
theorem dL_credits_148 : decode cL_credits 148 = .ok (.invokevirtual 90, 3) := by decide +kernel
theorem dL_credits_151 : decode cL_credits 151 = .ok (.aload_n 0, 1) := by decide +kernel
theorem dL_credits_152 : decode cL_credits 152 = .ok (.iload 8, 2) := by decide +kernel
theorem dL_credits_154 : decode cL_credits 154 = .ok (.iconst 0, 1) := by decide +kernel
theorem dL_credits_155 : decode cL_credits 155 = .ok (.invokevirtual 113, 3) := by decide +kernel
theorem dL_credits_158 : decode cL_credits 158 = .ok (.invokevirtual 80, 3) := by decide +kernel
theorem dL_credits_161 : decode cL_credits 161 = .ok (.bipush 42, 2) := by decide +kernel
theorem dL_credits_163 : decode cL_credits 163 = .ok (.invokevirtual 73, 3) := by decide +kernel
theorem dL_credits_166 : decode cL_credits 166 = .ok (.aload_n 0, 1) := by decide +kernel
theorem dL_credits_167 : decode cL_credits 167 = .ok (.iload 8, 2) := by decide +kernel
theorem dL_credits_169 : decode cL_credits 169 = .ok (.iconst 1, 1) := by decide +kernel
theorem dL_credits_170 : decode cL_credits 170 = .ok (.invokevirtual 113, 3) := by decide +kernel
theorem dL_credits_173 : decode cL_credits 173 = .ok (.invokevirtual 80, 3) := by decide +kernel
theorem dL_credits_176 : decode cL_credits 176 = .ok (.bipush 64, 2) := by decide +kernel
theorem dL_credits_178 : decode cL_credits 178 = .ok (.invokevirtual 73, 3) := by decide +kernel
theorem dL_credits_181 : decode cL_credits 181 = .ok (.aload_n 0, 1) := by decide +kernel
theorem dL_credits_182 : decode cL_credits 182 = .ok (.iload 8, 2) := by decide +kernel
theorem dL_credits_184 : decode cL_credits 184 = .ok (.iconst 2, 1) := by decide +kernel
theorem dL_credits_185 : decode cL_credits 185 = .ok (.invokevirtual 113, 3) := by decide +kernel
theorem dL_credits_188 : decode cL_credits 188 = .ok (.invokevirtual 80, 3) := by decide +kernel
theorem dL_credits_191 : decode cL_credits 191 = .ok (.pop, 1) := by decide +kernel
theorem dL_credits_192 : decode cL_credits 192 = .ok (.aload_n 0, 1) := by decide +kernel
theorem dL_credits_193 : decode cL_credits 193 = .ok (.iload 8, 2) := by decide +kernel
theorem dL_credits_195 : decode cL_credits 195 = .ok (.invokevirtual 120, 3) := by decide +kernel
theorem dL_credits_198 : decode cL_credits 198 = .ok (.istore 10, 2) := by decide +kernel
theorem dL_credits_200 : decode cL_credits 200 = .ok (.iload 6, 2) := by decide +kernel
