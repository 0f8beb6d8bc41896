set_option maxRecDepth 20000 in
theorem ggL_told_J4_init_da8c8 : GoodIn wsL_told wsJ4_init_da8c8 := goodIn_r _ [6, 7, 8, 9, 10, 11, 12, 13, 14, 15, 16, 17, 18, 19, 20, 21, 22, 23, 24, 25, 380, 381, 382, 383] (by decide +kernel) (by decide +kernel)
set_option maxRecDepth 20000 in
theorem gL_told_J4_init_da8c8 : GoodIn wsL_told (wsJ4_init_da8c8) := ggL_told_J4_init_da8c8
set_option maxRecDepth 20000 in
theorem ggL_told_X7_account : GoodIn wsL_told wsX7_account := goodIn_r _ [30, 31, 32, 33, 34, 35, 36, 37, 38, 39, 40, 41, 42, 43, 44, 45, 46, 47, 48, 49, 50, 51, 52, 53, 54, 55, 29, 56, 57, 58, 59, 60, 61, 62, 63, 64, 65, 66, 67, 68, 69, 3, 70, 71, 72, 73, 74, 9, 75, 76, 77, 78, 79, 80, 81, 82, 83, 84, 85, 86, 87, 88, 384, 385, 386, 387, 388, 389, 390, 391, 392, 393, 394, 395, 396, 397, 398, 399, 400, 401, 402, 403, 404, 405, 406, 407, 408, 409, 410, 411, 412, 413, 414, 415, 380, 381, 382, 383, 416, 417, 418, 419, 420, 421, 422, 423] (by decide +kernel) (by decide +kernel)
set_option maxRecDepth 20000 in
theorem gL_told_X7_account : GoodIn wsL_told (wsV RL 49 RX7 yX7_account wsX7_account) := goodIn_app (goodIn_of _ (by decide +kernel)) ggL_told_X7_account
set_option maxRecDepth 20000 in
theorem ggL_told_J4_append_bf812 : GoodIn wsL_told wsJ4_append_bf812 := goodIn_r _ [92, 93, 94, 73, 95, 9, 96, 76, 16, 97, 98, 59, 99, 100, 101, 102, 103, 104, 17, 105, 106, 107, 108, 109, 110, 111, 112, 113, 114, 115, 116, 117, 118, 119, 120, 121, 122, 123, 124, 125, 126, 127, 128, 129, 130, 131, 132, 15, 133, 134, 135, 136, 137, 138, 139, 140, 141, 142, 143, 144, 14, 145, 146, 147, 148, 149, 150, 151, 20, 152, 153, 154, 155, 156, 157, 158, 159, 160, 161, 162, 163, 164, 165, 166, 167, 168, 169, 170, 171, 172, 173, 174, 175, 176, 177, 178, 380, 381, 382, 383] (by decide +kernel) (by decide +kernel)
set_option maxRecDepth 20000 in
theorem gL_told_J4_append_bf812 : GoodIn wsL_told (wsV RL 80 RJ4 yJ4_append_bf812 wsJ4_append_bf812) := goodIn_app (goodIn_of _ (by decide +kernel)) ggL_told_J4_append_bf812
set_option maxRecDepth 20000 in
theorem ggL_told_J4_append_cf468 : GoodIn wsL_told wsJ4_append_cf468 := goodIn_r _ [182, 183, 184, 73, 185, 9, 186, 76, 16, 100, 101, 102, 103, 104, 17, 105, 106, 107, 108, 109, 110, 111, 112, 113, 114, 115, 116, 117, 118, 119, 120, 121, 122, 123, 124, 125, 126, 127, 128, 129, 130, 131, 132, 15, 133, 134, 135, 136, 137, 138, 139, 140, 141, 142, 143, 144, 14, 187, 188, 189, 190, 191, 192, 193, 194, 195, 18, 19, 20, 21, 22, 23, 24, 25, 196, 197, 198, 199, 200, 201, 202, 203, 204, 157, 158, 159, 205, 206, 162, 207, 164, 208, 209, 167, 210, 174, 175, 176, 153, 177, 178, 211, 212, 213, 214, 215, 216, 217, 218, 219, 220, 221, 222, 380, 381, 382, 383] (by decide +kernel) (by decide +kernel)
set_option maxRecDepth 20000 in
theorem gL_told_J4_append_cf468 : GoodIn wsL_told (wsV RL 73 RJ4 yJ4_append_cf468 wsJ4_append_cf468) := goodIn_app (goodIn_of _ (by decide +kernel)) ggL_told_J4_append_cf468
set_option maxRecDepth 20000 in
theorem ggL_told_X7_write : GoodIn wsL_told wsX7_write := goodIn_r _ [226, 227, 31, 36, 37, 39, 38, 228, 55, 29, 56, 229, 230, 231, 3, 232, 233, 234, 73, 235, 9, 236, 76, 16, 237, 100, 101, 102, 103, 104, 17, 105, 106, 107, 108, 109, 110, 111, 112, 113, 114, 115, 116, 117, 118, 119, 120, 121, 122, 123, 124, 125, 126, 127, 128, 129, 130, 131, 132, 15, 133, 134, 135, 136, 137, 138, 139, 140, 141, 142, 143, 144, 14, 238, 239, 189, 240, 241, 242, 243, 244, 245, 246, 247, 248, 20, 249, 250, 251, 90, 91, 92, 93, 94, 95, 96, 97, 98, 59, 99, 145, 146, 147, 148, 149, 150, 151, 152, 153, 154, 155, 156, 157, 158, 159, 160, 161, 162, 163, 164, 165, 166, 167, 168, 169, 170, 171, 172, 173, 174, 175, 176, 177, 178, 252, 180, 181, 182, 183, 184, 185, 186, 187, 188, 190, 191, 192, 193, 194, 195, 18, 19, 21, 22, 23, 24, 25, 196, 197, 198, 199, 200, 201, 202, 203, 204, 205, 206, 207, 208, 209, 210, 211, 212, 213, 214, 215, 216, 217, 218, 219, 220, 221, 222, 67, 68, 69, 70, 71, 72, 74, 75, 384, 385, 386, 387, 388, 389, 390, 391, 392, 393, 394, 395, 396, 397, 398, 399, 400, 401, 380, 381, 382, 383] (by decide +kernel) (by decide +kernel)
set_option maxRecDepth 20000 in
theorem gL_told_X7_write : GoodIn wsL_told (wsV RL 83 RX7 yX7_write wsX7_write) := goodIn_app (goodIn_of _ (by decide +kernel)) ggL_told_X7_write
set_option maxRecDepth 20000 in
theorem ggL_told_L_line : GoodIn wsL_told wsL_line := goodIn_r _ [256, 1, 2, 3, 4, 5, 6, 7, 8, 9, 10, 11, 12, 13, 14, 15, 16, 17, 18, 19, 20, 21, 22, 23, 24, 25, 257, 258, 259, 29, 260, 227, 67, 68, 69, 70, 71, 72, 73, 74, 75, 76, 261, 262, 263, 264, 265, 266, 267, 268, 269, 134, 117, 135, 270, 218, 162, 219, 164, 220, 221, 167, 222, 271, 272, 273, 153, 177, 178, 157, 158, 159, 179, 180, 181, 182, 183, 184, 185, 186, 100, 101, 102, 103, 104, 105, 106, 107, 108, 109, 110, 111, 112, 113, 114, 115, 116, 118, 119, 120, 121, 122, 123, 124, 125, 126, 127, 128, 129, 130, 131, 132, 133, 136, 137, 138, 139, 140, 141, 142, 143, 144, 187, 188, 189, 190, 191, 192, 193, 194, 195, 196, 197, 198, 199, 200, 201, 202, 203, 204, 205, 206, 207, 208, 209, 210, 174, 175, 176, 211, 212, 213, 214, 215, 216, 217, 274, 275, 276, 277, 278, 279, 280, 281, 282, 283, 284, 285, 286, 287, 288, 289, 290, 291, 292, 293, 294, 295, 296, 297, 298, 299, 300, 301, 302, 303, 304, 305, 306, 307, 308, 309, 310, 311, 312, 313, 314, 315, 316, 317, 318, 319, 380, 381, 382, 383, 384, 385, 386, 387, 388, 389, 390, 391, 392, 393, 424, 425, 426, 427] (by decide +kernel) (by decide +kernel)
set_option maxRecDepth 20000 in
theorem gL_told_L_line : GoodIn wsL_told (va_wsS RL 86 yL_line wsL_line) := goodIn_app (goodIn_of _ (by decide +kernel)) ggL_told_L_line
set_option maxRecDepth 20000 in
theorem ggL_told_J4_append_15ec4 : GoodIn wsL_told wsJ4_append_15ec4 := goodIn_r _ [323, 324, 325, 73, 326, 9, 327, 76, 328, 329, 330, 331, 332, 16, 100, 101, 102, 103, 104, 17, 105, 106, 107, 108, 109, 110, 111, 112, 113, 114, 115, 116, 117, 118, 119, 120, 121, 122, 123, 124, 125, 126, 127, 128, 129, 130, 131, 132, 15, 133, 134, 135, 136, 137, 138, 139, 140, 141, 142, 143, 144, 14, 333, 334, 20, 335, 153, 154, 155, 156, 157, 158, 159, 160, 161, 162, 163, 164, 165, 166, 167, 168, 174, 175, 176, 177, 178, 336, 337, 338, 339, 288, 340, 341, 342, 343, 289, 287, 344, 345, 346, 347, 348, 349, 350, 351, 352, 353, 354, 191, 192, 193, 194, 195, 18, 19, 21, 22, 23, 24, 25, 196, 197, 189, 198, 199, 200, 201, 202, 203, 204, 205, 206, 207, 208, 209, 210, 355, 356, 357, 358, 359, 360, 380, 381, 382, 383, 424, 425, 426, 427] (by decide +kernel) (by decide +kernel)
set_option maxRecDepth 20000 in
theorem gL_told_J4_append_15ec4 : GoodIn wsL_told (wsV RL 90 RJ4 yJ4_append_15ec4 wsJ4_append_15ec4) := goodIn_app (goodIn_of _ (by decide +kernel)) ggL_told_J4_append_15ec4
set_option maxRecDepth 20000 in
theorem ggL_told_X7_far : GoodIn wsL_told wsX7_far := goodIn_r _ [364, 31, 35, 228, 55, 29, 56, 365, 366, 367, 48, 368, 369, 370, 371, 372, 54, 384, 385, 386, 387, 388, 389, 390, 391, 392, 393, 394, 395, 396, 397, 398, 399, 400, 401, 414, 415] (by decide +kernel) (by decide +kernel)
set_option maxRecDepth 20000 in
theorem gL_told_X7_far : GoodIn wsL_told (wsV RL 93 RX7 yX7_far wsX7_far) := goodIn_app (goodIn_of _ (by decide +kernel)) ggL_told_X7_far
set_option maxRecDepth 20000 in
theorem ggL_told_X7_writeCredits : GoodIn wsL_told wsX7_writeCredits := goodIn_r _ [376, 227, 31, 33, 34, 377, 378, 379, 229, 230, 231, 3, 232, 233, 234, 73, 235, 9, 236, 76, 16, 237, 100, 101, 102, 103, 104, 17, 105, 106, 107, 108, 109, 110, 111, 112, 113, 114, 115, 116, 117, 118, 119, 120, 121, 122, 123, 124, 125, 126, 127, 128, 129, 130, 131, 132, 15, 133, 134, 135, 136, 137, 138, 139, 140, 141, 142, 143, 144, 14, 238, 239, 189, 240, 241, 242, 243, 244, 245, 246, 247, 248, 20, 249, 250, 252, 180, 181, 182, 183, 184, 185, 186, 187, 188, 190, 191, 192, 193, 194, 195, 18, 19, 21, 22, 23, 24, 25, 196, 197, 198, 199, 200, 201, 202, 203, 204, 157, 158, 159, 205, 206, 162, 207, 164, 208, 209, 167, 210, 174, 175, 176, 153, 177, 178, 211, 212, 213, 214, 215, 216, 217, 218, 219, 220, 221, 222, 251, 90, 91, 92, 93, 94, 95, 96, 97, 98, 59, 99, 145, 146, 147, 148, 149, 150, 151, 152, 154, 155, 156, 160, 161, 163, 165, 166, 168, 169, 170, 171, 172, 173, 67, 68, 69, 70, 71, 72, 74, 75, 384, 385, 386, 387, 388, 389, 390, 391, 392, 393, 394, 395, 396, 397, 398, 399, 400, 401, 402, 403, 404, 405, 380, 381, 382, 383] (by decide +kernel) (by decide +kernel)
set_option maxRecDepth 20000 in
theorem gL_told_X7_writeCredits : GoodIn wsL_told (wsV RL 96 RX7 yX7_writeCredits wsX7_writeCredits) := goodIn_app (goodIn_of _ (by decide +kernel)) ggL_told_X7_writeCredits
set_option maxRecDepth 20000 in
theorem ggL_told_J4_toString_0e30d : GoodIn wsL_told wsJ4_toString_0e30d := goodIn_r _ [277, 278, 279, 162, 280, 281, 282, 283, 284, 285, 286, 12, 13, 287, 288, 289, 290, 291, 292, 293, 294, 9, 295, 16, 296, 72, 297, 298, 68, 3, 70, 71, 73, 74, 75, 76, 299, 141, 142, 143, 144, 14, 17, 300, 301, 125, 302, 127, 128, 129, 130, 131, 132, 303, 304, 305, 15, 133, 134, 117, 135, 136, 137, 138, 139, 306, 307, 308, 309, 310, 20, 311, 312, 313, 314, 202, 203, 204, 157, 158, 159, 205, 206, 207, 164, 208, 209, 167, 210, 315, 272, 273, 153, 177, 178, 22, 23, 24, 25, 316, 317, 318, 319, 424, 425, 426, 427, 380, 381, 382, 383] (by decide +kernel) (by decide +kernel)
set_option maxRecDepth 20000 in
theorem gL_told_J4_toString_0e30d : GoodIn wsL_told (wsV RL 76 RJ4 yJ4_toString_0e30d wsJ4_toString_0e30d) := goodIn_app (goodIn_of _ (by decide +kernel)) ggL_told_J4_toString_0e30d
theorem dL_told_0 : decode cL_told 0 = .ok (.new 67, 3) := by decide +kernel
theorem dL_told_3 : decode cL_told 3 = .ok (.dup, 1) := by decide +kernel
theorem dL_told_4 : decode cL_told 4 = .ok (.invokespecial 69, 3) := by decide +kernel
theorem dL_told_7 : decode cL_told 7 = .ok (.astore_n 1, 1) := by decide +kernel
theorem dL_told_8 : decode cL_told 8 = .ok (.iconst 0, 1) := by decide +kernel
theorem dL_told_9 : decode cL_told 9 = .ok (.istore_n 2, 1) := by decide +kernel
theorem dL_told_10 : decode cL_told 10 = .ok (.iload_n 2, 1) := by decide +kernel
theorem dL_told_11 : decode cL_told 11 = .ok (.bipush 14, 2) := by decide +kernel
theorem dL_told_13 : decode cL_told 13 = .ok (.if_icmp .ge 24, 3) := by decide +kernel
theorem dL_told_16 : decode cL_told 16 = .ok (.aload_n 1, 1) := by decide +kernel
theorem dL_told_17 : decode cL_told 17 = .ok (.aload_n 0, 1) := by decide +kernel
theorem dL_told_18 : decode cL_told 18 = .ok (.iload_n 2, 1) := by decide +kernel
theorem dL_told_19 : decode cL_told 19 = .ok (.invokevirtual 49, 3) := by decide +kernel
theorem dL_told_22 : decode cL_told 22 = .ok (.invokevirtual 80, 3) := by decide +kernel
theorem dL_told_25 : decode cL_told 25 = .ok (.bipush 44, 2) := by decide +kernel
theorem dL_told_27 : decode cL_told 27 = .ok (.invokevirtual 73, 3) := by decide +kernel
theorem dL_told_30 : decode cL_told 30 = .ok (.pop, 1) := by decide +kernel
theorem dL_told_31 : decode cL_told 31 = .ok (.iinc 2 1, 3) := by decide +kernel
theorem dL_told_34 : decode cL_told 34 = .ok (.goto (-24), 3) := by decide +kernel
theorem dL_told_37 : decode cL_told 37 = .ok (.iconst 0, 1) := by decide +kernel
theorem dL_told_38 : decode cL_told 38 = .ok (.istore_n 2, 1) := by decide +kernel
theorem dL_told_39 : decode cL_told 39 = .ok (.iload_n 2, 1) := by decide +kernel
theorem dL_told_40 : decode cL_told 40 = .ok (.iconst 5, 1) := by decide +kernel
theorem dL_told_41 : decode cL_told 41 = .ok (.if_icmp .ge 61, 3) := by decide +kernel
theorem dL_told_44 : decode cL_told 44 = .ok (.aload_n 1, 1) := by decide +kernel
theorem dL_told_45 : decode cL_told 45 = .ok (.aload_n 0, 1) := by decide +kernel
theorem dL_told_46 : decode cL_told 46 = .ok (.aload_n 0, 1) := by decide +kernel
theorem dL_told_47 : decode cL_told 47 = .ok (.iload_n 2, 1) := by decide +kernel
theorem dL_told_48 : decode cL_told 48 = .ok (.invokevirtual 83, 3) := by decide +kernel
theorem dL_told_51 : decode cL_told 51 = .ok (.invokestatic 86, 3) := by decide +kernel
theorem dL_told_54 : decode cL_told 54 = .ok (.invokevirtual 90, 3) := by decide +kernel
theorem dL_told_57 : decode cL_told 57 = .ok (.bipush 47, 2) := by decide +kernel
theorem dL_told_59 : decode cL_told 59 = .ok (.invokevirtual 73, 3) := by decide +kernel
theorem dL_told_62 : decode cL_told 62 = .ok (.pop, 1) := by decide +kernel
theorem dL_told_63 : decode cL_told 63 = .ok (.iconst 0, 1) := by decide +kernel
theorem dL_told_64 : decode cL_told 64 = .ok (.istore_n 3, 1) := by decide +kernel
theorem dL_told_65 : decode cL_told 65 = .ok (.iload_n 3, 1) := by decide +kernel
theorem dL_told_66 : decode cL_told 66 = .ok (.iconst 5, 1) := by decide +kernel
theorem dL_told_67 : decode cL_told 67 = .ok (.if_icmp .ge 29, 3) := by decide +kernel
theorem dL_told_70 : decode cL_told 70 = .ok (.aload_n 1, 1) := by decide +kernel
theorem dL_told_71 : decode cL_told 71 = .ok (.aload_n 0, 1) := by decide +kernel
theorem dL_told_72 : decode cL_told 72 = .ok (.iload_n 2, 1) := by decide +kernel
theorem dL_told_73 : decode cL_told 73 = .ok (.iload_n 3, 1) := by decide +kernel
theorem dL_told_74 : decode cL_told 74 = .ok (.invokevirtual 93, 3) := by decide +kernel
theorem dL_told_77 : decode cL_told 77 = .ok (.iconst 1, 1) := by decide +kernel
theorem dL_told_78 : decode cL_told 78 = .ok (.if_icmp .ne 7, 3) := by decide +kernel
theorem dL_told_81 : decode cL_told 81 = .ok (.iconst 1, 1) := by decide +kernel
theorem dL_told_82 : decode cL_told 82 = .ok (.goto 4, 3) := by decide +kernel
theorem dL_told_85 : decode cL_told 85 = .ok (.iconst 0, 1) := by decide +kernel
theorem dL_told_86 : decode cL_told 86 = .ok (.invokevirtual 80, 3) := by decide +kernel
theorem dL_told_89 : decode cL_told 89 = .ok (.pop, 1) := by decide +kernel
theorem dL_told_90 : decode cL_told 90 = .ok (.iinc 3 1, 3) := by decide +kernel
theorem dL_told_93 : decode cL_told 93 = .ok (.goto (-28), 3) := by decide +kernel
theorem dL_told_96 : decode cL_told 96 = .ok (.iinc 2 1, 3) := by decide +kernel
theorem dL_told_99 : decode cL_told 99 = .ok (.goto (-60), 3) := by decide +kernel
theorem dL_told_102 : decode cL_told 102 = .ok (.aload_n 1, 1) := by decide +kernel
theorem dL_told_103 : decode cL_told 103 = .ok (.aload_n 0, 1) := by decide +kernel
theorem dL_told_104 : decode cL_told 104 = .ok (.aload_n 0, 1) := by decide +kernel
theorem dL_told_105 : decode cL_told 105 = .ok (.invokevirtual 96, 3) := by decide +kernel
theorem dL_told_108 : decode cL_told 108 = .ok (.invokestatic 86, 3) := by decide +kernel
theorem dL_told_111 : decode cL_told 111 = .ok (.invokevirtual 90, 3) := by decide +kernel
theorem dL_told_114 : decode cL_told 114 = .ok (.invokevirtual 76, 3) := by decide +kernel
theorem dL_told_117 : decode cL_told 117 = .ok (.areturn, 1) := by decide +kernel
