set_option maxRecDepth 20000 in
theorem ggL_acts_L_some : GoodIn wsL_acts wsL_some := goodIn_r _ [4, 5, 6, 7, 8, 9, 10, 11, 12, 13, 14, 15, 288] (by decide +kernel) (by decide +kernel)
set_option maxRecDepth 20000 in
theorem gL_acts_L_some : GoodIn wsL_acts (va_wsS RL 35 yL_some wsL_some) := goodIn_app (goodIn_of _ (by decide +kernel)) ggL_acts_L_some
set_option maxRecDepth 20000 in
theorem ggL_acts_X8_next : GoodIn wsL_acts wsX8_next := goodIn_r _ [13, 14, 15, 288] (by decide +kernel) (by decide +kernel)
set_option maxRecDepth 20000 in
theorem gL_acts_X8_next : GoodIn wsL_acts (wsV RL 23 RX8 yX8_next wsX8_next) := goodIn_app (goodIn_of _ (by decide +kernel)) ggL_acts_X8_next
set_option maxRecDepth 20000 in
theorem ggL_acts_X7_treaty : GoodIn wsL_acts wsX7_treaty := goodIn_r _ [20, 21, 22, 23, 19, 24, 25, 26, 27, 28, 29, 30, 31, 32, 33, 34, 35, 36, 37, 38, 39, 40, 41, 42, 43, 44, 45, 46, 47, 48, 49, 50, 51, 52, 53, 54, 55, 56, 57, 58, 59, 60, 61, 62, 63, 64, 65, 66, 67, 68, 69, 70, 71, 72, 73, 74, 75, 76, 77, 78, 79, 80, 81, 82, 83, 84, 85, 86, 87, 88, 89, 90, 91, 92, 93, 94, 95, 96, 97, 98, 99, 100, 101, 102, 103, 104, 105, 106, 107, 108, 109, 110, 111, 112, 113, 114, 115, 116, 117, 118, 119, 120, 121, 122, 123, 124, 125, 126, 127, 128, 129, 130, 131, 132, 133, 134, 135, 136, 137, 138, 139, 140, 141, 142, 143, 144, 145, 146, 147, 148, 149, 150, 151, 152, 153, 154, 155, 156, 157, 158, 159, 160, 161, 162, 163, 164, 165, 166, 167, 168, 169, 170, 171, 172, 173, 174, 7, 175, 176, 177, 178, 179, 180, 181, 182, 183, 184, 185, 186, 6, 8, 187, 188, 189, 190, 191, 192, 193, 194, 195, 196, 197, 198, 199, 200, 201, 202, 203, 204, 205, 206, 207, 208, 209, 210, 211, 212, 213, 214, 215, 216, 217, 218, 219, 220, 221, 222, 223, 224, 225, 226, 227, 228, 229, 230, 231, 232, 233, 234, 235, 289, 290, 291, 292, 293, 294, 295, 296, 297, 298, 299, 300, 301, 302, 303, 304, 305, 306, 307, 308, 309, 310, 311, 312, 313, 314, 315, 316, 317, 318, 319, 320, 321, 322, 323, 324, 325, 326, 327] (by decide +kernel) (by decide +kernel)
set_option maxRecDepth 20000 in
theorem gL_acts_X7_treaty : GoodIn wsL_acts (wsV RL 41 RX7 yX7_treaty wsX7_treaty) := goodIn_app (goodIn_of _ (by decide +kernel)) ggL_acts_X7_treaty
set_option maxRecDepth 20000 in
theorem ggL_acts_X7_credit : GoodIn wsL_acts wsX7_credit := goodIn_r _ [239, 21, 22, 23, 19, 24, 25, 26, 27, 28, 29, 30, 31, 32, 33, 34, 35, 36, 37, 38, 39, 40, 41, 42, 43, 44, 45, 46, 47, 48, 49, 50, 51, 52, 53, 54, 55, 56, 57, 58, 59, 60, 61, 62, 63, 64, 65, 66, 67, 68, 69, 70, 71, 72, 73, 74, 75, 76, 77, 78, 79, 80, 81, 82, 83, 84, 85, 86, 87, 88, 89, 90, 91, 92, 93, 94, 95, 96, 97, 98, 99, 100, 101, 102, 103, 104, 105, 106, 107, 108, 109, 110, 111, 112, 113, 114, 115, 116, 117, 118, 119, 120, 121, 122, 123, 124, 125, 126, 127, 128, 129, 130, 131, 132, 133, 134, 135, 136, 137, 138, 139, 140, 141, 142, 143, 144, 145, 146, 147, 148, 149, 150, 151, 152, 153, 154, 155, 156, 157, 158, 159, 160, 161, 162, 163, 164, 165, 166, 167, 168, 169, 170, 171, 172, 173, 174, 7, 175, 176, 177, 178, 179, 180, 181, 182, 183, 184, 185, 186, 6, 8, 187, 188, 189, 190, 191, 192, 193, 194, 195, 196, 197, 198, 199, 200, 201, 202, 203, 204, 205, 206, 207, 208, 209, 210, 211, 212, 213, 214, 215, 216, 217, 218, 219, 220, 221, 222, 223, 224, 225, 226, 227, 228, 229, 230, 231, 232, 233, 234, 235, 289, 290, 291, 292, 293, 294, 295, 296, 297, 298, 299, 300, 301, 302, 303, 304, 305, 306, 307, 308, 309, 310, 311, 312, 313, 314, 315, 316, 317, 318, 319, 320, 321, 322, 323, 324, 325, 326, 327] (by decide +kernel) (by decide +kernel)
set_option maxRecDepth 20000 in
theorem gL_acts_X7_credit : GoodIn wsL_acts (wsV RL 45 RX7 yX7_credit wsX7_credit) := goodIn_app (goodIn_of _ (by decide +kernel)) ggL_acts_X7_credit
set_option maxRecDepth 20000 in
theorem ggL_acts_X7_account : GoodIn wsL_acts wsX7_account := goodIn_r _ [243, 26, 244, 125, 126, 84, 127, 245, 124, 185, 246, 247, 27, 248, 149, 105, 106, 107, 48, 108, 109, 110, 111, 112, 50, 86, 19, 87, 113, 114, 115, 116, 117, 118, 119, 249, 250, 251, 252, 253, 254, 255, 256, 257, 258, 259, 260, 261, 262, 263, 264, 265, 266, 65, 267, 67, 68, 70, 71, 72, 73, 74, 289, 290, 291, 292, 293, 294, 295, 296, 297, 298, 299, 300, 301, 302, 303, 304, 305, 306, 309, 310, 311, 312, 328, 329, 330, 331, 332, 325, 326, 327, 307, 308, 333, 334, 335, 336, 313, 314, 315, 316, 317, 318, 319, 320] (by decide +kernel) (by decide +kernel)
set_option maxRecDepth 20000 in
theorem gL_acts_X7_account : GoodIn wsL_acts (wsV RL 49 RX7 yX7_account wsX7_account) := goodIn_app (goodIn_of _ (by decide +kernel)) ggL_acts_X7_account
set_option maxRecDepth 20000 in
theorem ggL_acts_X7_repay : GoodIn wsL_acts wsX7_repay := goodIn_r _ [271, 21, 22, 23, 19, 24, 25, 26, 27, 28, 29, 30, 31, 32, 33, 34, 35, 36, 37, 38, 39, 40, 41, 42, 43, 44, 45, 46, 47, 48, 49, 50, 51, 52, 53, 54, 55, 56, 57, 58, 59, 60, 61, 62, 63, 64, 65, 66, 67, 68, 69, 70, 71, 72, 73, 74, 75, 76, 77, 78, 79, 80, 81, 82, 83, 84, 85, 86, 87, 88, 89, 90, 91, 92, 93, 94, 95, 96, 97, 98, 99, 100, 101, 102, 103, 104, 105, 106, 107, 108, 109, 110, 111, 112, 113, 114, 115, 116, 117, 118, 119, 120, 121, 122, 123, 124, 125, 126, 127, 128, 129, 130, 131, 132, 133, 134, 135, 136, 137, 138, 139, 140, 141, 142, 143, 144, 145, 146, 147, 148, 149, 150, 151, 152, 153, 154, 155, 156, 157, 158, 159, 160, 161, 162, 163, 164, 165, 166, 167, 168, 169, 170, 171, 172, 173, 174, 7, 175, 176, 177, 178, 179, 180, 181, 182, 183, 184, 185, 186, 6, 8, 187, 188, 189, 190, 191, 192, 193, 194, 195, 196, 197, 198, 199, 200, 201, 202, 203, 204, 205, 206, 207, 208, 209, 210, 211, 212, 213, 214, 215, 216, 217, 218, 219, 220, 221, 222, 223, 224, 225, 226, 227, 228, 229, 230, 231, 232, 233, 234, 235, 289, 290, 291, 292, 293, 294, 295, 296, 297, 298, 299, 300, 301, 302, 303, 304, 305, 306, 307, 308, 309, 310, 311, 312, 313, 314, 315, 316, 317, 318, 319, 320, 321, 322, 323, 324, 325, 326, 327] (by decide +kernel) (by decide +kernel)
set_option maxRecDepth 20000 in
theorem gL_acts_X7_repay : GoodIn wsL_acts (wsV RL 52 RX7 yX7_repay wsX7_repay) := goodIn_app (goodIn_of _ (by decide +kernel)) ggL_acts_X7_repay
set_option maxRecDepth 20000 in
theorem ggL_acts_X7_rain : GoodIn wsL_acts wsX7_rain := goodIn_r _ [275, 21, 22, 23, 19, 24, 25, 26, 27, 28, 29, 30, 31, 32, 33, 34, 35, 36, 37, 38, 39, 40, 41, 42, 43, 44, 45, 46, 47, 48, 49, 50, 51, 52, 53, 54, 55, 56, 57, 58, 59, 60, 61, 62, 63, 64, 65, 66, 67, 68, 69, 70, 71, 72, 73, 74, 75, 76, 77, 78, 79, 80, 81, 82, 83, 84, 85, 86, 87, 88, 89, 90, 91, 92, 93, 94, 95, 96, 97, 98, 99, 100, 101, 102, 103, 104, 105, 106, 107, 108, 109, 110, 111, 112, 113, 114, 115, 116, 117, 118, 119, 120, 121, 122, 123, 124, 125, 126, 127, 128, 129, 130, 131, 132, 133, 134, 135, 136, 137, 138, 139, 140, 141, 142, 143, 144, 145, 146, 147, 148, 149, 150, 151, 152, 153, 154, 155, 156, 157, 158, 159, 160, 161, 162, 163, 164, 165, 166, 167, 168, 169, 170, 171, 172, 173, 174, 7, 175, 176, 177, 178, 179, 180, 181, 182, 183, 184, 185, 186, 6, 8, 187, 188, 189, 190, 191, 192, 193, 194, 195, 196, 197, 198, 199, 200, 201, 202, 203, 204, 205, 206, 207, 208, 209, 210, 211, 212, 213, 214, 215, 216, 217, 218, 219, 220, 221, 222, 223, 224, 225, 226, 227, 228, 229, 230, 231, 232, 233, 234, 235, 289, 290, 291, 292, 293, 294, 295, 296, 297, 298, 299, 300, 301, 302, 303, 304, 305, 306, 307, 308, 309, 310, 311, 312, 313, 314, 315, 316, 317, 318, 319, 320, 321, 322, 323, 324, 325, 326, 327] (by decide +kernel) (by decide +kernel)
set_option maxRecDepth 20000 in
theorem gL_acts_X7_rain : GoodIn wsL_acts (wsV RL 55 RX7 yX7_rain wsX7_rain) := goodIn_app (goodIn_of _ (by decide +kernel)) ggL_acts_X7_rain
set_option maxRecDepth 20000 in
theorem ggL_acts_X7_bail : GoodIn wsL_acts wsX7_bail := goodIn_r _ [279, 21, 22, 23, 19, 24, 25, 26, 27, 28, 29, 30, 31, 32, 33, 34, 35, 36, 37, 38, 39, 40, 41, 42, 43, 44, 45, 46, 47, 48, 49, 50, 51, 52, 53, 54, 55, 56, 57, 58, 59, 60, 61, 62, 63, 64, 65, 66, 67, 68, 69, 70, 71, 72, 73, 74, 75, 76, 77, 78, 79, 80, 81, 82, 83, 84, 85, 86, 87, 88, 89, 90, 91, 92, 93, 94, 95, 96, 97, 98, 99, 100, 101, 102, 103, 104, 105, 106, 107, 108, 109, 110, 111, 112, 113, 114, 115, 116, 117, 118, 119, 120, 121, 122, 123, 124, 125, 126, 127, 128, 129, 130, 131, 132, 133, 134, 135, 136, 137, 138, 139, 140, 141, 142, 143, 144, 145, 146, 147, 148, 149, 150, 151, 152, 153, 154, 155, 156, 157, 158, 159, 160, 161, 162, 163, 164, 165, 166, 167, 168, 169, 170, 171, 172, 173, 174, 7, 175, 176, 177, 178, 179, 180, 181, 182, 183, 184, 185, 186, 6, 8, 187, 188, 189, 190, 191, 192, 193, 194, 195, 196, 197, 198, 199, 200, 201, 202, 203, 204, 205, 206, 207, 208, 209, 210, 211, 212, 213, 214, 215, 216, 217, 218, 219, 220, 221, 222, 223, 224, 225, 226, 227, 228, 229, 230, 231, 232, 233, 234, 235, 289, 290, 291, 292, 293, 294, 295, 296, 297, 298, 299, 300, 301, 302, 303, 304, 305, 306, 307, 308, 309, 310, 311, 312, 313, 314, 315, 316, 317, 318, 319, 320, 321, 322, 323, 324, 325, 326, 327] (by decide +kernel) (by decide +kernel)
set_option maxRecDepth 20000 in
theorem gL_acts_X7_bail : GoodIn wsL_acts (wsV RL 58 RX7 yX7_bail wsX7_bail) := goodIn_app (goodIn_of _ (by decide +kernel)) ggL_acts_X7_bail
set_option maxRecDepth 20000 in
theorem ggL_acts_X7_buy : GoodIn wsL_acts wsX7_buy := goodIn_r _ [283, 21, 22, 23, 19, 24, 25, 26, 27, 28, 29, 30, 31, 32, 33, 34, 35, 36, 37, 38, 39, 40, 41, 42, 43, 44, 45, 46, 47, 48, 49, 50, 51, 52, 53, 54, 55, 56, 57, 58, 59, 60, 61, 62, 63, 64, 65, 66, 67, 68, 69, 70, 71, 72, 73, 74, 75, 76, 77, 78, 79, 80, 81, 82, 83, 84, 85, 86, 87, 88, 89, 90, 91, 92, 93, 94, 95, 96, 97, 98, 99, 100, 101, 102, 103, 104, 105, 106, 107, 108, 109, 110, 111, 112, 113, 114, 115, 116, 117, 118, 119, 120, 121, 122, 123, 124, 125, 126, 127, 128, 129, 130, 131, 132, 133, 134, 135, 136, 137, 138, 139, 140, 141, 142, 143, 144, 145, 146, 147, 148, 149, 150, 151, 152, 153, 154, 155, 156, 157, 158, 159, 160, 161, 162, 163, 164, 165, 166, 167, 168, 169, 170, 171, 172, 173, 174, 7, 175, 176, 177, 178, 179, 180, 181, 182, 183, 184, 185, 186, 6, 8, 187, 188, 189, 190, 191, 192, 193, 194, 195, 196, 197, 198, 199, 200, 201, 202, 203, 204, 205, 206, 207, 208, 209, 210, 211, 212, 213, 214, 215, 216, 217, 218, 219, 220, 221, 222, 223, 224, 225, 226, 227, 228, 229, 230, 231, 232, 233, 234, 235, 289, 290, 291, 292, 293, 294, 295, 296, 297, 298, 299, 300, 301, 302, 303, 304, 305, 306, 307, 308, 309, 310, 311, 312, 313, 314, 315, 316, 317, 318, 319, 320, 321, 322, 323, 324, 325, 326, 327] (by decide +kernel) (by decide +kernel)
set_option maxRecDepth 20000 in
theorem gL_acts_X7_buy : GoodIn wsL_acts (wsV RL 61 RX7 yX7_buy wsX7_buy) := goodIn_app (goodIn_of _ (by decide +kernel)) ggL_acts_X7_buy
set_option maxRecDepth 20000 in
theorem ggL_acts_X7_month : GoodIn wsL_acts wsX7_month := goodIn_r _ [287, 21, 22, 23, 19, 24, 25, 26, 27, 28, 29, 30, 31, 32, 33, 34, 35, 36, 37, 38, 39, 40, 41, 42, 43, 44, 45, 46, 47, 48, 49, 50, 51, 52, 53, 54, 55, 56, 57, 58, 59, 60, 61, 62, 63, 64, 65, 66, 67, 68, 69, 70, 71, 72, 73, 74, 75, 76, 77, 78, 79, 80, 81, 82, 83, 84, 85, 86, 87, 88, 89, 90, 91, 92, 93, 94, 95, 96, 97, 98, 99, 100, 101, 102, 103, 104, 105, 106, 107, 108, 109, 110, 111, 112, 113, 114, 115, 116, 117, 118, 119, 120, 121, 122, 123, 124, 125, 126, 127, 128, 129, 130, 131, 132, 133, 134, 135, 136, 137, 138, 139, 140, 141, 142, 143, 144, 145, 146, 147, 148, 149, 150, 151, 152, 153, 154, 155, 156, 157, 158, 159, 160, 161, 162, 163, 164, 165, 166, 167, 168, 169, 170, 171, 172, 173, 174, 7, 175, 176, 177, 178, 179, 180, 181, 182, 183, 184, 185, 186, 6, 8, 187, 188, 189, 190, 191, 192, 193, 194, 195, 196, 197, 198, 199, 200, 201, 202, 203, 204, 205, 206, 207, 208, 209, 210, 211, 212, 213, 214, 215, 216, 217, 218, 219, 220, 221, 222, 223, 224, 225, 226, 227, 228, 229, 230, 231, 232, 233, 234, 235, 289, 290, 291, 292, 293, 294, 295, 296, 297, 298, 299, 300, 301, 302, 303, 304, 305, 306, 307, 308, 309, 310, 311, 312, 313, 314, 315, 316, 317, 318, 319, 320, 321, 322, 323, 324, 325, 326, 327] (by decide +kernel) (by decide +kernel)
set_option maxRecDepth 20000 in
theorem gL_acts_X7_month : GoodIn wsL_acts (wsV RL 64 RX7 yX7_month wsX7_month) := goodIn_app (goodIn_of _ (by decide +kernel)) ggL_acts_X7_month
theorem dL_acts_0 : decode cL_acts 0 = .ok (.aload_n 2, 1) := by decide +kernel
theorem dL_acts_1 : decode cL_acts 1 = .ok (.iconst 5, 1) := by decide +kernel
theorem dL_acts_2 : decode cL_acts 2 = .ok (.invokestatic 35, 3) := by decide +kernel
theorem dL_acts_5 : decode cL_acts 5 = .ok (.istore_n 3, 1) := by decide +kernel
theorem dL_acts_6 : decode cL_acts 6 = .ok (.iload_n 1, 1) := by decide +kernel
theorem dL_acts_7 : decode cL_acts 7 = .ok (.bipush 28, 2) := by decide +kernel
theorem dL_acts_9 : decode cL_acts 9 = .ok (.irem, 1) := by decide +kernel
theorem dL_acts_10 : decode cL_acts 10 = .ok (.tableswitch 258 0 20 #[98, 98, 98, 98, 122, 122, 122, 122, 122, 122, 122, 184, 184, 198, 198, 225, 225, 225, 252, 252, 252], 98) := by decide +kernel
theorem dL_acts_108 : decode cL_acts 108 = .ok (.aload_n 0, 1) := by decide +kernel
theorem dL_acts_109 : decode cL_acts 109 = .ok (.iload_n 3, 1) := by decide +kernel
theorem dL_acts_110 : decode cL_acts 110 = .ok (.aload_n 2, 1) := by decide +kernel
theorem dL_acts_111 : decode cL_acts 111 = .ok (.iconst 5, 1) := by decide +kernel
theorem dL_acts_112 : decode cL_acts 112 = .ok (.invokestatic 35, 3) := by decide +kernel
theorem dL_acts_115 : decode cL_acts 115 = .ok (.aload_n 2, 1) := by decide +kernel
theorem dL_acts_116 : decode cL_acts 116 = .ok (.iconst 4, 1) := by decide +kernel
theorem dL_acts_117 : decode cL_acts 117 = .ok (.invokevirtual 23, 3) := by decide +kernel
theorem dL_acts_120 : decode cL_acts 120 = .ok (.ifCond .le 7, 3) := by decide +kernel
theorem dL_acts_123 : decode cL_acts 123 = .ok (.iconst 1, 1) := by decide +kernel
theorem dL_acts_124 : decode cL_acts 124 = .ok (.goto 4, 3) := by decide +kernel
theorem dL_acts_127 : decode cL_acts 127 = .ok (.iconst 0, 1) := by decide +kernel
theorem dL_acts_128 : decode cL_acts 128 = .ok (.invokevirtual 41, 3) := by decide +kernel
theorem dL_acts_131 : decode cL_acts 131 = .ok (.ireturn, 1) := by decide +kernel
theorem dL_acts_132 : decode cL_acts 132 = .ok (.aload_n 0, 1) := by decide +kernel
theorem dL_acts_133 : decode cL_acts 133 = .ok (.iload_n 3, 1) := by decide +kernel
theorem dL_acts_134 : decode cL_acts 134 = .ok (.aload_n 2, 1) := by decide +kernel
theorem dL_acts_135 : decode cL_acts 135 = .ok (.bipush 20, 2) := by decide +kernel
theorem dL_acts_137 : decode cL_acts 137 = .ok (.invokevirtual 23, 3) := by decide +kernel
theorem dL_acts_140 : decode cL_acts 140 = .ok (.ifCond .ne 8, 3) := by decide +kernel
theorem dL_acts_143 : decode cL_acts 143 = .ok (.bipush 21, 2) := by decide +kernel
theorem dL_acts_145 : decode cL_acts 145 = .ok (.goto 11, 3) := by decide +kernel
theorem dL_acts_148 : decode cL_acts 148 = .ok (.iconst 1, 1) := by decide +kernel
theorem dL_acts_149 : decode cL_acts 149 = .ok (.aload_n 2, 1) := by decide +kernel
theorem dL_acts_150 : decode cL_acts 150 = .ok (.bipush 20, 2) := by decide +kernel
theorem dL_acts_152 : decode cL_acts 152 = .ok (.invokevirtual 23, 3) := by decide +kernel
theorem dL_acts_155 : decode cL_acts 155 = .ok (.iadd, 1) := by decide +kernel
theorem dL_acts_156 : decode cL_acts 156 = .ok (.aload_n 2, 1) := by decide +kernel
theorem dL_acts_157 : decode cL_acts 157 = .ok (.bipush 20, 2) := by decide +kernel
theorem dL_acts_159 : decode cL_acts 159 = .ok (.invokevirtual 23, 3) := by decide +kernel
theorem dL_acts_162 : decode cL_acts 162 = .ok (.ifCond .ne 8, 3) := by decide +kernel
theorem dL_acts_165 : decode cL_acts 165 = .ok (.bipush 7, 2) := by decide +kernel
theorem dL_acts_167 : decode cL_acts 167 = .ok (.goto 23, 3) := by decide +kernel
theorem dL_acts_170 : decode cL_acts 170 = .ok (.iconst 1, 1) := by decide +kernel
theorem dL_acts_171 : decode cL_acts 171 = .ok (.aload_n 2, 1) := by decide +kernel
theorem dL_acts_172 : decode cL_acts 172 = .ok (.aload_n 2, 1) := by decide +kernel
theorem dL_acts_173 : decode cL_acts 173 = .ok (.iconst 2, 1) := by decide +kernel
theorem dL_acts_174 : decode cL_acts 174 = .ok (.invokevirtual 23, 3) := by decide +kernel
theorem dL_acts_177 : decode cL_acts 177 = .ok (.ifCond .ne 8, 3) := by decide +kernel
theorem dL_acts_180 : decode cL_acts 180 = .ok (.bipush 6, 2) := by decide +kernel
theorem dL_acts_182 : decode cL_acts 182 = .ok (.goto 4, 3) := by decide +kernel
theorem dL_acts_185 : decode cL_acts 185 = .ok (.iconst 2, 1) := by decide +kernel
theorem dL_acts_186 : decode cL_acts 186 = .ok (.invokevirtual 23, 3) := by decide +kernel
theorem dL_acts_189 : decode cL_acts 189 = .ok (.iadd, 1) := by decide +kernel
theorem dL_acts_190 : decode cL_acts 190 = .ok (.invokevirtual 45, 3) := by decide +kernel
theorem dL_acts_193 : decode cL_acts 193 = .ok (.ireturn, 1) := by decide +kernel
theorem dL_acts_194 : decode cL_acts 194 = .ok (.aload_n 0, 1) := by decide +kernel
theorem dL_acts_195 : decode cL_acts 195 = .ok (.aload_n 2, 1) := by decide +kernel
theorem dL_acts_196 : decode cL_acts 196 = .ok (.aload_n 0, 1) := by decide +kernel
theorem dL_acts_197 : decode cL_acts 197 = .ok (.iconst 1, 1) := by decide +kernel
theorem dL_acts_198 : decode cL_acts 198 = .ok (.invokevirtual 49, 3) := by decide +kernel
theorem dL_acts_201 : decode cL_acts 201 = .ok (.invokestatic 35, 3) := by decide +kernel
theorem dL_acts_204 : decode cL_acts 204 = .ok (.invokevirtual 52, 3) := by decide +kernel
theorem dL_acts_207 : decode cL_acts 207 = .ok (.ireturn, 1) := by decide +kernel
theorem dL_acts_208 : decode cL_acts 208 = .ok (.aload_n 0, 1) := by decide +kernel
theorem dL_acts_209 : decode cL_acts 209 = .ok (.iload_n 3, 1) := by decide +kernel
theorem dL_acts_210 : decode cL_acts 210 = .ok (.aload_n 2, 1) := by decide +kernel
theorem dL_acts_211 : decode cL_acts 211 = .ok (.bipush 20, 2) := by decide +kernel
theorem dL_acts_213 : decode cL_acts 213 = .ok (.invokevirtual 23, 3) := by decide +kernel
theorem dL_acts_216 : decode cL_acts 216 = .ok (.ifCond .ne 7, 3) := by decide +kernel
theorem dL_acts_219 : decode cL_acts 219 = .ok (.iconst 0, 1) := by decide +kernel
theorem dL_acts_220 : decode cL_acts 220 = .ok (.goto 11, 3) := by decide +kernel
theorem dL_acts_223 : decode cL_acts 223 = .ok (.iconst 1, 1) := by decide +kernel
theorem dL_acts_224 : decode cL_acts 224 = .ok (.aload_n 2, 1) := by decide +kernel
theorem dL_acts_225 : decode cL_acts 225 = .ok (.bipush 20, 2) := by decide +kernel
theorem dL_acts_227 : decode cL_acts 227 = .ok (.invokevirtual 23, 3) := by decide +kernel
theorem dL_acts_230 : decode cL_acts 230 = .ok (.iadd, 1) := by decide +kernel
theorem dL_acts_231 : decode cL_acts 231 = .ok (.invokevirtual 55, 3) := by decide +kernel
theorem dL_acts_234 : decode cL_acts 234 = .ok (.ireturn, 1) := by decide +kernel
theorem dL_acts_235 : decode cL_acts 235 = .ok (.aload_n 0, 1) := by decide +kernel
theorem dL_acts_236 : decode cL_acts 236 = .ok (.iload_n 3, 1) := by decide +kernel
theorem dL_acts_237 : decode cL_acts 237 = .ok (.aload_n 2, 1) := by decide +kernel
theorem dL_acts_238 : decode cL_acts 238 = .ok (.bipush 20, 2) := by decide +kernel
theorem dL_acts_240 : decode cL_acts 240 = .ok (.invokevirtual 23, 3) := by decide +kernel
theorem dL_acts_243 : decode cL_acts 243 = .ok (.ifCond .ne 8, 3) := by decide +kernel
theorem dL_acts_246 : decode cL_acts 246 = .ok (.bipush 10, 2) := by decide +kernel
theorem dL_acts_248 : decode cL_acts 248 = .ok (.goto 10, 3) := by decide +kernel
theorem dL_acts_251 : decode cL_acts 251 = .ok (.iconst 1, 1) := by decide +kernel
theorem dL_acts_252 : decode cL_acts 252 = .ok (.aload_n 2, 1) := by decide +kernel
theorem dL_acts_253 : decode cL_acts 253 = .ok (.iconst 3, 1) := by decide +kernel
theorem dL_acts_254 : decode cL_acts 254 = .ok (.invokevirtual 23, 3) := by decide +kernel
theorem dL_acts_257 : decode cL_acts 257 = .ok (.iadd, 1) := by decide +kernel
theorem dL_acts_258 : decode cL_acts 258 = .ok (.invokevirtual 58, 3) := by decide +kernel
theorem dL_acts_261 : decode cL_acts 261 = .ok (.ireturn, 1) := by decide +kernel
theorem dL_acts_262 : decode cL_acts 262 = .ok (.aload_n 0, 1) := by decide +kernel
theorem dL_acts_263 : decode cL_acts 263 = .ok (.iload_n 3, 1) := by decide +kernel
theorem dL_acts_264 : decode cL_acts 264 = .ok (.invokevirtual 61, 3) := by decide +kernel
theorem dL_acts_267 : decode cL_acts 267 = .ok (.ireturn, 1) := by decide +kernel
theorem dL_acts_268 : decode cL_acts 268 = .ok (.aload_n 0, 1) := by decide +kernel
theorem dL_acts_269 : decode cL_acts 269 = .ok (.invokevirtual 64, 3) := by decide +kernel
theorem dL_acts_272 : decode cL_acts 272 = .ok (.ireturn, 1) := by decide +kernel
