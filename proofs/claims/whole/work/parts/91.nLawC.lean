/-! THE LAW: words of its calls -/
set_option maxRecDepth 20000 in
theorem ggL_law_X7_init : GoodIn wsL_law wsX7_init := goodIn_r _ [8, 9, 10, 11, 12, 13, 14, 15, 16, 17, 18, 19, 20, 21, 22, 23, 24, 25, 26, 27, 28, 29, 30, 31, 32, 33, 34, 35, 36, 37, 38, 39, 40, 41, 42, 43, 44, 45, 46, 47, 48, 49, 50, 51, 52, 53, 54, 55, 56, 57, 58, 59, 60, 61, 62, 63, 64, 65, 66, 67, 68, 69, 70, 71, 72, 73, 74, 75, 76, 77, 78, 79, 80, 81, 82, 83, 84, 85, 86, 87, 88, 89, 90, 91, 92, 93, 94, 95, 96, 97, 98, 99, 100, 101, 102, 103, 104, 105, 106, 107, 108, 109, 110, 111, 112, 113, 114, 115, 116, 117, 118, 119, 120, 121, 122, 123, 124, 125, 126, 127, 128, 1124, 1125, 1126, 1127, 1128, 1129, 1130, 1131, 1087, 1088, 1089, 1090, 1091, 1092, 1093, 1094, 1095, 1096, 1132, 1133, 1134, 1135, 1136, 1137, 1138, 1139, 1140, 1141, 1142, 1143, 1144, 1145, 1146, 1147, 1148, 1149, 1150, 1151, 1152, 1153, 1154, 1155, 1156, 1157, 1158, 1159, 1160, 1161] (by decide +kernel) (by decide +kernel)
set_option maxRecDepth 20000 in
theorem gL_law_X7_init : GoodIn wsL_law (wsX7_init) := ggL_law_X7_init
set_option maxRecDepth 20000 in
theorem ggL_law_X8_init : GoodIn wsL_law wsX8_init := goodIn_r _ [131, 132, 10, 11, 133, 42, 134, 135, 136, 137, 138, 139, 140, 141, 142, 143, 144, 145, 146, 147, 5, 148, 1097, 1098, 1099, 1100, 1101, 1102, 1103, 1104, 1105, 1106, 1107, 1108, 1109, 1110, 1111, 1112, 1113, 1114, 1115, 1116, 1117, 1118, 1119, 1120, 1121, 1122, 1123] (by decide +kernel) (by decide +kernel)
set_option maxRecDepth 20000 in
theorem gL_law_X8_init : GoodIn wsL_law (wsX8_init) := ggL_law_X8_init
set_option maxRecDepth 20000 in
theorem ggL_law_X7_treaty : GoodIn wsL_law wsX7_treaty := goodIn_r _ [152, 153, 154, 155, 2, 156, 16, 15, 23, 157, 158, 159, 14, 160, 41, 43, 161, 162, 163, 164, 44, 45, 46, 50, 54, 58, 165, 166, 167, 49, 168, 62, 169, 170, 171, 172, 53, 173, 67, 68, 174, 69, 70, 175, 176, 177, 57, 178, 74, 75, 76, 77, 78, 79, 80, 81, 179, 180, 181, 182, 183, 184, 185, 186, 35, 187, 188, 189, 190, 191, 192, 193, 34, 194, 125, 126, 127, 128, 195, 196, 197, 198, 199, 200, 201, 202, 203, 204, 205, 206, 207, 208, 209, 210, 211, 212, 213, 214, 215, 216, 217, 218, 219, 220, 221, 222, 223, 224, 225, 226, 227, 228, 229, 230, 231, 232, 233, 234, 235, 236, 237, 238, 239, 240, 241, 242, 243, 244, 245, 246, 247, 248, 249, 250, 251, 252, 253, 254, 255, 256, 257, 258, 259, 260, 261, 262, 263, 264, 265, 266, 267, 268, 269, 270, 271, 272, 273, 274, 275, 276, 277, 278, 63, 279, 280, 281, 282, 283, 284, 285, 286, 287, 288, 289, 290, 291, 292, 293, 294, 295, 296, 297, 298, 299, 300, 301, 302, 303, 304, 305, 306, 307, 308, 309, 310, 311, 312, 313, 314, 315, 316, 317, 318, 319, 320, 321, 322, 323, 324, 325, 326, 327, 22, 328, 89, 87, 86, 329, 330, 331, 1087, 1088, 1089, 1090, 1091, 1092, 1093, 1094, 1095, 1096, 1124, 1125, 1126, 1127, 1128, 1129, 1130, 1131, 1148, 1149, 1150, 1151, 1152, 1153, 1154, 1155, 1156, 1157, 1158, 1159, 1160, 1161, 1144, 1145, 1146, 1147, 1132, 1133, 1134] (by decide +kernel) (by decide +kernel)
set_option maxRecDepth 20000 in
theorem gL_law_X7_treaty : GoodIn wsL_law (wsV RL 13 RX7 yX7_treaty wsX7_treaty) := goodIn_app (goodIn_of _ (by decide +kernel)) ggL_law_X7_treaty
set_option maxRecDepth 20000 in
theorem ggL_law_X8_treaty : GoodIn wsL_law wsX8_treaty := goodIn_r _ [335, 336, 337, 338, 5, 339, 340, 135, 134, 341, 342, 343, 344, 345, 346, 347, 348, 349, 350, 351, 352, 353, 354, 355, 356, 357, 358, 359, 360, 361, 362, 363, 364, 365, 366, 367, 368, 369, 370, 371, 372, 373, 374, 375, 376, 377, 138, 1097, 1098, 1099, 1100, 1101, 1102, 1103, 1104, 1105, 1106, 1107, 1108, 1109, 1110, 1111, 1112, 1113, 1114, 1115, 1116, 1117, 1118, 1119, 1120, 1121, 1122, 1123] (by decide +kernel) (by decide +kernel)
set_option maxRecDepth 20000 in
theorem gL_law_X8_treaty : GoodIn wsL_law (wsV RL 17 RX8 yX8_treaty wsX8_treaty) := goodIn_app (goodIn_of _ (by decide +kernel)) ggL_law_X8_treaty
set_option maxRecDepth 20000 in
theorem ggL_law_X7_credit : GoodIn wsL_law wsX7_credit := goodIn_r _ [381, 153, 154, 155, 2, 156, 16, 15, 23, 157, 158, 159, 14, 160, 41, 43, 161, 162, 163, 164, 44, 45, 46, 50, 54, 58, 165, 166, 167, 49, 168, 62, 169, 170, 171, 172, 53, 173, 67, 68, 174, 69, 70, 175, 176, 177, 57, 178, 74, 75, 76, 77, 78, 79, 80, 81, 179, 180, 181, 182, 183, 184, 185, 186, 35, 187, 188, 189, 190, 191, 192, 193, 34, 194, 125, 126, 127, 128, 195, 196, 197, 198, 199, 200, 201, 202, 203, 204, 205, 206, 207, 208, 209, 210, 211, 212, 213, 214, 215, 216, 217, 218, 219, 220, 221, 222, 223, 224, 225, 226, 227, 228, 229, 230, 231, 232, 233, 234, 235, 236, 237, 238, 239, 240, 241, 242, 243, 244, 245, 246, 247, 248, 249, 250, 251, 252, 253, 254, 255, 256, 257, 258, 259, 260, 261, 262, 263, 264, 265, 266, 267, 268, 269, 270, 271, 272, 273, 274, 275, 276, 277, 278, 63, 279, 280, 281, 282, 283, 284, 285, 286, 287, 288, 289, 290, 291, 292, 293, 294, 295, 296, 297, 298, 299, 300, 301, 302, 303, 304, 305, 306, 307, 308, 309, 310, 311, 312, 313, 314, 315, 316, 317, 318, 319, 320, 321, 322, 323, 324, 325, 326, 327, 22, 328, 89, 87, 86, 329, 330, 331, 1087, 1088, 1089, 1090, 1091, 1092, 1093, 1094, 1095, 1096, 1124, 1125, 1126, 1127, 1128, 1129, 1130, 1131, 1148, 1149, 1150, 1151, 1152, 1153, 1154, 1155, 1156, 1157, 1158, 1159, 1160, 1161, 1144, 1145, 1146, 1147, 1132, 1133, 1134] (by decide +kernel) (by decide +kernel)
set_option maxRecDepth 20000 in
theorem gL_law_X7_credit : GoodIn wsL_law (wsV RL 18 RX7 yX7_credit wsX7_credit) := goodIn_app (goodIn_of _ (by decide +kernel)) ggL_law_X7_credit
set_option maxRecDepth 20000 in
theorem ggL_law_X8_credit : GoodIn wsL_law wsX8_credit := goodIn_r _ [385, 336, 337, 338, 5, 339, 340, 135, 134, 341, 342, 343, 386, 387, 388, 389, 348, 349, 350, 351, 352, 353, 354, 355, 356, 357, 146, 147, 148, 358, 359, 360, 361, 362, 363, 364, 390, 391, 392, 373, 374, 375, 376, 377, 138, 1097, 1098, 1099, 1100, 1101, 1102, 1103, 1104, 1105, 1106, 1107, 1108, 1109, 1110, 1111, 1112, 1113, 1114, 1115, 1116, 1117, 1118, 1119, 1120, 1121, 1122, 1123] (by decide +kernel) (by decide +kernel)
set_option maxRecDepth 20000 in
theorem gL_law_X8_credit : GoodIn wsL_law (wsV RL 22 RX8 yX8_credit wsX8_credit) := goodIn_app (goodIn_of _ (by decide +kernel)) ggL_law_X8_credit
set_option maxRecDepth 20000 in
theorem ggL_law_X7_repay : GoodIn wsL_law wsX7_repay := goodIn_r _ [396, 153, 154, 155, 2, 156, 16, 15, 23, 157, 158, 159, 14, 160, 41, 43, 161, 162, 163, 164, 44, 45, 46, 50, 54, 58, 165, 166, 167, 49, 168, 62, 169, 170, 171, 172, 53, 173, 67, 68, 174, 69, 70, 175, 176, 177, 57, 178, 74, 75, 76, 77, 78, 79, 80, 81, 179, 180, 181, 182, 183, 184, 185, 186, 35, 187, 188, 189, 190, 191, 192, 193, 34, 194, 125, 126, 127, 128, 195, 196, 197, 198, 199, 200, 201, 202, 203, 204, 205, 206, 207, 208, 209, 210, 211, 212, 213, 214, 215, 216, 217, 218, 219, 220, 221, 222, 223, 224, 225, 226, 227, 228, 229, 230, 231, 232, 233, 234, 235, 236, 237, 238, 239, 240, 241, 242, 243, 244, 245, 246, 247, 248, 249, 250, 251, 252, 253, 254, 255, 256, 257, 258, 259, 260, 261, 262, 263, 264, 265, 266, 267, 268, 269, 270, 271, 272, 273, 274, 275, 276, 277, 278, 63, 279, 280, 281, 282, 283, 284, 285, 286, 287, 288, 289, 290, 291, 292, 293, 294, 295, 296, 297, 298, 299, 300, 301, 302, 303, 304, 305, 306, 307, 308, 309, 310, 311, 312, 313, 314, 315, 316, 317, 318, 319, 320, 321, 322, 323, 324, 325, 326, 327, 22, 328, 89, 87, 86, 329, 330, 331, 1087, 1088, 1089, 1090, 1091, 1092, 1093, 1094, 1095, 1096, 1124, 1125, 1126, 1127, 1128, 1129, 1130, 1131, 1148, 1149, 1150, 1151, 1152, 1153, 1154, 1155, 1156, 1157, 1158, 1159, 1160, 1161, 1144, 1145, 1146, 1147, 1132, 1133, 1134] (by decide +kernel) (by decide +kernel)
set_option maxRecDepth 20000 in
theorem gL_law_X7_repay : GoodIn wsL_law (wsV RL 23 RX7 yX7_repay wsX7_repay) := goodIn_app (goodIn_of _ (by decide +kernel)) ggL_law_X7_repay
set_option maxRecDepth 20000 in
theorem ggL_law_X8_repay : GoodIn wsL_law wsX8_repay := goodIn_r _ [400, 336, 337, 338, 5, 339, 340, 135, 134, 341, 342, 343, 401, 402, 403, 404, 405, 406, 407, 408, 351, 352, 353, 354, 355, 356, 357, 390, 391, 392, 146, 147, 148, 358, 359, 360, 361, 362, 363, 364, 409, 410, 411, 412, 373, 374, 375, 376, 377, 138, 1097, 1098, 1099, 1100, 1101, 1102, 1103, 1104, 1105, 1106, 1107, 1108, 1109, 1110, 1111, 1112, 1113, 1114, 1115, 1116, 1117, 1118, 1119, 1120, 1121, 1122, 1123] (by decide +kernel) (by decide +kernel)
set_option maxRecDepth 20000 in
theorem gL_law_X8_repay : GoodIn wsL_law (wsV RL 27 RX8 yX8_repay wsX8_repay) := goodIn_app (goodIn_of _ (by decide +kernel)) ggL_law_X8_repay
set_option maxRecDepth 20000 in
theorem ggL_law_X7_rain : GoodIn wsL_law wsX7_rain := goodIn_r _ [416, 153, 154, 155, 2, 156, 16, 15, 23, 157, 158, 159, 14, 160, 41, 43, 161, 162, 163, 164, 44, 45, 46, 50, 54, 58, 165, 166, 167, 49, 168, 62, 169, 170, 171, 172, 53, 173, 67, 68, 174, 69, 70, 175, 176, 177, 57, 178, 74, 75, 76, 77, 78, 79, 80, 81, 179, 180, 181, 182, 183, 184, 185, 186, 35, 187, 188, 189, 190, 191, 192, 193, 34, 194, 125, 126, 127, 128, 195, 196, 197, 198, 199, 200, 201, 202, 203, 204, 205, 206, 207, 208, 209, 210, 211, 212, 213, 214, 215, 216, 217, 218, 219, 220, 221, 222, 223, 224, 225, 226, 227, 228, 229, 230, 231, 232, 233, 234, 235, 236, 237, 238, 239, 240, 241, 242, 243, 244, 245, 246, 247, 248, 249, 250, 251, 252, 253, 254, 255, 256, 257, 258, 259, 260, 261, 262, 263, 264, 265, 266, 267, 268, 269, 270, 271, 272, 273, 274, 275, 276, 277, 278, 63, 279, 280, 281, 282, 283, 284, 285, 286, 287, 288, 289, 290, 291, 292, 293, 294, 295, 296, 297, 298, 299, 300, 301, 302, 303, 304, 305, 306, 307, 308, 309, 310, 311, 312, 313, 314, 315, 316, 317, 318, 319, 320, 321, 322, 323, 324, 325, 326, 327, 22, 328, 89, 87, 86, 329, 330, 331, 1087, 1088, 1089, 1090, 1091, 1092, 1093, 1094, 1095, 1096, 1124, 1125, 1126, 1127, 1128, 1129, 1130, 1131, 1148, 1149, 1150, 1151, 1152, 1153, 1154, 1155, 1156, 1157, 1158, 1159, 1160, 1161, 1144, 1145, 1146, 1147, 1132, 1133, 1134] (by decide +kernel) (by decide +kernel)
set_option maxRecDepth 20000 in
theorem gL_law_X7_rain : GoodIn wsL_law (wsV RL 28 RX7 yX7_rain wsX7_rain) := goodIn_app (goodIn_of _ (by decide +kernel)) ggL_law_X7_rain
set_option maxRecDepth 20000 in
theorem ggL_law_X8_rain : GoodIn wsL_law wsX8_rain := goodIn_r _ [420, 336, 337, 338, 5, 339, 340, 135, 134, 341, 342, 343, 421, 422, 423, 424, 348, 349, 350, 351, 352, 353, 354, 355, 356, 357, 425, 426, 427, 428, 429, 430, 431, 432, 140, 433, 434, 435, 436, 146, 147, 148, 373, 374, 375, 376, 377, 138, 1097, 1098, 1099, 1100, 1101, 1102, 1103, 1104, 1105, 1106, 1107, 1108, 1109, 1110, 1111, 1112, 1113, 1114, 1115, 1116, 1117, 1118, 1119, 1120, 1121, 1122, 1123] (by decide +kernel) (by decide +kernel)
set_option maxRecDepth 20000 in
theorem gL_law_X8_rain : GoodIn wsL_law (wsV RL 32 RX8 yX8_rain wsX8_rain) := goodIn_app (goodIn_of _ (by decide +kernel)) ggL_law_X8_rain
set_option maxRecDepth 20000 in
theorem ggL_law_X7_bail : GoodIn wsL_law wsX7_bail := goodIn_r _ [440, 153, 154, 155, 2, 156, 16, 15, 23, 157, 158, 159, 14, 160, 41, 43, 161, 162, 163, 164, 44, 45, 46, 50, 54, 58, 165, 166, 167, 49, 168, 62, 169, 170, 171, 172, 53, 173, 67, 68, 174, 69, 70, 175, 176, 177, 57, 178, 74, 75, 76, 77, 78, 79, 80, 81, 179, 180, 181, 182, 183, 184, 185, 186, 35, 187, 188, 189, 190, 191, 192, 193, 34, 194, 125, 126, 127, 128, 195, 196, 197, 198, 199, 200, 201, 202, 203, 204, 205, 206, 207, 208, 209, 210, 211, 212, 213, 214, 215, 216, 217, 218, 219, 220, 221, 222, 223, 224, 225, 226, 227, 228, 229, 230, 231, 232, 233, 234, 235, 236, 237, 238, 239, 240, 241, 242, 243, 244, 245, 246, 247, 248, 249, 250, 251, 252, 253, 254, 255, 256, 257, 258, 259, 260, 261, 262, 263, 264, 265, 266, 267, 268, 269, 270, 271, 272, 273, 274, 275, 276, 277, 278, 63, 279, 280, 281, 282, 283, 284, 285, 286, 287, 288, 289, 290, 291, 292, 293, 294, 295, 296, 297, 298, 299, 300, 301, 302, 303, 304, 305, 306, 307, 308, 309, 310, 311, 312, 313, 314, 315, 316, 317, 318, 319, 320, 321, 322, 323, 324, 325, 326, 327, 22, 328, 89, 87, 86, 329, 330, 331, 1087, 1088, 1089, 1090, 1091, 1092, 1093, 1094, 1095, 1096, 1124, 1125, 1126, 1127, 1128, 1129, 1130, 1131, 1148, 1149, 1150, 1151, 1152, 1153, 1154, 1155, 1156, 1157, 1158, 1159, 1160, 1161, 1144, 1145, 1146, 1147, 1132, 1133, 1134] (by decide +kernel) (by decide +kernel)
set_option maxRecDepth 20000 in
theorem gL_law_X7_bail : GoodIn wsL_law (wsV RL 33 RX7 yX7_bail wsX7_bail) := goodIn_app (goodIn_of _ (by decide +kernel)) ggL_law_X7_bail
set_option maxRecDepth 20000 in
theorem ggL_law_X8_bail : GoodIn wsL_law wsX8_bail := goodIn_r _ [444, 336, 337, 338, 5, 339, 340, 135, 134, 341, 342, 343, 445, 446, 447, 448, 348, 349, 350, 351, 352, 353, 354, 355, 356, 357, 146, 147, 148, 358, 359, 360, 361, 362, 363, 364, 373, 374, 375, 376, 377, 138, 1097, 1098, 1099, 1100, 1101, 1102, 1103, 1104, 1105, 1106, 1107, 1108, 1109, 1110, 1111, 1112, 1113, 1114, 1115, 1116, 1117, 1118, 1119, 1120, 1121, 1122, 1123] (by decide +kernel) (by decide +kernel)
set_option maxRecDepth 20000 in
theorem gL_law_X8_bail : GoodIn wsL_law (wsV RL 36 RX8 yX8_bail wsX8_bail) := goodIn_app (goodIn_of _ (by decide +kernel)) ggL_law_X8_bail
set_option maxRecDepth 20000 in
theorem ggL_law_X7_buy : GoodIn wsL_law wsX7_buy := goodIn_r _ [452, 153, 154, 155, 2, 156, 16, 15, 23, 157, 158, 159, 14, 160, 41, 43, 161, 162, 163, 164, 44, 45, 46, 50, 54, 58, 165, 166, 167, 49, 168, 62, 169, 170, 171, 172, 53, 173, 67, 68, 174, 69, 70, 175, 176, 177, 57, 178, 74, 75, 76, 77, 78, 79, 80, 81, 179, 180, 181, 182, 183, 184, 185, 186, 35, 187, 188, 189, 190, 191, 192, 193, 34, 194, 125, 126, 127, 128, 195, 196, 197, 198, 199, 200, 201, 202, 203, 204, 205, 206, 207, 208, 209, 210, 211, 212, 213, 214, 215, 216, 217, 218, 219, 220, 221, 222, 223, 224, 225, 226, 227, 228, 229, 230, 231, 232, 233, 234, 235, 236, 237, 238, 239, 240, 241, 242, 243, 244, 245, 246, 247, 248, 249, 250, 251, 252, 253, 254, 255, 256, 257, 258, 259, 260, 261, 262, 263, 264, 265, 266, 267, 268, 269, 270, 271, 272, 273, 274, 275, 276, 277, 278, 63, 279, 280, 281, 282, 283, 284, 285, 286, 287, 288, 289, 290, 291, 292, 293, 294, 295, 296, 297, 298, 299, 300, 301, 302, 303, 304, 305, 306, 307, 308, 309, 310, 311, 312, 313, 314, 315, 316, 317, 318, 319, 320, 321, 322, 323, 324, 325, 326, 327, 22, 328, 89, 87, 86, 329, 330, 331, 1087, 1088, 1089, 1090, 1091, 1092, 1093, 1094, 1095, 1096, 1124, 1125, 1126, 1127, 1128, 1129, 1130, 1131, 1148, 1149, 1150, 1151, 1152, 1153, 1154, 1155, 1156, 1157, 1158, 1159, 1160, 1161, 1144, 1145, 1146, 1147, 1132, 1133, 1134] (by decide +kernel) (by decide +kernel)
set_option maxRecDepth 20000 in
theorem gL_law_X7_buy : GoodIn wsL_law (wsV RL 37 RX7 yX7_buy wsX7_buy) := goodIn_app (goodIn_of _ (by decide +kernel)) ggL_law_X7_buy
set_option maxRecDepth 20000 in
theorem ggL_law_X8_buy : GoodIn wsL_law wsX8_buy := goodIn_r _ [456, 336, 337, 338, 5, 339, 340, 135, 134, 341, 342, 343, 457, 458, 459, 460, 348, 349, 350, 351, 352, 353, 354, 355, 356, 357, 146, 147, 148, 358, 359, 360, 361, 362, 363, 364, 373, 374, 375, 376, 377, 138, 1097, 1098, 1099, 1100, 1101, 1102, 1103, 1104, 1105, 1106, 1107, 1108, 1109, 1110, 1111, 1112, 1113, 1114, 1115, 1116, 1117, 1118, 1119, 1120, 1121, 1122, 1123] (by decide +kernel) (by decide +kernel)
set_option maxRecDepth 20000 in
theorem gL_law_X8_buy : GoodIn wsL_law (wsV RL 40 RX8 yX8_buy wsX8_buy) := goodIn_app (goodIn_of _ (by decide +kernel)) ggL_law_X8_buy
set_option maxRecDepth 20000 in
theorem ggL_law_X7_month : GoodIn wsL_law wsX7_month := goodIn_r _ [464, 153, 154, 155, 2, 156, 16, 15, 23, 157, 158, 159, 14, 160, 41, 43, 161, 162, 163, 164, 44, 45, 46, 50, 54, 58, 165, 166, 167, 49, 168, 62, 169, 170, 171, 172, 53, 173, 67, 68, 174, 69, 70, 175, 176, 177, 57, 178, 74, 75, 76, 77, 78, 79, 80, 81, 179, 180, 181, 182, 183, 184, 185, 186, 35, 187, 188, 189, 190, 191, 192, 193, 34, 194, 125, 126, 127, 128, 195, 196, 197, 198, 199, 200, 201, 202, 203, 204, 205, 206, 207, 208, 209, 210, 211, 212, 213, 214, 215, 216, 217, 218, 219, 220, 221, 222, 223, 224, 225, 226, 227, 228, 229, 230, 231, 232, 233, 234, 235, 236, 237, 238, 239, 240, 241, 242, 243, 244, 245, 246, 247, 248, 249, 250, 251, 252, 253, 254, 255, 256, 257, 258, 259, 260, 261, 262, 263, 264, 265, 266, 267, 268, 269, 270, 271, 272, 273, 274, 275, 276, 277, 278, 63, 279, 280, 281, 282, 283, 284, 285, 286, 287, 288, 289, 290, 291, 292, 293, 294, 295, 296, 297, 298, 299, 300, 301, 302, 303, 304, 305, 306, 307, 308, 309, 310, 311, 312, 313, 314, 315, 316, 317, 318, 319, 320, 321, 322, 323, 324, 325, 326, 327, 22, 328, 89, 87, 86, 329, 330, 331, 1087, 1088, 1089, 1090, 1091, 1092, 1093, 1094, 1095, 1096, 1124, 1125, 1126, 1127, 1128, 1129, 1130, 1131, 1148, 1149, 1150, 1151, 1152, 1153, 1154, 1155, 1156, 1157, 1158, 1159, 1160, 1161, 1144, 1145, 1146, 1147, 1132, 1133, 1134] (by decide +kernel) (by decide +kernel)
set_option maxRecDepth 20000 in
theorem gL_law_X7_month : GoodIn wsL_law (wsV RL 41 RX7 yX7_month wsX7_month) := goodIn_app (goodIn_of _ (by decide +kernel)) ggL_law_X7_month
set_option maxRecDepth 20000 in
theorem ggL_law_X8_month : GoodIn wsL_law wsX8_month := goodIn_r _ [468, 336, 337, 338, 5, 339, 340, 135, 134, 341, 342, 343, 469, 470, 471, 472, 139, 473, 474, 475, 476, 477, 390, 391, 392, 146, 147, 148, 409, 410, 411, 412, 425, 426, 427, 428, 429, 430, 431, 432, 140, 433, 434, 435, 436, 478, 479, 480, 481, 373, 374, 375, 376, 377, 138, 1097, 1098, 1099, 1100, 1101, 1102, 1103, 1104, 1105, 1106, 1107, 1108, 1109, 1110, 1111, 1112, 1113, 1114, 1115, 1116, 1117, 1118, 1119, 1120, 1121, 1122, 1123] (by decide +kernel) (by decide +kernel)
set_option maxRecDepth 20000 in
theorem gL_law_X8_month : GoodIn wsL_law (wsV RL 45 RX8 yX8_month wsX8_month) := goodIn_app (goodIn_of _ (by decide +kernel)) ggL_law_X8_month
set_option maxRecDepth 20000 in
theorem ggL_law_X7_townOf : GoodIn wsL_law wsX7_townOf := goodIn_r _ [485, 15, 223, 187, 188, 189, 2, 190, 486, 487, 488, 53, 489, 67, 68, 490, 208, 209, 49, 210, 62, 211, 212, 213, 214, 215, 216, 217, 491, 492, 493, 494, 495, 496, 497, 498, 499, 500, 501, 14, 502, 43, 44, 45, 46, 1087, 1088, 1089, 1090, 1091, 1092, 1093, 1094, 1095, 1096, 1124, 1125, 1126, 1127, 1128, 1129, 1130, 1131, 1150, 1151, 1152, 1153, 1148, 1149] (by decide +kernel) (by decide +kernel)
set_option maxRecDepth 20000 in
theorem gL_law_X7_townOf : GoodIn wsL_law (wsV RL 46 RX7 yX7_townOf wsX7_townOf) := goodIn_app (goodIn_of _ (by decide +kernel)) ggL_law_X7_townOf
set_option maxRecDepth 20000 in
theorem ggL_law_X8_townOf : GoodIn wsL_law wsX8_townOf := goodIn_r _ [506, 134, 348, 349, 5, 350, 351, 352, 353, 146, 147, 148, 507, 508, 509, 510, 390, 391, 392, 369, 370, 371, 372, 511, 512, 513, 514, 140, 429, 430, 431, 432, 1097, 1098, 1099, 1100, 1101, 1102, 1103, 1104, 1105, 1106, 1107, 1108, 1109, 1110, 1111, 1112, 1113, 1114, 1115, 1116, 1117, 1118, 1119, 1120, 1121, 1122, 1123] (by decide +kernel) (by decide +kernel)
set_option maxRecDepth 20000 in
theorem gL_law_X8_townOf : GoodIn wsL_law (wsV RL 49 RX8 yX8_townOf wsX8_townOf) := goodIn_app (goodIn_of _ (by decide +kernel)) ggL_law_X8_townOf
set_option maxRecDepth 20000 in
theorem ggL_law_X7_creditOf : GoodIn wsL_law wsX7_creditOf := goodIn_r _ [518, 15, 223, 245, 246, 519, 520, 249, 250, 251, 53, 252, 67, 1087, 1088, 1089, 1090, 1091, 1092, 1093, 1094, 1095, 1096, 1124, 1125, 1126, 1127, 1128, 1129, 1130, 1131, 1150, 1151, 1152, 1153] (by decide +kernel) (by decide +kernel)
set_option maxRecDepth 20000 in
theorem gL_law_X7_creditOf : GoodIn wsL_law (wsV RL 50 RX7 yX7_creditOf wsX7_creditOf) := goodIn_app (goodIn_of _ (by decide +kernel)) ggL_law_X7_creditOf
set_option maxRecDepth 20000 in
theorem ggL_law_X8_creditOf : GoodIn wsL_law wsX8_creditOf := goodIn_r _ [524, 134, 405, 406, 407, 5, 408, 351, 352, 353, 390, 391, 392, 1097, 1098, 1099, 1100, 1101, 1102, 1103, 1104, 1105, 1106, 1107, 1108, 1109, 1110, 1111, 1112, 1113, 1114, 1115, 1116, 1117, 1118, 1119, 1120, 1121, 1122, 1123] (by decide +kernel) (by decide +kernel)
set_option maxRecDepth 20000 in
theorem gL_law_X8_creditOf : GoodIn wsL_law (wsV RL 53 RX8 yX8_creditOf wsX8_creditOf) := goodIn_app (goodIn_of _ (by decide +kernel)) ggL_law_X8_creditOf
set_option maxRecDepth 20000 in
theorem ggL_law_X7_owes : GoodIn wsL_law wsX7_owes := goodIn_r _ [528, 15, 223, 188, 189, 2, 190, 529, 530, 531, 53, 532, 67, 68, 69, 1087, 1088, 1089, 1090, 1091, 1092, 1093, 1094, 1095, 1096, 1124, 1125, 1126, 1127, 1128, 1129, 1130, 1131, 1150, 1151, 1152, 1153] (by decide +kernel) (by decide +kernel)
set_option maxRecDepth 20000 in
theorem gL_law_X7_owes : GoodIn wsL_law (wsV RL 54 RX7 yX7_owes wsX7_owes) := goodIn_app (goodIn_of _ (by decide +kernel)) ggL_law_X7_owes
set_option maxRecDepth 20000 in
theorem ggL_law_X8_owes : GoodIn wsL_law wsX8_owes := goodIn_r _ [536, 134, 348, 349, 5, 350, 351, 352, 353, 390, 391, 392, 1097, 1098, 1099, 1100, 1101, 1102, 1103, 1104, 1105, 1106, 1107, 1108, 1109, 1110, 1111, 1112, 1113, 1114, 1115, 1116, 1117, 1118, 1119, 1120, 1121, 1122, 1123] (by decide +kernel) (by decide +kernel)
set_option maxRecDepth 20000 in
theorem gL_law_X8_owes : GoodIn wsL_law (wsV RL 57 RX8 yX8_owes wsX8_owes) := goodIn_app (goodIn_of _ (by decide +kernel)) ggL_law_X8_owes
set_option maxRecDepth 20000 in
theorem ggL_law_X7_owesAgain : GoodIn wsL_law wsX7_owesAgain := goodIn_r _ [540, 15, 188, 189, 2, 190, 541, 542, 543, 14, 544, 54, 41, 545, 546, 547, 53, 548, 67, 68, 70, 69, 1087, 1088, 1089, 1090, 1091, 1092, 1093, 1094, 1095, 1096, 1124, 1125, 1126, 1127, 1128, 1129, 1130, 1131, 1150, 1151, 1152, 1153] (by decide +kernel) (by decide +kernel)
set_option maxRecDepth 20000 in
theorem gL_law_X7_owesAgain : GoodIn wsL_law (wsV RL 58 RX7 yX7_owesAgain wsX7_owesAgain) := goodIn_app (goodIn_of _ (by decide +kernel)) ggL_law_X7_owesAgain
set_option maxRecDepth 20000 in
theorem ggL_law_X8_owesAgain : GoodIn wsL_law wsX8_owesAgain := goodIn_r _ [552, 553, 534, 535, 5, 536, 134, 348, 349, 350, 351, 352, 353, 390, 391, 392, 1097, 1098, 1099, 1100, 1101, 1102, 1103, 1104, 1105, 1106, 1107, 1108, 1109, 1110, 1111, 1112, 1113, 1114, 1115, 1116, 1117, 1118, 1119, 1120, 1121, 1122, 1123] (by decide +kernel) (by decide +kernel)
set_option maxRecDepth 20000 in
theorem gL_law_X8_owesAgain : GoodIn wsL_law (wsV RL 61 RX8 yX8_owesAgain wsX8_owesAgain) := goodIn_app (goodIn_of _ (by decide +kernel)) ggL_law_X8_owesAgain
set_option maxRecDepth 20000 in
theorem ggL_law_X7_due : GoodIn wsL_law wsX7_due := goodIn_r _ [557, 15, 223, 520, 558, 546, 547, 53, 548, 67, 68, 70, 69, 1087, 1088, 1089, 1090, 1091, 1092, 1093, 1094, 1095, 1096, 1124, 1125, 1126, 1127, 1128, 1129, 1130, 1131, 1150, 1151, 1152, 1153] (by decide +kernel) (by decide +kernel)
set_option maxRecDepth 20000 in
theorem gL_law_X7_due : GoodIn wsL_law (wsV RL 62 RX7 yX7_due wsX7_due) := goodIn_app (goodIn_of _ (by decide +kernel)) ggL_law_X7_due
set_option maxRecDepth 20000 in
theorem ggL_law_X8_due : GoodIn wsL_law wsX8_due := goodIn_r _ [562, 134, 351, 352, 5, 353, 390, 391, 392, 1097, 1098, 1099, 1100, 1101, 1102, 1103, 1104, 1105, 1106, 1107, 1108, 1109, 1110, 1111, 1112, 1113, 1114, 1115, 1116, 1117, 1118, 1119, 1120, 1121, 1122, 1123] (by decide +kernel) (by decide +kernel)
set_option maxRecDepth 20000 in
theorem gL_law_X8_due : GoodIn wsL_law (wsV RL 65 RX8 yX8_due wsX8_due) := goodIn_app (goodIn_of _ (by decide +kernel)) ggL_law_X8_due
set_option maxRecDepth 20000 in
theorem ggL_law_X7_far : GoodIn wsL_law wsX7_far := goodIn_r _ [566, 15, 187, 188, 189, 2, 190, 567, 568, 569, 49, 570, 495, 496, 497, 498, 62, 1087, 1088, 1089, 1090, 1091, 1092, 1093, 1094, 1095, 1096, 1124, 1125, 1126, 1127, 1128, 1129, 1130, 1131, 1148, 1149] (by decide +kernel) (by decide +kernel)
set_option maxRecDepth 20000 in
theorem gL_law_X7_far : GoodIn wsL_law (wsV RL 66 RX7 yX7_far wsX7_far) := goodIn_app (goodIn_of _ (by decide +kernel)) ggL_law_X7_far
set_option maxRecDepth 20000 in
theorem ggL_law_X8_far : GoodIn wsL_law wsX8_far := goodIn_r _ [574, 140, 348, 349, 5, 350, 351, 352, 353, 429, 430, 431, 432, 134, 1097, 1098, 1099, 1100, 1101, 1102, 1103, 1104, 1105, 1106, 1107, 1108, 1109, 1110, 1111, 1112, 1113, 1114, 1115, 1116, 1117, 1118, 1119, 1120, 1121, 1122, 1123] (by decide +kernel) (by decide +kernel)
set_option maxRecDepth 20000 in
theorem gL_law_X8_far : GoodIn wsL_law (wsV RL 69 RX8 yX8_far wsX8_far) := goodIn_app (goodIn_of _ (by decide +kernel)) ggL_law_X8_far
set_option maxRecDepth 20000 in
theorem ggL_law_X7_drizzle : GoodIn wsL_law wsX7_drizzle := goodIn_r _ [578, 15, 187, 579, 188, 189, 2, 190, 226, 227, 228, 580, 276, 277, 49, 278, 63, 62, 1087, 1088, 1089, 1090, 1091, 1092, 1093, 1094, 1095, 1096, 1124, 1125, 1126, 1127, 1128, 1129, 1130, 1131, 1148, 1149] (by decide +kernel) (by decide +kernel)
set_option maxRecDepth 20000 in
theorem gL_law_X7_drizzle : GoodIn wsL_law (wsV RL 70 RX7 yX7_drizzle wsX7_drizzle) := goodIn_app (goodIn_of _ (by decide +kernel)) ggL_law_X7_drizzle
set_option maxRecDepth 20000 in
theorem ggL_law_X8_drizzle : GoodIn wsL_law wsX8_drizzle := goodIn_r _ [584, 348, 349, 5, 350, 351, 352, 353, 429, 430, 431, 432, 140, 134, 433, 434, 435, 436, 1097, 1098, 1099, 1100, 1101, 1102, 1103, 1104, 1105, 1106, 1107, 1108, 1109, 1110, 1111, 1112, 1113, 1114, 1115, 1116, 1117, 1118, 1119, 1120, 1121, 1122, 1123] (by decide +kernel) (by decide +kernel)
set_option maxRecDepth 20000 in
theorem gL_law_X8_drizzle : GoodIn wsL_law (wsV RL 73 RX8 yX8_drizzle wsX8_drizzle) := goodIn_app (goodIn_of _ (by decide +kernel)) ggL_law_X8_drizzle
set_option maxRecDepth 20000 in
theorem ggL_law_X7_drizzleAgain : GoodIn wsL_law wsX7_drizzleAgain := goodIn_r _ [588, 15, 187, 188, 189, 2, 190, 226, 227, 228, 589, 590, 591, 49, 592, 593, 568, 569, 570, 495, 496, 497, 498, 62, 1087, 1088, 1089, 1090, 1091, 1092, 1093, 1094, 1095, 1096, 1124, 1125, 1126, 1127, 1128, 1129, 1130, 1131, 1148, 1149] (by decide +kernel) (by decide +kernel)
set_option maxRecDepth 20000 in
theorem gL_law_X7_drizzleAgain : GoodIn wsL_law (wsV RL 74 RX7 yX7_drizzleAgain wsX7_drizzleAgain) := goodIn_app (goodIn_of _ (by decide +kernel)) ggL_law_X7_drizzleAgain
set_option maxRecDepth 20000 in
theorem ggL_law_X8_drizzleAgain : GoodIn wsL_law wsX8_drizzleAgain := goodIn_r _ [597, 598, 582, 583, 5, 584, 348, 349, 350, 351, 352, 353, 429, 430, 431, 432, 140, 134, 433, 434, 435, 436, 1097, 1098, 1099, 1100, 1101, 1102, 1103, 1104, 1105, 1106, 1107, 1108, 1109, 1110, 1111, 1112, 1113, 1114, 1115, 1116, 1117, 1118, 1119, 1120, 1121, 1122, 1123] (by decide +kernel) (by decide +kernel)
set_option maxRecDepth 20000 in
theorem gL_law_X8_drizzleAgain : GoodIn wsL_law (wsV RL 77 RX8 yX8_drizzleAgain wsX8_drizzleAgain) := goodIn_app (goodIn_of _ (by decide +kernel)) ggL_law_X8_drizzleAgain
set_option maxRecDepth 20000 in
theorem ggL_law_X7_would : GoodIn wsL_law wsX7_would := goodIn_r _ [602, 17, 15, 188, 189, 2, 190, 157, 158, 159, 14, 160, 41, 43, 161, 162, 163, 164, 44, 45, 46, 50, 54, 58, 165, 166, 167, 49, 168, 62, 169, 170, 171, 172, 53, 173, 67, 68, 174, 69, 70, 175, 176, 177, 57, 178, 74, 75, 76, 77, 78, 79, 80, 81, 292, 293, 294, 295, 271, 272, 273, 274, 236, 296, 285, 286, 297, 298, 299, 300, 301, 302, 303, 304, 305, 259, 260, 261, 257, 250, 251, 252, 306, 307, 308, 309, 310, 311, 312, 313, 314, 267, 268, 269, 270, 275, 276, 277, 278, 63, 315, 316, 317, 318, 319, 320, 321, 322, 323, 324, 499, 500, 501, 502, 1087, 1088, 1089, 1090, 1091, 1092, 1093, 1094, 1095, 1096, 1124, 1125, 1126, 1127, 1128, 1129, 1130, 1131, 1148, 1149, 1150, 1151, 1152, 1153, 1154, 1155, 1156, 1157, 1158, 1159, 1160, 1161] (by decide +kernel) (by decide +kernel)
set_option maxRecDepth 20000 in
theorem gL_law_X7_would : GoodIn wsL_law (wsV RL 78 RX7 yX7_would wsX7_would) := goodIn_app (goodIn_of _ (by decide +kernel)) ggL_law_X7_would
set_option maxRecDepth 20000 in
theorem ggL_law_X8_would : GoodIn wsL_law wsX8_would := goodIn_r _ [606, 137, 134, 348, 349, 5, 350, 351, 352, 353, 341, 342, 343, 469, 470, 471, 472, 139, 473, 474, 475, 476, 477, 390, 391, 392, 146, 147, 148, 409, 410, 411, 412, 425, 426, 427, 428, 429, 430, 431, 432, 140, 433, 434, 435, 436, 478, 479, 480, 481, 1097, 1098, 1099, 1100, 1101, 1102, 1103, 1104, 1105, 1106, 1107, 1108, 1109, 1110, 1111, 1112, 1113, 1114, 1115, 1116, 1117, 1118, 1119, 1120, 1121, 1122, 1123] (by decide +kernel) (by decide +kernel)
set_option maxRecDepth 20000 in
theorem gL_law_X8_would : GoodIn wsL_law (wsV RL 81 RX8 yX8_would wsX8_would) := goodIn_app (goodIn_of _ (by decide +kernel)) ggL_law_X8_would
set_option maxRecDepth 20000 in
theorem ggL_law_X7_most : GoodIn wsL_law wsX7_most := goodIn_r _ [610, 15, 222, 223, 224, 225, 611, 272, 273, 274, 188, 189, 2, 190, 229, 230, 231, 612, 613, 614, 615, 17, 520, 157, 158, 159, 14, 160, 41, 43, 161, 162, 163, 164, 44, 45, 46, 50, 54, 58, 165, 166, 167, 49, 168, 62, 169, 170, 171, 172, 53, 173, 67, 68, 174, 69, 70, 175, 176, 177, 57, 178, 74, 75, 76, 77, 78, 79, 80, 81, 232, 233, 234, 235, 236, 237, 238, 239, 240, 292, 293, 294, 295, 271, 296, 285, 286, 297, 298, 299, 300, 301, 302, 303, 304, 305, 259, 260, 261, 257, 250, 251, 252, 306, 307, 308, 309, 310, 311, 312, 313, 314, 267, 268, 269, 270, 275, 276, 277, 278, 63, 315, 316, 317, 318, 319, 320, 321, 322, 323, 324, 558, 546, 547, 548, 1087, 1088, 1089, 1090, 1091, 1092, 1093, 1094, 1095, 1096, 1124, 1125, 1126, 1127, 1128, 1129, 1130, 1131, 1150, 1151, 1152, 1153, 1148, 1149, 1154, 1155, 1156, 1157, 1158, 1159, 1160, 1161] (by decide +kernel) (by decide +kernel)
set_option maxRecDepth 20000 in
theorem gL_law_X7_most : GoodIn wsL_law (wsV RL 82 RX7 yX7_most wsX7_most) := goodIn_app (goodIn_of _ (by decide +kernel)) ggL_law_X7_most
set_option maxRecDepth 20000 in
theorem ggL_law_X8_most : GoodIn wsL_law wsX8_most := goodIn_r _ [619, 134, 348, 349, 5, 350, 351, 352, 353, 146, 147, 148, 620, 621, 622, 623, 137, 477, 341, 342, 343, 386, 387, 388, 389, 354, 355, 356, 357, 340, 358, 359, 360, 361, 362, 363, 364, 390, 391, 392, 469, 470, 471, 472, 139, 473, 474, 475, 476, 409, 410, 411, 412, 425, 426, 427, 428, 429, 430, 431, 432, 140, 433, 434, 435, 436, 478, 479, 480, 481, 1097, 1098, 1099, 1100, 1101, 1102, 1103, 1104, 1105, 1106, 1107, 1108, 1109, 1110, 1111, 1112, 1113, 1114, 1115, 1116, 1117, 1118, 1119, 1120, 1121, 1122, 1123] (by decide +kernel) (by decide +kernel)
set_option maxRecDepth 20000 in
theorem gL_law_X8_most : GoodIn wsL_law (wsV RL 85 RX8 yX8_most wsX8_most) := goodIn_app (goodIn_of _ (by decide +kernel)) ggL_law_X8_most
set_option maxRecDepth 20000 in
theorem ggL_law_X7_ranked : GoodIn wsL_law wsX7_ranked := goodIn_r _ [627, 15, 628, 629, 630, 14, 631, 632, 633, 634, 635, 46, 43, 189, 2, 190, 1087, 1088, 1089, 1090, 1091, 1092, 1093, 1094, 1095, 1096, 1124, 1125, 1126, 1127, 1128, 1129, 1130, 1131] (by decide +kernel) (by decide +kernel)
set_option maxRecDepth 20000 in
theorem gL_law_X7_ranked : GoodIn wsL_law (wsV RL 86 RX7 yX7_ranked wsX7_ranked) := goodIn_app (goodIn_of _ (by decide +kernel)) ggL_law_X7_ranked
set_option maxRecDepth 20000 in
theorem ggL_law_X8_ranked : GoodIn wsL_law wsX8_ranked := goodIn_r _ [639, 134, 146, 147, 5, 148, 1097, 1098, 1099, 1100, 1101, 1102, 1103, 1104, 1105, 1106, 1107, 1108, 1109, 1110, 1111, 1112, 1113, 1114, 1115, 1116, 1117, 1118, 1119, 1120, 1121, 1122, 1123] (by decide +kernel) (by decide +kernel)
set_option maxRecDepth 20000 in
theorem gL_law_X8_ranked : GoodIn wsL_law (wsV RL 89 RX8 yX8_ranked wsX8_ranked) := goodIn_app (goodIn_of _ (by decide +kernel)) ggL_law_X8_ranked
set_option maxRecDepth 20000 in
theorem ggL_law_X7_next : GoodIn wsL_law wsX7_next := goodIn_r _ [643, 15, 223, 224, 644, 645, 646, 53, 647, 67, 648, 649, 650, 651, 70, 69, 257, 250, 251, 252, 1087, 1088, 1089, 1090, 1091, 1092, 1093, 1094, 1095, 1096, 1124, 1125, 1126, 1127, 1128, 1129, 1130, 1131, 1150, 1151, 1152, 1153] (by decide +kernel) (by decide +kernel)
set_option maxRecDepth 20000 in
theorem gL_law_X7_next : GoodIn wsL_law (wsV RL 90 RX7 yX7_next wsX7_next) := goodIn_app (goodIn_of _ (by decide +kernel)) ggL_law_X7_next
set_option maxRecDepth 20000 in
theorem ggL_law_X8_next : GoodIn wsL_law wsX8_next := goodIn_r _ [655, 134, 390, 391, 5, 392, 1097, 1098, 1099, 1100, 1101, 1102, 1103, 1104, 1105, 1106, 1107, 1108, 1109, 1110, 1111, 1112, 1113, 1114, 1115, 1116, 1117, 1118, 1119, 1120, 1121, 1122, 1123] (by decide +kernel) (by decide +kernel)
set_option maxRecDepth 20000 in
theorem gL_law_X8_next : GoodIn wsL_law (wsV RL 93 RX8 yX8_next wsX8_next) := goodIn_app (goodIn_of _ (by decide +kernel)) ggL_law_X8_next
set_option maxRecDepth 20000 in
theorem ggL_law_X7_isCounted : GoodIn wsL_law wsX7_isCounted := goodIn_r _ [659, 15, 660, 661, 662, 2, 663, 223, 529, 530, 531, 53, 532, 67, 68, 69, 541, 542, 543, 14, 544, 54, 41, 545, 546, 547, 548, 70, 664, 665, 666, 667, 187, 579, 580, 276, 277, 49, 278, 63, 62, 589, 590, 591, 592, 593, 568, 569, 570, 495, 496, 497, 498, 668, 669, 670, 671, 58, 236, 43, 310, 672, 320, 673, 674, 1087, 1088, 1089, 1090, 1091, 1092, 1093, 1094, 1095, 1096, 1124, 1125, 1126, 1127, 1128, 1129, 1130, 1131, 1150, 1151, 1152, 1153, 1148, 1149, 1154, 1155, 1156, 1157, 1158, 1159, 1160, 1161] (by decide +kernel) (by decide +kernel)
set_option maxRecDepth 20000 in
theorem gL_law_X7_isCounted : GoodIn wsL_law (wsV RL 94 RX7 yX7_isCounted wsX7_isCounted) := goodIn_app (goodIn_of _ (by decide +kernel)) ggL_law_X7_isCounted
set_option maxRecDepth 20000 in
theorem ggL_law_X8_isCounted : GoodIn wsL_law wsX8_isCounted := goodIn_r _ [678, 134, 679, 680, 681, 5, 682, 146, 147, 148, 1097, 1098, 1099, 1100, 1101, 1102, 1103, 1104, 1105, 1106, 1107, 1108, 1109, 1110, 1111, 1112, 1113, 1114, 1115, 1116, 1117, 1118, 1119, 1120, 1121, 1122, 1123] (by decide +kernel) (by decide +kernel)
set_option maxRecDepth 20000 in
theorem gL_law_X8_isCounted : GoodIn wsL_law (wsV RL 98 RX8 yX8_isCounted wsX8_isCounted) := goodIn_app (goodIn_of _ (by decide +kernel)) ggL_law_X8_isCounted
set_option maxRecDepth 20000 in
theorem ggL_law_X7_meanSun : GoodIn wsL_law wsX7_meanSun := goodIn_r _ [686, 15, 225, 687, 688, 673, 2, 674, 1087, 1088, 1089, 1090, 1091, 1092, 1093, 1094, 1095, 1096, 1124, 1125, 1126, 1127, 1128, 1129, 1130, 1131] (by decide +kernel) (by decide +kernel)
set_option maxRecDepth 20000 in
theorem gL_law_X7_meanSun : GoodIn wsL_law (wsV RL 99 RX7 yX7_meanSun wsX7_meanSun) := goodIn_app (goodIn_of _ (by decide +kernel)) ggL_law_X7_meanSun
set_option maxRecDepth 20000 in
theorem ggL_law_X8_meanSun : GoodIn wsL_law wsX8_meanSun := goodIn_r _ [692, 693, 679, 680, 681, 5, 682, 134, 146, 147, 148, 1097, 1098, 1099, 1100, 1101, 1102, 1103, 1104, 1105, 1106, 1107, 1108, 1109, 1110, 1111, 1112, 1113, 1114, 1115, 1116, 1117, 1118, 1119, 1120, 1121, 1122, 1123] (by decide +kernel) (by decide +kernel)
set_option maxRecDepth 20000 in
theorem gL_law_X8_meanSun : GoodIn wsL_law (wsV RL 103 RX8 yX8_meanSun wsX8_meanSun) := goodIn_app (goodIn_of _ (by decide +kernel)) ggL_law_X8_meanSun
set_option maxRecDepth 20000 in
theorem ggL_law_X7_paidShare : GoodIn wsL_law wsX7_paidShare := goodIn_r _ [697, 15, 247, 698, 699, 1087, 1088, 1089, 1090, 1091, 1092, 1093, 1094, 1095, 1096, 1124, 1125, 1126, 1127, 1128, 1129, 1130, 1131, 1154, 1155, 1156, 1157, 1158, 1159, 1160, 1161] (by decide +kernel) (by decide +kernel)
set_option maxRecDepth 20000 in
theorem gL_law_X7_paidShare : GoodIn wsL_law (wsV RL 104 RX7 yX7_paidShare wsX7_paidShare) := goodIn_app (goodIn_of _ (by decide +kernel)) ggL_law_X7_paidShare
set_option maxRecDepth 20000 in
theorem ggL_law_X8_paidShare : GoodIn wsL_law wsX8_paidShare := goodIn_r _ [703, 134, 1097, 1098, 1099, 1100, 1101, 1102, 1103, 1104, 1105, 1106, 1107, 1108, 1109, 1110, 1111, 1112, 1113, 1114, 1115, 1116, 1117, 1118, 1119, 1120, 1121, 1122, 1123] (by decide +kernel) (by decide +kernel)
set_option maxRecDepth 20000 in
theorem gL_law_X8_paidShare : GoodIn wsL_law (wsV RL 108 RX8 yX8_paidShare wsX8_paidShare) := goodIn_app (goodIn_of _ (by decide +kernel)) ggL_law_X8_paidShare
set_option maxRecDepth 20000 in
theorem ggL_law_X7_account : GoodIn wsL_law wsX7_account := goodIn_r _ [707, 15, 520, 223, 224, 187, 225, 708, 222, 283, 27, 709, 23, 710, 247, 203, 204, 205, 49, 206, 207, 208, 209, 210, 62, 189, 2, 190, 211, 212, 213, 214, 215, 216, 217, 688, 673, 674, 711, 712, 713, 30, 714, 715, 716, 717, 718, 106, 719, 720, 721, 722, 723, 57, 724, 74, 75, 77, 78, 79, 80, 81, 1087, 1088, 1089, 1090, 1091, 1092, 1093, 1094, 1095, 1096, 1124, 1125, 1126, 1127, 1128, 1129, 1130, 1131, 1150, 1151, 1152, 1153, 1135, 1136, 1137, 1138, 1139, 1132, 1133, 1134, 1148, 1149, 1140, 1141, 1142, 1143, 1154, 1155, 1156, 1157, 1158, 1159, 1160, 1161] (by decide +kernel) (by decide +kernel)
set_option maxRecDepth 20000 in
theorem gL_law_X7_account : GoodIn wsL_law (wsV RL 109 RX7 yX7_account wsX7_account) := goodIn_app (goodIn_of _ (by decide +kernel)) ggL_law_X7_account
set_option maxRecDepth 20000 in
theorem ggL_law_X8_account : GoodIn wsL_law wsX8_account := goodIn_r _ [728, 134, 729, 377, 365, 366, 367, 5, 368, 369, 370, 371, 372, 679, 680, 681, 682, 146, 147, 148, 1097, 1098, 1099, 1100, 1101, 1102, 1103, 1104, 1105, 1106, 1107, 1108, 1109, 1110, 1111, 1112, 1113, 1114, 1115, 1116, 1117, 1118, 1119, 1120, 1121, 1122, 1123] (by decide +kernel) (by decide +kernel)
set_option maxRecDepth 20000 in
theorem gL_law_X8_account : GoodIn wsL_law (wsV RL 112 RX8 yX8_account wsX8_account) := goodIn_app (goodIn_of _ (by decide +kernel)) ggL_law_X8_account
set_option maxRecDepth 20000 in
theorem ggL_law_X7_write : GoodIn wsL_law wsX7_write := goodIn_r _ [733, 31, 15, 225, 708, 283, 222, 188, 189, 2, 190, 734, 735, 736, 30, 737, 738, 739, 717, 740, 106, 741, 720, 111, 742, 743, 744, 745, 746, 747, 112, 748, 749, 750, 751, 752, 753, 754, 755, 756, 757, 758, 285, 273, 286, 759, 760, 761, 762, 763, 764, 765, 766, 767, 768, 769, 770, 771, 772, 110, 773, 272, 274, 774, 162, 163, 164, 775, 776, 777, 778, 779, 109, 780, 781, 782, 783, 784, 785, 786, 787, 788, 789, 790, 791, 115, 792, 793, 794, 795, 796, 797, 798, 799, 800, 801, 802, 803, 213, 804, 805, 806, 807, 808, 809, 810, 811, 812, 813, 814, 815, 816, 817, 818, 819, 820, 821, 822, 823, 824, 825, 826, 827, 828, 829, 830, 831, 832, 833, 834, 835, 836, 837, 838, 839, 840, 841, 842, 843, 844, 845, 846, 847, 848, 849, 850, 851, 852, 853, 854, 113, 114, 116, 117, 118, 119, 120, 855, 856, 857, 858, 859, 860, 861, 862, 863, 864, 865, 866, 867, 868, 869, 870, 871, 872, 873, 874, 875, 876, 877, 878, 879, 880, 881, 711, 712, 713, 714, 715, 716, 718, 719, 1087, 1088, 1089, 1090, 1091, 1092, 1093, 1094, 1095, 1096, 1124, 1125, 1126, 1127, 1128, 1129, 1130, 1131, 1140, 1141, 1142, 1143] (by decide +kernel) (by decide +kernel)
set_option maxRecDepth 20000 in
theorem gL_law_X7_write : GoodIn wsL_law (wsV RL 113 RX7 yX7_write wsX7_write) := goodIn_app (goodIn_of _ (by decide +kernel)) ggL_law_X7_write
set_option maxRecDepth 20000 in
theorem ggL_law_X8_write : GoodIn wsL_law wsX8_write := goodIn_r _ [885, 886, 134, 348, 349, 5, 350, 351, 352, 353, 887, 888, 889, 890, 891, 892, 893, 894, 142, 146, 147, 148, 1097, 1098, 1099, 1100, 1101, 1102, 1103, 1104, 1105, 1106, 1107, 1108, 1109, 1110, 1111, 1112, 1113, 1114, 1115, 1116, 1117, 1118, 1119, 1120, 1121, 1122, 1123] (by decide +kernel) (by decide +kernel)
set_option maxRecDepth 20000 in
theorem gL_law_X8_write : GoodIn wsL_law (wsV RL 116 RX8 yX8_write wsX8_write) := goodIn_app (goodIn_of _ (by decide +kernel)) ggL_law_X8_write
set_option maxRecDepth 20000 in
theorem ggL_law_X7_writeCredits : GoodIn wsL_law wsX7_writeCredits := goodIn_r _ [898, 31, 15, 223, 224, 245, 246, 519, 734, 735, 736, 30, 737, 738, 739, 717, 740, 106, 741, 720, 111, 742, 743, 744, 745, 746, 747, 112, 748, 749, 750, 751, 752, 753, 754, 755, 756, 757, 758, 285, 273, 286, 759, 760, 761, 762, 763, 764, 765, 766, 767, 768, 769, 770, 771, 772, 110, 773, 272, 274, 774, 162, 163, 164, 775, 776, 777, 778, 779, 109, 780, 781, 782, 783, 784, 785, 786, 787, 788, 789, 790, 791, 115, 792, 793, 839, 840, 841, 842, 843, 844, 845, 846, 847, 848, 849, 850, 851, 852, 853, 854, 113, 114, 116, 117, 118, 119, 120, 855, 856, 857, 858, 859, 860, 861, 862, 863, 817, 818, 819, 864, 865, 822, 866, 824, 867, 868, 827, 869, 834, 835, 836, 813, 837, 838, 870, 871, 872, 873, 874, 875, 876, 877, 878, 879, 880, 881, 794, 795, 796, 797, 798, 799, 800, 801, 802, 803, 213, 804, 805, 806, 807, 808, 809, 810, 811, 812, 814, 815, 816, 820, 821, 823, 825, 826, 828, 829, 830, 831, 832, 833, 711, 712, 713, 714, 715, 716, 718, 719, 1087, 1088, 1089, 1090, 1091, 1092, 1093, 1094, 1095, 1096, 1124, 1125, 1126, 1127, 1128, 1129, 1130, 1131, 1150, 1151, 1152, 1153, 1140, 1141, 1142, 1143] (by decide +kernel) (by decide +kernel)
set_option maxRecDepth 20000 in
theorem gL_law_X7_writeCredits : GoodIn wsL_law (wsV RL 117 RX7 yX7_writeCredits wsX7_writeCredits) := goodIn_app (goodIn_of _ (by decide +kernel)) ggL_law_X7_writeCredits
set_option maxRecDepth 20000 in
theorem ggL_law_X8_writeCredits : GoodIn wsL_law wsX8_writeCredits := goodIn_r _ [902, 886, 134, 891, 892, 893, 5, 894, 142, 390, 391, 392, 887, 888, 889, 890, 1097, 1098, 1099, 1100, 1101, 1102, 1103, 1104, 1105, 1106, 1107, 1108, 1109, 1110, 1111, 1112, 1113, 1114, 1115, 1116, 1117, 1118, 1119, 1120, 1121, 1122, 1123] (by decide +kernel) (by decide +kernel)
set_option maxRecDepth 20000 in
theorem gL_law_X8_writeCredits : GoodIn wsL_law (wsV RL 120 RX8 yX8_writeCredits wsX8_writeCredits) := goodIn_app (goodIn_of _ (by decide +kernel)) ggL_law_X8_writeCredits
set_option maxRecDepth 20000 in
theorem ggL_law_X7_written : GoodIn wsL_law wsX7_written := goodIn_r _ [906, 31, 711, 712, 713, 30, 714, 715, 716, 717, 718, 106, 719, 720, 907, 908, 909, 910, 911, 912, 913, 914, 112, 111, 915, 272, 273, 274, 916, 877, 822, 878, 824, 879, 880, 827, 881, 917, 918, 115, 919, 813, 837, 838, 817, 818, 819, 1087, 1088, 1089, 1090, 1091, 1092, 1093, 1094, 1095, 1096, 1140, 1141, 1142, 1143] (by decide +kernel) (by decide +kernel)
set_option maxRecDepth 20000 in
theorem gL_law_X7_written : GoodIn wsL_law (wsV RL 121 RX7 yX7_written wsX7_written) := goodIn_app (goodIn_of _ (by decide +kernel)) ggL_law_X7_written
set_option maxRecDepth 20000 in
theorem ggL_law_X8_written : GoodIn wsL_law wsX8_written := goodIn_r _ [923, 886, 142, 351, 352, 5, 353, 1097, 1098, 1099, 1100, 1101, 1102, 1103, 1104, 1105, 1106, 1107, 1108, 1109, 1110, 1111, 1112, 1113, 1114, 1115, 1116, 1117, 1118, 1119, 1120, 1121, 1122, 1123] (by decide +kernel) (by decide +kernel)
set_option maxRecDepth 20000 in
theorem gL_law_X8_written : GoodIn wsL_law (wsV RL 124 RX8 yX8_written wsX8_written) := goodIn_app (goodIn_of _ (by decide +kernel)) ggL_law_X8_written
set_option maxRecDepth 20000 in
theorem ggL_law_X7_append : GoodIn wsL_law wsX7_append := goodIn_r _ [927, 27, 709, 711, 712, 713, 30, 714, 715, 716, 717, 718, 106, 719, 720, 839, 840, 841, 842, 843, 844, 845, 846, 111, 743, 744, 745, 746, 747, 112, 748, 749, 750, 751, 752, 753, 754, 755, 756, 757, 758, 285, 273, 286, 759, 760, 761, 762, 763, 764, 765, 766, 767, 768, 769, 770, 771, 772, 110, 773, 272, 274, 774, 162, 163, 164, 775, 776, 777, 778, 779, 109, 847, 848, 782, 849, 850, 851, 852, 853, 854, 113, 114, 115, 116, 117, 118, 119, 120, 855, 856, 857, 858, 859, 860, 861, 862, 863, 817, 818, 819, 864, 865, 822, 866, 824, 867, 868, 827, 869, 834, 835, 836, 813, 837, 838, 870, 871, 872, 873, 874, 875, 876, 877, 878, 879, 880, 881, 1087, 1088, 1089, 1090, 1091, 1092, 1093, 1094, 1095, 1096, 1135, 1136, 1137, 1138, 1139, 1140, 1141, 1142, 1143] (by decide +kernel) (by decide +kernel)
set_option maxRecDepth 20000 in
theorem gL_law_X7_append : GoodIn wsL_law (wsV RL 125 RX7 yX7_append wsX7_append) := goodIn_app (goodIn_of _ (by decide +kernel)) ggL_law_X7_append
set_option maxRecDepth 20000 in
theorem ggL_law_X8_append : GoodIn wsL_law wsX8_append := goodIn_r _ [931, 729, 141, 351, 352, 5, 353, 1097, 1098, 1099, 1100, 1101, 1102, 1103, 1104, 1105, 1106, 1107, 1108, 1109, 1110, 1111, 1112, 1113, 1114, 1115, 1116, 1117, 1118, 1119, 1120, 1121, 1122, 1123] (by decide +kernel) (by decide +kernel)
set_option maxRecDepth 20000 in
theorem gL_law_X8_append : GoodIn wsL_law (wsV RL 129 RX8 yX8_append wsX8_append) := goodIn_app (goodIn_of _ (by decide +kernel)) ggL_law_X8_append
set_option maxRecDepth 20000 in
theorem ggL_law_X7_read : GoodIn wsL_law wsX7_read := goodIn_r _ [935, 27, 709, 936, 36, 16, 15, 937, 938, 939, 35, 23, 940, 941, 942, 26, 943, 96, 97, 95, 944, 945, 946, 947, 948, 712, 713, 30, 714, 715, 716, 717, 718, 106, 719, 720, 949, 908, 909, 910, 911, 912, 913, 914, 112, 111, 915, 272, 273, 274, 916, 877, 822, 878, 824, 879, 880, 827, 881, 917, 918, 115, 919, 813, 837, 838, 817, 818, 819, 950, 951, 952, 953, 98, 954, 285, 286, 955, 956, 957, 958, 959, 960, 961, 962, 963, 964, 965, 966, 967, 968, 969, 970, 971, 972, 973, 974, 975, 976, 977, 978, 979, 980, 981, 982, 782, 983, 984, 985, 986, 987, 873, 874, 875, 876, 988, 989, 990, 991, 992, 100, 993, 994, 995, 996, 734, 735, 736, 737, 738, 739, 740, 741, 742, 743, 744, 745, 746, 747, 748, 749, 750, 751, 752, 753, 754, 755, 756, 757, 758, 759, 760, 761, 762, 763, 764, 765, 766, 767, 768, 769, 770, 771, 772, 110, 773, 774, 162, 163, 164, 775, 776, 777, 778, 779, 109, 780, 781, 783, 784, 785, 786, 787, 788, 789, 790, 791, 792, 793, 157, 158, 159, 14, 160, 41, 43, 161, 44, 45, 46, 50, 54, 58, 165, 166, 167, 49, 168, 62, 169, 170, 171, 172, 53, 173, 67, 68, 174, 69, 70, 175, 176, 177, 57, 178, 74, 75, 76, 77, 78, 79, 80, 81, 179, 180, 181, 2, 182, 183, 184, 185, 186, 187, 188, 189, 190, 191, 192, 193, 34, 194, 125, 126, 127, 128, 195, 196, 197, 198, 199, 200, 201, 202, 203, 204, 205, 206, 207, 208, 209, 210, 211, 212, 213, 214, 215, 216, 217, 218, 219, 220, 221, 222, 223, 224, 225, 226, 227, 228, 229, 230, 231, 232, 233, 234, 235, 236, 237, 238, 239, 240, 241, 242, 243, 244, 245, 246, 247, 248, 249, 250, 251, 252, 253, 254, 255, 256, 257, 258, 259, 260, 261, 262, 263, 264, 265, 266, 267, 268, 269, 270, 271, 275, 276, 277, 278, 63, 279, 280, 281, 282, 283, 284, 287, 288, 289, 290, 291, 292, 293, 294, 295, 296, 297, 298, 299, 300, 301, 302, 303, 304, 305, 306, 307, 308, 309, 310, 311, 312, 313, 314, 315, 316, 317, 318, 319, 320, 321, 322, 323, 324, 997, 998, 999, 1000, 325, 326, 327, 22, 328, 89, 87, 86, 329, 330, 331, 1087, 1088, 1089, 1090, 1091, 1092, 1093, 1094, 1095, 1096, 1135, 1136, 1137, 1138, 1139, 1140, 1141, 1142, 1143, 1124, 1125, 1126, 1127, 1128, 1129, 1130, 1131, 1148, 1149, 1150, 1151, 1152, 1153, 1154, 1155, 1156, 1157, 1158, 1159, 1160, 1161, 1144, 1145, 1146, 1147, 1132, 1133, 1134] (by decide +kernel) (by decide +kernel)
set_option maxRecDepth 20000 in
theorem gL_law_X7_read : GoodIn wsL_law (wsV RL 130 RX7 yX7_read wsX7_read) := goodIn_app (goodIn_of _ (by decide +kernel)) ggL_law_X7_read
set_option maxRecDepth 20000 in
theorem ggL_law_X8_read : GoodIn wsL_law wsX8_read := goodIn_r _ [1004, 729, 1005, 1006, 1007, 1008, 133, 340, 362, 363, 364, 1009, 336, 337, 338, 5, 339, 135, 134, 341, 342, 343, 1010, 1011, 1012, 1013, 1014, 1015, 1016, 1017, 1018, 1019, 1020, 1021, 143, 145, 144, 1022, 1023, 1024, 1025, 141, 1026, 1027, 1028, 1029, 351, 352, 353, 1030, 1031, 1032, 1033, 1034, 1035, 1036, 1037, 344, 345, 346, 347, 348, 349, 350, 354, 355, 356, 357, 358, 359, 360, 361, 365, 366, 367, 368, 369, 370, 371, 372, 386, 387, 388, 389, 146, 147, 148, 390, 391, 392, 401, 402, 403, 404, 405, 406, 407, 408, 409, 410, 411, 412, 421, 422, 423, 424, 425, 426, 427, 428, 429, 430, 431, 432, 140, 433, 434, 435, 436, 445, 446, 447, 448, 457, 458, 459, 460, 469, 470, 471, 472, 139, 473, 474, 475, 476, 477, 478, 479, 480, 481, 373, 374, 375, 376, 377, 138, 1097, 1098, 1099, 1100, 1101, 1102, 1103, 1104, 1105, 1106, 1107, 1108, 1109, 1110, 1111, 1112, 1113, 1114, 1115, 1116, 1117, 1118, 1119, 1120, 1121, 1122, 1123] (by decide +kernel) (by decide +kernel)
set_option maxRecDepth 20000 in
theorem gL_law_X8_read : GoodIn wsL_law (wsV RL 133 RX8 yX8_read wsX8_read) := goodIn_app (goodIn_of _ (by decide +kernel)) ggL_law_X8_read
set_option maxRecDepth 20000 in
theorem ggL_law_X7_fault : GoodIn wsL_law wsX7_fault := goodIn_r _ [1041, 36, 1087, 1088, 1089, 1090, 1091, 1092, 1093, 1094, 1095, 1096] (by decide +kernel) (by decide +kernel)
set_option maxRecDepth 20000 in
theorem gL_law_X7_fault : GoodIn wsL_law (wsV RL 134 RX7 yX7_fault wsX7_fault) := goodIn_app (goodIn_of _ (by decide +kernel)) ggL_law_X7_fault
set_option maxRecDepth 20000 in
theorem ggL_law_X8_fault : GoodIn wsL_law wsX8_fault := goodIn_r _ [1045, 133, 1097, 1098, 1099, 1100, 1101, 1102, 1103, 1104, 1105, 1106, 1107, 1108, 1109, 1110, 1111, 1112, 1113, 1114, 1115, 1116, 1117, 1118, 1119, 1120, 1121, 1122, 1123] (by decide +kernel) (by decide +kernel)
set_option maxRecDepth 20000 in
theorem gL_law_X8_fault : GoodIn wsL_law (wsV RL 137 RX8 yX8_fault wsX8_fault) := goodIn_app (goodIn_of _ (by decide +kernel)) ggL_law_X8_fault
set_option maxRecDepth 20000 in
theorem ggL_law_X7_reason : GoodIn wsL_law wsX7_reason := goodIn_r _ [1049, 35, 1050, 1051, 1052, 1053, 1087, 1088, 1089, 1090, 1091, 1092, 1093, 1094, 1095, 1096, 1144, 1145, 1146, 1147] (by decide +kernel) (by decide +kernel)
set_option maxRecDepth 20000 in
theorem gL_law_X7_reason : GoodIn wsL_law (wsV RL 138 RX7 yX7_reason wsX7_reason) := goodIn_app (goodIn_of _ (by decide +kernel)) ggL_law_X7_reason
set_option maxRecDepth 20000 in
theorem ggL_law_X8_reason : GoodIn wsL_law wsX8_reason := goodIn_r _ [1057, 362, 363, 364, 1009, 351, 352, 5, 353, 1097, 1098, 1099, 1100, 1101, 1102, 1103, 1104, 1105, 1106, 1107, 1108, 1109, 1110, 1111, 1112, 1113, 1114, 1115, 1116, 1117, 1118, 1119, 1120, 1121, 1122, 1123] (by decide +kernel) (by decide +kernel)
set_option maxRecDepth 20000 in
theorem gL_law_X8_reason : GoodIn wsL_law (wsV RL 142 RX8 yX8_reason wsX8_reason) := goodIn_app (goodIn_of _ (by decide +kernel)) ggL_law_X8_reason
set_option maxRecDepth 20000 in
theorem ggL_law_X7_undo : GoodIn wsL_law wsX7_undo := goodIn_r _ [1061, 23, 710, 15, 1062, 1063, 1064, 22, 1065, 87, 89, 86, 331, 322, 323, 324, 330, 158, 159, 14, 160, 41, 43, 161, 162, 163, 164, 44, 45, 46, 50, 54, 58, 165, 166, 167, 49, 168, 62, 169, 170, 171, 172, 53, 173, 67, 68, 174, 69, 70, 175, 176, 177, 57, 178, 74, 75, 76, 77, 78, 79, 80, 81, 1087, 1088, 1089, 1090, 1091, 1092, 1093, 1094, 1095, 1096, 1132, 1133, 1134, 1124, 1125, 1126, 1127, 1128, 1129, 1130, 1131, 1148, 1149, 1150, 1151, 1152, 1153, 1154, 1155, 1156, 1157, 1158, 1159, 1160, 1161] (by decide +kernel) (by decide +kernel)
set_option maxRecDepth 20000 in
theorem gL_law_X7_undo : GoodIn wsL_law (wsV RL 143 RX7 yX7_undo wsX7_undo) := goodIn_app (goodIn_of _ (by decide +kernel)) ggL_law_X7_undo
set_option maxRecDepth 20000 in
theorem ggL_law_X8_undo : GoodIn wsL_law wsX8_undo := goodIn_r _ [1069, 377, 134, 138, 1097, 1098, 1099, 1100, 1101, 1102, 1103, 1104, 1105, 1106, 1107, 1108, 1109, 1110, 1111, 1112, 1113, 1114, 1115, 1116, 1117, 1118, 1119, 1120, 1121, 1122, 1123] (by decide +kernel) (by decide +kernel)
set_option maxRecDepth 20000 in
theorem gL_law_X8_undo : GoodIn wsL_law (wsV RL 146 RX8 yX8_undo wsX8_undo) := goodIn_app (goodIn_of _ (by decide +kernel)) ggL_law_X8_undo
set_option maxRecDepth 20000 in
theorem ggL_law_X7_save : GoodIn wsL_law wsX7_save := goodIn_r _ [1073, 18, 15, 19, 520, 157, 158, 159, 14, 160, 41, 43, 161, 162, 163, 164, 44, 45, 46, 50, 54, 58, 165, 166, 167, 49, 168, 62, 169, 170, 171, 172, 53, 173, 67, 68, 174, 69, 70, 175, 176, 177, 57, 178, 74, 75, 76, 77, 78, 79, 80, 81, 1087, 1088, 1089, 1090, 1091, 1092, 1093, 1094, 1095, 1096, 1124, 1125, 1126, 1127, 1128, 1129, 1130, 1131, 1148, 1149, 1150, 1151, 1152, 1153, 1154, 1155, 1156, 1157, 1158, 1159, 1160, 1161] (by decide +kernel) (by decide +kernel)
set_option maxRecDepth 20000 in
theorem gL_law_X7_save : GoodIn wsL_law (wsV RL 147 RX7 yX7_save wsX7_save) := goodIn_app (goodIn_of _ (by decide +kernel)) ggL_law_X7_save
set_option maxRecDepth 20000 in
theorem ggL_law_X8_save : GoodIn wsL_law wsX8_save := goodIn_r _ [1077, 136, 134, 1078, 341, 342, 5, 343, 1097, 1098, 1099, 1100, 1101, 1102, 1103, 1104, 1105, 1106, 1107, 1108, 1109, 1110, 1111, 1112, 1113, 1114, 1115, 1116, 1117, 1118, 1119, 1120, 1121, 1122, 1123] (by decide +kernel) (by decide +kernel)
set_option maxRecDepth 20000 in
theorem gL_law_X8_save : GoodIn wsL_law (wsV RL 150 RX8 yX8_save wsX8_save) := goodIn_app (goodIn_of _ (by decide +kernel)) ggL_law_X8_save
set_option maxRecDepth 20000 in
theorem ggL_law_X7_restore : GoodIn wsL_law wsX7_restore := goodIn_r _ [1082, 19, 15, 18, 23, 710, 520, 157, 158, 159, 14, 160, 41, 43, 161, 162, 163, 164, 44, 45, 46, 50, 54, 58, 165, 166, 167, 49, 168, 62, 169, 170, 171, 172, 53, 173, 67, 68, 174, 69, 70, 175, 176, 177, 57, 178, 74, 75, 76, 77, 78, 79, 80, 81, 1087, 1088, 1089, 1090, 1091, 1092, 1093, 1094, 1095, 1096, 1132, 1133, 1134, 1124, 1125, 1126, 1127, 1128, 1129, 1130, 1131, 1148, 1149, 1150, 1151, 1152, 1153, 1154, 1155, 1156, 1157, 1158, 1159, 1160, 1161] (by decide +kernel) (by decide +kernel)
set_option maxRecDepth 20000 in
theorem gL_law_X7_restore : GoodIn wsL_law (wsV RL 151 RX7 yX7_restore wsX7_restore) := goodIn_app (goodIn_of _ (by decide +kernel)) ggL_law_X7_restore
set_option maxRecDepth 20000 in
theorem ggL_law_X8_restore : GoodIn wsL_law wsX8_restore := goodIn_r _ [1086, 1078, 134, 136, 377, 341, 342, 5, 343, 1097, 1098, 1099, 1100, 1101, 1102, 1103, 1104, 1105, 1106, 1107, 1108, 1109, 1110, 1111, 1112, 1113, 1114, 1115, 1116, 1117, 1118, 1119, 1120, 1121, 1122, 1123] (by decide +kernel) (by decide +kernel)
set_option maxRecDepth 20000 in
theorem gL_law_X8_restore : GoodIn wsL_law (wsV RL 154 RX8 yX8_restore wsX8_restore) := goodIn_app (goodIn_of _ (by decide +kernel)) ggL_law_X8_restore
