set_option maxRecDepth 20000 in
theorem ggL_law_X7_owesAgain : GoodIn wsL_law wsX7_owesAgain := goodIn_r _ [540, 15, 188, 189, 2, 190, 541, 542, 543, 14, 544, 54, 41, 545, 546, 547, 53, 548, 67, 68, 70, 69, 1087, 1088, 1089, 1090, 1091, 1092, 1093, 1094, 1095, 1096, 1124, 1125, 1126, 1127, 1128, 1129, 1130, 1131, 1150, 1151, 1152, 1153] rfl (by decide +kernel)
set_option maxRecDepth 20000 in
theorem gL_law_X7_owesAgain : GoodIn wsL_law (wsV RL 58 RX7 yX7_owesAgain wsX7_owesAgain) := goodIn_app (goodIn_of _ (by decide +kernel)) ggL_law_X7_owesAgain
set_option maxRecDepth 20000 in
theorem ggL_law_X8_owesAgain : GoodIn wsL_law wsX8_owesAgain := goodIn_r _ [552, 553, 534, 535, 5, 536, 134, 348, 349, 350, 351, 352, 353, 390, 391, 392, 1097, 1098, 1099, 1100, 1101, 1102, 1103, 1104, 1105, 1106, 1107, 1108, 1109, 1110, 1111, 1112, 1113, 1114, 1115, 1116, 1117, 1118, 1119, 1120, 1121, 1122, 1123] rfl (by decide +kernel)
set_option maxRecDepth 20000 in
theorem gL_law_X8_owesAgain : GoodIn wsL_law (wsV RL 61 RX8 yX8_owesAgain wsX8_owesAgain) := goodIn_app (goodIn_of _ (by decide +kernel)) ggL_law_X8_owesAgain
set_option maxRecDepth 20000 in
theorem ggL_law_X7_due : GoodIn wsL_law wsX7_due := goodIn_r _ [557, 15, 223, 520, 558, 546, 547, 53, 548, 67, 68, 70, 69, 1087, 1088, 1089, 1090, 1091, 1092, 1093, 1094, 1095, 1096, 1124, 1125, 1126, 1127, 1128, 1129, 1130, 1131, 1150, 1151, 1152, 1153] rfl (by decide +kernel)
set_option maxRecDepth 20000 in
theorem gL_law_X7_due : GoodIn wsL_law (wsV RL 62 RX7 yX7_due wsX7_due) := goodIn_app (goodIn_of _ (by decide +kernel)) ggL_law_X7_due
set_option maxRecDepth 20000 in
theorem ggL_law_X8_due : GoodIn wsL_law wsX8_due := goodIn_r _ [562, 134, 351, 352, 5, 353, 390, 391, 392, 1097, 1098, 1099, 1100, 1101, 1102, 1103, 1104, 1105, 1106, 1107, 1108, 1109, 1110, 1111, 1112, 1113, 1114, 1115, 1116, 1117, 1118, 1119, 1120, 1121, 1122, 1123] rfl (by decide +kernel)
set_option maxRecDepth 20000 in
theorem gL_law_X8_due : GoodIn wsL_law (wsV RL 65 RX8 yX8_due wsX8_due) := goodIn_app (goodIn_of _ (by decide +kernel)) ggL_law_X8_due
set_option maxRecDepth 20000 in
theorem ggL_law_X7_far : GoodIn wsL_law wsX7_far := goodIn_r _ [566, 15, 187, 188, 189, 2, 190, 567, 568, 569, 49, 570, 495, 496, 497, 498, 62, 1087, 1088, 1089, 1090, 1091, 1092, 1093, 1094, 1095, 1096, 1124, 1125, 1126, 1127, 1128, 1129, 1130, 1131, 1148, 1149] rfl (by decide +kernel)
set_option maxRecDepth 20000 in
theorem gL_law_X7_far : GoodIn wsL_law (wsV RL 66 RX7 yX7_far wsX7_far) := goodIn_app (goodIn_of _ (by decide +kernel)) ggL_law_X7_far
set_option maxRecDepth 20000 in
theorem ggL_law_X8_far : GoodIn wsL_law wsX8_far := goodIn_r _ [574, 140, 348, 349, 5, 350, 351, 352, 353, 429, 430, 431, 432, 134, 1097, 1098, 1099, 1100, 1101, 1102, 1103, 1104, 1105, 1106, 1107, 1108, 1109, 1110, 1111, 1112, 1113, 1114, 1115, 1116, 1117, 1118, 1119, 1120, 1121, 1122, 1123] rfl (by decide +kernel)
set_option maxRecDepth 20000 in
theorem gL_law_X8_far : GoodIn wsL_law (wsV RL 69 RX8 yX8_far wsX8_far) := goodIn_app (goodIn_of _ (by decide +kernel)) ggL_law_X8_far
set_option maxRecDepth 20000 in
theorem ggL_law_X7_drizzle : GoodIn wsL_law wsX7_drizzle := goodIn_r _ [578, 15, 187, 579, 188, 189, 2, 190, 226, 227, 228, 580, 276, 277, 49, 278, 63, 62, 1087, 1088, 1089, 1090, 1091, 1092, 1093, 1094, 1095, 1096, 1124, 1125, 1126, 1127, 1128, 1129, 1130, 1131, 1148, 1149] rfl (by decide +kernel)
set_option maxRecDepth 20000 in
theorem gL_law_X7_drizzle : GoodIn wsL_law (wsV RL 70 RX7 yX7_drizzle wsX7_drizzle) := goodIn_app (goodIn_of _ (by decide +kernel)) ggL_law_X7_drizzle
set_option maxRecDepth 20000 in
theorem ggL_law_X8_drizzle : GoodIn wsL_law wsX8_drizzle := goodIn_r _ [584, 348, 349, 5, 350, 351, 352, 353, 429, 430, 431, 432, 140, 134, 433, 434, 435, 436, 1097, 1098, 1099, 1100, 1101, 1102, 1103, 1104, 1105, 1106, 1107, 1108, 1109, 1110, 1111, 1112, 1113, 1114, 1115, 1116, 1117, 1118, 1119, 1120, 1121, 1122, 1123] rfl (by decide +kernel)
set_option maxRecDepth 20000 in
theorem gL_law_X8_drizzle : GoodIn wsL_law (wsV RL 73 RX8 yX8_drizzle wsX8_drizzle) := goodIn_app (goodIn_of _ (by decide +kernel)) ggL_law_X8_drizzle
set_option maxRecDepth 20000 in
theorem ggL_law_X7_drizzleAgain : GoodIn wsL_law wsX7_drizzleAgain := goodIn_r _ [588, 15, 187, 188, 189, 2, 190, 226, 227, 228, 589, 590, 591, 49, 592, 593, 568, 569, 570, 495, 496, 497, 498, 62, 1087, 1088, 1089, 1090, 1091, 1092, 1093, 1094, 1095, 1096, 1124, 1125, 1126, 1127, 1128, 1129, 1130, 1131, 1148, 1149] rfl (by decide +kernel)
set_option maxRecDepth 20000 in
theorem gL_law_X7_drizzleAgain : GoodIn wsL_law (wsV RL 74 RX7 yX7_drizzleAgain wsX7_drizzleAgain) := goodIn_app (goodIn_of _ (by decide +kernel)) ggL_law_X7_drizzleAgain
set_option maxRecDepth 20000 in
theorem ggL_law_X8_drizzleAgain : GoodIn wsL_law wsX8_drizzleAgain := goodIn_r _ [597, 598, 582, 583, 5, 584, 348, 349, 350, 351, 352, 353, 429, 430, 431, 432, 140, 134, 433, 434, 435, 436, 1097, 1098, 1099, 1100, 1101, 1102, 1103, 1104, 1105, 1106, 1107, 1108, 1109, 1110, 1111, 1112, 1113, 1114, 1115, 1116, 1117, 1118, 1119, 1120, 1121, 1122, 1123] rfl (by decide +kernel)
set_option maxRecDepth 20000 in
theorem gL_law_X8_drizzleAgain : GoodIn wsL_law (wsV RL 77 RX8 yX8_drizzleAgain wsX8_drizzleAgain) := goodIn_app (goodIn_of _ (by decide +kernel)) ggL_law_X8_drizzleAgain
set_option maxRecDepth 20000 in
theorem ggL_law_X7_would : GoodIn wsL_law wsX7_would := goodIn_r _ [602, 17, 15, 188, 189, 2, 190, 157, 158, 159, 14, 160, 41, 43, 161, 162, 163, 164, 44, 45, 46, 50, 54, 58, 165, 166, 167, 49, 168, 62, 169, 170, 171, 172, 53, 173, 67, 68, 174, 69, 70, 175, 176, 177, 57, 178, 74, 75, 76, 77, 78, 79, 80, 81, 292, 293, 294, 295, 271, 272, 273, 274, 236, 296, 285, 286, 297, 298, 299, 300, 301, 302, 303, 304, 305, 259, 260, 261, 257, 250, 251, 252, 306, 307, 308, 309, 310, 311, 312, 313, 314, 267, 268, 269, 270, 275, 276, 277, 278, 63, 315, 316, 317, 318, 319, 320, 321, 322, 323, 324, 499, 500, 501, 502, 1087, 1088, 1089, 1090, 1091, 1092, 1093, 1094, 1095, 1096, 1124, 1125, 1126, 1127, 1128, 1129, 1130, 1131, 1148, 1149, 1150, 1151, 1152, 1153, 1154, 1155, 1156, 1157, 1158, 1159, 1160, 1161] rfl (by decide +kernel)
set_option maxRecDepth 20000 in
theorem gL_law_X7_would : GoodIn wsL_law (wsV RL 78 RX7 yX7_would wsX7_would) := goodIn_app (goodIn_of _ (by decide +kernel)) ggL_law_X7_would
set_option maxRecDepth 20000 in
theorem ggL_law_X8_would : GoodIn wsL_law wsX8_would := goodIn_r _ [606, 137, 134, 348, 349, 5, 350, 351, 352, 353, 341, 342, 343, 469, 470, 471, 472, 139, 473, 474, 475, 476, 477, 390, 391, 392, 146, 147, 148, 409, 410, 411, 412, 425, 426, 427, 428, 429, 430, 431, 432, 140, 433, 434, 435, 436, 478, 479, 480, 481, 1097, 1098, 1099, 1100, 1101, 1102, 1103, 1104, 1105, 1106, 1107, 1108, 1109, 1110, 1111, 1112, 1113, 1114, 1115, 1116, 1117, 1118, 1119, 1120, 1121, 1122, 1123] rfl (by decide +kernel)
set_option maxRecDepth 20000 in
theorem gL_law_X8_would : GoodIn wsL_law (wsV RL 81 RX8 yX8_would wsX8_would) := goodIn_app (goodIn_of _ (by decide +kernel)) ggL_law_X8_would
set_option maxRecDepth 20000 in
theorem ggL_law_X7_most : GoodIn wsL_law wsX7_most := goodIn_r _ [610, 15, 222, 223, 224, 225, 611, 272, 273, 274, 188, 189, 2, 190, 229, 230, 231, 612, 613, 614, 615, 17, 520, 157, 158, 159, 14, 160, 41, 43, 161, 162, 163, 164, 44, 45, 46, 50, 54, 58, 165, 166, 167, 49, 168, 62, 169, 170, 171, 172, 53, 173, 67, 68, 174, 69, 70, 175, 176, 177, 57, 178, 74, 75, 76, 77, 78, 79, 80, 81, 232, 233, 234, 235, 236, 237, 238, 239, 240, 292, 293, 294, 295, 271, 296, 285, 286, 297, 298, 299, 300, 301, 302, 303, 304, 305, 259, 260, 261, 257, 250, 251, 252, 306, 307, 308, 309, 310, 311, 312, 313, 314, 267, 268, 269, 270, 275, 276, 277, 278, 63, 315, 316, 317, 318, 319, 320, 321, 322, 323, 324, 558, 546, 547, 548, 1087, 1088, 1089, 1090, 1091, 1092, 1093, 1094, 1095, 1096, 1124, 1125, 1126, 1127, 1128, 1129, 1130, 1131, 1150, 1151, 1152, 1153, 1148, 1149, 1154, 1155, 1156, 1157, 1158, 1159, 1160, 1161] rfl (by decide +kernel)
set_option maxRecDepth 20000 in
theorem gL_law_X7_most : GoodIn wsL_law (wsV RL 82 RX7 yX7_most wsX7_most) := goodIn_app (goodIn_of _ (by decide +kernel)) ggL_law_X7_most
set_option maxRecDepth 20000 in
theorem ggL_law_X8_most : GoodIn wsL_law wsX8_most := goodIn_r _ [619, 134, 348, 349, 5, 350, 351, 352, 353, 146, 147, 148, 620, 621, 622, 623, 137, 477, 341, 342, 343, 386, 387, 388, 389, 354, 355, 356, 357, 340, 358, 359, 360, 361, 362, 363, 364, 390, 391, 392, 469, 470, 471, 472, 139, 473, 474, 475, 476, 409, 410, 411, 412, 425, 426, 427, 428, 429, 430, 431, 432, 140, 433, 434, 435, 436, 478, 479, 480, 481, 1097, 1098, 1099, 1100, 1101, 1102, 1103, 1104, 1105, 1106, 1107, 1108, 1109, 1110, 1111, 1112, 1113, 1114, 1115, 1116, 1117, 1118, 1119, 1120, 1121, 1122, 1123] rfl (by decide +kernel)
set_option maxRecDepth 20000 in
theorem gL_law_X8_most : GoodIn wsL_law (wsV RL 85 RX8 yX8_most wsX8_most) := goodIn_app (goodIn_of _ (by decide +kernel)) ggL_law_X8_most
set_option maxRecDepth 20000 in
theorem ggL_law_X7_ranked : GoodIn wsL_law wsX7_ranked := goodIn_r _ [627, 15, 628, 629, 630, 14, 631, 632, 633, 634, 635, 46, 43, 189, 2, 190, 1087, 1088, 1089, 1090, 1091, 1092, 1093, 1094, 1095, 1096, 1124, 1125, 1126, 1127, 1128, 1129, 1130, 1131] rfl (by decide +kernel)
set_option maxRecDepth 20000 in
theorem gL_law_X7_ranked : GoodIn wsL_law (wsV RL 86 RX7 yX7_ranked wsX7_ranked) := goodIn_app (goodIn_of _ (by decide +kernel)) ggL_law_X7_ranked
set_option maxRecDepth 20000 in
theorem ggL_law_X8_ranked : GoodIn wsL_law wsX8_ranked := goodIn_r _ [639, 134, 146, 147, 5, 148, 1097, 1098, 1099, 1100, 1101, 1102, 1103, 1104, 1105, 1106, 1107, 1108, 1109, 1110, 1111, 1112, 1113, 1114, 1115, 1116, 1117, 1118, 1119, 1120, 1121, 1122, 1123] rfl (by decide +kernel)
set_option maxRecDepth 20000 in
theorem gL_law_X8_ranked : GoodIn wsL_law (wsV RL 89 RX8 yX8_ranked wsX8_ranked) := goodIn_app (goodIn_of _ (by decide +kernel)) ggL_law_X8_ranked
set_option maxRecDepth 20000 in
theorem ggL_law_X7_next : GoodIn wsL_law wsX7_next := goodIn_r _ [643, 15, 223, 224, 644, 645, 646, 53, 647, 67, 648, 649, 650, 651, 70, 69, 257, 250, 251, 252, 1087, 1088, 1089, 1090, 1091, 1092, 1093, 1094, 1095, 1096, 1124, 1125, 1126, 1127, 1128, 1129, 1130, 1131, 1150, 1151, 1152, 1153] rfl (by decide +kernel)
set_option maxRecDepth 20000 in
theorem gL_law_X7_next : GoodIn wsL_law (wsV RL 90 RX7 yX7_next wsX7_next) := goodIn_app (goodIn_of _ (by decide +kernel)) ggL_law_X7_next
set_option maxRecDepth 20000 in
theorem ggL_law_X8_next : GoodIn wsL_law wsX8_next := goodIn_r _ [655, 134, 390, 391, 5, 392, 1097, 1098, 1099, 1100, 1101, 1102, 1103, 1104, 1105, 1106, 1107, 1108, 1109, 1110, 1111, 1112, 1113, 1114, 1115, 1116, 1117, 1118, 1119, 1120, 1121, 1122, 1123] rfl (by decide +kernel)
set_option maxRecDepth 20000 in
theorem gL_law_X8_next : GoodIn wsL_law (wsV RL 93 RX8 yX8_next wsX8_next) := goodIn_app (goodIn_of _ (by decide +kernel)) ggL_law_X8_next
set_option maxRecDepth 20000 in
theorem ggL_law_X7_isCounted : GoodIn wsL_law wsX7_isCounted := goodIn_r _ [659, 15, 660, 661, 662, 2, 663, 223, 529, 530, 531, 53, 532, 67, 68, 69, 541, 542, 543, 14, 544, 54, 41, 545, 546, 547, 548, 70, 664, 665, 666, 667, 187, 579, 580, 276, 277, 49, 278, 63, 62, 589, 590, 591, 592, 593, 568, 569, 570, 495, 496, 497, 498, 668, 669, 670, 671, 58, 236, 43, 310, 672, 320, 673, 674, 1087, 1088, 1089, 1090, 1091, 1092, 1093, 1094, 1095, 1096, 1124, 1125, 1126, 1127, 1128, 1129, 1130, 1131, 1150, 1151, 1152, 1153, 1148, 1149, 1154, 1155, 1156, 1157, 1158, 1159, 1160, 1161] rfl (by decide +kernel)
set_option maxRecDepth 20000 in
theorem gL_law_X7_isCounted : GoodIn wsL_law (wsV RL 94 RX7 yX7_isCounted wsX7_isCounted) := goodIn_app (goodIn_of _ (by decide +kernel)) ggL_law_X7_isCounted
set_option maxRecDepth 20000 in
theorem ggL_law_X8_isCounted : GoodIn wsL_law wsX8_isCounted := goodIn_r _ [678, 134, 679, 680, 681, 5, 682, 146, 147, 148, 1097, 1098, 1099, 1100, 1101, 1102, 1103, 1104, 1105, 1106, 1107, 1108, 1109, 1110, 1111, 1112, 1113, 1114, 1115, 1116, 1117, 1118, 1119, 1120, 1121, 1122, 1123] rfl (by decide +kernel)
set_option maxRecDepth 20000 in
theorem gL_law_X8_isCounted : GoodIn wsL_law (wsV RL 98 RX8 yX8_isCounted wsX8_isCounted) := goodIn_app (goodIn_of _ (by decide +kernel)) ggL_law_X8_isCounted
set_option maxRecDepth 20000 in
theorem ggL_law_X7_meanSun : GoodIn wsL_law wsX7_meanSun := goodIn_r _ [686, 15, 225, 687, 688, 673, 2, 674, 1087, 1088, 1089, 1090, 1091, 1092, 1093, 1094, 1095, 1096, 1124, 1125, 1126, 1127, 1128, 1129, 1130, 1131] rfl (by decide +kernel)
set_option maxRecDepth 20000 in
theorem gL_law_X7_meanSun : GoodIn wsL_law (wsV RL 99 RX7 yX7_meanSun wsX7_meanSun) := goodIn_app (goodIn_of _ (by decide +kernel)) ggL_law_X7_meanSun
set_option maxRecDepth 20000 in
theorem ggL_law_X8_meanSun : GoodIn wsL_law wsX8_meanSun := goodIn_r _ [692, 693, 679, 680, 681, 5, 682, 134, 146, 147, 148, 1097, 1098, 1099, 1100, 1101, 1102, 1103, 1104, 1105, 1106, 1107, 1108, 1109, 1110, 1111, 1112, 1113, 1114, 1115, 1116, 1117, 1118, 1119, 1120, 1121, 1122, 1123] rfl (by decide +kernel)
set_option maxRecDepth 20000 in
theorem gL_law_X8_meanSun : GoodIn wsL_law (wsV RL 103 RX8 yX8_meanSun wsX8_meanSun) := goodIn_app (goodIn_of _ (by decide +kernel)) ggL_law_X8_meanSun
set_option maxRecDepth 20000 in
theorem ggL_law_X7_paidShare : GoodIn wsL_law wsX7_paidShare := goodIn_r _ [697, 15, 247, 698, 699, 1087, 1088, 1089, 1090, 1091, 1092, 1093, 1094, 1095, 1096, 1124, 1125, 1126, 1127, 1128, 1129, 1130, 1131, 1154, 1155, 1156, 1157, 1158, 1159, 1160, 1161] rfl (by decide +kernel)
set_option maxRecDepth 20000 in
theorem gL_law_X7_paidShare : GoodIn wsL_law (wsV RL 104 RX7 yX7_paidShare wsX7_paidShare) := goodIn_app (goodIn_of _ (by decide +kernel)) ggL_law_X7_paidShare
