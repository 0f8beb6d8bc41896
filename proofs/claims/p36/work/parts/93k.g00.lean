/-! THE LAW: words of its calls -/
theorem goodIn_cons {big a : List Cond} {c : Cond} (hc : GoodIn big [c]) (ha : GoodIn big a) : GoodIn big (c :: a) := fun w h => (List.mem_cons.mp h).elim (fun e => hc w (by rw [e]; exact List.mem_cons_self)) (ha w)
theorem goodIn_nil {big : List Cond} : GoodIn big [] := fun w h => absurd h List.not_mem_nil
set_option maxRecDepth 20000 in
theorem gp_wsX7_init_r1 : GoodIn wsL_law wsX7_init_r1 := goodIn_r _ [14, 15, 16, 17, 18, 19, 20, 21, 22, 23, 24, 25, 26, 27, 28, 29, 30, 31, 32, 33, 34, 35, 36, 37] (by decide +kernel) (by decide +kernel)
set_option maxRecDepth 20000 in
theorem gp_wsX7_init_r2 : GoodIn wsL_law wsX7_init_r2 := goodIn_r _ [38, 39, 40, 41, 42, 43, 44, 45, 46, 47, 48, 49, 50, 51, 52, 53, 54, 55, 56, 57, 58, 59, 60, 61] (by decide +kernel) (by decide +kernel)
set_option maxRecDepth 20000 in
theorem gp_wsX7_init_r3 : GoodIn wsL_law wsX7_init_r3 := goodIn_r _ [62, 63, 64, 65, 66, 67, 68, 69, 70, 71, 72, 73, 74, 75, 76, 77, 78, 79, 80, 81, 82, 83, 84, 85] (by decide +kernel) (by decide +kernel)
set_option maxRecDepth 20000 in
theorem gp_wsX7_init_r4 : GoodIn wsL_law wsX7_init_r4 := goodIn_r _ [86, 87, 88, 89, 90, 91, 92, 93, 94, 95, 96, 97, 98, 99, 100, 101, 102, 103, 104, 105, 106, 107, 108, 109] (by decide +kernel) (by decide +kernel)
set_option maxRecDepth 20000 in
theorem gp_wsX7_init_r5 : GoodIn wsL_law wsX7_init_r5 := goodIn_r _ [110, 111, 112, 113, 114, 115, 116, 117, 118, 119, 120, 121, 122, 123, 124, 125, 126, 127, 128, 129, 130, 131, 132, 133] (by decide +kernel) (by decide +kernel)
set_option maxRecDepth 20000 in
theorem gp_wsX30 : GoodIn wsL_law wsX30 := goodIn_r _ [915, 916, 917, 918, 919, 920, 921, 922] (by decide +kernel) (by decide +kernel)
set_option maxRecDepth 20000 in
theorem gp_wsX70 : GoodIn wsL_law wsX70 := goodIn_r _ [904, 905, 906, 907, 908, 909, 910, 911, 912, 913] (by decide +kernel) (by decide +kernel)
set_option maxRecDepth 20000 in
theorem gp_wsX20 : GoodIn wsL_law wsX20 := goodIn_r _ [923, 924, 925] (by decide +kernel) (by decide +kernel)
set_option maxRecDepth 20000 in
theorem gp_wsX50 : GoodIn wsL_law wsX50 := goodIn_r _ [926, 927, 928, 929, 930] (by decide +kernel) (by decide +kernel)
set_option maxRecDepth 20000 in
theorem gp_wsJ40 : GoodIn wsL_law wsJ40 := goodIn_r _ [931, 932, 933, 934] (by decide +kernel) (by decide +kernel)
set_option maxRecDepth 20000 in
theorem gp_wsX40 : GoodIn wsL_law wsX40 := goodIn_r _ [935, 936, 937, 938] (by decide +kernel) (by decide +kernel)
set_option maxRecDepth 20000 in
theorem gp_wsX60 : GoodIn wsL_law wsX60 := goodIn_r _ [939, 940] (by decide +kernel) (by decide +kernel)
set_option maxRecDepth 20000 in
theorem gp_wsX10 : GoodIn wsL_law wsX10 := goodIn_r _ [941, 942, 943, 944] (by decide +kernel) (by decide +kernel)
set_option maxRecDepth 20000 in
theorem gp_wsX00 : GoodIn wsL_law wsX00 := goodIn_r _ [945, 946, 947, 948, 949, 950, 951, 952] (by decide +kernel) (by decide +kernel)
set_option maxRecDepth 20000 in
theorem gp_X7_init_0 : GoodIn wsL_law [.code yX7_init cX7_init 1 none] := goodIn_r _ [13] (by decide +kernel) (by decide +kernel)
theorem ggL_law_X7_init : GoodIn wsL_law wsX7_init := (goodIn_cons gp_X7_init_0 (goodIn_app (goodIn_app (goodIn_app (goodIn_app (goodIn_app (goodIn_app (goodIn_app (goodIn_app (goodIn_app (goodIn_app gp_wsX7_init_r1 (goodIn_app gp_wsX7_init_r2 (goodIn_app gp_wsX7_init_r3 (goodIn_app gp_wsX7_init_r4 gp_wsX7_init_r5)))) gp_wsX30) gp_wsX70) gp_wsX20) gp_wsX50) gp_wsJ40) gp_wsX40) gp_wsX60) gp_wsX10) gp_wsX00))
set_option maxRecDepth 20000 in
theorem gL_law_X7_init : GoodIn wsL_law (wsX7_init) := ggL_law_X7_init
set_option maxRecDepth 20000 in
theorem gp_wsX7_undo_r1 : GoodIn wsL_law wsX7_undo_r1 := goodIn_r _ [28, 138, 20, 139, 140, 141, 27, 142, 92, 94, 91, 143, 144, 145, 146, 147, 148, 149, 19, 150, 46, 48, 151, 152] (by decide +kernel) (by decide +kernel)
set_option maxRecDepth 20000 in
theorem gp_wsX7_undo_r2 : GoodIn wsL_law wsX7_undo_r2 := goodIn_r _ [153, 154, 49, 50, 51, 55, 59, 63, 155, 156, 157, 54, 158, 67, 159, 160, 161, 162, 58, 163, 72, 73, 164, 74] (by decide +kernel) (by decide +kernel)
set_option maxRecDepth 20000 in
theorem gp_wsX7_undo_r3 : GoodIn wsL_law wsX7_undo_r3 := goodIn_r _ [75, 165, 166, 167, 62, 168, 79, 80, 81, 82, 83, 84, 85, 86] (by decide +kernel) (by decide +kernel)
set_option maxRecDepth 20000 in
theorem gp_X7_undo_0 : GoodIn wsL_law [.code yX7_undo cX7_undo 1 (some .int)] := goodIn_r _ [137] (by decide +kernel) (by decide +kernel)
theorem ggL_law_X7_undo : GoodIn wsL_law wsX7_undo := (goodIn_cons gp_X7_undo_0 (goodIn_app (goodIn_app (goodIn_app (goodIn_app (goodIn_app (goodIn_app (goodIn_app gp_wsX7_undo_r1 (goodIn_app gp_wsX7_undo_r2 gp_wsX7_undo_r3)) gp_wsX70) gp_wsX20) gp_wsX30) gp_wsX60) gp_wsX10) gp_wsX00))
set_option maxRecDepth 20000 in
theorem gL_law_X7_undo : GoodIn wsL_law (wsV RL 174 RX7 yX7_undo wsX7_undo) := goodIn_app (goodIn_of _ (by decide +kernel)) ggL_law_X7_undo
set_option maxRecDepth 20000 in
theorem gp_wsX7_restore_r1 : GoodIn wsL_law wsX7_restore_r1 := goodIn_r _ [24, 20, 23, 28, 138, 173, 174, 148, 149, 19, 150, 46, 48, 151, 152, 153, 154, 49, 50, 51, 55, 59, 63, 155] (by decide +kernel) (by decide +kernel)
set_option maxRecDepth 20000 in
theorem gp_wsX7_restore_r2 : GoodIn wsL_law wsX7_restore_r2 := goodIn_r _ [156, 157, 54, 158, 67, 159, 160, 161, 162, 58, 163, 72, 73, 164, 74, 75, 165, 166, 167, 62, 168, 79, 80, 81] (by decide +kernel) (by decide +kernel)
set_option maxRecDepth 20000 in
theorem gp_wsX7_restore_r3 : GoodIn wsL_law wsX7_restore_r3 := goodIn_r _ [82, 83, 84, 85, 86] (by decide +kernel) (by decide +kernel)
set_option maxRecDepth 20000 in
theorem gp_X7_restore_0 : GoodIn wsL_law [.code yX7_restore cX7_restore 1 (some .int)] := goodIn_r _ [172] (by decide +kernel) (by decide +kernel)
theorem ggL_law_X7_restore : GoodIn wsL_law wsX7_restore := (goodIn_cons gp_X7_restore_0 (goodIn_app (goodIn_app (goodIn_app (goodIn_app (goodIn_app (goodIn_app (goodIn_app gp_wsX7_restore_r1 (goodIn_app gp_wsX7_restore_r2 gp_wsX7_restore_r3)) gp_wsX70) gp_wsX20) gp_wsX30) gp_wsX60) gp_wsX10) gp_wsX00))
set_option maxRecDepth 20000 in
theorem gL_law_X7_restore : GoodIn wsL_law (wsV RL 167 RX7 yX7_restore wsX7_restore) := goodIn_app (goodIn_of _ (by decide +kernel)) ggL_law_X7_restore
set_option maxRecDepth 20000 in
theorem gp_X7_reason_1 : GoodIn wsL_law [.fieldLink RX7 53 "WeatherMinistry" "latest" "LWeatherMinistry$Reason;", .fieldLink RX7 258 "WeatherMinistry$Reason" "number" "I", .fieldLink RX7 261 "WeatherMinistry$Reason" "detail" "I", .fieldLink RX7 264 "WeatherMinistry$Reason" "numberBehind" "I", .fieldLink RX7 267 "WeatherMinistry$Reason" "detailBehind" "I"] := goodIn_r _ [40, 179, 180, 181, 182] (by decide +kernel) (by decide +kernel)
set_option maxRecDepth 20000 in
theorem gp_X7_reason_0 : GoodIn wsL_law [.code yX7_reason cX7_reason 3 (some .int)] := goodIn_r _ [178] (by decide +kernel) (by decide +kernel)
theorem ggL_law_X7_reason : GoodIn wsL_law wsX7_reason := (goodIn_cons gp_X7_reason_0 (goodIn_app (goodIn_app gp_X7_reason_1 gp_wsX70) gp_wsX40))
set_option maxRecDepth 20000 in
theorem gL_law_X7_reason : GoodIn wsL_law (wsV RL 177 RX7 yX7_reason wsX7_reason) := goodIn_app (goodIn_of _ (by decide +kernel)) ggL_law_X7_reason
set_option maxRecDepth 20000 in
theorem gp_X7_fault_1 : GoodIn wsL_law [.fieldLink RX7 57 "WeatherMinistry" "faultPosition" "I"] := goodIn_r _ [41] (by decide +kernel) (by decide +kernel)
set_option maxRecDepth 20000 in
theorem gp_X7_fault_0 : GoodIn wsL_law [.code yX7_fault cX7_fault 1 (some .int)] := goodIn_r _ [186] (by decide +kernel) (by decide +kernel)
theorem ggL_law_X7_fault : GoodIn wsL_law wsX7_fault := (goodIn_cons gp_X7_fault_0 (goodIn_app gp_X7_fault_1 gp_wsX70))
set_option maxRecDepth 20000 in
theorem gL_law_X7_fault : GoodIn wsL_law (wsV RL 181 RX7 yX7_fault wsX7_fault) := goodIn_app (goodIn_of _ (by decide +kernel)) ggL_law_X7_fault
set_option maxRecDepth 20000 in
theorem gp_wsX7_read_r1 : GoodIn wsL_law wsX7_read_r1 := goodIn_r _ [32, 191, 192, 41, 21, 20, 193, 194, 195, 40, 28, 196, 197, 198, 31, 199, 101, 102, 100, 200, 201, 202, 203, 204] (by decide +kernel) (by decide +kernel)
set_option maxRecDepth 20000 in
theorem gp_wsX7_read_r2 : GoodIn wsL_law wsX7_read_r2 := goodIn_r _ [205, 206, 35, 207, 208, 209, 210, 211, 111, 212, 213, 214, 215, 216, 217, 218, 219, 220, 221, 117, 116, 222, 8, 9] (by decide +kernel) (by decide +kernel)
set_option maxRecDepth 20000 in
theorem gp_wsX7_read_r3 : GoodIn wsL_law wsX7_read_r3 := goodIn_r _ [10, 223, 224, 225, 226, 227, 228, 229, 230, 231, 232, 233, 120, 234, 235, 236, 237, 238, 239, 240, 241, 242, 243, 244] (by decide +kernel) (by decide +kernel)
set_option maxRecDepth 20000 in
theorem gp_wsX7_read_r4 : GoodIn wsL_law wsX7_read_r4 := goodIn_r _ [103, 245, 246, 247, 248, 249, 250, 251, 252, 253, 254, 255, 256, 257, 258, 259, 260, 261, 262, 263, 264, 265, 266, 267] (by decide +kernel) (by decide +kernel)
set_option maxRecDepth 20000 in
theorem gp_wsX7_read_r5 : GoodIn wsL_law wsX7_read_r5 := goodIn_r _ [268, 269, 270, 271, 272, 273, 274, 275, 276, 277, 278, 279, 280, 281, 282, 283, 284, 285, 286, 287, 288, 289, 290, 105] (by decide +kernel) (by decide +kernel)
set_option maxRecDepth 20000 in
theorem gp_wsX7_read_r6 : GoodIn wsL_law wsX7_read_r6 := goodIn_r _ [291, 292, 293, 294, 295, 296, 297, 298, 299, 300, 301, 302, 303, 304, 305, 306, 307, 308, 309, 310, 311, 312, 313, 314] (by decide +kernel) (by decide +kernel)
set_option maxRecDepth 20000 in
theorem gp_wsX7_read_r7 : GoodIn wsL_law wsX7_read_r7 := goodIn_r _ [315, 316, 317, 318, 319, 320, 321, 322, 323, 324, 325, 326, 327, 328, 329, 330, 331, 332, 333, 115, 334, 335, 152, 153] (by decide +kernel) (by decide +kernel)
set_option maxRecDepth 20000 in
theorem gp_wsX7_read_r8 : GoodIn wsL_law wsX7_read_r8 := goodIn_r _ [154, 336, 337, 338, 339, 340, 114, 341, 342, 343, 344, 345, 346, 347, 348, 349, 350, 351, 352, 353, 174, 148, 149, 19] (by decide +kernel) (by decide +kernel)
set_option maxRecDepth 20000 in
theorem gp_wsX7_read_r9 : GoodIn wsL_law wsX7_read_r9 := goodIn_r _ [150, 46, 48, 151, 49, 50, 51, 55, 59, 63, 155, 156, 157, 54, 158, 67, 159, 160, 161, 162, 58, 163, 72, 73] (by decide +kernel) (by decide +kernel)
set_option maxRecDepth 20000 in
theorem gp_wsX7_read_r10 : GoodIn wsL_law wsX7_read_r10 := goodIn_r _ [164, 74, 75, 165, 166, 167, 62, 168, 79, 80, 81, 82, 83, 84, 85, 86, 354, 355, 356, 2, 357, 358, 359, 360] (by decide +kernel) (by decide +kernel)
set_option maxRecDepth 20000 in
theorem gp_wsX7_read_r11 : GoodIn wsL_law wsX7_read_r11 := goodIn_r _ [361, 362, 363, 364, 365, 366, 367, 368, 39, 369, 130, 131, 132, 133, 370, 371, 372, 373, 374, 375, 376, 377, 378, 379] (by decide +kernel) (by decide +kernel)
set_option maxRecDepth 20000 in
theorem gp_wsX7_read_r12 : GoodIn wsL_law wsX7_read_r12 := goodIn_r _ [380, 381, 382, 383, 384, 385, 386, 387, 388, 389, 390, 391, 392, 393, 394, 395, 396, 397, 398, 399, 400, 401, 402, 403] (by decide +kernel) (by decide +kernel)
set_option maxRecDepth 20000 in
theorem gp_wsX7_read_r13 : GoodIn wsL_law wsX7_read_r13 := goodIn_r _ [404, 405, 406, 407, 408, 409, 410, 411, 412, 413, 414, 415, 416, 417, 418, 419, 420, 421, 422, 423, 424, 425, 426, 427] (by decide +kernel) (by decide +kernel)
set_option maxRecDepth 20000 in
theorem gp_wsX7_read_r14 : GoodIn wsL_law wsX7_read_r14 := goodIn_r _ [428, 429, 430, 431, 432, 433, 434, 435, 436, 437, 438, 439, 440, 441, 442, 443, 444, 445, 446, 447, 448, 449, 450, 68] (by decide +kernel) (by decide +kernel)
set_option maxRecDepth 20000 in
theorem gp_wsX7_read_r15 : GoodIn wsL_law wsX7_read_r15 := goodIn_r _ [451, 452, 453, 454, 455, 456, 457, 458, 459, 460, 461, 462, 463, 464, 465, 466, 467, 468, 469, 470, 471, 472, 473, 474] (by decide +kernel) (by decide +kernel)
set_option maxRecDepth 20000 in
theorem gp_wsX7_read_r16 : GoodIn wsL_law wsX7_read_r16 := goodIn_r _ [475, 476, 477, 478, 479, 480, 481, 482, 483, 484, 485, 486, 487, 488, 489, 490, 491, 144, 145, 146, 492, 493, 494, 495] (by decide +kernel) (by decide +kernel)
set_option maxRecDepth 20000 in
theorem gp_wsX7_read_r17 : GoodIn wsL_law wsX7_read_r17 := goodIn_r _ [496, 497, 498, 27, 499, 94, 92, 91, 500, 147, 143] (by decide +kernel) (by decide +kernel)
set_option maxRecDepth 20000 in
theorem gp_wsJ00 : GoodIn wsL_law wsJ00 := goodIn_r _ [953, 954, 955, 956] (by decide +kernel) (by decide +kernel)
set_option maxRecDepth 20000 in
theorem gp_X7_read_0 : GoodIn wsL_law [.code yX7_read cX7_read 5 (some .int)] := goodIn_r _ [190] (by decide +kernel) (by decide +kernel)
theorem ggL_law_X7_read : GoodIn wsL_law wsX7_read := (goodIn_cons gp_X7_read_0 (goodIn_app (goodIn_app (goodIn_app (goodIn_app (goodIn_app (goodIn_app (goodIn_app (goodIn_app (goodIn_app (goodIn_app (goodIn_app gp_wsX7_read_r1 (goodIn_app gp_wsX7_read_r2 (goodIn_app gp_wsX7_read_r3 (goodIn_app gp_wsX7_read_r4 (goodIn_app gp_wsX7_read_r5 (goodIn_app gp_wsX7_read_r6 (goodIn_app gp_wsX7_read_r7 (goodIn_app gp_wsX7_read_r8 (goodIn_app gp_wsX7_read_r9 (goodIn_app gp_wsX7_read_r10 (goodIn_app gp_wsX7_read_r11 (goodIn_app gp_wsX7_read_r12 (goodIn_app gp_wsX7_read_r13 (goodIn_app gp_wsX7_read_r14 (goodIn_app gp_wsX7_read_r15 (goodIn_app gp_wsX7_read_r16 gp_wsX7_read_r17)))))))))))))))) gp_wsX70) gp_wsX50) gp_wsJ40) gp_wsJ00) gp_wsX30) gp_wsX60) gp_wsX10) gp_wsX00) gp_wsX40) gp_wsX20))
set_option maxRecDepth 20000 in
theorem gL_law_X7_read : GoodIn wsL_law (wsV RL 184 RX7 yX7_read wsX7_read) := goodIn_app (goodIn_of _ (by decide +kernel)) ggL_law_X7_read
set_option maxRecDepth 20000 in
theorem gp_wsX7_written_r1 : GoodIn wsL_law wsX7_written_r1 := goodIn_r _ [36, 505, 205, 206, 35, 207, 208, 209, 210, 211, 111, 212, 213, 506, 215, 216, 217, 218, 219, 220, 221, 117, 116, 222] (by decide +kernel) (by decide +kernel)
set_option maxRecDepth 20000 in
theorem gp_wsX7_written_r2 : GoodIn wsL_law wsX7_written_r2 := goodIn_r _ [8, 9, 10, 223, 224, 225, 226, 227, 228, 229, 230, 231, 232, 233, 120, 234, 235, 236, 237, 238, 239, 240] (by decide +kernel) (by decide +kernel)
set_option maxRecDepth 20000 in
theorem gp_X7_written_0 : GoodIn wsL_law [.code yX7_written cX7_written 2 (some .int)] := goodIn_r _ [504] (by decide +kernel) (by decide +kernel)
theorem ggL_law_X7_written : GoodIn wsL_law wsX7_written := (goodIn_cons gp_X7_written_0 (goodIn_app (goodIn_app (goodIn_app gp_wsX7_written_r1 gp_wsX7_written_r2) gp_wsX70) gp_wsJ40))
set_option maxRecDepth 20000 in
theorem gL_law_X7_written : GoodIn wsL_law (wsV RL 70 RX7 yX7_written wsX7_written) := goodIn_app (goodIn_of _ (by decide +kernel)) ggL_law_X7_written
