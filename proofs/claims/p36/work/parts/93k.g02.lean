/-! THE LAW: words of its calls -/
set_option maxRecDepth 20000 in
theorem gp_wsX7_most_r1 : GoodIn wsL_law wsX7_most_r1 := goodIn_r _ [20, 397, 398, 399, 400, 535, 8, 9, 10, 363, 364, 2, 365, 404, 405, 406, 536, 537, 538, 539, 22, 173, 174, 148] (by decide +kernel) (by decide +kernel)
set_option maxRecDepth 20000 in
theorem gp_wsX7_most_r2 : GoodIn wsL_law wsX7_most_r2 := goodIn_r _ [149, 19, 150, 46, 48, 151, 152, 153, 154, 49, 50, 51, 55, 59, 63, 155, 156, 157, 54, 158, 67, 159, 160, 161] (by decide +kernel) (by decide +kernel)
set_option maxRecDepth 20000 in
theorem gp_wsX7_most_r3 : GoodIn wsL_law wsX7_most_r3 := goodIn_r _ [162, 58, 163, 72, 73, 164, 74, 75, 165, 166, 167, 62, 168, 79, 80, 81, 82, 83, 84, 85, 86, 407, 408, 409] (by decide +kernel) (by decide +kernel)
set_option maxRecDepth 20000 in
theorem gp_wsX7_most_r4 : GoodIn wsL_law wsX7_most_r4 := goodIn_r _ [410, 411, 412, 413, 414, 415, 462, 463, 464, 465, 446, 466, 246, 247, 467, 468, 469, 470, 471, 472, 473, 474, 475, 434] (by decide +kernel) (by decide +kernel)
set_option maxRecDepth 20000 in
theorem gp_wsX7_most_r5 : GoodIn wsL_law wsX7_most_r5 := goodIn_r _ [435, 436, 432, 425, 426, 427, 476, 477, 478, 479, 480, 481, 482, 483, 484, 442, 443, 444, 445, 447, 448, 449, 450, 68] (by decide +kernel) (by decide +kernel)
set_option maxRecDepth 20000 in
theorem gp_wsX7_most_r6 : GoodIn wsL_law wsX7_most_r6 := goodIn_r _ [485, 486, 487, 488, 489, 490, 491, 144, 145, 146, 540, 541, 542, 543] (by decide +kernel) (by decide +kernel)
set_option maxRecDepth 20000 in
theorem gp_X7_most_0 : GoodIn wsL_law [.code yX7_most cX7_most 4 (some .int)] := goodIn_r _ [534] (by decide +kernel) (by decide +kernel)
theorem ggL_law_X7_most : GoodIn wsL_law wsX7_most := (goodIn_cons gp_X7_most_0 (goodIn_app (goodIn_app (goodIn_app (goodIn_app (goodIn_app (goodIn_app gp_wsX7_most_r1 (goodIn_app gp_wsX7_most_r2 (goodIn_app gp_wsX7_most_r3 (goodIn_app gp_wsX7_most_r4 (goodIn_app gp_wsX7_most_r5 gp_wsX7_most_r6))))) gp_wsX70) gp_wsX30) gp_wsX10) gp_wsX60) gp_wsX00))
set_option maxRecDepth 20000 in
theorem gL_law_X7_most : GoodIn wsL_law (wsV RL 164 RX7 yX7_most wsX7_most) := goodIn_app (goodIn_of _ (by decide +kernel)) ggL_law_X7_most
set_option maxRecDepth 20000 in
theorem gp_wsX7_would_r1 : GoodIn wsL_law wsX7_would_r1 := goodIn_r _ [22, 20, 363, 364, 2, 365, 174, 148, 149, 19, 150, 46, 48, 151, 152, 153, 154, 49, 50, 51, 55, 59, 63, 155] (by decide +kernel) (by decide +kernel)
set_option maxRecDepth 20000 in
theorem gp_wsX7_would_r2 : GoodIn wsL_law wsX7_would_r2 := goodIn_r _ [156, 157, 54, 158, 67, 159, 160, 161, 162, 58, 163, 72, 73, 164, 74, 75, 165, 166, 167, 62, 168, 79, 80, 81] (by decide +kernel) (by decide +kernel)
set_option maxRecDepth 20000 in
theorem gp_wsX7_would_r3 : GoodIn wsL_law wsX7_would_r3 := goodIn_r _ [82, 83, 84, 85, 86, 462, 463, 464, 465, 446, 8, 9, 10, 411, 466, 246, 247, 467, 468, 469, 470, 471, 472, 473] (by decide +kernel) (by decide +kernel)
set_option maxRecDepth 20000 in
theorem gp_wsX7_would_r4 : GoodIn wsL_law wsX7_would_r4 := goodIn_r _ [474, 475, 434, 435, 436, 432, 425, 426, 427, 476, 477, 478, 479, 480, 481, 482, 483, 484, 442, 443, 444, 445, 447, 448] (by decide +kernel) (by decide +kernel)
set_option maxRecDepth 20000 in
theorem gp_wsX7_would_r5 : GoodIn wsL_law wsX7_would_r5 := goodIn_r _ [449, 450, 68, 485, 486, 487, 488, 489, 490, 491, 144, 145, 146, 548, 549, 550, 551] (by decide +kernel) (by decide +kernel)
set_option maxRecDepth 20000 in
theorem gp_X7_would_0 : GoodIn wsL_law [.code yX7_would cX7_would 5 (some .int)] := goodIn_r _ [547] (by decide +kernel) (by decide +kernel)
theorem ggL_law_X7_would : GoodIn wsL_law wsX7_would := (goodIn_cons gp_X7_would_0 (goodIn_app (goodIn_app (goodIn_app (goodIn_app (goodIn_app (goodIn_app gp_wsX7_would_r1 (goodIn_app gp_wsX7_would_r2 (goodIn_app gp_wsX7_would_r3 (goodIn_app gp_wsX7_would_r4 gp_wsX7_would_r5)))) gp_wsX70) gp_wsX30) gp_wsX60) gp_wsX10) gp_wsX00))
set_option maxRecDepth 20000 in
theorem gL_law_X7_would : GoodIn wsL_law (wsV RL 170 RX7 yX7_would wsX7_would) := goodIn_app (goodIn_of _ (by decide +kernel)) ggL_law_X7_would
set_option maxRecDepth 20000 in
theorem gp_X7_meanSun_1 : GoodIn wsL_law [.fieldLink RX7 10 "WeatherMinistry" "now" "LWeatherMinistry$Realm;", .fieldLink RX7 154 "WeatherMinistry$Realm" "sun" "[I", .constantDouble RX7 186 (4617315517961601024), .methodLink RX7 182 yX7_sumOf, .static yX7_sumOf, .initialized RX7, .code yX7_sumOf cX7_sumOf 6 (some .int)] := goodIn_r _ [20, 400, 556, 557, 558, 2, 559] (by decide +kernel) (by decide +kernel)
set_option maxRecDepth 20000 in
theorem gp_X7_meanSun_0 : GoodIn wsL_law [.code yX7_meanSun cX7_meanSun 1 (some .double)] := goodIn_r _ [555] (by decide +kernel) (by decide +kernel)
theorem ggL_law_X7_meanSun : GoodIn wsL_law wsX7_meanSun := (goodIn_cons gp_X7_meanSun_0 (goodIn_app (goodIn_app gp_X7_meanSun_1 gp_wsX70) gp_wsX30))
set_option maxRecDepth 20000 in
theorem gL_law_X7_meanSun : GoodIn wsL_law (wsV RL 149 RX7 yX7_meanSun wsX7_meanSun) := goodIn_app (goodIn_of _ (by decide +kernel)) ggL_law_X7_meanSun
set_option maxRecDepth 20000 in
theorem gp_X7_paidShare_1 : GoodIn wsL_law [.fieldLink RX7 10 "WeatherMinistry" "now" "LWeatherMinistry$Realm;", .fieldLink RX7 188 "WeatherMinistry$Realm" "books" "LWeatherMinistry$Books;", .fieldLink RX7 192 "WeatherMinistry$Books" "ended" "I", .fieldLink RX7 197 "WeatherMinistry$Books" "endedInFull" "I"] := goodIn_r _ [20, 422, 564, 565] (by decide +kernel) (by decide +kernel)
set_option maxRecDepth 20000 in
theorem gp_X7_paidShare_0 : GoodIn wsL_law [.code yX7_paidShare cX7_paidShare 1 (some .float)] := goodIn_r _ [563] (by decide +kernel) (by decide +kernel)
theorem ggL_law_X7_paidShare : GoodIn wsL_law wsX7_paidShare := (goodIn_cons gp_X7_paidShare_0 (goodIn_app (goodIn_app (goodIn_app gp_X7_paidShare_1 gp_wsX70) gp_wsX30) gp_wsX00))
set_option maxRecDepth 20000 in
theorem gL_law_X7_paidShare : GoodIn wsL_law (wsV RL 153 RX7 yX7_paidShare wsX7_paidShare) := goodIn_app (goodIn_of _ (by decide +kernel)) ggL_law_X7_paidShare
set_option maxRecDepth 20000 in
theorem gp_wsX7_account_r1 : GoodIn wsL_law wsX7_account_r1 := goodIn_r _ [20, 173, 398, 399, 362, 400, 570, 397, 455, 32, 191, 28, 138, 422, 378, 379, 380, 54, 381, 382, 383, 384, 385, 67] (by decide +kernel) (by decide +kernel)
set_option maxRecDepth 20000 in
theorem gp_wsX7_account_r2 : GoodIn wsL_law wsX7_account_r2 := goodIn_r _ [364, 2, 365, 386, 387, 388, 389, 390, 391, 392, 557, 558, 559, 505, 205, 206, 35, 207, 208, 209, 210, 211, 111, 212] (by decide +kernel) (by decide +kernel)
set_option maxRecDepth 20000 in
theorem gp_wsX7_account_r3 : GoodIn wsL_law wsX7_account_r3 := goodIn_r _ [213, 571, 572, 573, 62, 574, 79, 80, 82, 83, 84, 85, 86] (by decide +kernel) (by decide +kernel)
set_option maxRecDepth 20000 in
theorem gp_X7_account_0 : GoodIn wsL_law [.code yX7_account cX7_account 2 (some .int)] := goodIn_r _ [569] (by decide +kernel) (by decide +kernel)
theorem ggL_law_X7_account : GoodIn wsL_law wsX7_account := (goodIn_cons gp_X7_account_0 (goodIn_app (goodIn_app (goodIn_app (goodIn_app (goodIn_app (goodIn_app (goodIn_app (goodIn_app (goodIn_app gp_wsX7_account_r1 (goodIn_app gp_wsX7_account_r2 gp_wsX7_account_r3)) gp_wsX70) gp_wsX30) gp_wsX10) gp_wsX50) gp_wsX20) gp_wsX60) gp_wsJ40) gp_wsX00))
set_option maxRecDepth 20000 in
theorem gL_law_X7_account : GoodIn wsL_law (wsV RL 49 RX7 yX7_account wsX7_account) := goodIn_app (goodIn_of _ (by decide +kernel)) ggL_law_X7_account
set_option maxRecDepth 20000 in
theorem gp_wsX7_isCounted_r1 : GoodIn wsL_law wsX7_isCounted_r1 := goodIn_r _ [20, 579, 580, 581, 2, 582, 398, 583, 584, 585, 58, 586, 72, 73, 74, 587, 588, 589, 19, 590, 59, 46, 591, 541] (by decide +kernel) (by decide +kernel)
set_option maxRecDepth 20000 in
theorem gp_wsX7_isCounted_r2 : GoodIn wsL_law wsX7_isCounted_r2 := goodIn_r _ [542, 543, 75, 592, 593, 594, 595, 362, 596, 597, 448, 449, 54, 450, 68, 67, 598, 599, 600, 601, 602, 603, 604, 605] (by decide +kernel) (by decide +kernel)
set_option maxRecDepth 20000 in
theorem gp_wsX7_isCounted_r3 : GoodIn wsL_law wsX7_isCounted_r3 := goodIn_r _ [606, 607, 608, 609, 610, 611, 612, 613, 63, 411, 48, 480, 614, 490, 558, 559] (by decide +kernel) (by decide +kernel)
set_option maxRecDepth 20000 in
theorem gp_X7_isCounted_0 : GoodIn wsL_law [.code yX7_isCounted cX7_isCounted 1 (some .boolean)] := goodIn_r _ [578] (by decide +kernel) (by decide +kernel)
theorem ggL_law_X7_isCounted : GoodIn wsL_law wsX7_isCounted := (goodIn_cons gp_X7_isCounted_0 (goodIn_app (goodIn_app (goodIn_app (goodIn_app (goodIn_app (goodIn_app gp_wsX7_isCounted_r1 (goodIn_app gp_wsX7_isCounted_r2 gp_wsX7_isCounted_r3)) gp_wsX70) gp_wsX30) gp_wsX10) gp_wsX60) gp_wsX00))
set_option maxRecDepth 20000 in
theorem gL_law_X7_isCounted : GoodIn wsL_law (wsV RL 157 RX7 yX7_isCounted wsX7_isCounted) := goodIn_app (goodIn_of _ (by decide +kernel)) ggL_law_X7_isCounted
set_option maxRecDepth 20000 in
theorem gp_wsL_stock_r1 : GoodIn wsL_law wsL_stock_r1 := goodIn_r _ [507, 508, 509, 2, 510, 511, 512, 513, 514, 21, 20, 28, 174, 148, 149, 19, 150, 46, 48, 151, 152, 153, 154, 49] (by decide +kernel) (by decide +kernel)
set_option maxRecDepth 20000 in
theorem gp_wsL_stock_r2 : GoodIn wsL_law wsL_stock_r2 := goodIn_r _ [50, 51, 55, 59, 63, 155, 156, 157, 54, 158, 67, 159, 160, 161, 162, 58, 163, 72, 73, 164, 74, 75, 165, 166] (by decide +kernel) (by decide +kernel)
set_option maxRecDepth 20000 in
theorem gp_wsL_stock_r3 : GoodIn wsL_law wsL_stock_r3 := goodIn_r _ [167, 62, 168, 79, 80, 81, 82, 83, 84, 85, 86, 354, 355, 356, 357, 358, 359, 360, 361, 40, 362, 363, 364, 365] (by decide +kernel) (by decide +kernel)
set_option maxRecDepth 20000 in
theorem gp_wsL_stock_r4 : GoodIn wsL_law wsL_stock_r4 := goodIn_r _ [366, 367, 368, 39, 369, 130, 131, 132, 133, 370, 371, 372, 373, 374, 375, 376, 377, 378, 379, 380, 381, 382, 383, 384] (by decide +kernel) (by decide +kernel)
set_option maxRecDepth 20000 in
theorem gp_wsL_stock_r5 : GoodIn wsL_law wsL_stock_r5 := goodIn_r _ [385, 386, 387, 388, 389, 390, 391, 392, 393, 394, 395, 396, 397, 398, 399, 400, 401, 402, 403, 404, 405, 406, 407, 408] (by decide +kernel) (by decide +kernel)
set_option maxRecDepth 20000 in
theorem gp_wsL_stock_r6 : GoodIn wsL_law wsL_stock_r6 := goodIn_r _ [409, 410, 411, 412, 413, 414, 415, 416, 417, 418, 419, 420, 421, 422, 423, 424, 425, 426, 427, 428, 429, 430, 431, 432] (by decide +kernel) (by decide +kernel)
set_option maxRecDepth 20000 in
theorem gp_wsL_stock_r7 : GoodIn wsL_law wsL_stock_r7 := goodIn_r _ [433, 434, 435, 436, 437, 438, 439, 440, 441, 442, 443, 444, 445, 446, 8, 9, 10, 447, 448, 449, 450, 68, 451, 452] (by decide +kernel) (by decide +kernel)
set_option maxRecDepth 20000 in
theorem gp_wsL_stock_r8 : GoodIn wsL_law wsL_stock_r8 := goodIn_r _ [453, 454, 455, 456, 246, 247, 457, 458, 459, 460, 461, 462, 463, 464, 465, 466, 467, 468, 469, 470, 471, 472, 473, 474] (by decide +kernel) (by decide +kernel)
set_option maxRecDepth 20000 in
theorem gp_wsL_stock_r9 : GoodIn wsL_law wsL_stock_r9 := goodIn_r _ [475, 476, 477, 478, 479, 480, 481, 482, 483, 484, 485, 486, 487, 488, 489, 490, 491, 144, 145, 146, 496, 497, 498, 27] (by decide +kernel) (by decide +kernel)
set_option maxRecDepth 20000 in
theorem gp_wsL_stock_r10 : GoodIn wsL_law wsL_stock_r10 := goodIn_r _ [499, 94, 92, 91, 500, 147, 143, 515, 516, 517, 518, 619, 620, 621, 622, 527, 528, 529, 530, 623, 624, 625, 626] (by decide +kernel) (by decide +kernel)
set_option maxRecDepth 20000 in
theorem gp_L_stock_0 : GoodIn wsL_law [.code yL_stock cL_stock 2 (some .int)] := goodIn_r _ [618] (by decide +kernel) (by decide +kernel)
theorem ggL_law_L_stock : GoodIn wsL_law wsL_stock := (goodIn_cons gp_L_stock_0 (goodIn_app (goodIn_app (goodIn_app (goodIn_app (goodIn_app (goodIn_app (goodIn_app (goodIn_app gp_wsL_stock_r1 (goodIn_app gp_wsL_stock_r2 (goodIn_app gp_wsL_stock_r3 (goodIn_app gp_wsL_stock_r4 (goodIn_app gp_wsL_stock_r5 (goodIn_app gp_wsL_stock_r6 (goodIn_app gp_wsL_stock_r7 (goodIn_app gp_wsL_stock_r8 (goodIn_app gp_wsL_stock_r9 gp_wsL_stock_r10))))))))) gp_wsX70) gp_wsX30) gp_wsX60) gp_wsX10) gp_wsX00) gp_wsX40) gp_wsX20))
set_option maxRecDepth 20000 in
theorem gL_law_L_stock : GoodIn wsL_law (va_wsS RL 189 yL_stock wsL_stock) := goodIn_app (goodIn_of _ (by decide +kernel)) ggL_law_L_stock
set_option maxRecDepth 20000 in
theorem gp_L_cell_0 : GoodIn wsL_law [.code yL_cell cL_cell 2 (some .int)] := goodIn_r _ [629] (by decide +kernel) (by decide +kernel)
theorem ggL_law_L_cell : GoodIn wsL_law wsL_cell := (goodIn_cons gp_L_cell_0 goodIn_nil)
set_option maxRecDepth 20000 in
theorem gL_law_L_cell : GoodIn wsL_law (va_wsS RL 193 yL_cell wsL_cell) := goodIn_app (goodIn_of _ (by decide +kernel)) ggL_law_L_cell
set_option maxRecDepth 20000 in
theorem gp_X8_init_1 : GoodIn wsL_law [.methodLink RX8 1 objectInit, .instanceMethod objectInit, .code objectInit ⟨#[0xb1]⟩ 1 none, .fieldLink RX8 7 "WeatherMinistryLaw$Bits" "bits" "I"] := goodIn_r _ [633, 15, 16, 634] (by decide +kernel) (by decide +kernel)
set_option maxRecDepth 20000 in
theorem gp_wsX80 : GoodIn wsL_law wsX80 := goodIn_r _ [914] (by decide +kernel) (by decide +kernel)
set_option maxRecDepth 20000 in
theorem gp_X8_init_0 : GoodIn wsL_law [.code yX8_init cX8_init 2 none] := goodIn_r _ [632] (by decide +kernel) (by decide +kernel)
theorem ggL_law_X8_init : GoodIn wsL_law wsX8_init := (goodIn_cons gp_X8_init_0 (goodIn_app gp_X8_init_1 gp_wsX80))
set_option maxRecDepth 20000 in
theorem gL_law_X8_init : GoodIn wsL_law (wsX8_init) := ggL_law_X8_init
set_option maxRecDepth 20000 in
theorem gp_wsL_told_r1 : GoodIn wsL_law wsL_told_r1 := goodIn_r _ [638, 34, 35, 639, 107, 108, 109, 110, 111, 112, 113, 15, 16, 114, 115, 116, 117, 118, 119, 120, 121, 122, 123, 124] (by decide +kernel) (by decide +kernel)
set_option maxRecDepth 20000 in
theorem gp_wsL_told_r2 : GoodIn wsL_law wsL_told_r2 := goodIn_r _ [125, 566, 567, 568, 2, 569, 20, 173, 398, 399, 362, 400, 570, 397, 455, 32, 191, 28, 138, 422, 378, 379, 380, 54] (by decide +kernel) (by decide +kernel)
set_option maxRecDepth 20000 in
theorem gp_wsL_told_r3 : GoodIn wsL_law wsL_told_r3 := goodIn_r _ [381, 382, 383, 384, 385, 67, 364, 365, 386, 387, 388, 389, 390, 391, 392, 557, 558, 559, 505, 205, 206, 207, 208, 209] (by decide +kernel) (by decide +kernel)
set_option maxRecDepth 20000 in
theorem gp_wsL_told_r4 : GoodIn wsL_law wsL_told_r4 := goodIn_r _ [210, 211, 212, 213, 571, 572, 573, 62, 574, 79, 80, 82, 83, 84, 85, 86, 640, 641, 642, 643, 644, 645, 646, 647] (by decide +kernel) (by decide +kernel)
set_option maxRecDepth 20000 in
theorem gp_wsL_told_r5 : GoodIn wsL_law wsL_told_r5 := goodIn_r _ [648, 649, 650, 304, 305, 306, 307, 308, 309, 310, 311, 312, 313, 314, 315, 316, 317, 318, 319, 246, 9, 247, 320, 321] (by decide +kernel) (by decide +kernel)
set_option maxRecDepth 20000 in
theorem gp_wsL_told_r6 : GoodIn wsL_law wsL_told_r6 := goodIn_r _ [322, 323, 324, 325, 326, 327, 328, 329, 330, 331, 332, 333, 334, 8, 10, 335, 152, 153, 154, 336, 337, 338, 339, 340] (by decide +kernel) (by decide +kernel)
set_option maxRecDepth 20000 in
theorem gp_wsL_told_r7 : GoodIn wsL_law wsL_told_r7 := goodIn_r _ [651, 652, 653, 654, 655, 656, 657, 658, 235, 659, 660, 661, 238, 239, 240, 662, 663, 225, 664, 227, 665, 666, 230, 667] (by decide +kernel) (by decide +kernel)
set_option maxRecDepth 20000 in
theorem gp_wsL_told_r8 : GoodIn wsL_law wsL_told_r8 := goodIn_r _ [668, 669, 670, 671, 672, 673, 674, 675, 236, 237, 676, 677, 678, 679, 680, 681, 682, 683, 684, 685, 276, 686, 687, 688] (by decide +kernel) (by decide +kernel)
set_option maxRecDepth 20000 in
theorem gp_wsL_told_r9 : GoodIn wsL_law wsL_told_r9 := goodIn_r _ [689, 690, 691, 692, 693, 694, 695, 696, 697, 698, 699, 700, 701, 702, 703, 704, 705, 706, 707, 708, 709, 282, 283, 284] (by decide +kernel) (by decide +kernel)
set_option maxRecDepth 20000 in
theorem gp_wsL_told_r10 : GoodIn wsL_law wsL_told_r10 := goodIn_r _ [285, 224, 226, 228, 229, 231, 710, 711, 712, 713, 36, 363, 295, 296, 297, 298, 299, 300, 301, 302, 303, 341, 342, 343] (by decide +kernel) (by decide +kernel)
set_option maxRecDepth 20000 in
theorem gp_wsL_told_r11 : GoodIn wsL_law wsL_told_r11 := goodIn_r _ [344, 345, 346, 347, 348, 349, 350, 351, 352, 353, 714, 715, 716, 717, 617, 718, 501, 502, 503, 504, 506, 215, 216, 217] (by decide +kernel) (by decide +kernel)
set_option maxRecDepth 20000 in
theorem gp_wsL_told_r12 : GoodIn wsL_law wsL_told_r12 := goodIn_r _ [218, 219, 220, 221, 222, 223, 232, 233, 234, 719, 720, 721, 722, 723, 724, 725, 726, 727, 728, 729, 730, 731, 265, 259] (by decide +kernel) (by decide +kernel)
set_option maxRecDepth 20000 in
theorem gp_wsL_told_r13 : GoodIn wsL_law wsL_told_r13 := goodIn_r _ [264, 732, 733, 734, 735, 736, 737, 738, 739, 740, 741, 742, 743, 744, 745, 746, 747, 748, 749, 750, 751, 752, 753, 754] (by decide +kernel) (by decide +kernel)
set_option maxRecDepth 20000 in
theorem gp_wsL_told_r14 : GoodIn wsL_law wsL_told_r14 := goodIn_r _ [755, 756, 286, 757, 758, 759, 760, 761, 762, 763, 764, 765, 766, 767, 768, 769, 770, 771, 772, 773, 774, 775, 776, 777] (by decide +kernel) (by decide +kernel)
set_option maxRecDepth 20000 in
theorem gp_wsL_told_r15 : GoodIn wsL_law wsL_told_r15 := goodIn_r _ [256, 257, 258, 260, 261, 262, 263, 778, 779, 780, 781, 782, 783, 784, 785, 786, 787, 788, 789, 790, 791, 792, 793, 794] (by decide +kernel) (by decide +kernel)
set_option maxRecDepth 20000 in
theorem gp_wsL_told_r16 : GoodIn wsL_law wsL_told_r16 := goodIn_r _ [795, 796, 797, 798, 799, 603, 604, 605, 606, 607, 608, 609, 800, 801, 802, 803, 420, 421, 804] (by decide +kernel) (by decide +kernel)
set_option maxRecDepth 20000 in
theorem gp_L_told_0 : GoodIn wsL_law [.code yL_told cL_told 4 (some (.object "java/lang/String"))] := goodIn_r _ [637] (by decide +kernel) (by decide +kernel)
theorem ggL_law_L_told : GoodIn wsL_law wsL_told := (goodIn_cons gp_L_told_0 (goodIn_app (goodIn_app (goodIn_app (goodIn_app (goodIn_app (goodIn_app (goodIn_app (goodIn_app (goodIn_app (goodIn_app gp_wsL_told_r1 (goodIn_app gp_wsL_told_r2 (goodIn_app gp_wsL_told_r3 (goodIn_app gp_wsL_told_r4 (goodIn_app gp_wsL_told_r5 (goodIn_app gp_wsL_told_r6 (goodIn_app gp_wsL_told_r7 (goodIn_app gp_wsL_told_r8 (goodIn_app gp_wsL_told_r9 (goodIn_app gp_wsL_told_r10 (goodIn_app gp_wsL_told_r11 (goodIn_app gp_wsL_told_r12 (goodIn_app gp_wsL_told_r13 (goodIn_app gp_wsL_told_r14 (goodIn_app gp_wsL_told_r15 gp_wsL_told_r16))))))))))))))) gp_wsJ40) gp_wsX70) gp_wsX30) gp_wsX10) gp_wsX50) gp_wsX20) gp_wsX60) gp_wsX00) gp_wsJ00))
set_option maxRecDepth 20000 in
theorem gL_law_L_told : GoodIn wsL_law (va_wsS RL 200 yL_told wsL_told) := goodIn_app (goodIn_of _ (by decide +kernel)) ggL_law_L_told
