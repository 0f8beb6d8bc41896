/-! THE LAW: words of its calls -/
set_option maxRecDepth 20000 in
theorem gp_wsL_foretold_r1 : GoodIn wsL_law wsL_foretold_r1 := goodIn_r _ [811, 246, 9, 247, 47, 900, 901, 902, 2, 903, 23, 20, 24, 173, 174, 148, 149, 19, 150, 46, 48, 151, 152, 153] (by decide +kernel) (by decide +kernel)
set_option maxRecDepth 20000 in
theorem gp_wsL_foretold_r2 : GoodIn wsL_law wsL_foretold_r2 := goodIn_r _ [154, 49, 50, 51, 55, 59, 63, 155, 156, 157, 54, 158, 67, 159, 160, 161, 162, 58, 163, 72, 73, 164, 74, 75] (by decide +kernel) (by decide +kernel)
set_option maxRecDepth 20000 in
theorem gp_wsL_foretold_r3 : GoodIn wsL_law wsL_foretold_r3 := goodIn_r _ [165, 166, 167, 62, 168, 79, 80, 81, 82, 83, 84, 85, 86, 812, 813, 814, 6, 815, 634, 816, 531, 532, 533, 534] (by decide +kernel) (by decide +kernel)
set_option maxRecDepth 20000 in
theorem gp_wsL_foretold_r4 : GoodIn wsL_law wsL_foretold_r4 := goodIn_r _ [397, 398, 399, 400, 535, 8, 10, 363, 364, 365, 404, 405, 406, 536, 537, 538, 539, 22, 407, 408, 409, 410, 411, 412] (by decide +kernel) (by decide +kernel)
set_option maxRecDepth 20000 in
theorem gp_wsL_foretold_r5 : GoodIn wsL_law wsL_foretold_r5 := goodIn_r _ [413, 414, 415, 462, 463, 464, 465, 446, 466, 467, 468, 469, 470, 471, 472, 473, 474, 475, 434, 435, 436, 432, 425, 426] (by decide +kernel) (by decide +kernel)
set_option maxRecDepth 20000 in
theorem gp_wsL_foretold_r6 : GoodIn wsL_law wsL_foretold_r6 := goodIn_r _ [427, 476, 477, 478, 479, 480, 481, 482, 483, 484, 442, 443, 444, 445, 447, 448, 449, 450, 68, 485, 486, 487, 488, 489] (by decide +kernel) (by decide +kernel)
set_option maxRecDepth 20000 in
theorem gp_wsL_foretold_r7 : GoodIn wsL_law wsL_foretold_r7 := goodIn_r _ [490, 491, 144, 145, 146, 540, 541, 542, 543, 566, 567, 568, 569, 362, 570, 455, 32, 191, 28, 138, 422, 378, 379, 380] (by decide +kernel) (by decide +kernel)
set_option maxRecDepth 20000 in
theorem gp_wsL_foretold_r8 : GoodIn wsL_law wsL_foretold_r8 := goodIn_r _ [381, 382, 383, 384, 385, 386, 387, 388, 389, 390, 391, 392, 557, 558, 559, 505, 205, 206, 35, 207, 208, 209, 210, 211] (by decide +kernel) (by decide +kernel)
set_option maxRecDepth 20000 in
theorem gp_wsL_foretold_r9 : GoodIn wsL_law wsL_foretold_r9 := goodIn_r _ [111, 212, 213, 571, 572, 573, 574, 515, 516, 517, 518, 511, 512, 513, 514, 21, 354, 355, 356, 357, 358, 359, 360, 361] (by decide +kernel) (by decide +kernel)
set_option maxRecDepth 20000 in
theorem gp_wsL_foretold_r10 : GoodIn wsL_law wsL_foretold_r10 := goodIn_r _ [40, 366, 367, 368, 39, 369, 130, 131, 132, 133, 370, 371, 372, 373, 374, 375, 376, 377, 393, 394, 395, 396, 401, 402] (by decide +kernel) (by decide +kernel)
set_option maxRecDepth 20000 in
theorem gp_wsL_foretold_r11 : GoodIn wsL_law wsL_foretold_r11 := goodIn_r _ [403, 416, 417, 418, 419, 420, 421, 423, 424, 428, 429, 430, 431, 433, 437, 438, 439, 440, 441, 451, 452, 453, 454, 456] (by decide +kernel) (by decide +kernel)
set_option maxRecDepth 20000 in
theorem gp_wsL_foretold_r12 : GoodIn wsL_law wsL_foretold_r12 := goodIn_r _ [457, 458, 459, 460, 461, 496, 497, 498, 27, 499, 94, 92, 91, 500, 147, 143, 623, 624, 625, 626, 853, 854, 855, 856] (by decide +kernel) (by decide +kernel)
set_option maxRecDepth 20000 in
theorem gp_wsL_foretold_r13 : GoodIn wsL_law wsL_foretold_r13 := goodIn_r _ [804, 837, 838, 839, 840, 841, 842, 843, 844, 845, 846, 847, 848, 849, 606, 607, 608, 609, 548, 549, 550, 551, 169, 170] (by decide +kernel) (by decide +kernel)
set_option maxRecDepth 20000 in
theorem gp_wsL_foretold_r14 : GoodIn wsL_law wsL_foretold_r14 := goodIn_r _ [171, 172, 544, 545, 546, 547] (by decide +kernel) (by decide +kernel)
set_option maxRecDepth 20000 in
theorem gp_L_foretold_0 : GoodIn wsL_law [.code yL_foretold cL_foretold 12 (some .boolean)] := goodIn_r _ [899] (by decide +kernel) (by decide +kernel)
theorem ggL_law_L_foretold : GoodIn wsL_law wsL_foretold := (goodIn_cons gp_L_foretold_0 (goodIn_app (goodIn_app (goodIn_app (goodIn_app (goodIn_app (goodIn_app (goodIn_app (goodIn_app (goodIn_app (goodIn_app (goodIn_app gp_wsL_foretold_r1 (goodIn_app gp_wsL_foretold_r2 (goodIn_app gp_wsL_foretold_r3 (goodIn_app gp_wsL_foretold_r4 (goodIn_app gp_wsL_foretold_r5 (goodIn_app gp_wsL_foretold_r6 (goodIn_app gp_wsL_foretold_r7 (goodIn_app gp_wsL_foretold_r8 (goodIn_app gp_wsL_foretold_r9 (goodIn_app gp_wsL_foretold_r10 (goodIn_app gp_wsL_foretold_r11 (goodIn_app gp_wsL_foretold_r12 (goodIn_app gp_wsL_foretold_r13 gp_wsL_foretold_r14))))))))))))) gp_wsX70) gp_wsX30) gp_wsX60) gp_wsX10) gp_wsX00) gp_wsX80) gp_wsX50) gp_wsX20) gp_wsJ40) gp_wsX40))
set_option maxRecDepth 20000 in
theorem gL_law_L_foretold : GoodIn wsL_law (va_wsS RL 219 yL_foretold wsL_foretold) := goodIn_app (goodIn_of _ (by decide +kernel)) ggL_law_L_foretold
