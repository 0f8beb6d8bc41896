/-! THE LAW: words of its calls -/
set_option maxRecDepth 20000 in
theorem gp_wsL_acts_r1 : GoodIn wsL_law wsL_acts_r1 := goodIn_r _ [808, 809, 617, 810, 811, 246, 9, 247, 812, 813, 814, 6, 815, 634, 816, 507, 508, 509, 2, 510, 511, 512, 513, 514] (by decide +kernel) (by decide +kernel)
set_option maxRecDepth 20000 in
theorem gp_wsL_acts_r2 : GoodIn wsL_law wsL_acts_r2 := goodIn_r _ [21, 20, 28, 174, 148, 149, 19, 150, 46, 48, 151, 152, 153, 154, 49, 50, 51, 55, 59, 63, 155, 156, 157, 54] (by decide +kernel) (by decide +kernel)
set_option maxRecDepth 20000 in
theorem gp_wsL_acts_r3 : GoodIn wsL_law wsL_acts_r3 := goodIn_r _ [158, 67, 159, 160, 161, 162, 58, 163, 72, 73, 164, 74, 75, 165, 166, 167, 62, 168, 79, 80, 81, 82, 83, 84] (by decide +kernel) (by decide +kernel)
set_option maxRecDepth 20000 in
theorem gp_wsL_acts_r4 : GoodIn wsL_law wsL_acts_r4 := goodIn_r _ [85, 86, 354, 355, 356, 357, 358, 359, 360, 361, 40, 362, 363, 364, 365, 366, 367, 368, 39, 369, 130, 131, 132, 133] (by decide +kernel) (by decide +kernel)
set_option maxRecDepth 20000 in
theorem gp_wsL_acts_r5 : GoodIn wsL_law wsL_acts_r5 := goodIn_r _ [370, 371, 372, 373, 374, 375, 376, 377, 378, 379, 380, 381, 382, 383, 384, 385, 386, 387, 388, 389, 390, 391, 392, 393] (by decide +kernel) (by decide +kernel)
set_option maxRecDepth 20000 in
theorem gp_wsL_acts_r6 : GoodIn wsL_law wsL_acts_r6 := goodIn_r _ [394, 395, 396, 397, 398, 399, 400, 401, 402, 403, 404, 405, 406, 407, 408, 409, 410, 411, 412, 413, 414, 415, 416, 417] (by decide +kernel) (by decide +kernel)
set_option maxRecDepth 20000 in
theorem gp_wsL_acts_r7 : GoodIn wsL_law wsL_acts_r7 := goodIn_r _ [418, 419, 420, 421, 422, 423, 424, 425, 426, 427, 428, 429, 430, 431, 432, 433, 434, 435, 436, 437, 438, 439, 440, 441] (by decide +kernel) (by decide +kernel)
set_option maxRecDepth 20000 in
theorem gp_wsL_acts_r8 : GoodIn wsL_law wsL_acts_r8 := goodIn_r _ [442, 443, 444, 445, 446, 8, 10, 447, 448, 449, 450, 68, 451, 452, 453, 454, 455, 456, 457, 458, 459, 460, 461, 462] (by decide +kernel) (by decide +kernel)
set_option maxRecDepth 20000 in
theorem gp_wsL_acts_r9 : GoodIn wsL_law wsL_acts_r9 := goodIn_r _ [463, 464, 465, 466, 467, 468, 469, 470, 471, 472, 473, 474, 475, 476, 477, 478, 479, 480, 481, 482, 483, 484, 485, 486] (by decide +kernel) (by decide +kernel)
set_option maxRecDepth 20000 in
theorem gp_wsL_acts_r10 : GoodIn wsL_law wsL_acts_r10 := goodIn_r _ [487, 488, 489, 490, 491, 144, 145, 146, 496, 497, 498, 27, 499, 94, 92, 91, 500, 147, 143, 515, 516, 517, 518, 566] (by decide +kernel) (by decide +kernel)
set_option maxRecDepth 20000 in
theorem gp_wsL_acts_r11 : GoodIn wsL_law wsL_acts_r11 := goodIn_r _ [567, 568, 569, 173, 570, 32, 191, 138, 557, 558, 559, 505, 205, 206, 35, 207, 208, 209, 210, 211, 111, 212, 213, 571] (by decide +kernel) (by decide +kernel)
set_option maxRecDepth 20000 in
theorem gp_wsL_acts_r12 : GoodIn wsL_law wsL_acts_r12 := goodIn_r _ [572, 573, 574, 519, 520, 521, 522, 527, 528, 529, 530, 523, 524, 525, 526, 619, 620, 621, 622, 623, 624, 625, 626] (by decide +kernel) (by decide +kernel)
set_option maxRecDepth 20000 in
theorem gp_L_acts_0 : GoodIn wsL_law [.code yL_acts cL_acts 4 (some .int)] := goodIn_r _ [807] (by decide +kernel) (by decide +kernel)
theorem ggL_law_L_acts : GoodIn wsL_law wsL_acts := (goodIn_cons gp_L_acts_0 (goodIn_app (goodIn_app (goodIn_app (goodIn_app (goodIn_app (goodIn_app (goodIn_app (goodIn_app (goodIn_app (goodIn_app (goodIn_app gp_wsL_acts_r1 (goodIn_app gp_wsL_acts_r2 (goodIn_app gp_wsL_acts_r3 (goodIn_app gp_wsL_acts_r4 (goodIn_app gp_wsL_acts_r5 (goodIn_app gp_wsL_acts_r6 (goodIn_app gp_wsL_acts_r7 (goodIn_app gp_wsL_acts_r8 (goodIn_app gp_wsL_acts_r9 (goodIn_app gp_wsL_acts_r10 (goodIn_app gp_wsL_acts_r11 gp_wsL_acts_r12))))))))))) gp_wsX80) gp_wsX70) gp_wsX30) gp_wsX60) gp_wsX10) gp_wsX00) gp_wsX40) gp_wsX20) gp_wsX50) gp_wsJ40))
set_option maxRecDepth 20000 in
theorem gL_law_L_acts : GoodIn wsL_law (va_wsS RL 204 yL_acts wsL_acts) := goodIn_app (goodIn_of _ (by decide +kernel)) ggL_law_L_acts
set_option maxRecDepth 20000 in
theorem gp_J0_equals_9ea2d_1 : GoodIn wsL_law [.classLink RJ0 10 "java/lang/String", .fieldLink RJ0 38 "java/lang/String" "COMPACT_STRINGS" "Z", .fieldLink RJ0 15 "java/lang/String" "coder" "B", .fieldLink RJ0 9 "java/lang/String" "value" "[B", .methodLink RJ0 541 yJ1_equals_b5fdf, .static yJ1_equals_b5fdf, .initialized RJ1, .code yJ1_equals_b5fdf cJ1_equals_b5fdf 3 (some .boolean)] := goodIn_r _ [821, 264, 265, 259, 822, 823, 276, 824] (by decide +kernel) (by decide +kernel)
set_option maxRecDepth 20000 in
theorem gp_J0_equals_9ea2d_0 : GoodIn wsL_law [.code yJ0_equals_9ea2d cJ0_equals_9ea2d 3 (some .boolean)] := goodIn_r _ [820] (by decide +kernel) (by decide +kernel)
theorem ggL_law_J0_equals_9ea2d : GoodIn wsL_law wsJ0_equals_9ea2d := (goodIn_cons gp_J0_equals_9ea2d_0 (goodIn_app gp_J0_equals_9ea2d_1 gp_wsJ00))
set_option maxRecDepth 20000 in
theorem gL_law_J0_equals_9ea2d : GoodIn wsL_law (wsV RL 130 RJ0 yJ0_equals_9ea2d wsJ0_equals_9ea2d) := goodIn_app (goodIn_of _ (by decide +kernel)) ggL_law_J0_equals_9ea2d
set_option maxRecDepth 20000 in
theorem gp_X8_next_1 : GoodIn wsL_law [.fieldLink RX8 7 "WeatherMinistryLaw$Bits" "bits" "I", .constant RX8 13 (1103515245)] := goodIn_r _ [634, 816] (by decide +kernel) (by decide +kernel)
set_option maxRecDepth 20000 in
theorem gp_X8_next_0 : GoodIn wsL_law [.code yX8_next cX8_next 2 (some .int)] := goodIn_r _ [815] (by decide +kernel) (by decide +kernel)
theorem ggL_law_X8_next : GoodIn wsL_law wsX8_next := (goodIn_cons gp_X8_next_0 (goodIn_app gp_X8_next_1 gp_wsX80))
set_option maxRecDepth 20000 in
theorem gL_law_X8_next : GoodIn wsL_law (wsV RL 23 RX8 yX8_next wsX8_next) := goodIn_app (goodIn_of _ (by decide +kernel)) ggL_law_X8_next
set_option maxRecDepth 20000 in
theorem gp_wsL_treaties_r1 : GoodIn wsL_law wsL_treaties_r1 := goodIn_r _ [828, 47, 7, 8, 9, 10, 795, 796, 797, 2, 798, 20, 362, 363, 364, 365, 799, 603, 604, 54, 605, 606, 607, 608] (by decide +kernel) (by decide +kernel)
set_option maxRecDepth 20000 in
theorem gp_wsL_treaties_r2 : GoodIn wsL_law wsL_treaties_r2 := goodIn_r _ [609, 67, 812, 813, 814, 6, 815, 634, 816, 829, 830, 831, 832, 596, 401, 402, 403, 597, 448, 449, 450, 68, 833, 834] (by decide +kernel) (by decide +kernel)
set_option maxRecDepth 20000 in
theorem gp_wsL_treaties_r3 : GoodIn wsL_law wsL_treaties_r3 := goodIn_r _ [835, 836, 598, 599, 600, 601, 602, 837, 838, 839, 840, 398, 841, 842, 843, 58, 844, 72, 73, 845, 383, 384, 385, 386] (by decide +kernel) (by decide +kernel)
set_option maxRecDepth 20000 in
theorem gp_wsL_treaties_r4 : GoodIn wsL_law wsL_treaties_r4 := goodIn_r _ [387, 388, 389, 390, 391, 392, 846, 847, 848, 849, 548, 549, 550, 19, 551, 48, 49, 50, 51, 566, 567, 568, 569, 173] (by decide +kernel) (by decide +kernel)
set_option maxRecDepth 20000 in
theorem gp_wsL_treaties_r5 : GoodIn wsL_law wsL_treaties_r5 := goodIn_r _ [399, 400, 570, 397, 455, 32, 191, 28, 138, 422, 378, 379, 380, 381, 382, 557, 558, 559, 505, 205, 206, 35, 207, 208] (by decide +kernel) (by decide +kernel)
set_option maxRecDepth 20000 in
theorem gp_wsL_treaties_r6 : GoodIn wsL_law wsL_treaties_r6 := goodIn_r _ [209, 210, 211, 111, 212, 213, 571, 572, 573, 62, 574, 79, 80, 82, 83, 84, 85, 86] (by decide +kernel) (by decide +kernel)
set_option maxRecDepth 20000 in
theorem gp_L_treaties_0 : GoodIn wsL_law [.code yL_treaties cL_treaties 11 (some .boolean)] := goodIn_r _ [827] (by decide +kernel) (by decide +kernel)
theorem ggL_law_L_treaties : GoodIn wsL_law wsL_treaties := (goodIn_cons gp_L_treaties_0 (goodIn_app (goodIn_app (goodIn_app (goodIn_app (goodIn_app (goodIn_app (goodIn_app (goodIn_app (goodIn_app (goodIn_app gp_wsL_treaties_r1 (goodIn_app gp_wsL_treaties_r2 (goodIn_app gp_wsL_treaties_r3 (goodIn_app gp_wsL_treaties_r4 (goodIn_app gp_wsL_treaties_r5 gp_wsL_treaties_r6))))) gp_wsX70) gp_wsX30) gp_wsX60) gp_wsX80) gp_wsX10) gp_wsX50) gp_wsX20) gp_wsJ40) gp_wsX00))
set_option maxRecDepth 20000 in
theorem gL_law_L_treaties : GoodIn wsL_law (va_wsS RL 208 yL_treaties wsL_treaties) := goodIn_app (goodIn_of _ (by decide +kernel)) ggL_law_L_treaties
set_option maxRecDepth 20000 in
theorem gp_wsL_credits_r1 : GoodIn wsL_law wsL_credits_r1 := goodIn_r _ [47, 638, 34, 35, 566, 567, 568, 2, 569, 20, 173, 398, 399, 362, 400, 570, 397, 455, 32, 191, 28, 138, 422, 378] (by decide +kernel) (by decide +kernel)
set_option maxRecDepth 20000 in
theorem gp_wsL_credits_r2 : GoodIn wsL_law wsL_credits_r2 := goodIn_r _ [379, 380, 54, 381, 382, 383, 384, 385, 67, 364, 365, 386, 387, 388, 389, 390, 391, 392, 557, 558, 559, 505, 205, 206] (by decide +kernel) (by decide +kernel)
set_option maxRecDepth 20000 in
theorem gp_wsL_credits_r3 : GoodIn wsL_law wsL_credits_r3 := goodIn_r _ [207, 208, 209, 210, 211, 111, 212, 213, 571, 572, 573, 62, 574, 79, 80, 82, 83, 84, 85, 86, 639, 107, 108, 109] (by decide +kernel) (by decide +kernel)
set_option maxRecDepth 20000 in
theorem gp_wsL_credits_r4 : GoodIn wsL_law wsL_credits_r4 := goodIn_r _ [110, 112, 113, 15, 16, 114, 115, 116, 117, 118, 119, 120, 121, 122, 123, 124, 125, 853, 854, 855, 856, 420, 421, 804] (by decide +kernel) (by decide +kernel)
set_option maxRecDepth 20000 in
theorem gp_wsL_credits_r5 : GoodIn wsL_law wsL_credits_r5 := goodIn_r _ [424, 425, 426, 58, 427, 72, 761, 762, 763, 764, 765, 766, 767, 768, 769, 770, 771, 772, 773, 304, 305, 306, 307, 308] (by decide +kernel) (by decide +kernel)
set_option maxRecDepth 20000 in
theorem gp_wsL_credits_r6 : GoodIn wsL_law wsL_credits_r6 := goodIn_r _ [309, 310, 311, 312, 313, 314, 315, 316, 317, 318, 319, 246, 9, 247, 320, 321, 322, 323, 324, 325, 326, 327, 328, 329] (by decide +kernel) (by decide +kernel)
set_option maxRecDepth 20000 in
theorem gp_wsL_credits_r7 : GoodIn wsL_law wsL_credits_r7 := goodIn_r _ [330, 331, 332, 333, 334, 8, 10, 335, 152, 153, 154, 336, 337, 338, 339, 340, 774, 775, 776, 235, 659, 660, 661, 238] (by decide +kernel) (by decide +kernel)
set_option maxRecDepth 20000 in
theorem gp_wsL_credits_r8 : GoodIn wsL_law wsL_credits_r8 := goodIn_r _ [239, 240, 662, 663, 225, 664, 227, 665, 666, 230, 667, 673, 674, 675, 236, 237, 777, 256, 257, 258, 259, 260, 261, 262] (by decide +kernel) (by decide +kernel)
set_option maxRecDepth 20000 in
theorem gp_wsL_credits_r9 : GoodIn wsL_law wsL_credits_r9 := goodIn_r _ [263, 264, 265, 778, 779, 780, 781, 782, 783, 784, 785, 786, 787, 788, 687, 688, 689, 690, 691, 692, 693, 276, 694, 695] (by decide +kernel) (by decide +kernel)
set_option maxRecDepth 20000 in
theorem gp_wsL_credits_r10 : GoodIn wsL_law wsL_credits_r10 := goodIn_r _ [696, 697, 698, 699, 700, 701, 702, 703, 704, 705, 706, 789, 790, 791, 792, 793, 794, 640, 641, 642, 643, 644, 645, 646] (by decide +kernel) (by decide +kernel)
set_option maxRecDepth 20000 in
theorem gp_wsL_credits_r11 : GoodIn wsL_law wsL_credits_r11 := goodIn_r _ [647, 648, 649, 650, 651, 652, 653, 654, 655, 656, 657, 658, 668, 669, 670, 671, 672, 676, 677, 678, 679, 680, 681, 682] (by decide +kernel) (by decide +kernel)
set_option maxRecDepth 20000 in
theorem gp_wsL_credits_r12 : GoodIn wsL_law wsL_credits_r12 := goodIn_r _ [683, 684, 685, 686, 707, 708, 709, 282, 283, 284, 285, 224, 226, 228, 229, 231, 857, 858, 859, 860, 861, 862, 863, 864] (by decide +kernel) (by decide +kernel)
set_option maxRecDepth 20000 in
theorem gp_wsL_credits_r13 : GoodIn wsL_law wsL_credits_r13 := goodIn_r _ [865, 866, 867, 868, 75, 74, 432, 869, 870, 871, 872, 363, 583, 584, 585, 586, 73, 873, 874, 875, 876, 587, 588, 589] (by decide +kernel) (by decide +kernel)
set_option maxRecDepth 20000 in
theorem gp_wsL_credits_r14 : GoodIn wsL_law wsL_credits_r14 := goodIn_r _ [19, 590, 59, 46, 591, 541, 542, 543, 837, 838, 839, 840, 841, 842, 843, 844, 845, 846, 847, 848, 849, 606, 607, 608] (by decide +kernel) (by decide +kernel)
set_option maxRecDepth 20000 in
theorem gp_wsL_credits_r15 : GoodIn wsL_law wsL_credits_r15 := goodIn_r _ [609, 548, 549, 550, 551, 48, 49, 50, 51, 877, 878, 879, 880, 540, 800, 801, 802, 803, 36, 295, 296, 297, 298, 299] (by decide +kernel) (by decide +kernel)
set_option maxRecDepth 20000 in
theorem gp_wsL_credits_r16 : GoodIn wsL_law wsL_credits_r16 := goodIn_r _ [300, 301, 302, 303, 341, 342, 343, 344, 345, 346, 347, 348, 349, 350, 351, 352, 353, 715, 714, 716, 717, 617, 718, 501] (by decide +kernel) (by decide +kernel)
set_option maxRecDepth 20000 in
theorem gp_wsL_credits_r17 : GoodIn wsL_law wsL_credits_r17 := goodIn_r _ [502, 503, 504, 506, 215, 216, 217, 218, 219, 220, 221, 222, 223, 232, 233, 234, 719, 720, 721, 722, 723, 724, 725, 726] (by decide +kernel) (by decide +kernel)
set_option maxRecDepth 20000 in
theorem gp_wsL_credits_r18 : GoodIn wsL_law wsL_credits_r18 := goodIn_r _ [727, 728, 729, 730, 731, 732, 733, 734, 735, 736, 737, 738, 739, 740, 741, 742, 743, 744, 745, 746, 747, 748, 749, 750] (by decide +kernel) (by decide +kernel)
set_option maxRecDepth 20000 in
theorem gp_wsL_credits_r19 : GoodIn wsL_law wsL_credits_r19 := goodIn_r _ [751, 752, 753, 754, 755, 756, 286, 757, 758, 759, 760, 817, 818, 819, 820, 821, 822, 823, 824] (by decide +kernel) (by decide +kernel)
set_option maxRecDepth 20000 in
theorem gp_L_credits_0 : GoodIn wsL_law [.code yL_credits cL_credits 12 (some .boolean)] := goodIn_r _ [852] (by decide +kernel) (by decide +kernel)
theorem ggL_law_L_credits : GoodIn wsL_law wsL_credits := (goodIn_cons gp_L_credits_0 (goodIn_app (goodIn_app (goodIn_app (goodIn_app (goodIn_app (goodIn_app (goodIn_app (goodIn_app (goodIn_app (goodIn_app gp_wsL_credits_r1 (goodIn_app gp_wsL_credits_r2 (goodIn_app gp_wsL_credits_r3 (goodIn_app gp_wsL_credits_r4 (goodIn_app gp_wsL_credits_r5 (goodIn_app gp_wsL_credits_r6 (goodIn_app gp_wsL_credits_r7 (goodIn_app gp_wsL_credits_r8 (goodIn_app gp_wsL_credits_r9 (goodIn_app gp_wsL_credits_r10 (goodIn_app gp_wsL_credits_r11 (goodIn_app gp_wsL_credits_r12 (goodIn_app gp_wsL_credits_r13 (goodIn_app gp_wsL_credits_r14 (goodIn_app gp_wsL_credits_r15 (goodIn_app gp_wsL_credits_r16 (goodIn_app gp_wsL_credits_r17 (goodIn_app gp_wsL_credits_r18 gp_wsL_credits_r19)))))))))))))))))) gp_wsJ40) gp_wsX70) gp_wsX30) gp_wsX10) gp_wsX50) gp_wsX20) gp_wsX60) gp_wsX00) gp_wsJ00))
set_option maxRecDepth 20000 in
theorem gL_law_L_credits : GoodIn wsL_law (va_wsS RL 212 yL_credits wsL_credits) := goodIn_app (goodIn_of _ (by decide +kernel)) ggL_law_L_credits
set_option maxRecDepth 20000 in
theorem gp_wsL_towns_r1 : GoodIn wsL_law wsL_towns_r1 := goodIn_r _ [47, 638, 34, 35, 884, 837, 838, 839, 2, 840, 20, 398, 362, 363, 364, 365, 841, 842, 843, 58, 844, 72, 73, 845] (by decide +kernel) (by decide +kernel)
set_option maxRecDepth 20000 in
theorem gp_wsL_towns_r2 : GoodIn wsL_law wsL_towns_r2 := goodIn_r _ [383, 384, 54, 385, 67, 386, 387, 388, 389, 390, 391, 392, 846, 847, 848, 849, 606, 607, 608, 609, 548, 549, 550, 19] (by decide +kernel) (by decide +kernel)
set_option maxRecDepth 20000 in
theorem gp_wsL_towns_r3 : GoodIn wsL_law wsL_towns_r3 := goodIn_r _ [551, 48, 49, 50, 51, 639, 107, 108, 109, 110, 111, 112, 113, 15, 16, 114, 115, 116, 117, 118, 119, 120, 121, 122] (by decide +kernel) (by decide +kernel)
set_option maxRecDepth 20000 in
theorem gp_wsL_towns_r4 : GoodIn wsL_law wsL_towns_r4 := goodIn_r _ [123, 124, 125, 640, 641, 642, 643, 644, 645, 210, 646, 647, 213, 648, 649, 650, 304, 305, 306, 307, 308, 309, 310, 311] (by decide +kernel) (by decide +kernel)
set_option maxRecDepth 20000 in
theorem gp_wsL_towns_r5 : GoodIn wsL_law wsL_towns_r5 := goodIn_r _ [312, 313, 314, 315, 316, 317, 318, 319, 246, 9, 247, 320, 321, 322, 323, 324, 325, 326, 327, 328, 329, 330, 331, 332] (by decide +kernel) (by decide +kernel)
set_option maxRecDepth 20000 in
theorem gp_wsL_towns_r6 : GoodIn wsL_law wsL_towns_r6 := goodIn_r _ [333, 334, 8, 10, 335, 152, 153, 154, 336, 337, 338, 339, 340, 651, 652, 653, 654, 655, 656, 657, 658, 235, 659, 660] (by decide +kernel) (by decide +kernel)
set_option maxRecDepth 20000 in
theorem gp_wsL_towns_r7 : GoodIn wsL_law wsL_towns_r7 := goodIn_r _ [661, 238, 239, 240, 662, 663, 225, 664, 227, 665, 666, 230, 667, 668, 669, 670, 671, 672, 673, 674, 675, 236, 237, 761] (by decide +kernel) (by decide +kernel)
set_option maxRecDepth 20000 in
theorem gp_wsL_towns_r8 : GoodIn wsL_law wsL_towns_r8 := goodIn_r _ [762, 763, 764, 765, 766, 767, 768, 769, 770, 771, 772, 773, 774, 775, 776, 777, 256, 257, 258, 259, 260, 261, 262, 263] (by decide +kernel) (by decide +kernel)
set_option maxRecDepth 20000 in
theorem gp_wsL_towns_r9 : GoodIn wsL_law wsL_towns_r9 := goodIn_r _ [264, 265, 778, 779, 780, 781, 782, 783, 784, 785, 786, 787, 788, 687, 688, 689, 690, 691, 692, 693, 276, 694, 695, 696] (by decide +kernel) (by decide +kernel)
set_option maxRecDepth 20000 in
theorem gp_wsL_towns_r10 : GoodIn wsL_law wsL_towns_r10 := goodIn_r _ [697, 698, 699, 700, 701, 702, 703, 704, 705, 706, 789, 790, 791, 792, 793, 794, 719, 720, 721, 722, 723, 724, 725, 726] (by decide +kernel) (by decide +kernel)
set_option maxRecDepth 20000 in
theorem gp_wsL_towns_r11 : GoodIn wsL_law wsL_towns_r11 := goodIn_r _ [727, 728, 729, 730, 731, 732, 733, 734, 735, 736, 737, 738, 209, 739, 740, 205, 207, 208, 211, 212, 741, 742, 743, 744] (by decide +kernel) (by decide +kernel)
set_option maxRecDepth 20000 in
theorem gp_wsL_towns_r12 : GoodIn wsL_law wsL_towns_r12 := goodIn_r _ [745, 746, 747, 748, 749, 750, 751, 752, 753, 754, 755, 756, 286, 233, 234, 757, 758, 759, 760, 885, 886, 887, 888, 889] (by decide +kernel) (by decide +kernel)
set_option maxRecDepth 20000 in
theorem gp_wsL_towns_r13 : GoodIn wsL_law wsL_towns_r13 := goodIn_r _ [890, 891, 892, 893, 894, 895, 896, 710, 711, 712, 713, 36, 400, 570, 455, 397, 295, 296, 297, 298, 299, 300, 301, 302] (by decide +kernel) (by decide +kernel)
set_option maxRecDepth 20000 in
theorem gp_wsL_towns_r14 : GoodIn wsL_law wsL_towns_r14 := goodIn_r _ [303, 341, 342, 343, 344, 345, 346, 347, 348, 349, 350, 351, 352, 353, 714, 715, 677, 678, 679, 680, 681, 682, 683, 684] (by decide +kernel) (by decide +kernel)
set_option maxRecDepth 20000 in
theorem gp_wsL_towns_r15 : GoodIn wsL_law wsL_towns_r15 := goodIn_r _ [685, 686, 707, 708, 709, 282, 283, 284, 285, 224, 226, 228, 229, 231, 505, 206, 716, 717, 617, 718, 501, 502, 503, 504] (by decide +kernel) (by decide +kernel)
set_option maxRecDepth 20000 in
theorem gp_wsL_towns_r16 : GoodIn wsL_law wsL_towns_r16 := goodIn_r _ [506, 215, 216, 217, 218, 219, 220, 221, 222, 223, 232, 676, 817, 818, 819, 820, 821, 822, 823, 824, 566, 567, 568, 569] (by decide +kernel) (by decide +kernel)
set_option maxRecDepth 20000 in
theorem gp_wsL_towns_r17 : GoodIn wsL_law wsL_towns_r17 := goodIn_r _ [173, 399, 32, 191, 28, 138, 422, 378, 379, 380, 381, 382, 557, 558, 559, 571, 572, 573, 62, 574, 79, 80, 82, 83] (by decide +kernel) (by decide +kernel)
set_option maxRecDepth 20000 in
theorem gp_wsL_towns_r18 : GoodIn wsL_law wsL_towns_r18 := goodIn_r _ [84, 85, 86, 552, 553, 554, 555, 556, 560, 561, 562, 563, 564, 565, 575, 576, 577, 578, 579, 580, 581, 582, 583, 584] (by decide +kernel) (by decide +kernel)
set_option maxRecDepth 20000 in
theorem gp_wsL_towns_r19 : GoodIn wsL_law wsL_towns_r19 := goodIn_r _ [585, 586, 74, 587, 588, 589, 590, 59, 46, 591, 541, 542, 543, 75, 592, 593, 594, 595, 596, 597, 448, 449, 450, 68] (by decide +kernel) (by decide +kernel)
set_option maxRecDepth 20000 in
theorem gp_wsL_towns_r20 : GoodIn wsL_law wsL_towns_r20 := goodIn_r _ [598, 599, 600, 601, 602, 603, 604, 605, 610, 611, 612, 613, 63, 411, 480, 614, 490] (by decide +kernel) (by decide +kernel)
set_option maxRecDepth 20000 in
theorem gp_L_towns_0 : GoodIn wsL_law [.code yL_towns cL_towns 8 (some .boolean)] := goodIn_r _ [883] (by decide +kernel) (by decide +kernel)
theorem ggL_law_L_towns : GoodIn wsL_law wsL_towns := (goodIn_cons gp_L_towns_0 (goodIn_app (goodIn_app (goodIn_app (goodIn_app (goodIn_app (goodIn_app (goodIn_app (goodIn_app (goodIn_app (goodIn_app gp_wsL_towns_r1 (goodIn_app gp_wsL_towns_r2 (goodIn_app gp_wsL_towns_r3 (goodIn_app gp_wsL_towns_r4 (goodIn_app gp_wsL_towns_r5 (goodIn_app gp_wsL_towns_r6 (goodIn_app gp_wsL_towns_r7 (goodIn_app gp_wsL_towns_r8 (goodIn_app gp_wsL_towns_r9 (goodIn_app gp_wsL_towns_r10 (goodIn_app gp_wsL_towns_r11 (goodIn_app gp_wsL_towns_r12 (goodIn_app gp_wsL_towns_r13 (goodIn_app gp_wsL_towns_r14 (goodIn_app gp_wsL_towns_r15 (goodIn_app gp_wsL_towns_r16 (goodIn_app gp_wsL_towns_r17 (goodIn_app gp_wsL_towns_r18 (goodIn_app gp_wsL_towns_r19 gp_wsL_towns_r20))))))))))))))))))) gp_wsJ40) gp_wsX70) gp_wsX30) gp_wsX10) gp_wsX60) gp_wsJ00) gp_wsX50) gp_wsX20) gp_wsX00))
set_option maxRecDepth 20000 in
theorem gL_law_L_towns : GoodIn wsL_law (va_wsS RL 216 yL_towns wsL_towns) := goodIn_app (goodIn_of _ (by decide +kernel)) ggL_law_L_towns
