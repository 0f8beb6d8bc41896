/-! THE LAW: its words stand in the tables -/
theorem sl_selP {C : String} {y z : MethodName} {s : State} {args : Array Value} (hy : y.cls ≠ "java/lang/invoke/MethodHandle" ∧ y.cls ≠ "java/lang/invoke/VarHandle") (hz : z.cls = y.cls) (hsel : (Cond.selects C z z).before args s = true) (hpriv : (Cond.privateMethod y).before args s = true) (hinst : (Cond.instanceMethod y).before args s = true) : (Cond.selects C y y).before args s = true := by
  obtain ⟨c2, r2, m2, q1, q2, q3, q4, kP, hkP, hkPi⟩ := Cond.selects_spec hsel
  obtain ⟨mk, methM, hnamed, hmethM, -, -⟩ := Cond.instanceMethod_spec hinst
  have hfound : s.methodFound? y.cls y.name y.desc = some mk := State.methodFound?_of_named hnamed hy
  have hcls : mk.cls = m2.cls := by
    have a := findClass_of_methodNamed hnamed
    have b := findClass_of_methodNamed q3
    rw [hz] at b
    exact Option.some.inj (a.symm.trans b)
  have hsel2 : selectMethod {} s.vm c2 mk = .method mk := selectMethod_private hmethM (Cond.privateMethod_at hpriv mk methM hnamed hmethM)
  simp only [Cond.before, Cond.holds, Cond.value, q1, hfound, hnamed, hsel2, hcls, hkP]
  simp
  exact hkPi
def wl_x1 : MethodName := ⟨"java/lang/AbstractStringBuilder", "ensureCapacityInternal", "(I)V"⟩
def wl_x2 : MethodName := ⟨"java/lang/AbstractStringBuilder", "newCapacity", "(I)I"⟩
def wl_x3 : MethodName := ⟨"java/lang/AbstractStringBuilder", "inflate", "()V"⟩
def wl_x4 : MethodName := ⟨"java/lang/AbstractStringBuilder", "appendNull", "()Ljava/lang/AbstractStringBuilder;"⟩
def wl_x5 : MethodName := ⟨"java/lang/AbstractStringBuilder", "putStringAt", "(ILjava/lang/String;)V"⟩
def wl_x6 : MethodName := ⟨"java/lang/AbstractStringBuilder", "inflateIfNeededFor", "(Ljava/lang/String;)V"⟩
def wl_z : MethodName := ⟨"java/lang/AbstractStringBuilder", "isLatin1", "()Z"⟩
def wl_big : List Cond := Cond.selects RJ4 wl_x1 wl_x1 :: Cond.selects RJ4 wl_x2 wl_x2 :: Cond.selects RJ4 wl_x3 wl_x3 :: Cond.selects RJ4 wl_x4 wl_x4 :: Cond.selects RJ4 wl_x5 wl_x5 :: Cond.selects RJ4 wl_x6 wl_x6 :: lw_tbl
theorem wl_of {big ws : List Cond} (ps : List Nat) (hp : ws = ps.filterMap (fun i => big[i]?)) : ∀ w ∈ ws, w ∈ big := by
  intro w hw
  rw [hp] at hw
  obtain ⟨i, -, hi⟩ := List.mem_filterMap.mp hw
  exact List.mem_of_getElem? hi
theorem wl_p1 : Cond.privateMethod wl_x1 ∈ lw_tbl := List.mem_of_getElem? (i := 688) (by decide +kernel)
theorem wl_i1 : Cond.instanceMethod wl_x1 ∈ lw_tbl := List.mem_of_getElem? (i := 689) (by decide +kernel)
theorem wl_p2 : Cond.privateMethod wl_x2 ∈ lw_tbl := List.mem_of_getElem? (i := 692) (by decide +kernel)
theorem wl_i2 : Cond.instanceMethod wl_x2 ∈ lw_tbl := List.mem_of_getElem? (i := 693) (by decide +kernel)
theorem wl_p3 : Cond.privateMethod wl_x3 ∈ lw_tbl := List.mem_of_getElem? (i := 844) (by decide +kernel)
theorem wl_i3 : Cond.instanceMethod wl_x3 ∈ lw_tbl := List.mem_of_getElem? (i := 845) (by decide +kernel)
theorem wl_p4 : Cond.privateMethod wl_x4 ∈ lw_tbl := List.mem_of_getElem? (i := 932) (by decide +kernel)
theorem wl_i4 : Cond.instanceMethod wl_x4 ∈ lw_tbl := List.mem_of_getElem? (i := 933) (by decide +kernel)
theorem wl_p5 : Cond.privateMethod wl_x5 ∈ lw_tbl := List.mem_of_getElem? (i := 940) (by decide +kernel)
theorem wl_i5 : Cond.instanceMethod wl_x5 ∈ lw_tbl := List.mem_of_getElem? (i := 941) (by decide +kernel)
theorem wl_p6 : Cond.privateMethod wl_x6 ∈ lw_tbl := List.mem_of_getElem? (i := 944) (by decide +kernel)
theorem wl_i6 : Cond.instanceMethod wl_x6 ∈ lw_tbl := List.mem_of_getElem? (i := 945) (by decide +kernel)
theorem wl_s : Cond.selects RJ4 wl_z wl_z ∈ lw_tbl := List.mem_of_getElem? (i := 719) (by decide +kernel)
theorem wl_bigh {args : Array Value} {s : State} (h : ∀ w ∈ lw_tbl, w.before args s = true) : ∀ w ∈ wl_big, w.before args s = true := by
  intro w hw
  rcases List.mem_cons.mp hw with e | hw
  · rw [e]
    exact sl_selP (z := wl_z) ⟨by decide, by decide⟩ rfl (h _ wl_s) (h _ wl_p1) (h _ wl_i1)
  rcases List.mem_cons.mp hw with e | hw
  · rw [e]
    exact sl_selP (z := wl_z) ⟨by decide, by decide⟩ rfl (h _ wl_s) (h _ wl_p2) (h _ wl_i2)
  rcases List.mem_cons.mp hw with e | hw
  · rw [e]
    exact sl_selP (z := wl_z) ⟨by decide, by decide⟩ rfl (h _ wl_s) (h _ wl_p3) (h _ wl_i3)
  rcases List.mem_cons.mp hw with e | hw
  · rw [e]
    exact sl_selP (z := wl_z) ⟨by decide, by decide⟩ rfl (h _ wl_s) (h _ wl_p4) (h _ wl_i4)
  rcases List.mem_cons.mp hw with e | hw
  · rw [e]
    exact sl_selP (z := wl_z) ⟨by decide, by decide⟩ rfl (h _ wl_s) (h _ wl_p5) (h _ wl_i5)
  rcases List.mem_cons.mp hw with e | hw
  · rw [e]
    exact sl_selP (z := wl_z) ⟨by decide, by decide⟩ rfl (h _ wl_s) (h _ wl_p6) (h _ wl_i6)
  exact h w hw
set_option maxRecDepth 20000 in
theorem wl_1 : ∀ w ∈ wsL_law_r1, w ∈ wl_big := wl_of [49, 50, 29, 1067, 764, 765, 48, 976, 436, 41, 437, 51, 52, 53, 54, 55, 56, 57, 58, 30, 289, 290, 291, 292] (by decide +kernel)
set_option maxRecDepth 20000 in
theorem wl_2 : ∀ w ∈ wsL_law_r2, w ∈ wl_big := wl_of [293, 182, 183, 34, 294, 202, 203, 35, 295, 264, 209, 37, 296, 266, 267, 40, 297, 298, 59, 60, 61, 62, 149, 78] (by decide +kernel)
set_option maxRecDepth 20000 in
theorem wl_3 : ∀ w ∈ wsL_law_r3, w ∈ wl_big := wl_of [151, 153, 155, 157, 63, 64, 31, 159, 79, 80, 32, 161, 106, 107, 33, 163, 66, 67, 68, 69, 70, 82, 83, 84] (by decide +kernel)
set_option maxRecDepth 20000 in
theorem wl_4 : ∀ w ∈ wsL_law_r4, w ∈ wl_big := wl_of [85, 88, 91, 94, 109, 110, 111, 112, 114, 117, 120, 122, 124, 126, 129, 184, 185, 186, 187, 191, 193, 188, 194, 190] (by decide +kernel)
set_option maxRecDepth 20000 in
theorem wl_5 : ∀ w ∈ wsL_law_r5, w ∈ wl_big := wl_of [205, 206, 207, 208, 243, 245, 247, 249, 241, 251, 210, 211, 212, 213, 214, 36, 215, 216, 217, 240, 226, 227, 219, 220] (by decide +kernel)
set_option maxRecDepth 20000 in
theorem wl_6 : ∀ w ∈ wsL_law_r6, w ∈ wl_big := wl_of [39, 221, 222, 223, 224, 225, 265, 269, 270, 271, 272, 274, 276, 278, 752, 753, 754, 755, 192, 756, 757, 758, 759, 478] (by decide +kernel)
set_option maxRecDepth 20000 in
theorem wl_7 : ∀ w ∈ wsL_law_r7, w ∈ wl_big := wl_of [470, 41, 471, 477, 329, 330, 331, 332, 334, 333, 42, 335, 336, 337, 338, 339, 340, 341, 342, 343, 344, 345, 346, 347] (by decide +kernel)
set_option maxRecDepth 20000 in
theorem wl_8 : ∀ w ∈ wsL_law_r8, w ∈ wl_big := wl_of [348, 760, 761, 762, 763, 150, 328, 748, 749, 750, 751, 273, 275, 277, 279, 744, 745, 746, 747, 615, 616, 617, 618, 244] (by decide +kernel)
set_option maxRecDepth 20000 in
theorem wl_9 : ∀ w ∈ wsL_law_r9, w ∈ wl_big := wl_of [246, 248, 252, 250, 619, 620, 621, 622, 623, 625, 21, 626, 627, 573, 574, 575, 576, 1068, 239, 577, 578, 230, 628, 588] (by decide +kernel)
set_option maxRecDepth 20000 in
theorem wl_10 : ∀ w ∈ wsL_law_r10, w ∈ wl_big := wl_of [589, 590, 591, 1069, 592, 593, 594, 595, 596, 38, 597, 598, 600, 601, 43, 602, 603, 604, 605, 606, 611, 613, 608, 609] (by decide +kernel)
set_option maxRecDepth 20000 in
theorem wl_11 : ∀ w ∈ wsL_law_r11, w ∈ wl_big := wl_of [610, 629, 631, 22, 632, 685, 443, 444, 633, 634, 635, 644, 646, 23, 647, 648, 649, 650, 651, 919, 652, 653, 654, 655] (by decide +kernel)
set_option maxRecDepth 20000 in
theorem wl_12 : ∀ w ∈ wsL_law_r12, w ∈ wl_big := wl_of [656, 920, 657, 658, 659, 660, 661, 662, 663, 664, 665, 666, 44, 667, 668, 669, 670, 671, 672, 673, 674, 675, 676, 677] (by decide +kernel)
set_option maxRecDepth 20000 in
theorem wl_13 : ∀ w ∈ wsL_law_r13, w ∈ wl_big := wl_of [679, 24, 680, 681, 683, 25, 684, 686, 687, 688, 689, 690, 1070, 691, 692, 228, 693, 1071, 0, 695, 696, 697, 1072, 1] (by decide +kernel)
set_option maxRecDepth 20000 in
theorem wl_14 : ∀ w ∈ wsL_law_r14, w ∈ wl_big := wl_of [699, 700, 709, 701, 702, 45, 703, 704, 705, 706, 707, 708, 710, 711, 46, 712, 713, 714, 715, 716, 717, 719, 720, 721] (by decide +kernel)
set_option maxRecDepth 20000 in
theorem wl_15 : ∀ w ∈ wsL_law_r15, w ∈ wl_big := wl_of [722, 724, 725, 723, 726, 727, 728, 729, 730, 731, 732, 733, 734, 735, 736, 737, 738, 739, 349, 351, 7, 352, 353, 355] (by decide +kernel)
set_option maxRecDepth 20000 in
theorem wl_16 : ∀ w ∈ wsL_law_r16, w ∈ wl_big := wl_of [8, 356, 160, 357, 358, 359, 360, 361, 362, 363, 364, 365, 366, 367, 369, 370, 371, 372, 373, 374, 375, 376, 377, 378] (by decide +kernel)
set_option maxRecDepth 20000 in
theorem wl_17 : ∀ w ∈ wsL_law_r17, w ∈ wl_big := wl_of [379, 380, 381, 382, 47, 383, 384, 385, 386, 387, 389, 9, 390, 158, 162, 87, 152, 391, 392, 393, 394, 395, 396, 397] (by decide +kernel)
set_option maxRecDepth 20000 in
theorem wl_18 : ∀ w ∈ wsL_law_r18, w ∈ wl_big := wl_of [398, 399, 400, 113, 402, 403, 404, 405, 406, 408, 10, 409, 89, 92, 164, 116, 410, 411, 412, 413, 414, 415, 416, 417] (by decide +kernel)
set_option maxRecDepth 20000 in
theorem wl_19 : ∀ w ∈ wsL_law_r19, w ∈ wl_big := wl_of [418, 419, 420, 421, 422, 423, 425, 11, 426, 427, 428, 429, 430, 71, 435, 431, 432, 433, 434, 438, 440, 12, 441, 156] (by decide +kernel)
set_option maxRecDepth 20000 in
theorem wl_20 : ∀ w ∈ wsL_law_r20, w ∈ wl_big := wl_of [442, 445, 447, 13, 448, 119, 449, 450, 451, 452, 472, 453, 455, 14, 456, 86, 96, 90, 93, 457, 458, 460, 15, 461] (by decide +kernel)
set_option maxRecDepth 20000 in
theorem wl_21 : ∀ w ∈ wsL_law_r21, w ∈ wl_big := wl_of [115, 125, 127, 130, 462, 463, 465, 16, 466, 123, 121, 469, 740, 741, 742, 743, 473, 474, 475, 476, 479, 583, 584, 585] (by decide +kernel)
set_option maxRecDepth 20000 in
theorem wl_22 : ∀ w ∈ wsL_law_r22, w ∈ wl_big := wl_of [586, 572, 587, 320, 321, 322, 323, 324, 326, 6, 327, 480, 481, 482, 483, 484, 485, 486, 487, 492, 493, 494, 495, 488] (by decide +kernel)
set_option maxRecDepth 20000 in
theorem wl_23 : ∀ w ∈ wsL_law_r23, w ∈ wl_big := wl_of [489, 490, 491, 504, 505, 506, 507, 508, 509, 511, 17, 512, 513, 514, 515, 516, 496, 497, 498, 499, 500, 501, 502, 503] (by decide +kernel)
set_option maxRecDepth 20000 in
theorem wl_24 : ∀ w ∈ wsL_law_r24, w ∈ wl_big := wl_of [558, 559, 560, 561, 563, 562, 556, 557, 564, 565, 566, 567, 128, 131, 568, 569, 570, 571, 154, 579, 580, 581, 582, 517] (by decide +kernel)
set_option maxRecDepth 20000 in
theorem wl_25 : ∀ w ∈ wsL_law_r25, w ∈ wl_big := wl_of [518, 519, 520, 521, 523, 18, 524, 525, 526, 527, 528, 529, 530, 531, 532, 533, 534, 536, 19, 537, 72, 538, 539, 540] (by decide +kernel)
set_option maxRecDepth 20000 in
theorem wl_26 : ∀ w ∈ wsL_law_r26, w ∈ wl_big := wl_of [541, 542, 543, 544, 545, 546, 547, 549, 20, 550, 551, 552, 553, 554, 118, 969, 970, 28, 971, 789, 790, 791, 792, 793] (by decide +kernel)
set_option maxRecDepth 20000 in
theorem wl_27 : ∀ w ∈ wsL_law_r27, w ∈ wl_big := wl_of [794, 795, 796, 779, 780, 781, 766, 767, 768, 769, 770, 797, 798, 799, 800, 801, 802, 803, 804, 805, 806, 1073, 807, 808] (by decide +kernel)
set_option maxRecDepth 20000 in
theorem wl_28 : ∀ w ∈ wsL_law_r28, w ∈ wl_big := wl_of [809, 810, 811, 812, 813, 814, 815, 817, 819, 820, 821, 822, 823, 824, 825, 826, 827, 828, 829, 830, 831, 832, 833, 834] (by decide +kernel)
set_option maxRecDepth 20000 in
theorem wl_29 : ∀ w ∈ wsL_law_r29, w ∈ wl_big := wl_of [838, 835, 836, 837, 839, 840, 841, 842, 843, 1074, 844, 845, 846, 847, 848, 849, 1075, 2, 851, 852, 853, 854, 855, 856] (by decide +kernel)
set_option maxRecDepth 20000 in
theorem wl_30 : ∀ w ∈ wsL_law_r30, w ∈ wl_big := wl_of [857, 858, 859, 860, 861, 862, 863, 864, 865, 866, 867, 868, 869, 870, 871, 872, 873, 874, 875, 876, 877, 878, 879, 880] (by decide +kernel)
set_option maxRecDepth 20000 in
theorem wl_31 : ∀ w ∈ wsL_law_r31, w ∈ wl_big := wl_of [881, 882, 883, 884, 885, 886, 887, 888, 889, 890, 891, 892, 229, 893, 895, 896, 894, 897, 898, 577, 1076, 899, 900, 901] (by decide +kernel)
set_option maxRecDepth 20000 in
theorem wl_32 : ∀ w ∈ wsL_law_r32, w ∈ wl_big := wl_of [902, 903, 904, 905, 906, 907, 908, 909, 910, 911, 912, 913, 914, 915, 916, 917, 918, 930, 931, 932, 933, 934, 1077, 935] (by decide +kernel)
set_option maxRecDepth 20000 in
theorem wl_33 : ∀ w ∈ wsL_law_r33, w ∈ wl_big := wl_of [936, 937, 1078, 3, 939, 940, 941, 942, 943, 944, 945, 1079, 4, 947, 948, 949, 1080, 5, 951, 952, 953, 954, 955, 956] (by decide +kernel)
set_option maxRecDepth 20000 in
theorem wl_34 : ∀ w ∈ wsL_law_r34, w ∈ wl_big := wl_of [957, 958, 959, 960, 961, 962, 963, 964, 965, 966, 967, 968, 95, 782, 783, 784, 785, 786, 787, 788, 774, 775, 776, 777] (by decide +kernel)
set_option maxRecDepth 20000 in
theorem wl_35 : ∀ w ∈ wsL_law_r35, w ∈ wl_big := wl_of [778, 1031, 1032, 1033, 1034, 1035, 1036, 1037, 1038, 972, 973, 974, 975, 977, 978, 979, 980, 981, 982, 983, 984, 985, 986, 987] (by decide +kernel)
set_option maxRecDepth 20000 in
theorem wl_36 : ∀ w ∈ wsL_law_r36, w ∈ wl_big := wl_of [988, 989, 990, 991, 992, 993, 994, 995, 996, 997, 998, 999, 1000, 1001, 1002, 1003, 1004, 1007, 1008, 1009, 1010, 1011, 1012, 1013] (by decide +kernel)
set_option maxRecDepth 20000 in
theorem wl_37 : ∀ w ∈ wsL_law_r37, w ∈ wl_big := wl_of [1014, 1015, 1017, 26, 1018, 1019, 1020, 1021, 1022, 1023, 1024, 1025, 1026, 1027, 1028, 1029, 1030, 1039, 1040, 1041, 1059, 1047, 1048, 1049] (by decide +kernel)
set_option maxRecDepth 20000 in
theorem wl_38 : ∀ w ∈ wsL_law_r38, w ∈ wl_big := wl_of [1050, 1051, 1052, 1053, 1054, 1055, 1057, 27, 1058, 1060, 1061, 1062, 1063, 1064, 1065, 1066] (by decide +kernel)
set_option maxRecDepth 20000 in
theorem wl_wsX70 : ∀ w ∈ wsX70, w ∈ wl_big := by decide +kernel
set_option maxRecDepth 20000 in
theorem wl_wsX80 : ∀ w ∈ wsX80, w ∈ wl_big := by decide +kernel
set_option maxRecDepth 20000 in
theorem wl_wsX30 : ∀ w ∈ wsX30, w ∈ wl_big := by decide +kernel
set_option maxRecDepth 20000 in
theorem wl_wsX20 : ∀ w ∈ wsX20, w ∈ wl_big := by decide +kernel
set_option maxRecDepth 20000 in
theorem wl_wsX50 : ∀ w ∈ wsX50, w ∈ wl_big := by decide +kernel
set_option maxRecDepth 20000 in
theorem wl_wsJ40 : ∀ w ∈ wsJ40, w ∈ wl_big := by decide +kernel
set_option maxRecDepth 20000 in
theorem wl_wsX40 : ∀ w ∈ wsX40, w ∈ wl_big := by decide +kernel
set_option maxRecDepth 20000 in
theorem wl_wsX60 : ∀ w ∈ wsX60, w ∈ wl_big := by decide +kernel
set_option maxRecDepth 20000 in
theorem wl_wsX10 : ∀ w ∈ wsX10, w ∈ wl_big := by decide +kernel
set_option maxRecDepth 20000 in
theorem wl_wsX00 : ∀ w ∈ wsX00, w ∈ wl_big := by decide +kernel
set_option maxRecDepth 20000 in
theorem wl_wsJ00 : ∀ w ∈ wsJ00, w ∈ wl_big := by decide +kernel
theorem wl_app {a b big : List Cond} (ha : ∀ w ∈ a, w ∈ big) (hb : ∀ w ∈ b, w ∈ big) : ∀ w ∈ a ++ b, w ∈ big := fun w h => (List.mem_append.mp h).elim (ha w) (hb w)
theorem wl_all : ∀ w ∈ wsL_law, w ∈ wl_big := (wl_app (wl_app (wl_app (wl_app (wl_app (wl_app (wl_app (wl_app (wl_app (wl_app (wl_app (wl_app (wl_app wl_1 (wl_app wl_2 (wl_app wl_3 (wl_app wl_4 (wl_app wl_5 (wl_app wl_6 (wl_app wl_7 (wl_app wl_8 (wl_app wl_9 (wl_app wl_10 (wl_app wl_11 (wl_app wl_12 (wl_app wl_13 (wl_app wl_14 (wl_app wl_15 (wl_app wl_16 (wl_app wl_17 (wl_app wl_18 (wl_app wl_19 (wl_app wl_20 (wl_app wl_21 (wl_app wl_22 (wl_app wl_23 (wl_app wl_24 (wl_app wl_25 (wl_app wl_26 (wl_app wl_27 (wl_app wl_28 (wl_app wl_29 (wl_app wl_30 (wl_app wl_31 (wl_app wl_32 (wl_app wl_33 (wl_app wl_34 (wl_app wl_35 (wl_app wl_36 (wl_app wl_37 wl_38))))))))))))))))))))))))))))))))))))) wl_wsX70) wl_wsX80) wl_wsX30) wl_wsX20) wl_wsX50) wl_wsJ40) wl_wsX40) wl_wsX60) wl_wsX10) wl_wsX00) wl_wsJ00) (fun w h => absurd h List.not_mem_nil))
theorem wl_hts {args : Array Value} {s : State} (h : ∀ w ∈ lw_tbl, w.before args s = true) : ∀ w ∈ wsL_law, w.before args s = true := fun w hw => wl_bigh h w (wl_all w hw)
