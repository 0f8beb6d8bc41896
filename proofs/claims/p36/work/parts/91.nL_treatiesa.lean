set_option maxRecDepth 20000 in
theorem ggL_treaties_X7_far : GoodIn wsL_treaties wsX7_far := goodIn_r _ [11, 12, 13, 14, 15, 10, 16, 17, 18, 19, 20, 21, 22, 23, 24, 25, 26, 139, 140, 141, 142, 143, 144, 145, 146, 147, 148, 149, 150, 151, 152, 153, 154, 155, 156, 157, 158] (by decide +kernel) (by decide +kernel)
set_option maxRecDepth 20000 in
theorem gL_treaties_X7_far : GoodIn wsL_treaties (wsV RL 93 RX7 yX7_far wsX7_far) := goodIn_app (goodIn_of _ (by decide +kernel)) ggL_treaties_X7_far
set_option maxRecDepth 20000 in
theorem ggL_treaties_X8_next : GoodIn wsL_treaties wsX8_next := goodIn_r _ [31, 32, 33, 159] (by decide +kernel) (by decide +kernel)
set_option maxRecDepth 20000 in
theorem gL_treaties_X8_next : GoodIn wsL_treaties (wsV RL 23 RX8 yX8_next wsX8_next) := goodIn_app (goodIn_of _ (by decide +kernel)) ggL_treaties_X8_next
set_option maxRecDepth 20000 in
theorem ggL_treaties_X7_drizzle : GoodIn wsL_treaties wsX7_drizzle := goodIn_r _ [37, 12, 13, 38, 14, 15, 10, 16, 39, 40, 41, 42, 43, 44, 20, 45, 46, 26, 139, 140, 141, 142, 143, 144, 145, 146, 147, 148, 149, 150, 151, 152, 153, 154, 155, 156, 157, 158] (by decide +kernel) (by decide +kernel)
set_option maxRecDepth 20000 in
theorem gL_treaties_X7_drizzle : GoodIn wsL_treaties (wsV RL 104 RX7 yX7_drizzle wsX7_drizzle) := goodIn_app (goodIn_of _ (by decide +kernel)) ggL_treaties_X7_drizzle
set_option maxRecDepth 20000 in
theorem ggL_treaties_X7_drizzleAgain : GoodIn wsL_treaties wsX7_drizzleAgain := goodIn_r _ [50, 12, 13, 14, 15, 10, 16, 39, 40, 41, 51, 52, 53, 20, 54, 55, 18, 19, 21, 22, 23, 24, 25, 26, 139, 140, 141, 142, 143, 144, 145, 146, 147, 148, 149, 150, 151, 152, 153, 154, 155, 156, 157, 158] (by decide +kernel) (by decide +kernel)
set_option maxRecDepth 20000 in
theorem gL_treaties_X7_drizzleAgain : GoodIn wsL_treaties (wsV RL 107 RX7 yX7_drizzleAgain wsX7_drizzleAgain) := goodIn_app (goodIn_of _ (by decide +kernel)) ggL_treaties_X7_drizzleAgain
set_option maxRecDepth 20000 in
theorem ggL_treaties_X7_townOf : GoodIn wsL_treaties wsX7_townOf := goodIn_r _ [59, 12, 60, 13, 14, 15, 10, 16, 61, 62, 63, 64, 65, 66, 67, 68, 69, 70, 20, 71, 26, 72, 73, 74, 75, 76, 77, 78, 79, 80, 81, 82, 22, 23, 24, 25, 83, 84, 85, 86, 87, 88, 89, 90, 91, 139, 140, 141, 142, 143, 144, 145, 146, 147, 148, 149, 150, 151, 152, 153, 154, 155, 156, 160, 161, 162, 163, 157, 158] (by decide +kernel) (by decide +kernel)
set_option maxRecDepth 20000 in
theorem gL_treaties_X7_townOf : GoodIn wsL_treaties (wsV RL 110 RX7 yX7_townOf wsX7_townOf) := goodIn_app (goodIn_of _ (by decide +kernel)) ggL_treaties_X7_townOf
set_option maxRecDepth 20000 in
theorem ggL_treaties_X7_account : GoodIn wsL_treaties wsX7_account := goodIn_r _ [95, 12, 96, 60, 97, 13, 98, 99, 100, 101, 102, 103, 104, 105, 106, 107, 108, 109, 20, 110, 111, 69, 70, 71, 26, 15, 10, 16, 72, 73, 74, 75, 76, 77, 78, 112, 113, 114, 115, 116, 117, 118, 119, 120, 121, 122, 123, 124, 125, 126, 127, 128, 129, 130, 131, 132, 133, 134, 135, 136, 137, 138, 139, 140, 141, 142, 143, 144, 145, 146, 147, 148, 149, 150, 151, 152, 153, 154, 155, 156, 160, 161, 162, 163, 164, 165, 166, 167, 168, 169, 170, 171, 157, 158, 172, 173, 174, 175, 176, 177, 178, 179, 180, 181, 182, 183] (by decide +kernel) (by decide +kernel)
set_option maxRecDepth 20000 in
theorem gL_treaties_X7_account : GoodIn wsL_treaties (wsV RL 49 RX7 yX7_account wsX7_account) := goodIn_app (goodIn_of _ (by decide +kernel)) ggL_treaties_X7_account
theorem dL_treaties_0 : decode cL_treaties 0 = .ok (.iconst 5, 1) := by decide +kernel
theorem dL_treaties_1 : decode cL_treaties 1 = .ok (.iconst 5, 1) := by decide +kernel
theorem dL_treaties_2 : decode cL_treaties 2 = .ok (.multianewarray 99 2, 4) := by decide +kernel
theorem dL_treaties_6 : decode cL_treaties 6 = .ok (.astore_n 2, 1) := by decide +kernel
theorem dL_treaties_7 : decode cL_treaties 7 = .ok (.iconst 0, 1) := by decide +kernel
theorem dL_treaties_8 : decode cL_treaties 8 = .ok (.istore_n 3, 1) := by decide +kernel
theorem dL_treaties_9 : decode cL_treaties 9 = .ok (.iconst 0, 1) := by decide +kernel
theorem dL_treaties_10 : decode cL_treaties 10 = .ok (.istore 4, 2) := by decide +kernel
theorem dL_treaties_12 : decode cL_treaties 12 = .ok (.iload 4, 2) := by decide +kernel
theorem dL_treaties_14 : decode cL_treaties 14 = .ok (.iconst 5, 1) := by decide +kernel
theorem dL_treaties_15 : decode cL_treaties 15 = .ok (.if_icmp .ge 86, 3) := by decide +kernel
theorem dL_treaties_18 : decode cL_treaties 18 = .ok (.iconst 0, 1) := by decide +kernel
theorem dL_treaties_19 : decode cL_treaties 19 = .ok (.istore 5, 2) := by decide +kernel
theorem dL_treaties_21 : decode cL_treaties 21 = .ok (.iload 5, 2) := by decide +kernel
theorem dL_treaties_23 : decode cL_treaties 23 = .ok (.iconst 5, 1) := by decide +kernel
theorem dL_treaties_24 : decode cL_treaties 24 = .ok (.if_icmp .ge 71, 3) := by decide +kernel
theorem dL_treaties_27 : decode cL_treaties 27 = .ok (.aload_n 2, 1) := by decide +kernel
theorem dL_treaties_28 : decode cL_treaties 28 = .ok (.iload 4, 2) := by decide +kernel
theorem dL_treaties_30 : decode cL_treaties 30 = .ok (.aaload, 1) := by decide +kernel
theorem dL_treaties_31 : decode cL_treaties 31 = .ok (.iload 5, 2) := by decide +kernel
theorem dL_treaties_33 : decode cL_treaties 33 = .ok (.iload 4, 2) := by decide +kernel
theorem dL_treaties_35 : decode cL_treaties 35 = .ok (.iload 5, 2) := by decide +kernel
theorem dL_treaties_37 : decode cL_treaties 37 = .ok (.if_icmp .ne 7, 3) := by decide +kernel
theorem dL_treaties_40 : decode cL_treaties 40 = .ok (.iconst 0, 1) := by decide +kernel
theorem dL_treaties_41 : decode cL_treaties 41 = .ok (.goto 21, 3) := by decide +kernel
theorem dL_treaties_44 : decode cL_treaties 44 = .ok (.aload_n 0, 1) := by decide +kernel
theorem dL_treaties_45 : decode cL_treaties 45 = .ok (.iload 4, 2) := by decide +kernel
theorem dL_treaties_47 : decode cL_treaties 47 = .ok (.iload 5, 2) := by decide +kernel
theorem dL_treaties_49 : decode cL_treaties 49 = .ok (.invokevirtual 93, 3) := by decide +kernel
theorem dL_treaties_52 : decode cL_treaties 52 = .ok (.iconst 1, 1) := by decide +kernel
theorem dL_treaties_53 : decode cL_treaties 53 = .ok (.if_icmp .ne 7, 3) := by decide +kernel
theorem dL_treaties_56 : decode cL_treaties 56 = .ok (.iconst 1, 1) := by decide +kernel
theorem dL_treaties_57 : decode cL_treaties 57 = .ok (.goto 5, 3) := by decide +kernel
theorem dL_treaties_60 : decode cL_treaties 60 = .ok (.bipush 9, 2) := by decide +kernel
theorem dL_treaties_62 : decode cL_treaties 62 = .ok (.iastore, 1) := by decide +kernel
theorem dL_treaties_63 : decode cL_treaties 63 = .ok (.iload_n 3, 1) := by decide +kernel
theorem dL_treaties_64 : decode cL_treaties 64 = .ok (.iload 5, 2) := by decide +kernel
theorem dL_treaties_66 : decode cL_treaties 66 = .ok (.iload 4, 2) := by decide +kernel
theorem dL_treaties_68 : decode cL_treaties 68 = .ok (.if_icmp .ge 18, 3) := by decide +kernel
theorem dL_treaties_71 : decode cL_treaties 71 = .ok (.aload_n 2, 1) := by decide +kernel
theorem dL_treaties_72 : decode cL_treaties 72 = .ok (.iload 4, 2) := by decide +kernel
theorem dL_treaties_74 : decode cL_treaties 74 = .ok (.aaload, 1) := by decide +kernel
theorem dL_treaties_75 : decode cL_treaties 75 = .ok (.iload 5, 2) := by decide +kernel
theorem dL_treaties_77 : decode cL_treaties 77 = .ok (.iaload, 1) := by decide +kernel
theorem dL_treaties_78 : decode cL_treaties 78 = .ok (.iconst 1, 1) := by decide +kernel
theorem dL_treaties_79 : decode cL_treaties 79 = .ok (.if_icmp .ne 7, 3) := by decide +kernel
theorem dL_treaties_82 : decode cL_treaties 82 = .ok (.iconst 1, 1) := by decide +kernel
theorem dL_treaties_83 : decode cL_treaties 83 = .ok (.goto 4, 3) := by decide +kernel
theorem dL_treaties_86 : decode cL_treaties 86 = .ok (.iconst 0, 1) := by decide +kernel
theorem dL_treaties_87 : decode cL_treaties 87 = .ok (.iadd, 1) := by decide +kernel
theorem dL_treaties_88 : decode cL_treaties 88 = .ok (.istore_n 3, 1) := by decide +kernel
theorem dL_treaties_89 : decode cL_treaties 89 = .ok (.iinc 5 1, 3) := by decide +kernel
theorem dL_treaties_92 : decode cL_treaties 92 = .ok (.goto (-71), 3) := by decide +kernel
theorem dL_treaties_95 : decode cL_treaties 95 = .ok (.iinc 4 1, 3) := by decide +kernel
theorem dL_treaties_98 : decode cL_treaties 98 = .ok (.goto (-86), 3) := by decide +kernel
theorem dL_treaties_101 : decode cL_treaties 101 = .ok (.iconst 0, 1) := by decide +kernel
theorem dL_treaties_102 : decode cL_treaties 102 = .ok (.istore 4, 2) := by decide +kernel
theorem dL_treaties_104 : decode cL_treaties 104 = .ok (.iload 4, 2) := by decide +kernel
theorem dL_treaties_106 : decode cL_treaties 106 = .ok (.iconst 5, 1) := by decide +kernel
theorem dL_treaties_107 : decode cL_treaties 107 = .ok (.if_icmp .ge 71, 3) := by decide +kernel
theorem dL_treaties_110 : decode cL_treaties 110 = .ok (.iconst 0, 1) := by decide +kernel
theorem dL_treaties_111 : decode cL_treaties 111 = .ok (.istore 5, 2) := by decide +kernel
theorem dL_treaties_113 : decode cL_treaties 113 = .ok (.iload 5, 2) := by decide +kernel
theorem dL_treaties_115 : decode cL_treaties 115 = .ok (.iconst 5, 1) := by decide +kernel
theorem dL_treaties_116 : decode cL_treaties 116 = .ok (.if_icmp .ge 56, 3) := by decide +kernel
theorem dL_treaties_119 : decode cL_treaties 119 = .ok (.iconst 0, 1) := by decide +kernel
theorem dL_treaties_120 : decode cL_treaties 120 = .ok (.istore 6, 2) := by decide +kernel
theorem dL_treaties_122 : decode cL_treaties 122 = .ok (.iload 6, 2) := by decide +kernel
theorem dL_treaties_124 : decode cL_treaties 124 = .ok (.iconst 5, 1) := by decide +kernel
theorem dL_treaties_125 : decode cL_treaties 125 = .ok (.if_icmp .ge 41, 3) := by decide +kernel
theorem dL_treaties_128 : decode cL_treaties 128 = .ok (.aload_n 2, 1) := by decide +kernel
theorem dL_treaties_129 : decode cL_treaties 129 = .ok (.iload 5, 2) := by decide +kernel
theorem dL_treaties_131 : decode cL_treaties 131 = .ok (.aaload, 1) := by decide +kernel
theorem dL_treaties_132 : decode cL_treaties 132 = .ok (.iload 6, 2) := by decide +kernel
theorem dL_treaties_134 : decode cL_treaties 134 = .ok (.aload_n 2, 1) := by decide +kernel
theorem dL_treaties_135 : decode cL_treaties 135 = .ok (.iload 5, 2) := by decide +kernel
theorem dL_treaties_137 : decode cL_treaties 137 = .ok (.aaload, 1) := by decide +kernel
theorem dL_treaties_138 : decode cL_treaties 138 = .ok (.iload 6, 2) := by decide +kernel
theorem dL_treaties_140 : decode cL_treaties 140 = .ok (.iaload, 1) := by decide +kernel
theorem dL_treaties_141 : decode cL_treaties 141 = .ok (.aload_n 2, 1) := by decide +kernel
theorem dL_treaties_142 : decode cL_treaties 142 = .ok (.iload 5, 2) := by decide +kernel
theorem dL_treaties_144 : decode cL_treaties 144 = .ok (.aaload, 1) := by decide +kernel
theorem dL_treaties_145 : decode cL_treaties 145 = .ok (.iload 4, 2) := by decide +kernel
theorem dL_treaties_147 : decode cL_treaties 147 = .ok (.iaload, 1) := by decide +kernel
theorem dL_treaties_148 : decode cL_treaties 148 = .ok (.aload_n 2, 1) := by decide +kernel
theorem dL_treaties_149 : decode cL_treaties 149 = .ok (.iload 4, 2) := by decide +kernel
theorem dL_treaties_151 : decode cL_treaties 151 = .ok (.aaload, 1) := by decide +kernel
theorem dL_treaties_152 : decode cL_treaties 152 = .ok (.iload 6, 2) := by decide +kernel
theorem dL_treaties_154 : decode cL_treaties 154 = .ok (.iaload, 1) := by decide +kernel
theorem dL_treaties_155 : decode cL_treaties 155 = .ok (.iadd, 1) := by decide +kernel
theorem dL_treaties_156 : decode cL_treaties 156 = .ok (.invokestatic 101, 3) := by decide +kernel
theorem dL_treaties_159 : decode cL_treaties 159 = .ok (.iastore, 1) := by decide +kernel
theorem dL_treaties_160 : decode cL_treaties 160 = .ok (.iinc 6 1, 3) := by decide +kernel
theorem dL_treaties_163 : decode cL_treaties 163 = .ok (.goto (-41), 3) := by decide +kernel
theorem dL_treaties_166 : decode cL_treaties 166 = .ok (.iinc 5 1, 3) := by decide +kernel
theorem dL_treaties_169 : decode cL_treaties 169 = .ok (.goto (-56), 3) := by decide +kernel
theorem dL_treaties_172 : decode cL_treaties 172 = .ok (.iinc 4 1, 3) := by decide +kernel
theorem dL_treaties_175 : decode cL_treaties 175 = .ok (.goto (-71), 3) := by decide +kernel
theorem dL_treaties_178 : decode cL_treaties 178 = .ok (.iconst 1, 1) := by decide +kernel
theorem dL_treaties_179 : decode cL_treaties 179 = .ok (.aload_n 1, 1) := by decide +kernel
theorem dL_treaties_180 : decode cL_treaties 180 = .ok (.bipush 20, 2) := by decide +kernel
theorem dL_treaties_182 : decode cL_treaties 182 = .ok (.invokevirtual 23, 3) := by decide +kernel
theorem dL_treaties_185 : decode cL_treaties 185 = .ok (.iadd, 1) := by decide +kernel
theorem dL_treaties_186 : decode cL_treaties 186 = .ok (.istore 4, 2) := by decide +kernel
theorem dL_treaties_188 : decode cL_treaties 188 = .ok (.iconst 0, 1) := by decide +kernel
theorem dL_treaties_189 : decode cL_treaties 189 = .ok (.istore 5, 2) := by decide +kernel
theorem dL_treaties_191 : decode cL_treaties 191 = .ok (.iload 5, 2) := by decide +kernel
theorem dL_treaties_193 : decode cL_treaties 193 = .ok (.iconst 5, 1) := by decide +kernel
theorem dL_treaties_194 : decode cL_treaties 194 = .ok (.if_icmp .ge 177, 3) := by decide +kernel
theorem dL_treaties_197 : decode cL_treaties 197 = .ok (.iconst 0, 1) := by decide +kernel
theorem dL_treaties_198 : decode cL_treaties 198 = .ok (.istore 6, 2) := by decide +kernel
