theorem dX8_month_0 : decode cX8_month 0 = .ok (.aload_n 0, 1) := by decide +kernel
theorem dX8_month_1 : decode cX8_month 1 = .ok (.invokevirtual 95, 3) := by decide +kernel
theorem dX8_month_4 : decode cX8_month 4 = .ok (.aload_n 0, 1) := by decide +kernel
theorem dX8_month_5 : decode cX8_month 5 = .ok (.aload_n 0, 1) := by decide +kernel
theorem dX8_month_6 : decode cX8_month 6 = .ok (.invokevirtual 149, 3) := by decide +kernel
theorem dX8_month_9 : decode cX8_month 9 = .ok (.invokevirtual 102, 3) := by decide +kernel
theorem dX8_month_12 : decode cX8_month 12 = .ok (.ireturn, 1) := by decide +kernel
set_option maxRecDepth 20000 in
theorem ggX8_creditsOf_X8_in : GoodIn wsX8_creditsOf wsX8_in := goodIn_r _ [5] (by decide +kernel) (by decide +kernel)
set_option maxRecDepth 20000 in
theorem gX8_creditsOf_X8_in : GoodIn wsX8_creditsOf (va_wsS RX8 118 yX8_in wsX8_in) := goodIn_app (goodIn_of _ (by decide +kernel)) ggX8_creditsOf_X8_in
theorem dX8_creditsOf_0 : decode cX8_creditsOf 0 = .ok (.iconst 0, 1) := by decide +kernel
theorem dX8_creditsOf_1 : decode cX8_creditsOf 1 = .ok (.istore_n 2, 1) := by decide +kernel
theorem dX8_creditsOf_2 : decode cX8_creditsOf 2 = .ok (.iconst 0, 1) := by decide +kernel
theorem dX8_creditsOf_3 : decode cX8_creditsOf 3 = .ok (.istore_n 3, 1) := by decide +kernel
theorem dX8_creditsOf_4 : decode cX8_creditsOf 4 = .ok (.iload_n 3, 1) := by decide +kernel
theorem dX8_creditsOf_5 : decode cX8_creditsOf 5 = .ok (.aload_n 0, 1) := by decide +kernel
theorem dX8_creditsOf_6 : decode cX8_creditsOf 6 = .ok (.getfield 13, 3) := by decide +kernel
theorem dX8_creditsOf_9 : decode cX8_creditsOf 9 = .ok (.iconst 1, 1) := by decide +kernel
theorem dX8_creditsOf_10 : decode cX8_creditsOf 10 = .ok (.iaload, 1) := by decide +kernel
theorem dX8_creditsOf_11 : decode cX8_creditsOf 11 = .ok (.if_icmp .ge 31, 3) := by decide +kernel
theorem dX8_creditsOf_14 : decode cX8_creditsOf 14 = .ok (.iload_n 2, 1) := by decide +kernel
theorem dX8_creditsOf_15 : decode cX8_creditsOf 15 = .ok (.aload_n 0, 1) := by decide +kernel
theorem dX8_creditsOf_16 : decode cX8_creditsOf 16 = .ok (.getfield 13, 3) := by decide +kernel
theorem dX8_creditsOf_19 : decode cX8_creditsOf 19 = .ok (.iload_n 3, 1) := by decide +kernel
theorem dX8_creditsOf_20 : decode cX8_creditsOf 20 = .ok (.iconst 0, 1) := by decide +kernel
theorem dX8_creditsOf_21 : decode cX8_creditsOf 21 = .ok (.invokestatic 118, 3) := by decide +kernel
theorem dX8_creditsOf_24 : decode cX8_creditsOf 24 = .ok (.iaload, 1) := by decide +kernel
theorem dX8_creditsOf_25 : decode cX8_creditsOf 25 = .ok (.iload_n 1, 1) := by decide +kernel
theorem dX8_creditsOf_26 : decode cX8_creditsOf 26 = .ok (.if_icmp .ne 7, 3) := by decide +kernel
theorem dX8_creditsOf_29 : decode cX8_creditsOf 29 = .ok (.iconst 1, 1) := by decide +kernel
theorem dX8_creditsOf_30 : decode cX8_creditsOf 30 = .ok (.goto 4, 3) := by decide +kernel
theorem dX8_creditsOf_33 : decode cX8_creditsOf 33 = .ok (.iconst 0, 1) := by decide +kernel
theorem dX8_creditsOf_34 : decode cX8_creditsOf 34 = .ok (.iadd, 1) := by decide +kernel
theorem dX8_creditsOf_35 : decode cX8_creditsOf 35 = .ok (.istore_n 2, 1) := by decide +kernel
theorem dX8_creditsOf_36 : decode cX8_creditsOf 36 = .ok (.iinc 3 1, 3) := by decide +kernel
theorem dX8_creditsOf_39 : decode cX8_creditsOf 39 = .ok (.goto (-35), 3) := by decide +kernel
theorem dX8_creditsOf_42 : decode cX8_creditsOf 42 = .ok (.iload_n 2, 1) := by decide +kernel
theorem dX8_creditsOf_43 : decode cX8_creditsOf 43 = .ok (.ireturn, 1) := by decide +kernel
set_option maxRecDepth 20000 in
theorem ggX8_reached_X8_finds : GoodIn wsX8_reached wsX8_finds := goodIn_r _ [6, 1, 7, 8, 9, 10, 11, 12, 13, 14, 15, 16, 17, 18, 19, 20, 21, 22, 23, 24, 25, 26, 27, 28, 29, 30, 31, 32, 33, 34] (by decide +kernel) (by decide +kernel)
set_option maxRecDepth 20000 in
theorem gX8_reached_X8_finds : GoodIn wsX8_reached (wsV RX8 105 RX8 yX8_finds wsX8_finds) := goodIn_app (goodIn_of _ (by decide +kernel)) ggX8_reached_X8_finds
theorem dX8_reached_0 : decode cX8_reached 0 = .ok (.iconst 0, 1) := by decide +kernel
theorem dX8_reached_1 : decode cX8_reached 1 = .ok (.istore_n 2, 1) := by decide +kernel
theorem dX8_reached_2 : decode cX8_reached 2 = .ok (.aload_n 0, 1) := by decide +kernel
theorem dX8_reached_3 : decode cX8_reached 3 = .ok (.iload_n 1, 1) := by decide +kernel
theorem dX8_reached_4 : decode cX8_reached 4 = .ok (.invokevirtual 105, 3) := by decide +kernel
theorem dX8_reached_7 : decode cX8_reached 7 = .ok (.iconst 0, 1) := by decide +kernel
theorem dX8_reached_8 : decode cX8_reached 8 = .ok (.istore_n 3, 1) := by decide +kernel
theorem dX8_reached_9 : decode cX8_reached 9 = .ok (.iload_n 3, 1) := by decide +kernel
theorem dX8_reached_10 : decode cX8_reached 10 = .ok (.iconst 5, 1) := by decide +kernel
theorem dX8_reached_11 : decode cX8_reached 11 = .ok (.if_icmp .ge 26, 3) := by decide +kernel
theorem dX8_reached_14 : decode cX8_reached 14 = .ok (.iload_n 2, 1) := by decide +kernel
theorem dX8_reached_15 : decode cX8_reached 15 = .ok (.aload_n 0, 1) := by decide +kernel
theorem dX8_reached_16 : decode cX8_reached 16 = .ok (.getfield 32, 3) := by decide +kernel
theorem dX8_reached_19 : decode cX8_reached 19 = .ok (.iload_n 3, 1) := by decide +kernel
theorem dX8_reached_20 : decode cX8_reached 20 = .ok (.iaload, 1) := by decide +kernel
theorem dX8_reached_21 : decode cX8_reached 21 = .ok (.ifCond .le 7, 3) := by decide +kernel
theorem dX8_reached_24 : decode cX8_reached 24 = .ok (.iconst 1, 1) := by decide +kernel
theorem dX8_reached_25 : decode cX8_reached 25 = .ok (.goto 4, 3) := by decide +kernel
theorem dX8_reached_28 : decode cX8_reached 28 = .ok (.iconst 0, 1) := by decide +kernel
theorem dX8_reached_29 : decode cX8_reached 29 = .ok (.iadd, 1) := by decide +kernel
theorem dX8_reached_30 : decode cX8_reached 30 = .ok (.istore_n 2, 1) := by decide +kernel
theorem dX8_reached_31 : decode cX8_reached 31 = .ok (.iinc 3 1, 3) := by decide +kernel
theorem dX8_reached_34 : decode cX8_reached 34 = .ok (.goto (-25), 3) := by decide +kernel
theorem dX8_reached_37 : decode cX8_reached 37 = .ok (.iload_n 2, 1) := by decide +kernel
theorem dX8_reached_38 : decode cX8_reached 38 = .ok (.ireturn, 1) := by decide +kernel
set_option maxRecDepth 20000 in
theorem ggX8_townOf_X8_isTown : GoodIn wsX8_townOf wsX8_isTown := goodIn_r _ [5, 6, 7, 4, 8] (by decide +kernel) (by decide +kernel)
set_option maxRecDepth 20000 in
theorem gX8_townOf_X8_isTown : GoodIn wsX8_townOf (va_wsS RX8 84 yX8_isTown wsX8_isTown) := goodIn_app (goodIn_of _ (by decide +kernel)) ggX8_townOf_X8_isTown
set_option maxRecDepth 20000 in
theorem ggX8_townOf_X8_at : GoodIn wsX8_townOf wsX8_at := goodIn_r _ [11] (by decide +kernel) (by decide +kernel)
set_option maxRecDepth 20000 in
theorem gX8_townOf_X8_at : GoodIn wsX8_townOf (va_wsS RX8 50 yX8_at wsX8_at) := goodIn_app (goodIn_of _ (by decide +kernel)) ggX8_townOf_X8_at
set_option maxRecDepth 20000 in
theorem ggX8_townOf_X8_creditsOf : GoodIn wsX8_townOf wsX8_creditsOf := goodIn_r _ [15, 1, 16, 17, 4, 18, 32, 33, 34, 35, 36, 37, 38, 39, 40, 41, 42, 43, 44, 45, 46, 47, 48, 49, 50, 51, 52, 53, 54, 55, 56, 57, 58] (by decide +kernel) (by decide +kernel)
set_option maxRecDepth 20000 in
theorem gX8_townOf_X8_creditsOf : GoodIn wsX8_townOf (wsV RX8 152 RX8 yX8_creditsOf wsX8_creditsOf) := goodIn_app (goodIn_of _ (by decide +kernel)) ggX8_townOf_X8_creditsOf
set_option maxRecDepth 20000 in
theorem ggX8_townOf_X8_treaties : GoodIn wsX8_townOf wsX8_treaties := goodIn_r _ [22, 1, 32, 33, 34, 35, 36, 37, 38, 39, 40, 41, 42, 43, 44, 45, 46, 47, 48, 49, 50, 51, 52, 53, 54, 55, 56, 57, 58] (by decide +kernel) (by decide +kernel)
set_option maxRecDepth 20000 in
theorem gX8_townOf_X8_treaties : GoodIn wsX8_townOf (wsV RX8 81 RX8 yX8_treaties wsX8_treaties) := goodIn_app (goodIn_of _ (by decide +kernel)) ggX8_townOf_X8_treaties
set_option maxRecDepth 20000 in
theorem ggX8_townOf_X8_reached : GoodIn wsX8_townOf wsX8_reached := goodIn_r _ [26, 27, 28, 29, 30, 4, 31, 1, 32, 33, 34, 35, 36, 37, 38, 39, 40, 41, 42, 43, 44, 45, 46, 47, 48, 49, 50, 51, 52, 53, 54, 55, 56, 57, 58] (by decide +kernel) (by decide +kernel)
set_option maxRecDepth 20000 in
theorem gX8_townOf_X8_reached : GoodIn wsX8_townOf (wsV RX8 155 RX8 yX8_reached wsX8_reached) := goodIn_app (goodIn_of _ (by decide +kernel)) ggX8_townOf_X8_reached
theorem dX8_townOf_0 : decode cX8_townOf 0 = .ok (.iload_n 1, 1) := by decide +kernel
theorem dX8_townOf_1 : decode cX8_townOf 1 = .ok (.invokestatic 84, 3) := by decide +kernel
theorem dX8_townOf_4 : decode cX8_townOf 4 = .ok (.ifCond .ne 5, 3) := by decide +kernel
theorem dX8_townOf_7 : decode cX8_townOf 7 = .ok (.iconst (-1), 1) := by decide +kernel
theorem dX8_townOf_8 : decode cX8_townOf 8 = .ok (.ireturn, 1) := by decide +kernel
theorem dX8_townOf_9 : decode cX8_townOf 9 = .ok (.iload_n 2, 1) := by decide +kernel
theorem dX8_townOf_10 : decode cX8_townOf 10 = .ok (.tableswitch 71 0 6 #[42, 42, 42, 42, 53, 59, 65], 42) := by decide +kernel
theorem dX8_townOf_52 : decode cX8_townOf 52 = .ok (.aload_n 0, 1) := by decide +kernel
theorem dX8_townOf_53 : decode cX8_townOf 53 = .ok (.getfield 13, 3) := by decide +kernel
theorem dX8_townOf_56 : decode cX8_townOf 56 = .ok (.iload_n 1, 1) := by decide +kernel
theorem dX8_townOf_57 : decode cX8_townOf 57 = .ok (.iload_n 2, 1) := by decide +kernel
theorem dX8_townOf_58 : decode cX8_townOf 58 = .ok (.invokestatic 50, 3) := by decide +kernel
theorem dX8_townOf_61 : decode cX8_townOf 61 = .ok (.iaload, 1) := by decide +kernel
theorem dX8_townOf_62 : decode cX8_townOf 62 = .ok (.ireturn, 1) := by decide +kernel
theorem dX8_townOf_63 : decode cX8_townOf 63 = .ok (.aload_n 0, 1) := by decide +kernel
theorem dX8_townOf_64 : decode cX8_townOf 64 = .ok (.iload_n 1, 1) := by decide +kernel
theorem dX8_townOf_65 : decode cX8_townOf 65 = .ok (.invokevirtual 152, 3) := by decide +kernel
theorem dX8_townOf_68 : decode cX8_townOf 68 = .ok (.ireturn, 1) := by decide +kernel
theorem dX8_townOf_69 : decode cX8_townOf 69 = .ok (.aload_n 0, 1) := by decide +kernel
theorem dX8_townOf_70 : decode cX8_townOf 70 = .ok (.iload_n 1, 1) := by decide +kernel
theorem dX8_townOf_71 : decode cX8_townOf 71 = .ok (.invokevirtual 81, 3) := by decide +kernel
theorem dX8_townOf_74 : decode cX8_townOf 74 = .ok (.ireturn, 1) := by decide +kernel
theorem dX8_townOf_75 : decode cX8_townOf 75 = .ok (.aload_n 0, 1) := by decide +kernel
theorem dX8_townOf_76 : decode cX8_townOf 76 = .ok (.iload_n 1, 1) := by decide +kernel
theorem dX8_townOf_77 : decode cX8_townOf 77 = .ok (.invokevirtual 155, 3) := by decide +kernel
theorem dX8_townOf_80 : decode cX8_townOf 80 = .ok (.ireturn, 1) := by decide +kernel
theorem dX8_townOf_81 : decode cX8_townOf 81 = .ok (.bipush (-2), 2) := by decide +kernel
theorem dX8_townOf_83 : decode cX8_townOf 83 = .ok (.ireturn, 1) := by decide +kernel
set_option maxRecDepth 20000 in
theorem ggX8_creditOf_X8_isCredit : GoodIn wsX8_creditOf wsX8_isCredit := goodIn_r _ [6, 1, 7, 8, 5, 9, 13, 14, 15, 16, 17, 18, 19, 20, 21, 22, 23, 24, 25, 26, 27, 28, 29, 30, 31, 32, 33, 34, 35, 36, 37, 38, 39] (by decide +kernel) (by decide +kernel)
set_option maxRecDepth 20000 in
theorem gX8_creditOf_X8_isCredit : GoodIn wsX8_creditOf (wsV RX8 124 RX8 yX8_isCredit wsX8_isCredit) := goodIn_app (goodIn_of _ (by decide +kernel)) ggX8_creditOf_X8_isCredit
set_option maxRecDepth 20000 in
theorem ggX8_creditOf_X8_isIn : GoodIn wsX8_creditOf wsX8_isIn := goodIn_r _ [9] (by decide +kernel) (by decide +kernel)
set_option maxRecDepth 20000 in
theorem gX8_creditOf_X8_isIn : GoodIn wsX8_creditOf (va_wsS RX8 77 yX8_isIn wsX8_isIn) := goodIn_app (goodIn_of _ (by decide +kernel)) ggX8_creditOf_X8_isIn
set_option maxRecDepth 20000 in
theorem ggX8_creditOf_X8_in : GoodIn wsX8_creditOf wsX8_in := goodIn_r _ [12] (by decide +kernel) (by decide +kernel)
set_option maxRecDepth 20000 in
theorem gX8_creditOf_X8_in : GoodIn wsX8_creditOf (va_wsS RX8 118 yX8_in wsX8_in) := goodIn_app (goodIn_of _ (by decide +kernel)) ggX8_creditOf_X8_in
theorem dX8_creditOf_0 : decode cX8_creditOf 0 = .ok (.aload_n 0, 1) := by decide +kernel
theorem dX8_creditOf_1 : decode cX8_creditOf 1 = .ok (.iload_n 1, 1) := by decide +kernel
theorem dX8_creditOf_2 : decode cX8_creditOf 2 = .ok (.invokevirtual 124, 3) := by decide +kernel
theorem dX8_creditOf_5 : decode cX8_creditOf 5 = .ok (.ifCond .ne 5, 3) := by decide +kernel
theorem dX8_creditOf_8 : decode cX8_creditOf 8 = .ok (.iconst (-1), 1) := by decide +kernel
theorem dX8_creditOf_9 : decode cX8_creditOf 9 = .ok (.ireturn, 1) := by decide +kernel
theorem dX8_creditOf_10 : decode cX8_creditOf 10 = .ok (.iload_n 2, 1) := by decide +kernel
theorem dX8_creditOf_11 : decode cX8_creditOf 11 = .ok (.iconst 0, 1) := by decide +kernel
theorem dX8_creditOf_12 : decode cX8_creditOf 12 = .ok (.iconst 2, 1) := by decide +kernel
theorem dX8_creditOf_13 : decode cX8_creditOf 13 = .ok (.invokestatic 77, 3) := by decide +kernel
theorem dX8_creditOf_16 : decode cX8_creditOf 16 = .ok (.ifCond .eq 16, 3) := by decide +kernel
theorem dX8_creditOf_19 : decode cX8_creditOf 19 = .ok (.aload_n 0, 1) := by decide +kernel
theorem dX8_creditOf_20 : decode cX8_creditOf 20 = .ok (.getfield 13, 3) := by decide +kernel
theorem dX8_creditOf_23 : decode cX8_creditOf 23 = .ok (.iload_n 1, 1) := by decide +kernel
theorem dX8_creditOf_24 : decode cX8_creditOf 24 = .ok (.iload_n 2, 1) := by decide +kernel
theorem dX8_creditOf_25 : decode cX8_creditOf 25 = .ok (.invokestatic 118, 3) := by decide +kernel
theorem dX8_creditOf_28 : decode cX8_creditOf 28 = .ok (.iaload, 1) := by decide +kernel
theorem dX8_creditOf_29 : decode cX8_creditOf 29 = .ok (.goto 30, 3) := by decide +kernel
theorem dX8_creditOf_32 : decode cX8_creditOf 32 = .ok (.iload_n 2, 1) := by decide +kernel
theorem dX8_creditOf_33 : decode cX8_creditOf 33 = .ok (.iconst 3, 1) := by decide +kernel
theorem dX8_creditOf_34 : decode cX8_creditOf 34 = .ok (.if_icmp .ne 23, 3) := by decide +kernel
theorem dX8_creditOf_37 : decode cX8_creditOf 37 = .ok (.aload_n 0, 1) := by decide +kernel
theorem dX8_creditOf_38 : decode cX8_creditOf 38 = .ok (.getfield 13, 3) := by decide +kernel
theorem dX8_creditOf_41 : decode cX8_creditOf 41 = .ok (.iload_n 1, 1) := by decide +kernel
theorem dX8_creditOf_42 : decode cX8_creditOf 42 = .ok (.iconst 2, 1) := by decide +kernel
theorem dX8_creditOf_43 : decode cX8_creditOf 43 = .ok (.invokestatic 118, 3) := by decide +kernel
theorem dX8_creditOf_46 : decode cX8_creditOf 46 = .ok (.iaload, 1) := by decide +kernel
theorem dX8_creditOf_47 : decode cX8_creditOf 47 = .ok (.aload_n 0, 1) := by decide +kernel
theorem dX8_creditOf_48 : decode cX8_creditOf 48 = .ok (.getfield 13, 3) := by decide +kernel
theorem dX8_creditOf_51 : decode cX8_creditOf 51 = .ok (.iconst 0, 1) := by decide +kernel
theorem dX8_creditOf_52 : decode cX8_creditOf 52 = .ok (.iaload, 1) := by decide +kernel
theorem dX8_creditOf_53 : decode cX8_creditOf 53 = .ok (.isub, 1) := by decide +kernel
theorem dX8_creditOf_54 : decode cX8_creditOf 54 = .ok (.goto 5, 3) := by decide +kernel
theorem dX8_creditOf_57 : decode cX8_creditOf 57 = .ok (.bipush (-2), 2) := by decide +kernel
theorem dX8_creditOf_59 : decode cX8_creditOf 59 = .ok (.ireturn, 1) := by decide +kernel
set_option maxRecDepth 20000 in
theorem ggX8_owes_X8_isTown : GoodIn wsX8_owes wsX8_isTown := goodIn_r _ [5, 6, 7, 4, 8] (by decide +kernel) (by decide +kernel)
set_option maxRecDepth 20000 in
theorem gX8_owes_X8_isTown : GoodIn wsX8_owes (va_wsS RX8 84 yX8_isTown wsX8_isTown) := goodIn_app (goodIn_of _ (by decide +kernel)) ggX8_owes_X8_isTown
set_option maxRecDepth 20000 in
theorem ggX8_owes_X8_in : GoodIn wsX8_owes wsX8_in := goodIn_r _ [11] (by decide +kernel) (by decide +kernel)
set_option maxRecDepth 20000 in
theorem gX8_owes_X8_in : GoodIn wsX8_owes (va_wsS RX8 118 yX8_in wsX8_in) := goodIn_app (goodIn_of _ (by decide +kernel)) ggX8_owes_X8_in
theorem dX8_owes_0 : decode cX8_owes 0 = .ok (.iload_n 1, 1) := by decide +kernel
theorem dX8_owes_1 : decode cX8_owes 1 = .ok (.invokestatic 84, 3) := by decide +kernel
theorem dX8_owes_4 : decode cX8_owes 4 = .ok (.ifCond .ne 5, 3) := by decide +kernel
theorem dX8_owes_7 : decode cX8_owes 7 = .ok (.iconst (-1), 1) := by decide +kernel
theorem dX8_owes_8 : decode cX8_owes 8 = .ok (.ireturn, 1) := by decide +kernel
theorem dX8_owes_9 : decode cX8_owes 9 = .ok (.iconst 0, 1) := by decide +kernel
theorem dX8_owes_10 : decode cX8_owes 10 = .ok (.istore_n 2, 1) := by decide +kernel
theorem dX8_owes_11 : decode cX8_owes 11 = .ok (.iconst 0, 1) := by decide +kernel
theorem dX8_owes_12 : decode cX8_owes 12 = .ok (.istore_n 3, 1) := by decide +kernel
theorem dX8_owes_13 : decode cX8_owes 13 = .ok (.iload_n 3, 1) := by decide +kernel
theorem dX8_owes_14 : decode cX8_owes 14 = .ok (.aload_n 0, 1) := by decide +kernel
theorem dX8_owes_15 : decode cX8_owes 15 = .ok (.getfield 13, 3) := by decide +kernel
theorem dX8_owes_18 : decode cX8_owes 18 = .ok (.iconst 1, 1) := by decide +kernel
theorem dX8_owes_19 : decode cX8_owes 19 = .ok (.iaload, 1) := by decide +kernel
theorem dX8_owes_20 : decode cX8_owes 20 = .ok (.if_icmp .ge 40, 3) := by decide +kernel
theorem dX8_owes_23 : decode cX8_owes 23 = .ok (.iload_n 2, 1) := by decide +kernel
theorem dX8_owes_24 : decode cX8_owes 24 = .ok (.aload_n 0, 1) := by decide +kernel
theorem dX8_owes_25 : decode cX8_owes 25 = .ok (.getfield 13, 3) := by decide +kernel
theorem dX8_owes_28 : decode cX8_owes 28 = .ok (.iload_n 3, 1) := by decide +kernel
theorem dX8_owes_29 : decode cX8_owes 29 = .ok (.iconst 0, 1) := by decide +kernel
theorem dX8_owes_30 : decode cX8_owes 30 = .ok (.invokestatic 118, 3) := by decide +kernel
theorem dX8_owes_33 : decode cX8_owes 33 = .ok (.iaload, 1) := by decide +kernel
theorem dX8_owes_34 : decode cX8_owes 34 = .ok (.iload_n 1, 1) := by decide +kernel
theorem dX8_owes_35 : decode cX8_owes 35 = .ok (.if_icmp .ne 16, 3) := by decide +kernel
theorem dX8_owes_38 : decode cX8_owes 38 = .ok (.aload_n 0, 1) := by decide +kernel
theorem dX8_owes_39 : decode cX8_owes 39 = .ok (.getfield 13, 3) := by decide +kernel
theorem dX8_owes_42 : decode cX8_owes 42 = .ok (.iload_n 3, 1) := by decide +kernel
theorem dX8_owes_43 : decode cX8_owes 43 = .ok (.iconst 1, 1) := by decide +kernel
theorem dX8_owes_44 : decode cX8_owes 44 = .ok (.invokestatic 118, 3) := by decide +kernel
theorem dX8_owes_47 : decode cX8_owes 47 = .ok (.iaload, 1) := by decide +kernel
theorem dX8_owes_48 : decode cX8_owes 48 = .ok (.goto 4, 3) := by decide +kernel
theorem dX8_owes_51 : decode cX8_owes 51 = .ok (.iconst 0, 1) := by decide +kernel
theorem dX8_owes_52 : decode cX8_owes 52 = .ok (.iadd, 1) := by decide +kernel
theorem dX8_owes_53 : decode cX8_owes 53 = .ok (.istore_n 2, 1) := by decide +kernel
theorem dX8_owes_54 : decode cX8_owes 54 = .ok (.iinc 3 1, 3) := by decide +kernel
theorem dX8_owes_57 : decode cX8_owes 57 = .ok (.goto (-44), 3) := by decide +kernel
theorem dX8_owes_60 : decode cX8_owes 60 = .ok (.iload_n 2, 1) := by decide +kernel
theorem dX8_owes_61 : decode cX8_owes 61 = .ok (.ireturn, 1) := by decide +kernel
set_option maxRecDepth 20000 in
theorem ggX8_owesAgain_X8_owes : GoodIn wsX8_owesAgain wsX8_owes := goodIn_r _ [5, 6, 7, 8, 4, 9, 10, 11, 12, 13, 14, 15, 16, 17, 18, 19, 20, 21, 22, 23, 24, 25, 26, 27, 28, 29, 30, 31, 32, 33, 34, 35, 36, 37, 38, 39, 40, 41, 42] (by decide +kernel) (by decide +kernel)
set_option maxRecDepth 20000 in
theorem gX8_owesAgain_X8_owes : GoodIn wsX8_owesAgain (wsV RX8 158 RX8 yX8_owes wsX8_owes) := goodIn_app (goodIn_of _ (by decide +kernel)) ggX8_owesAgain_X8_owes
theorem dX8_owesAgain_0 : decode cX8_owesAgain 0 = .ok (.aload_n 0, 1) := by decide +kernel
theorem dX8_owesAgain_1 : decode cX8_owesAgain 1 = .ok (.iload_n 1, 1) := by decide +kernel
theorem dX8_owesAgain_2 : decode cX8_owesAgain 2 = .ok (.invokevirtual 158, 3) := by decide +kernel
theorem dX8_owesAgain_5 : decode cX8_owesAgain 5 = .ok (.ireturn, 1) := by decide +kernel
set_option maxRecDepth 20000 in
theorem ggX8_due_X8_isIn : GoodIn wsX8_due wsX8_isIn := goodIn_r _ [5] (by decide +kernel) (by decide +kernel)
set_option maxRecDepth 20000 in
theorem gX8_due_X8_isIn : GoodIn wsX8_due (va_wsS RX8 77 yX8_isIn wsX8_isIn) := goodIn_app (goodIn_of _ (by decide +kernel)) ggX8_due_X8_isIn
set_option maxRecDepth 20000 in
theorem ggX8_due_X8_in : GoodIn wsX8_due wsX8_in := goodIn_r _ [8] (by decide +kernel) (by decide +kernel)
set_option maxRecDepth 20000 in
theorem gX8_due_X8_in : GoodIn wsX8_due (va_wsS RX8 118 yX8_in wsX8_in) := goodIn_app (goodIn_of _ (by decide +kernel)) ggX8_due_X8_in
theorem dX8_due_0 : decode cX8_due 0 = .ok (.iload_n 1, 1) := by decide +kernel
theorem dX8_due_1 : decode cX8_due 1 = .ok (.iconst 0, 1) := by decide +kernel
theorem dX8_due_2 : decode cX8_due 2 = .ok (.bipush 6, 2) := by decide +kernel
theorem dX8_due_4 : decode cX8_due 4 = .ok (.invokestatic 77, 3) := by decide +kernel
theorem dX8_due_7 : decode cX8_due 7 = .ok (.ifCond .ne 6, 3) := by decide +kernel
theorem dX8_due_10 : decode cX8_due 10 = .ok (.bipush (-2), 2) := by decide +kernel
theorem dX8_due_12 : decode cX8_due 12 = .ok (.ireturn, 1) := by decide +kernel
theorem dX8_due_13 : decode cX8_due 13 = .ok (.iconst 0, 1) := by decide +kernel
theorem dX8_due_14 : decode cX8_due 14 = .ok (.istore_n 2, 1) := by decide +kernel
theorem dX8_due_15 : decode cX8_due 15 = .ok (.iconst 0, 1) := by decide +kernel
theorem dX8_due_16 : decode cX8_due 16 = .ok (.istore_n 3, 1) := by decide +kernel
theorem dX8_due_17 : decode cX8_due 17 = .ok (.iload_n 3, 1) := by decide +kernel
theorem dX8_due_18 : decode cX8_due 18 = .ok (.aload_n 0, 1) := by decide +kernel
theorem dX8_due_19 : decode cX8_due 19 = .ok (.getfield 13, 3) := by decide +kernel
theorem dX8_due_22 : decode cX8_due 22 = .ok (.iconst 1, 1) := by decide +kernel
theorem dX8_due_23 : decode cX8_due 23 = .ok (.iaload, 1) := by decide +kernel
theorem dX8_due_24 : decode cX8_due 24 = .ok (.if_icmp .ge 47, 3) := by decide +kernel
theorem dX8_due_27 : decode cX8_due 27 = .ok (.iload_n 2, 1) := by decide +kernel
theorem dX8_due_28 : decode cX8_due 28 = .ok (.aload_n 0, 1) := by decide +kernel
theorem dX8_due_29 : decode cX8_due 29 = .ok (.getfield 13, 3) := by decide +kernel
theorem dX8_due_32 : decode cX8_due 32 = .ok (.iload_n 3, 1) := by decide +kernel
theorem dX8_due_33 : decode cX8_due 33 = .ok (.iconst 2, 1) := by decide +kernel
theorem dX8_due_34 : decode cX8_due 34 = .ok (.invokestatic 118, 3) := by decide +kernel
theorem dX8_due_37 : decode cX8_due 37 = .ok (.iaload, 1) := by decide +kernel
theorem dX8_due_38 : decode cX8_due 38 = .ok (.aload_n 0, 1) := by decide +kernel
theorem dX8_due_39 : decode cX8_due 39 = .ok (.getfield 13, 3) := by decide +kernel
theorem dX8_due_42 : decode cX8_due 42 = .ok (.iconst 0, 1) := by decide +kernel
theorem dX8_due_43 : decode cX8_due 43 = .ok (.iaload, 1) := by decide +kernel
theorem dX8_due_44 : decode cX8_due 44 = .ok (.iload_n 1, 1) := by decide +kernel
theorem dX8_due_45 : decode cX8_due 45 = .ok (.iadd, 1) := by decide +kernel
theorem dX8_due_46 : decode cX8_due 46 = .ok (.if_icmp .ne 16, 3) := by decide +kernel
theorem dX8_due_49 : decode cX8_due 49 = .ok (.aload_n 0, 1) := by decide +kernel
theorem dX8_due_50 : decode cX8_due 50 = .ok (.getfield 13, 3) := by decide +kernel
theorem dX8_due_53 : decode cX8_due 53 = .ok (.iload_n 3, 1) := by decide +kernel
theorem dX8_due_54 : decode cX8_due 54 = .ok (.iconst 1, 1) := by decide +kernel
theorem dX8_due_55 : decode cX8_due 55 = .ok (.invokestatic 118, 3) := by decide +kernel
theorem dX8_due_58 : decode cX8_due 58 = .ok (.iaload, 1) := by decide +kernel
theorem dX8_due_59 : decode cX8_due 59 = .ok (.goto 4, 3) := by decide +kernel
theorem dX8_due_62 : decode cX8_due 62 = .ok (.iconst 0, 1) := by decide +kernel
theorem dX8_due_63 : decode cX8_due 63 = .ok (.iadd, 1) := by decide +kernel
theorem dX8_due_64 : decode cX8_due 64 = .ok (.istore_n 2, 1) := by decide +kernel
theorem dX8_due_65 : decode cX8_due 65 = .ok (.iinc 3 1, 3) := by decide +kernel
theorem dX8_due_68 : decode cX8_due 68 = .ok (.goto (-51), 3) := by decide +kernel
theorem dX8_due_71 : decode cX8_due 71 = .ok (.iload_n 2, 1) := by decide +kernel
theorem dX8_due_72 : decode cX8_due 72 = .ok (.ireturn, 1) := by decide +kernel
set_option maxRecDepth 20000 in
theorem ggX8_far_X8_isTown : GoodIn wsX8_far wsX8_isTown := goodIn_r _ [5, 6, 7, 4, 8] (by decide +kernel) (by decide +kernel)
set_option maxRecDepth 20000 in
theorem gX8_far_X8_isTown : GoodIn wsX8_far (va_wsS RX8 84 yX8_isTown wsX8_isTown) := goodIn_app (goodIn_of _ (by decide +kernel)) ggX8_far_X8_isTown
set_option maxRecDepth 20000 in
theorem ggX8_far_X8_finds : GoodIn wsX8_far wsX8_finds := goodIn_r _ [12, 1, 13, 14, 15, 16, 17, 18, 19, 20, 21, 22, 23, 24, 25, 26, 27, 28, 29, 30, 31, 32, 33, 34, 35, 36, 37, 38, 39, 40] (by decide +kernel) (by decide +kernel)
set_option maxRecDepth 20000 in
theorem gX8_far_X8_finds : GoodIn wsX8_far (wsV RX8 105 RX8 yX8_finds wsX8_finds) := goodIn_app (goodIn_of _ (by decide +kernel)) ggX8_far_X8_finds
theorem dX8_far_0 : decode cX8_far 0 = .ok (.iload_n 1, 1) := by decide +kernel
theorem dX8_far_1 : decode cX8_far 1 = .ok (.invokestatic 84, 3) := by decide +kernel
theorem dX8_far_4 : decode cX8_far 4 = .ok (.ifCond .eq 10, 3) := by decide +kernel
theorem dX8_far_7 : decode cX8_far 7 = .ok (.iload_n 2, 1) := by decide +kernel
theorem dX8_far_8 : decode cX8_far 8 = .ok (.invokestatic 84, 3) := by decide +kernel
theorem dX8_far_11 : decode cX8_far 11 = .ok (.ifCond .ne 5, 3) := by decide +kernel
theorem dX8_far_14 : decode cX8_far 14 = .ok (.iconst (-1), 1) := by decide +kernel
theorem dX8_far_15 : decode cX8_far 15 = .ok (.ireturn, 1) := by decide +kernel
theorem dX8_far_16 : decode cX8_far 16 = .ok (.aload_n 0, 1) := by decide +kernel
theorem dX8_far_17 : decode cX8_far 17 = .ok (.iload_n 1, 1) := by decide +kernel
theorem dX8_far_18 : decode cX8_far 18 = .ok (.invokevirtual 105, 3) := by decide +kernel
theorem dX8_far_21 : decode cX8_far 21 = .ok (.aload_n 0, 1) := by decide +kernel
theorem dX8_far_22 : decode cX8_far 22 = .ok (.getfield 32, 3) := by decide +kernel
theorem dX8_far_25 : decode cX8_far 25 = .ok (.iload_n 2, 1) := by decide +kernel
theorem dX8_far_26 : decode cX8_far 26 = .ok (.iaload, 1) := by decide +kernel
theorem dX8_far_27 : decode cX8_far 27 = .ok (.ifCond .ge 8, 3) := by decide +kernel
theorem dX8_far_30 : decode cX8_far 30 = .ok (.bipush (-6), 2) := by decide +kernel
theorem dX8_far_32 : decode cX8_far 32 = .ok (.goto 9, 3) := by decide +kernel
theorem dX8_far_35 : decode cX8_far 35 = .ok (.aload_n 0, 1) := by decide +kernel
theorem dX8_far_36 : decode cX8_far 36 = .ok (.getfield 32, 3) := by decide +kernel
theorem dX8_far_39 : decode cX8_far 39 = .ok (.iload_n 2, 1) := by decide +kernel
theorem dX8_far_40 : decode cX8_far 40 = .ok (.iaload, 1) := by decide +kernel
theorem dX8_far_41 : decode cX8_far 41 = .ok (.ireturn, 1) := by decide +kernel
set_option maxRecDepth 20000 in
theorem ggX8_drizzle_X8_isTown : GoodIn wsX8_drizzle wsX8_isTown := goodIn_r _ [4, 5, 6, 3, 7] (by decide +kernel) (by decide +kernel)
set_option maxRecDepth 20000 in
theorem gX8_drizzle_X8_isTown : GoodIn wsX8_drizzle (va_wsS RX8 84 yX8_isTown wsX8_isTown) := goodIn_app (goodIn_of _ (by decide +kernel)) ggX8_drizzle_X8_isTown
set_option maxRecDepth 20000 in
theorem ggX8_drizzle_X8_isIn : GoodIn wsX8_drizzle wsX8_isIn := goodIn_r _ [7] (by decide +kernel) (by decide +kernel)
set_option maxRecDepth 20000 in
theorem gX8_drizzle_X8_isIn : GoodIn wsX8_drizzle (va_wsS RX8 77 yX8_isIn wsX8_isIn) := goodIn_app (goodIn_of _ (by decide +kernel)) ggX8_drizzle_X8_isIn
set_option maxRecDepth 20000 in
theorem ggX8_drizzle_X8_finds : GoodIn wsX8_drizzle wsX8_finds := goodIn_r _ [11, 12, 13, 18, 19, 20, 21, 22, 23, 24, 25, 26, 27, 28, 29, 30, 31, 32, 33, 34, 35, 36, 37, 38, 39, 40, 41, 42, 43, 44] (by decide +kernel) (by decide +kernel)
set_option maxRecDepth 20000 in
theorem gX8_drizzle_X8_finds : GoodIn wsX8_drizzle (wsV RX8 105 RX8 yX8_finds wsX8_finds) := goodIn_app (goodIn_of _ (by decide +kernel)) ggX8_drizzle_X8_finds
set_option maxRecDepth 20000 in
theorem ggX8_drizzle_X8_share : GoodIn wsX8_drizzle wsX8_share := goodIn_r _ [17, 12, 18, 19, 20, 21, 22, 23, 24, 25, 26, 27, 28, 29, 30, 31, 32, 33, 34, 35, 36, 37, 38, 39, 40, 41, 42, 43, 44] (by decide +kernel) (by decide +kernel)
set_option maxRecDepth 20000 in
theorem gX8_drizzle_X8_share : GoodIn wsX8_drizzle (wsV RX8 109 RX8 yX8_share wsX8_share) := goodIn_app (goodIn_of _ (by decide +kernel)) ggX8_drizzle_X8_share
theorem dX8_drizzle_0 : decode cX8_drizzle 0 = .ok (.iload_n 1, 1) := by decide +kernel
theorem dX8_drizzle_1 : decode cX8_drizzle 1 = .ok (.invokestatic 84, 3) := by decide +kernel
theorem dX8_drizzle_4 : decode cX8_drizzle 4 = .ok (.ifCond .eq 10, 3) := by decide +kernel
theorem dX8_drizzle_7 : decode cX8_drizzle 7 = .ok (.iload_n 3, 1) := by decide +kernel
theorem dX8_drizzle_8 : decode cX8_drizzle 8 = .ok (.invokestatic 84, 3) := by decide +kernel
theorem dX8_drizzle_11 : decode cX8_drizzle 11 = .ok (.ifCond .ne 5, 3) := by decide +kernel
theorem dX8_drizzle_14 : decode cX8_drizzle 14 = .ok (.iconst (-1), 1) := by decide +kernel
theorem dX8_drizzle_15 : decode cX8_drizzle 15 = .ok (.ireturn, 1) := by decide +kernel
theorem dX8_drizzle_16 : decode cX8_drizzle 16 = .ok (.iload_n 2, 1) := by decide +kernel
theorem dX8_drizzle_17 : decode cX8_drizzle 17 = .ok (.iconst 1, 1) := by decide +kernel
theorem dX8_drizzle_18 : decode cX8_drizzle 18 = .ok (.bipush 20, 2) := by decide +kernel
theorem dX8_drizzle_20 : decode cX8_drizzle 20 = .ok (.invokestatic 77, 3) := by decide +kernel
theorem dX8_drizzle_23 : decode cX8_drizzle 23 = .ok (.ifCond .ne 6, 3) := by decide +kernel
theorem dX8_drizzle_26 : decode cX8_drizzle 26 = .ok (.bipush (-2), 2) := by decide +kernel
theorem dX8_drizzle_28 : decode cX8_drizzle 28 = .ok (.ireturn, 1) := by decide +kernel
theorem dX8_drizzle_29 : decode cX8_drizzle 29 = .ok (.aload_n 0, 1) := by decide +kernel
theorem dX8_drizzle_30 : decode cX8_drizzle 30 = .ok (.iload_n 1, 1) := by decide +kernel
theorem dX8_drizzle_31 : decode cX8_drizzle 31 = .ok (.invokevirtual 105, 3) := by decide +kernel
theorem dX8_drizzle_34 : decode cX8_drizzle 34 = .ok (.aload_n 0, 1) := by decide +kernel
theorem dX8_drizzle_35 : decode cX8_drizzle 35 = .ok (.iload_n 3, 1) := by decide +kernel
theorem dX8_drizzle_36 : decode cX8_drizzle 36 = .ok (.iload_n 2, 1) := by decide +kernel
theorem dX8_drizzle_37 : decode cX8_drizzle 37 = .ok (.invokevirtual 109, 3) := by decide +kernel
theorem dX8_drizzle_40 : decode cX8_drizzle 40 = .ok (.ireturn, 1) := by decide +kernel
set_option maxRecDepth 20000 in
theorem ggX8_drizzleAgain_X8_drizzle : GoodIn wsX8_drizzleAgain wsX8_drizzle := goodIn_r _ [5, 6, 7, 4, 8, 9, 10, 11, 12, 13, 14, 15, 16, 17, 18, 19, 20, 21, 22, 23, 24, 25, 26, 27, 28, 29, 30, 31, 32, 33, 34, 35, 36, 37, 38, 39, 40, 41, 42, 43, 44, 45, 46, 47, 48] (by decide +kernel) (by decide +kernel)
set_option maxRecDepth 20000 in
theorem gX8_drizzleAgain_X8_drizzle : GoodIn wsX8_drizzleAgain (wsV RX8 161 RX8 yX8_drizzle wsX8_drizzle) := goodIn_app (goodIn_of _ (by decide +kernel)) ggX8_drizzleAgain_X8_drizzle
theorem dX8_drizzleAgain_0 : decode cX8_drizzleAgain 0 = .ok (.aload_n 0, 1) := by decide +kernel
theorem dX8_drizzleAgain_1 : decode cX8_drizzleAgain 1 = .ok (.iload_n 1, 1) := by decide +kernel
theorem dX8_drizzleAgain_2 : decode cX8_drizzleAgain 2 = .ok (.iload_n 2, 1) := by decide +kernel
theorem dX8_drizzleAgain_3 : decode cX8_drizzleAgain 3 = .ok (.iload_n 3, 1) := by decide +kernel
theorem dX8_drizzleAgain_4 : decode cX8_drizzleAgain 4 = .ok (.invokevirtual 161, 3) := by decide +kernel
theorem dX8_drizzleAgain_7 : decode cX8_drizzleAgain 7 = .ok (.ireturn, 1) := by decide +kernel
set_option maxRecDepth 20000 in
theorem ggX8_would_X8_isTown : GoodIn wsX8_would wsX8_isTown := goodIn_r _ [6, 7, 8, 5, 9] (by decide +kernel) (by decide +kernel)
set_option maxRecDepth 20000 in
theorem gX8_would_X8_isTown : GoodIn wsX8_would (va_wsS RX8 84 yX8_isTown wsX8_isTown) := goodIn_app (goodIn_of _ (by decide +kernel)) ggX8_would_X8_isTown
set_option maxRecDepth 20000 in
theorem ggX8_would_X8_isIn : GoodIn wsX8_would wsX8_isIn := goodIn_r _ [9] (by decide +kernel) (by decide +kernel)
set_option maxRecDepth 20000 in
theorem gX8_would_X8_isIn : GoodIn wsX8_would (va_wsS RX8 77 yX8_isIn wsX8_isIn) := goodIn_app (goodIn_of _ (by decide +kernel)) ggX8_would_X8_isIn
set_option maxRecDepth 20000 in
theorem ggX8_would_X8_lays : GoodIn wsX8_would wsX8_lays := goodIn_r _ [12] (by decide +kernel) (by decide +kernel)
set_option maxRecDepth 20000 in
theorem gX8_would_X8_lays : GoodIn wsX8_would (va_wsS RX8 70 yX8_lays wsX8_lays) := goodIn_app (goodIn_of _ (by decide +kernel)) ggX8_would_X8_lays
set_option maxRecDepth 20000 in
theorem ggX8_would_X8_months : GoodIn wsX8_would wsX8_months := goodIn_r _ [16, 2, 17, 18, 19, 20, 5, 21, 22, 23, 24, 25, 26, 27, 28, 29, 30, 31, 32, 33, 34, 35, 36, 37, 38, 39, 40, 41, 42, 43, 44, 45, 46, 47, 48, 49, 50, 51, 52, 53, 54, 55, 56, 57, 58, 59, 60, 61, 62, 63, 64, 65, 66, 67, 68, 69, 70, 71, 72, 73, 74, 75, 76] (by decide +kernel) (by decide +kernel)
set_option maxRecDepth 20000 in
theorem gX8_would_X8_months : GoodIn wsX8_would (wsV RX8 149 RX8 yX8_months wsX8_months) := goodIn_app (goodIn_of _ (by decide +kernel)) ggX8_would_X8_months
set_option maxRecDepth 20000 in
theorem ggX8_would_X8_at : GoodIn wsX8_would wsX8_at := goodIn_r _ [28] (by decide +kernel) (by decide +kernel)
set_option maxRecDepth 20000 in
theorem gX8_would_X8_at : GoodIn wsX8_would (va_wsS RX8 50 yX8_at wsX8_at) := goodIn_app (goodIn_of _ (by decide +kernel)) ggX8_would_X8_at
theorem dX8_would_0 : decode cX8_would 0 = .ok (.iload_n 1, 1) := by decide +kernel
theorem dX8_would_1 : decode cX8_would 1 = .ok (.invokestatic 84, 3) := by decide +kernel
theorem dX8_would_4 : decode cX8_would 4 = .ok (.ifCond .ne 5, 3) := by decide +kernel
theorem dX8_would_7 : decode cX8_would 7 = .ok (.iconst (-1), 1) := by decide +kernel
theorem dX8_would_8 : decode cX8_would 8 = .ok (.ireturn, 1) := by decide +kernel
theorem dX8_would_9 : decode cX8_would 9 = .ok (.iload_n 2, 1) := by decide +kernel
theorem dX8_would_10 : decode cX8_would 10 = .ok (.iconst 0, 1) := by decide +kernel
theorem dX8_would_11 : decode cX8_would 11 = .ok (.bipush 24, 2) := by decide +kernel
theorem dX8_would_13 : decode cX8_would 13 = .ok (.invokestatic 77, 3) := by decide +kernel
theorem dX8_would_16 : decode cX8_would 16 = .ok (.ifCond .eq 12, 3) := by decide +kernel
theorem dX8_would_19 : decode cX8_would 19 = .ok (.iload_n 3, 1) := by decide +kernel
theorem dX8_would_20 : decode cX8_would 20 = .ok (.iconst 0, 1) := by decide +kernel
theorem dX8_would_21 : decode cX8_would 21 = .ok (.iconst 3, 1) := by decide +kernel
theorem dX8_would_22 : decode cX8_would 22 = .ok (.invokestatic 77, 3) := by decide +kernel
theorem dX8_would_25 : decode cX8_would 25 = .ok (.ifCond .ne 6, 3) := by decide +kernel
theorem dX8_would_28 : decode cX8_would 28 = .ok (.bipush (-2), 2) := by decide +kernel
theorem dX8_would_30 : decode cX8_would 30 = .ok (.ireturn, 1) := by decide +kernel
theorem dX8_would_31 : decode cX8_would 31 = .ok (.aload_n 0, 1) := by decide +kernel
theorem dX8_would_32 : decode cX8_would 32 = .ok (.getfield 23, 3) := by decide +kernel
theorem dX8_would_35 : decode cX8_would 35 = .ok (.aload_n 0, 1) := by decide +kernel
theorem dX8_would_36 : decode cX8_would 36 = .ok (.getfield 13, 3) := by decide +kernel
theorem dX8_would_39 : decode cX8_would 39 = .ok (.invokestatic 70, 3) := by decide +kernel
theorem dX8_would_42 : decode cX8_would 42 = .ok (.iconst 0, 1) := by decide +kernel
theorem dX8_would_43 : decode cX8_would 43 = .ok (.istore 4, 2) := by decide +kernel
theorem dX8_would_45 : decode cX8_would 45 = .ok (.iconst 0, 1) := by decide +kernel
theorem dX8_would_46 : decode cX8_would 46 = .ok (.istore 5, 2) := by decide +kernel
theorem dX8_would_48 : decode cX8_would 48 = .ok (.iload 5, 2) := by decide +kernel
theorem dX8_would_50 : decode cX8_would 50 = .ok (.iload_n 2, 1) := by decide +kernel
theorem dX8_would_51 : decode cX8_would 51 = .ok (.if_icmp .ge 18, 3) := by decide +kernel
theorem dX8_would_54 : decode cX8_would 54 = .ok (.iload 4, 2) := by decide +kernel
theorem dX8_would_56 : decode cX8_would 56 = .ok (.aload_n 0, 1) := by decide +kernel
theorem dX8_would_57 : decode cX8_would 57 = .ok (.invokevirtual 149, 3) := by decide +kernel
theorem dX8_would_60 : decode cX8_would 60 = .ok (.iadd, 1) := by decide +kernel
theorem dX8_would_61 : decode cX8_would 61 = .ok (.istore 4, 2) := by decide +kernel
theorem dX8_would_63 : decode cX8_would 63 = .ok (.iinc 5 1, 3) := by decide +kernel
theorem dX8_would_66 : decode cX8_would 66 = .ok (.goto (-18), 3) := by decide +kernel
theorem dX8_would_69 : decode cX8_would 69 = .ok (.aload_n 0, 1) := by decide +kernel
theorem dX8_would_70 : decode cX8_would 70 = .ok (.getfield 13, 3) := by decide +kernel
theorem dX8_would_73 : decode cX8_would 73 = .ok (.iload_n 1, 1) := by decide +kernel
theorem dX8_would_74 : decode cX8_would 74 = .ok (.iload_n 3, 1) := by decide +kernel
theorem dX8_would_75 : decode cX8_would 75 = .ok (.invokestatic 50, 3) := by decide +kernel
theorem dX8_would_78 : decode cX8_would 78 = .ok (.iaload, 1) := by decide +kernel
theorem dX8_would_79 : decode cX8_would 79 = .ok (.istore 5, 2) := by decide +kernel
theorem dX8_would_81 : decode cX8_would 81 = .ok (.aload_n 0, 1) := by decide +kernel
theorem dX8_would_82 : decode cX8_would 82 = .ok (.getfield 13, 3) := by decide +kernel
theorem dX8_would_85 : decode cX8_would 85 = .ok (.aload_n 0, 1) := by decide +kernel
theorem dX8_would_86 : decode cX8_would 86 = .ok (.getfield 23, 3) := by decide +kernel
theorem dX8_would_89 : decode cX8_would 89 = .ok (.invokestatic 70, 3) := by decide +kernel
theorem dX8_would_92 : decode cX8_would 92 = .ok (.iload 5, 2) := by decide +kernel
theorem dX8_would_94 : decode cX8_would 94 = .ok (.ireturn, 1) := by decide +kernel
set_option maxRecDepth 20000 in
theorem ggX8_wouldPay_X8_lays : GoodIn wsX8_wouldPay wsX8_lays := goodIn_r _ [7] (by decide +kernel) (by decide +kernel)
set_option maxRecDepth 20000 in
theorem gX8_wouldPay_X8_lays : GoodIn wsX8_wouldPay (va_wsS RX8 70 yX8_lays wsX8_lays) := goodIn_app (goodIn_of _ (by decide +kernel)) ggX8_wouldPay_X8_lays
set_option maxRecDepth 20000 in
theorem ggX8_wouldPay_X8_credits : GoodIn wsX8_wouldPay wsX8_credits := goodIn_r _ [11, 2, 12, 13, 6, 14, 15, 16, 17, 18, 19, 20, 21, 22, 23, 24, 25, 26, 27, 28, 29, 30, 31, 32, 33, 34, 35, 66, 67, 68, 69, 70, 71, 72, 73, 74, 75, 76, 77, 78, 79, 80, 81, 82, 83, 84, 85, 86, 87, 88, 89, 90, 91, 92] (by decide +kernel) (by decide +kernel)
set_option maxRecDepth 20000 in
theorem gX8_wouldPay_X8_credits : GoodIn wsX8_wouldPay (wsV RX8 121 RX8 yX8_credits wsX8_credits) := goodIn_app (goodIn_of _ (by decide +kernel)) ggX8_wouldPay_X8_credits
set_option maxRecDepth 20000 in
theorem ggX8_wouldPay_X8_months : GoodIn wsX8_wouldPay wsX8_months := goodIn_r _ [39, 2, 40, 41, 42, 43, 6, 44, 3, 33, 34, 35, 23, 24, 25, 45, 46, 47, 48, 49, 50, 51, 52, 53, 54, 55, 56, 57, 58, 59, 60, 61, 62, 63, 64, 65, 66, 67, 68, 69, 70, 71, 72, 73, 74, 75, 76, 77, 78, 79, 80, 81, 82, 83, 84, 85, 86, 87, 88, 89, 90, 91, 92] (by decide +kernel) (by decide +kernel)
set_option maxRecDepth 20000 in
theorem gX8_wouldPay_X8_months : GoodIn wsX8_wouldPay (wsV RX8 149 RX8 yX8_months wsX8_months) := goodIn_app (goodIn_of _ (by decide +kernel)) ggX8_wouldPay_X8_months
theorem dX8_wouldPay_0 : decode cX8_wouldPay 0 = .ok (.aload_n 0, 1) := by decide +kernel
theorem dX8_wouldPay_1 : decode cX8_wouldPay 1 = .ok (.getfield 23, 3) := by decide +kernel
theorem dX8_wouldPay_4 : decode cX8_wouldPay 4 = .ok (.aload_n 0, 1) := by decide +kernel
theorem dX8_wouldPay_5 : decode cX8_wouldPay 5 = .ok (.getfield 13, 3) := by decide +kernel
theorem dX8_wouldPay_8 : decode cX8_wouldPay 8 = .ok (.invokestatic 70, 3) := by decide +kernel
theorem dX8_wouldPay_11 : decode cX8_wouldPay 11 = .ok (.aload_n 0, 1) := by decide +kernel
theorem dX8_wouldPay_12 : decode cX8_wouldPay 12 = .ok (.iload_n 1, 1) := by decide +kernel
theorem dX8_wouldPay_13 : decode cX8_wouldPay 13 = .ok (.iload_n 2, 1) := by decide +kernel
theorem dX8_wouldPay_14 : decode cX8_wouldPay 14 = .ok (.iload_n 3, 1) := by decide +kernel
theorem dX8_wouldPay_15 : decode cX8_wouldPay 15 = .ok (.invokevirtual 121, 3) := by decide +kernel
theorem dX8_wouldPay_18 : decode cX8_wouldPay 18 = .ok (.istore 4, 2) := by decide +kernel
theorem dX8_wouldPay_20 : decode cX8_wouldPay 20 = .ok (.iconst 0, 1) := by decide +kernel
theorem dX8_wouldPay_21 : decode cX8_wouldPay 21 = .ok (.istore 5, 2) := by decide +kernel
theorem dX8_wouldPay_23 : decode cX8_wouldPay 23 = .ok (.iconst 0, 1) := by decide +kernel
theorem dX8_wouldPay_24 : decode cX8_wouldPay 24 = .ok (.istore 6, 2) := by decide +kernel
theorem dX8_wouldPay_26 : decode cX8_wouldPay 26 = .ok (.iload 6, 2) := by decide +kernel
theorem dX8_wouldPay_28 : decode cX8_wouldPay 28 = .ok (.iload_n 3, 1) := by decide +kernel
theorem dX8_wouldPay_29 : decode cX8_wouldPay 29 = .ok (.if_icmp .ge 18, 3) := by decide +kernel
theorem dX8_wouldPay_32 : decode cX8_wouldPay 32 = .ok (.iload 5, 2) := by decide +kernel
theorem dX8_wouldPay_34 : decode cX8_wouldPay 34 = .ok (.aload_n 0, 1) := by decide +kernel
theorem dX8_wouldPay_35 : decode cX8_wouldPay 35 = .ok (.invokevirtual 149, 3) := by decide +kernel
theorem dX8_wouldPay_38 : decode cX8_wouldPay 38 = .ok (.iadd, 1) := by decide +kernel
theorem dX8_wouldPay_39 : decode cX8_wouldPay 39 = .ok (.istore 5, 2) := by decide +kernel
theorem dX8_wouldPay_41 : decode cX8_wouldPay 41 = .ok (.iinc 6 1, 3) := by decide +kernel
theorem dX8_wouldPay_44 : decode cX8_wouldPay 44 = .ok (.goto (-18), 3) := by decide +kernel
theorem dX8_wouldPay_47 : decode cX8_wouldPay 47 = .ok (.aload_n 0, 1) := by decide +kernel
theorem dX8_wouldPay_48 : decode cX8_wouldPay 48 = .ok (.getfield 13, 3) := by decide +kernel
theorem dX8_wouldPay_51 : decode cX8_wouldPay 51 = .ok (.aload_n 0, 1) := by decide +kernel
theorem dX8_wouldPay_52 : decode cX8_wouldPay 52 = .ok (.getfield 23, 3) := by decide +kernel
theorem dX8_wouldPay_55 : decode cX8_wouldPay 55 = .ok (.invokestatic 70, 3) := by decide +kernel
theorem dX8_wouldPay_58 : decode cX8_wouldPay 58 = .ok (.aload_n 0, 1) := by decide +kernel
theorem dX8_wouldPay_59 : decode cX8_wouldPay 59 = .ok (.getfield 139, 3) := by decide +kernel
theorem dX8_wouldPay_62 : decode cX8_wouldPay 62 = .ok (.ireturn, 1) := by decide +kernel
set_option maxRecDepth 20000 in
theorem ggX8_most_X8_isTown : GoodIn wsX8_most wsX8_isTown := goodIn_r _ [5, 6, 7, 4, 8] (by decide +kernel) (by decide +kernel)
set_option maxRecDepth 20000 in
theorem gX8_most_X8_isTown : GoodIn wsX8_most (va_wsS RX8 84 yX8_isTown wsX8_isTown) := goodIn_app (goodIn_of _ (by decide +kernel)) ggX8_most_X8_isTown
set_option maxRecDepth 20000 in
theorem ggX8_most_X8_isIn : GoodIn wsX8_most wsX8_isIn := goodIn_r _ [8] (by decide +kernel) (by decide +kernel)
set_option maxRecDepth 20000 in
theorem gX8_most_X8_isIn : GoodIn wsX8_most (va_wsS RX8 77 yX8_isIn wsX8_isIn) := goodIn_app (goodIn_of _ (by decide +kernel)) ggX8_most_X8_isIn
set_option maxRecDepth 20000 in
theorem ggX8_most_X8_at : GoodIn wsX8_most wsX8_at := goodIn_r _ [11] (by decide +kernel) (by decide +kernel)
set_option maxRecDepth 20000 in
theorem gX8_most_X8_at : GoodIn wsX8_most (va_wsS RX8 50 yX8_at wsX8_at) := goodIn_app (goodIn_of _ (by decide +kernel)) ggX8_most_X8_at
set_option maxRecDepth 20000 in
theorem ggX8_most_X8_wouldPay : GoodIn wsX8_most wsX8_wouldPay := goodIn_r _ [15, 16, 1, 17, 18, 19, 4, 20, 21, 22, 23, 24, 2, 3, 5, 6, 7, 8, 25, 26, 27, 28, 29, 9, 10, 11, 30, 31, 32, 33, 34, 35, 36, 37, 38, 39, 40, 41, 42, 43, 44, 45, 46, 47, 48, 49, 50, 51, 52, 53, 54, 55, 56, 57, 58, 59, 60, 61, 62, 63, 64, 65, 66, 67, 68, 69, 70, 71, 72, 73, 74, 75, 76, 77, 78, 79, 80, 81, 82, 83, 84, 85, 86, 87, 88, 89, 90, 91, 92, 93, 94, 95, 96] (by decide +kernel) (by decide +kernel)
set_option maxRecDepth 20000 in
theorem gX8_most_X8_wouldPay : GoodIn wsX8_most (wsV RX8 164 RX8 yX8_wouldPay wsX8_wouldPay) := goodIn_app (goodIn_of _ (by decide +kernel)) ggX8_most_X8_wouldPay
theorem dX8_most_0 : decode cX8_most 0 = .ok (.iload_n 1, 1) := by decide +kernel
theorem dX8_most_1 : decode cX8_most 1 = .ok (.invokestatic 84, 3) := by decide +kernel
theorem dX8_most_4 : decode cX8_most 4 = .ok (.ifCond .ne 5, 3) := by decide +kernel
theorem dX8_most_7 : decode cX8_most 7 = .ok (.iconst (-1), 1) := by decide +kernel
theorem dX8_most_8 : decode cX8_most 8 = .ok (.ireturn, 1) := by decide +kernel
theorem dX8_most_9 : decode cX8_most 9 = .ok (.iload_n 2, 1) := by decide +kernel
theorem dX8_most_10 : decode cX8_most 10 = .ok (.iconst 1, 1) := by decide +kernel
theorem dX8_most_11 : decode cX8_most 11 = .ok (.bipush 6, 2) := by decide +kernel
theorem dX8_most_13 : decode cX8_most 13 = .ok (.invokestatic 77, 3) := by decide +kernel
theorem dX8_most_16 : decode cX8_most 16 = .ok (.ifCond .ne 6, 3) := by decide +kernel
theorem dX8_most_19 : decode cX8_most 19 = .ok (.bipush (-2), 2) := by decide +kernel
theorem dX8_most_21 : decode cX8_most 21 = .ok (.ireturn, 1) := by decide +kernel
theorem dX8_most_22 : decode cX8_most 22 = .ok (.aload_n 0, 1) := by decide +kernel
theorem dX8_most_23 : decode cX8_most 23 = .ok (.getfield 13, 3) := by decide +kernel
theorem dX8_most_26 : decode cX8_most 26 = .ok (.iload_n 1, 1) := by decide +kernel
theorem dX8_most_27 : decode cX8_most 27 = .ok (.iconst 3, 1) := by decide +kernel
theorem dX8_most_28 : decode cX8_most 28 = .ok (.invokestatic 50, 3) := by decide +kernel
theorem dX8_most_31 : decode cX8_most 31 = .ok (.iaload, 1) := by decide +kernel
theorem dX8_most_32 : decode cX8_most 32 = .ok (.ifCond .gt 14, 3) := by decide +kernel
theorem dX8_most_35 : decode cX8_most 35 = .ok (.aload_n 0, 1) := by decide +kernel
theorem dX8_most_36 : decode cX8_most 36 = .ok (.getfield 13, 3) := by decide +kernel
theorem dX8_most_39 : decode cX8_most 39 = .ok (.iconst 1, 1) := by decide +kernel
theorem dX8_most_40 : decode cX8_most 40 = .ok (.iaload, 1) := by decide +kernel
theorem dX8_most_41 : decode cX8_most 41 = .ok (.bipush 8, 2) := by decide +kernel
theorem dX8_most_43 : decode cX8_most 43 = .ok (.if_icmp .ne 5, 3) := by decide +kernel
theorem dX8_most_46 : decode cX8_most 46 = .ok (.iconst 0, 1) := by decide +kernel
theorem dX8_most_47 : decode cX8_most 47 = .ok (.ireturn, 1) := by decide +kernel
theorem dX8_most_48 : decode cX8_most 48 = .ok (.bipush 20, 2) := by decide +kernel
theorem dX8_most_50 : decode cX8_most 50 = .ok (.istore_n 3, 1) := by decide +kernel
theorem dX8_most_51 : decode cX8_most 51 = .ok (.bipush 60, 2) := by decide +kernel
theorem dX8_most_53 : decode cX8_most 53 = .ok (.aload_n 0, 1) := by decide +kernel
theorem dX8_most_54 : decode cX8_most 54 = .ok (.getfield 13, 3) := by decide +kernel
theorem dX8_most_57 : decode cX8_most 57 = .ok (.iload_n 1, 1) := by decide +kernel
theorem dX8_most_58 : decode cX8_most 58 = .ok (.iconst 0, 1) := by decide +kernel
theorem dX8_most_59 : decode cX8_most 59 = .ok (.invokestatic 50, 3) := by decide +kernel
theorem dX8_most_62 : decode cX8_most 62 = .ok (.iaload, 1) := by decide +kernel
theorem dX8_most_63 : decode cX8_most 63 = .ok (.isub, 1) := by decide +kernel
theorem dX8_most_64 : decode cX8_most 64 = .ok (.istore 4, 2) := by decide +kernel
theorem dX8_most_66 : decode cX8_most 66 = .ok (.iload_n 3, 1) := by decide +kernel
theorem dX8_most_67 : decode cX8_most 67 = .ok (.iload 4, 2) := by decide +kernel
theorem dX8_most_69 : decode cX8_most 69 = .ok (.if_icmp .le 6, 3) := by decide +kernel
theorem dX8_most_72 : decode cX8_most 72 = .ok (.iload 4, 2) := by decide +kernel
theorem dX8_most_74 : decode cX8_most 74 = .ok (.istore_n 3, 1) := by decide +kernel
theorem dX8_most_75 : decode cX8_most 75 = .ok (.iload_n 3, 1) := by decide +kernel
theorem dX8_most_76 : decode cX8_most 76 = .ok (.ifCond .le 19, 3) := by decide +kernel
theorem dX8_most_79 : decode cX8_most 79 = .ok (.aload_n 0, 1) := by decide +kernel
theorem dX8_most_80 : decode cX8_most 80 = .ok (.iload_n 1, 1) := by decide +kernel
theorem dX8_most_81 : decode cX8_most 81 = .ok (.iload_n 3, 1) := by decide +kernel
theorem dX8_most_82 : decode cX8_most 82 = .ok (.iload_n 2, 1) := by decide +kernel
theorem dX8_most_83 : decode cX8_most 83 = .ok (.invokevirtual 164, 3) := by decide +kernel
theorem dX8_most_86 : decode cX8_most 86 = .ok (.ifCond .ne 9, 3) := by decide +kernel
theorem dX8_most_89 : decode cX8_most 89 = .ok (.iinc 3 (-1), 3) := by decide +kernel
theorem dX8_most_92 : decode cX8_most 92 = .ok (.goto (-17), 3) := by decide +kernel
theorem dX8_most_95 : decode cX8_most 95 = .ok (.iload_n 3, 1) := by decide +kernel
theorem dX8_most_96 : decode cX8_most 96 = .ok (.ireturn, 1) := by decide +kernel
set_option maxRecDepth 20000 in
theorem ggX8_ranked_X8_at : GoodIn wsX8_ranked wsX8_at := goodIn_r _ [5] (by decide +kernel) (by decide +kernel)
set_option maxRecDepth 20000 in
theorem gX8_ranked_X8_at : GoodIn wsX8_ranked (va_wsS RX8 50 yX8_at wsX8_at) := goodIn_app (goodIn_of _ (by decide +kernel)) ggX8_ranked_X8_at
theorem dX8_ranked_0 : decode cX8_ranked 0 = .ok (.iconst 0, 1) := by decide +kernel
theorem dX8_ranked_1 : decode cX8_ranked 1 = .ok (.istore_n 2, 1) := by decide +kernel
theorem dX8_ranked_2 : decode cX8_ranked 2 = .ok (.iload_n 2, 1) := by decide +kernel
theorem dX8_ranked_3 : decode cX8_ranked 3 = .ok (.iconst 5, 1) := by decide +kernel
theorem dX8_ranked_4 : decode cX8_ranked 4 = .ok (.if_icmp .ge 121, 3) := by decide +kernel
theorem dX8_ranked_7 : decode cX8_ranked 7 = .ok (.iconst 0, 1) := by decide +kernel
theorem dX8_ranked_8 : decode cX8_ranked 8 = .ok (.istore_n 3, 1) := by decide +kernel
theorem dX8_ranked_9 : decode cX8_ranked 9 = .ok (.iconst 0, 1) := by decide +kernel
theorem dX8_ranked_10 : decode cX8_ranked 10 = .ok (.istore 4, 2) := by decide +kernel
theorem dX8_ranked_12 : decode cX8_ranked 12 = .ok (.iload 4, 2) := by decide +kernel
theorem dX8_ranked_14 : decode cX8_ranked 14 = .ok (.iconst 5, 1) := by decide +kernel
theorem dX8_ranked_15 : decode cX8_ranked 15 = .ok (.if_icmp .ge 97, 3) := by decide +kernel
theorem dX8_ranked_18 : decode cX8_ranked 18 = .ok (.aload_n 0, 1) := by decide +kernel
theorem dX8_ranked_19 : decode cX8_ranked 19 = .ok (.getfield 13, 3) := by decide +kernel
theorem dX8_ranked_22 : decode cX8_ranked 22 = .ok (.iload 4, 2) := by decide +kernel
theorem dX8_ranked_24 : decode cX8_ranked 24 = .ok (.iconst 3, 1) := by decide +kernel
theorem dX8_ranked_25 : decode cX8_ranked 25 = .ok (.invokestatic 50, 3) := by decide +kernel
theorem dX8_ranked_28 : decode cX8_ranked 28 = .ok (.iaload, 1) := by decide +kernel
theorem dX8_ranked_29 : decode cX8_ranked 29 = .ok (.aload_n 0, 1) := by decide +kernel
theorem dX8_ranked_30 : decode cX8_ranked 30 = .ok (.getfield 13, 3) := by decide +kernel
theorem dX8_ranked_33 : decode cX8_ranked 33 = .ok (.iload_n 2, 1) := by decide +kernel
theorem dX8_ranked_34 : decode cX8_ranked 34 = .ok (.iconst 3, 1) := by decide +kernel
theorem dX8_ranked_35 : decode cX8_ranked 35 = .ok (.invokestatic 50, 3) := by decide +kernel
theorem dX8_ranked_38 : decode cX8_ranked 38 = .ok (.iaload, 1) := by decide +kernel
theorem dX8_ranked_39 : decode cX8_ranked 39 = .ok (.isub, 1) := by decide +kernel
theorem dX8_ranked_40 : decode cX8_ranked 40 = .ok (.istore 5, 2) := by decide +kernel
theorem dX8_ranked_42 : decode cX8_ranked 42 = .ok (.iload 5, 2) := by decide +kernel
theorem dX8_ranked_44 : decode cX8_ranked 44 = .ok (.ifCond .eq 8, 3) := by decide +kernel
theorem dX8_ranked_47 : decode cX8_ranked 47 = .ok (.iload 5, 2) := by decide +kernel
theorem dX8_ranked_49 : decode cX8_ranked 49 = .ok (.goto 25, 3) := by decide +kernel
theorem dX8_ranked_52 : decode cX8_ranked 52 = .ok (.aload_n 0, 1) := by decide +kernel
theorem dX8_ranked_53 : decode cX8_ranked 53 = .ok (.getfield 13, 3) := by decide +kernel
theorem dX8_ranked_56 : decode cX8_ranked 56 = .ok (.iload_n 2, 1) := by decide +kernel
theorem dX8_ranked_57 : decode cX8_ranked 57 = .ok (.iconst 0, 1) := by decide +kernel
theorem dX8_ranked_58 : decode cX8_ranked 58 = .ok (.invokestatic 50, 3) := by decide +kernel
theorem dX8_ranked_61 : decode cX8_ranked 61 = .ok (.iaload, 1) := by decide +kernel
theorem dX8_ranked_62 : decode cX8_ranked 62 = .ok (.aload_n 0, 1) := by decide +kernel
theorem dX8_ranked_63 : decode cX8_ranked 63 = .ok (.getfield 13, 3) := by decide +kernel
theorem dX8_ranked_66 : decode cX8_ranked 66 = .ok (.iload 4, 2) := by decide +kernel
theorem dX8_ranked_68 : decode cX8_ranked 68 = .ok (.iconst 0, 1) := by decide +kernel
theorem dX8_ranked_69 : decode cX8_ranked 69 = .ok (.invokestatic 50, 3) := by decide +kernel
theorem dX8_ranked_72 : decode cX8_ranked 72 = .ok (.iaload, 1) := by decide +kernel
theorem dX8_ranked_73 : decode cX8_ranked 73 = .ok (.isub, 1) := by decide +kernel
theorem dX8_ranked_74 : decode cX8_ranked 74 = .ok (.istore 5, 2) := by decide +kernel
theorem dX8_ranked_76 : decode cX8_ranked 76 = .ok (.iload_n 3, 1) := by decide +kernel
theorem dX8_ranked_77 : decode cX8_ranked 77 = .ok (.iload 4, 2) := by decide +kernel
theorem dX8_ranked_79 : decode cX8_ranked 79 = .ok (.iload_n 2, 1) := by decide +kernel
theorem dX8_ranked_80 : decode cX8_ranked 80 = .ok (.if_icmp .eq 23, 3) := by decide +kernel
theorem dX8_ranked_83 : decode cX8_ranked 83 = .ok (.iload 5, 2) := by decide +kernel
theorem dX8_ranked_85 : decode cX8_ranked 85 = .ok (.ifCond .gt 14, 3) := by decide +kernel
theorem dX8_ranked_88 : decode cX8_ranked 88 = .ok (.iload 5, 2) := by decide +kernel
theorem dX8_ranked_90 : decode cX8_ranked 90 = .ok (.ifCond .ne 13, 3) := by decide +kernel
theorem dX8_ranked_93 : decode cX8_ranked 93 = .ok (.iload 4, 2) := by decide +kernel
theorem dX8_ranked_95 : decode cX8_ranked 95 = .ok (.iload_n 2, 1) := by decide +kernel
theorem dX8_ranked_96 : decode cX8_ranked 96 = .ok (.if_icmp .ge 7, 3) := by decide +kernel
theorem dX8_ranked_99 : decode cX8_ranked 99 = .ok (.iconst 1, 1) := by decide +kernel
theorem dX8_ranked_100 : decode cX8_ranked 100 = .ok (.goto 4, 3) := by decide +kernel
theorem dX8_ranked_103 : decode cX8_ranked 103 = .ok (.iconst 0, 1) := by decide +kernel
theorem dX8_ranked_104 : decode cX8_ranked 104 = .ok (.iadd, 1) := by decide +kernel
theorem dX8_ranked_105 : decode cX8_ranked 105 = .ok (.istore_n 3, 1) := by decide +kernel
theorem dX8_ranked_106 : decode cX8_ranked 106 = .ok (.iinc 4 1, 3) := by decide +kernel
theorem dX8_ranked_109 : decode cX8_ranked 109 = .ok (.goto (-97), 3) := by decide +kernel
theorem dX8_ranked_112 : decode cX8_ranked 112 = .ok (.iload_n 3, 1) := by decide +kernel
theorem dX8_ranked_113 : decode cX8_ranked 113 = .ok (.iload_n 1, 1) := by decide +kernel
theorem dX8_ranked_114 : decode cX8_ranked 114 = .ok (.if_icmp .ne 5, 3) := by decide +kernel
theorem dX8_ranked_117 : decode cX8_ranked 117 = .ok (.iload_n 2, 1) := by decide +kernel
theorem dX8_ranked_118 : decode cX8_ranked 118 = .ok (.ireturn, 1) := by decide +kernel
theorem dX8_ranked_119 : decode cX8_ranked 119 = .ok (.iinc 2 1, 3) := by decide +kernel
theorem dX8_ranked_122 : decode cX8_ranked 122 = .ok (.goto (-120), 3) := by decide +kernel
theorem dX8_ranked_125 : decode cX8_ranked 125 = .ok (.iconst (-1), 1) := by decide +kernel
theorem dX8_ranked_126 : decode cX8_ranked 126 = .ok (.ireturn, 1) := by decide +kernel
set_option maxRecDepth 20000 in
theorem ggX8_next_X8_in : GoodIn wsX8_next wsX8_in := goodIn_r _ [5] (by decide +kernel) (by decide +kernel)
set_option maxRecDepth 20000 in
theorem gX8_next_X8_in : GoodIn wsX8_next (va_wsS RX8 118 yX8_in wsX8_in) := goodIn_app (goodIn_of _ (by decide +kernel)) ggX8_next_X8_in
theorem dX8_next_0 : decode cX8_next 0 = .ok (.iconst 0, 1) := by decide +kernel
theorem dX8_next_1 : decode cX8_next 1 = .ok (.istore_n 2, 1) := by decide +kernel
theorem dX8_next_2 : decode cX8_next 2 = .ok (.iload_n 2, 1) := by decide +kernel
theorem dX8_next_3 : decode cX8_next 3 = .ok (.aload_n 0, 1) := by decide +kernel
theorem dX8_next_4 : decode cX8_next 4 = .ok (.getfield 13, 3) := by decide +kernel
theorem dX8_next_7 : decode cX8_next 7 = .ok (.iconst 1, 1) := by decide +kernel
theorem dX8_next_8 : decode cX8_next 8 = .ok (.iaload, 1) := by decide +kernel
theorem dX8_next_9 : decode cX8_next 9 = .ok (.if_icmp .ge 126, 3) := by decide +kernel
theorem dX8_next_12 : decode cX8_next 12 = .ok (.iconst 0, 1) := by decide +kernel
theorem dX8_next_13 : decode cX8_next 13 = .ok (.istore_n 3, 1) := by decide +kernel
theorem dX8_next_14 : decode cX8_next 14 = .ok (.iconst 0, 1) := by decide +kernel
theorem dX8_next_15 : decode cX8_next 15 = .ok (.istore 4, 2) := by decide +kernel
theorem dX8_next_17 : decode cX8_next 17 = .ok (.iload 4, 2) := by decide +kernel
theorem dX8_next_19 : decode cX8_next 19 = .ok (.aload_n 0, 1) := by decide +kernel
theorem dX8_next_20 : decode cX8_next 20 = .ok (.getfield 13, 3) := by decide +kernel
theorem dX8_next_23 : decode cX8_next 23 = .ok (.iconst 1, 1) := by decide +kernel
theorem dX8_next_24 : decode cX8_next 24 = .ok (.iaload, 1) := by decide +kernel
theorem dX8_next_25 : decode cX8_next 25 = .ok (.if_icmp .ge 97, 3) := by decide +kernel
theorem dX8_next_28 : decode cX8_next 28 = .ok (.aload_n 0, 1) := by decide +kernel
theorem dX8_next_29 : decode cX8_next 29 = .ok (.getfield 13, 3) := by decide +kernel
theorem dX8_next_32 : decode cX8_next 32 = .ok (.iload_n 2, 1) := by decide +kernel
theorem dX8_next_33 : decode cX8_next 33 = .ok (.iconst 2, 1) := by decide +kernel
theorem dX8_next_34 : decode cX8_next 34 = .ok (.invokestatic 118, 3) := by decide +kernel
theorem dX8_next_37 : decode cX8_next 37 = .ok (.iaload, 1) := by decide +kernel
theorem dX8_next_38 : decode cX8_next 38 = .ok (.aload_n 0, 1) := by decide +kernel
theorem dX8_next_39 : decode cX8_next 39 = .ok (.getfield 13, 3) := by decide +kernel
theorem dX8_next_42 : decode cX8_next 42 = .ok (.iload 4, 2) := by decide +kernel
theorem dX8_next_44 : decode cX8_next 44 = .ok (.iconst 2, 1) := by decide +kernel
theorem dX8_next_45 : decode cX8_next 45 = .ok (.invokestatic 118, 3) := by decide +kernel
theorem dX8_next_48 : decode cX8_next 48 = .ok (.iaload, 1) := by decide +kernel
theorem dX8_next_49 : decode cX8_next 49 = .ok (.isub, 1) := by decide +kernel
theorem dX8_next_50 : decode cX8_next 50 = .ok (.istore 5, 2) := by decide +kernel
theorem dX8_next_52 : decode cX8_next 52 = .ok (.iload 5, 2) := by decide +kernel
theorem dX8_next_54 : decode cX8_next 54 = .ok (.ifCond .eq 8, 3) := by decide +kernel
theorem dX8_next_57 : decode cX8_next 57 = .ok (.iload 5, 2) := by decide +kernel
theorem dX8_next_59 : decode cX8_next 59 = .ok (.goto 25, 3) := by decide +kernel
theorem dX8_next_62 : decode cX8_next 62 = .ok (.aload_n 0, 1) := by decide +kernel
theorem dX8_next_63 : decode cX8_next 63 = .ok (.getfield 13, 3) := by decide +kernel
theorem dX8_next_66 : decode cX8_next 66 = .ok (.iload 4, 2) := by decide +kernel
theorem dX8_next_68 : decode cX8_next 68 = .ok (.iconst 1, 1) := by decide +kernel
theorem dX8_next_69 : decode cX8_next 69 = .ok (.invokestatic 118, 3) := by decide +kernel
theorem dX8_next_72 : decode cX8_next 72 = .ok (.iaload, 1) := by decide +kernel
theorem dX8_next_73 : decode cX8_next 73 = .ok (.aload_n 0, 1) := by decide +kernel
theorem dX8_next_74 : decode cX8_next 74 = .ok (.getfield 13, 3) := by decide +kernel
theorem dX8_next_77 : decode cX8_next 77 = .ok (.iload_n 2, 1) := by decide +kernel
theorem dX8_next_78 : decode cX8_next 78 = .ok (.iconst 1, 1) := by decide +kernel
theorem dX8_next_79 : decode cX8_next 79 = .ok (.invokestatic 118, 3) := by decide +kernel
theorem dX8_next_82 : decode cX8_next 82 = .ok (.iaload, 1) := by decide +kernel
theorem dX8_next_83 : decode cX8_next 83 = .ok (.isub, 1) := by decide +kernel
theorem dX8_next_84 : decode cX8_next 84 = .ok (.istore 5, 2) := by decide +kernel
theorem dX8_next_86 : decode cX8_next 86 = .ok (.iload_n 3, 1) := by decide +kernel
theorem dX8_next_87 : decode cX8_next 87 = .ok (.iload 4, 2) := by decide +kernel
theorem dX8_next_89 : decode cX8_next 89 = .ok (.iload_n 2, 1) := by decide +kernel
theorem dX8_next_90 : decode cX8_next 90 = .ok (.if_icmp .eq 23, 3) := by decide +kernel
theorem dX8_next_93 : decode cX8_next 93 = .ok (.iload 5, 2) := by decide +kernel
theorem dX8_next_95 : decode cX8_next 95 = .ok (.ifCond .gt 14, 3) := by decide +kernel
theorem dX8_next_98 : decode cX8_next 98 = .ok (.iload 5, 2) := by decide +kernel
theorem dX8_next_100 : decode cX8_next 100 = .ok (.ifCond .ne 13, 3) := by decide +kernel
theorem dX8_next_103 : decode cX8_next 103 = .ok (.iload 4, 2) := by decide +kernel
theorem dX8_next_105 : decode cX8_next 105 = .ok (.iload_n 2, 1) := by decide +kernel
theorem dX8_next_106 : decode cX8_next 106 = .ok (.if_icmp .ge 7, 3) := by decide +kernel
theorem dX8_next_109 : decode cX8_next 109 = .ok (.iconst 1, 1) := by decide +kernel
theorem dX8_next_110 : decode cX8_next 110 = .ok (.goto 4, 3) := by decide +kernel
theorem dX8_next_113 : decode cX8_next 113 = .ok (.iconst 0, 1) := by decide +kernel
theorem dX8_next_114 : decode cX8_next 114 = .ok (.iadd, 1) := by decide +kernel
theorem dX8_next_115 : decode cX8_next 115 = .ok (.istore_n 3, 1) := by decide +kernel
theorem dX8_next_116 : decode cX8_next 116 = .ok (.iinc 4 1, 3) := by decide +kernel
theorem dX8_next_119 : decode cX8_next 119 = .ok (.goto (-102), 3) := by decide +kernel
theorem dX8_next_122 : decode cX8_next 122 = .ok (.iload_n 3, 1) := by decide +kernel
theorem dX8_next_123 : decode cX8_next 123 = .ok (.iload_n 1, 1) := by decide +kernel
theorem dX8_next_124 : decode cX8_next 124 = .ok (.if_icmp .ne 5, 3) := by decide +kernel
theorem dX8_next_127 : decode cX8_next 127 = .ok (.iload_n 2, 1) := by decide +kernel
theorem dX8_next_128 : decode cX8_next 128 = .ok (.ireturn, 1) := by decide +kernel
theorem dX8_next_129 : decode cX8_next 129 = .ok (.iinc 2 1, 3) := by decide +kernel
theorem dX8_next_132 : decode cX8_next 132 = .ok (.goto (-130), 3) := by decide +kernel
theorem dX8_next_135 : decode cX8_next 135 = .ok (.iconst (-1), 1) := by decide +kernel
theorem dX8_next_136 : decode cX8_next 136 = .ok (.ireturn, 1) := by decide +kernel
set_option maxRecDepth 20000 in
theorem ggX8_all_X8_at : GoodIn wsX8_all wsX8_at := goodIn_r _ [5] (by decide +kernel) (by decide +kernel)
set_option maxRecDepth 20000 in
theorem gX8_all_X8_at : GoodIn wsX8_all (va_wsS RX8 50 yX8_at wsX8_at) := goodIn_app (goodIn_of _ (by decide +kernel)) ggX8_all_X8_at
theorem dX8_all_0 : decode cX8_all 0 = .ok (.iconst 0, 1) := by decide +kernel
theorem dX8_all_1 : decode cX8_all 1 = .ok (.istore_n 2, 1) := by decide +kernel
theorem dX8_all_2 : decode cX8_all 2 = .ok (.iconst 0, 1) := by decide +kernel
theorem dX8_all_3 : decode cX8_all 3 = .ok (.istore_n 3, 1) := by decide +kernel
theorem dX8_all_4 : decode cX8_all 4 = .ok (.iload_n 3, 1) := by decide +kernel
theorem dX8_all_5 : decode cX8_all 5 = .ok (.iconst 5, 1) := by decide +kernel
theorem dX8_all_6 : decode cX8_all 6 = .ok (.if_icmp .ge 22, 3) := by decide +kernel
theorem dX8_all_9 : decode cX8_all 9 = .ok (.iload_n 2, 1) := by decide +kernel
theorem dX8_all_10 : decode cX8_all 10 = .ok (.aload_n 0, 1) := by decide +kernel
theorem dX8_all_11 : decode cX8_all 11 = .ok (.getfield 13, 3) := by decide +kernel
theorem dX8_all_14 : decode cX8_all 14 = .ok (.iload_n 3, 1) := by decide +kernel
theorem dX8_all_15 : decode cX8_all 15 = .ok (.iload_n 1, 1) := by decide +kernel
theorem dX8_all_16 : decode cX8_all 16 = .ok (.invokestatic 50, 3) := by decide +kernel
theorem dX8_all_19 : decode cX8_all 19 = .ok (.iaload, 1) := by decide +kernel
theorem dX8_all_20 : decode cX8_all 20 = .ok (.iadd, 1) := by decide +kernel
theorem dX8_all_21 : decode cX8_all 21 = .ok (.istore_n 2, 1) := by decide +kernel
theorem dX8_all_22 : decode cX8_all 22 = .ok (.iinc 3 1, 3) := by decide +kernel
theorem dX8_all_25 : decode cX8_all 25 = .ok (.goto (-21), 3) := by decide +kernel
theorem dX8_all_28 : decode cX8_all 28 = .ok (.iload_n 2, 1) := by decide +kernel
theorem dX8_all_29 : decode cX8_all 29 = .ok (.ireturn, 1) := by decide +kernel
set_option maxRecDepth 20000 in
theorem ggX8_isCounted_X8_all : GoodIn wsX8_isCounted wsX8_all := goodIn_r _ [6, 1, 7, 8, 5, 9, 10, 11, 12, 13, 14, 15, 16, 17, 18, 19, 20, 21, 22, 23, 24, 25, 26, 27, 28, 29, 30, 31, 32, 33, 34, 35, 36] (by decide +kernel) (by decide +kernel)
set_option maxRecDepth 20000 in
theorem gX8_isCounted_X8_all : GoodIn wsX8_isCounted (wsV RX8 167 RX8 yX8_all wsX8_all) := goodIn_app (goodIn_of _ (by decide +kernel)) ggX8_isCounted_X8_all
theorem dX8_isCounted_0 : decode cX8_isCounted 0 = .ok (.bipush 50, 2) := by decide +kernel
theorem dX8_isCounted_2 : decode cX8_isCounted 2 = .ok (.aload_n 0, 1) := by decide +kernel
theorem dX8_isCounted_3 : decode cX8_isCounted 3 = .ok (.getfield 13, 3) := by decide +kernel
theorem dX8_isCounted_6 : decode cX8_isCounted 6 = .ok (.iconst 2, 1) := by decide +kernel
theorem dX8_isCounted_7 : decode cX8_isCounted 7 = .ok (.iaload, 1) := by decide +kernel
theorem dX8_isCounted_8 : decode cX8_isCounted 8 = .ok (.iadd, 1) := by decide +kernel
theorem dX8_isCounted_9 : decode cX8_isCounted 9 = .ok (.aload_n 0, 1) := by decide +kernel
theorem dX8_isCounted_10 : decode cX8_isCounted 10 = .ok (.iconst 0, 1) := by decide +kernel
theorem dX8_isCounted_11 : decode cX8_isCounted 11 = .ok (.invokevirtual 167, 3) := by decide +kernel
theorem dX8_isCounted_14 : decode cX8_isCounted 14 = .ok (.aload_n 0, 1) := by decide +kernel
theorem dX8_isCounted_15 : decode cX8_isCounted 15 = .ok (.getfield 13, 3) := by decide +kernel
theorem dX8_isCounted_18 : decode cX8_isCounted 18 = .ok (.iconst 3, 1) := by decide +kernel
theorem dX8_isCounted_19 : decode cX8_isCounted 19 = .ok (.iaload, 1) := by decide +kernel
theorem dX8_isCounted_20 : decode cX8_isCounted 20 = .ok (.iadd, 1) := by decide +kernel
theorem dX8_isCounted_21 : decode cX8_isCounted 21 = .ok (.aload_n 0, 1) := by decide +kernel
theorem dX8_isCounted_22 : decode cX8_isCounted 22 = .ok (.getfield 13, 3) := by decide +kernel
theorem dX8_isCounted_25 : decode cX8_isCounted 25 = .ok (.iconst 4, 1) := by decide +kernel
theorem dX8_isCounted_26 : decode cX8_isCounted 26 = .ok (.iaload, 1) := by decide +kernel
theorem dX8_isCounted_27 : decode cX8_isCounted 27 = .ok (.iadd, 1) := by decide +kernel
theorem dX8_isCounted_28 : decode cX8_isCounted 28 = .ok (.iconst 4, 1) := by decide +kernel
theorem dX8_isCounted_29 : decode cX8_isCounted 29 = .ok (.aload_n 0, 1) := by decide +kernel
theorem dX8_isCounted_30 : decode cX8_isCounted 30 = .ok (.getfield 13, 3) := by decide +kernel
theorem dX8_isCounted_33 : decode cX8_isCounted 33 = .ok (.bipush 9, 2) := by decide +kernel
theorem dX8_isCounted_35 : decode cX8_isCounted 35 = .ok (.iaload, 1) := by decide +kernel
theorem dX8_isCounted_36 : decode cX8_isCounted 36 = .ok (.imul, 1) := by decide +kernel
theorem dX8_isCounted_37 : decode cX8_isCounted 37 = .ok (.iadd, 1) := by decide +kernel
theorem dX8_isCounted_38 : decode cX8_isCounted 38 = .ok (.if_icmp .ne 7, 3) := by decide +kernel
theorem dX8_isCounted_41 : decode cX8_isCounted 41 = .ok (.iconst 1, 1) := by decide +kernel
theorem dX8_isCounted_42 : decode cX8_isCounted 42 = .ok (.goto 4, 3) := by decide +kernel
theorem dX8_isCounted_45 : decode cX8_isCounted 45 = .ok (.iconst 0, 1) := by decide +kernel
theorem dX8_isCounted_46 : decode cX8_isCounted 46 = .ok (.ireturn, 1) := by decide +kernel
set_option maxRecDepth 20000 in
theorem ggX8_meanSun_X8_all : GoodIn wsX8_meanSun wsX8_all := goodIn_r _ [6, 7, 8, 9, 5, 10, 11, 12, 13, 14, 15, 16, 17, 18, 19, 20, 21, 22, 23, 24, 25, 26, 27, 28, 29, 30, 31, 32, 33, 34, 35, 36, 37] (by decide +kernel) (by decide +kernel)
set_option maxRecDepth 20000 in
theorem gX8_meanSun_X8_all : GoodIn wsX8_meanSun (wsV RX8 167 RX8 yX8_all wsX8_all) := goodIn_app (goodIn_of _ (by decide +kernel)) ggX8_meanSun_X8_all
theorem dX8_meanSun_0 : decode cX8_meanSun 0 = .ok (.aload_n 0, 1) := by decide +kernel
theorem dX8_meanSun_1 : decode cX8_meanSun 1 = .ok (.iconst 0, 1) := by decide +kernel
theorem dX8_meanSun_2 : decode cX8_meanSun 2 = .ok (.invokevirtual 167, 3) := by decide +kernel
theorem dX8_meanSun_5 : decode cX8_meanSun 5 = .ok (.i2d, 1) := by decide +kernel
theorem dX8_meanSun_6 : decode cX8_meanSun 6 = .ok (.ldc2_w 170, 3) := by decide +kernel
theorem dX8_meanSun_9 : decode cX8_meanSun 9 = .ok (.ddiv, 1) := by decide +kernel
theorem dX8_meanSun_10 : decode cX8_meanSun 10 = .ok (.dreturn, 1) := by decide +kernel
theorem dX8_paidShare_0 : decode cX8_paidShare 0 = .ok (.aload_n 0, 1) := by decide +kernel
theorem dX8_paidShare_1 : decode cX8_paidShare 1 = .ok (.getfield 13, 3) := by decide +kernel
theorem dX8_paidShare_4 : decode cX8_paidShare 4 = .ok (.bipush 7, 2) := by decide +kernel
theorem dX8_paidShare_6 : decode cX8_paidShare 6 = .ok (.iaload, 1) := by decide +kernel
theorem dX8_paidShare_7 : decode cX8_paidShare 7 = .ok (.ifCond .ne 7, 3) := by decide +kernel
theorem dX8_paidShare_10 : decode cX8_paidShare 10 = .ok (.fconst 0, 1) := by decide +kernel
theorem dX8_paidShare_11 : decode cX8_paidShare 11 = .ok (.goto 20, 3) := by decide +kernel
theorem dX8_paidShare_14 : decode cX8_paidShare 14 = .ok (.aload_n 0, 1) := by decide +kernel
theorem dX8_paidShare_15 : decode cX8_paidShare 15 = .ok (.getfield 13, 3) := by decide +kernel
theorem dX8_paidShare_18 : decode cX8_paidShare 18 = .ok (.bipush 8, 2) := by decide +kernel
theorem dX8_paidShare_20 : decode cX8_paidShare 20 = .ok (.iaload, 1) := by decide +kernel
theorem dX8_paidShare_21 : decode cX8_paidShare 21 = .ok (.i2f, 1) := by decide +kernel
theorem dX8_paidShare_22 : decode cX8_paidShare 22 = .ok (.aload_n 0, 1) := by decide +kernel
theorem dX8_paidShare_23 : decode cX8_paidShare 23 = .ok (.getfield 13, 3) := by decide +kernel
theorem dX8_paidShare_26 : decode cX8_paidShare 26 = .ok (.bipush 7, 2) := by decide +kernel
theorem dX8_paidShare_28 : decode cX8_paidShare 28 = .ok (.iaload, 1) := by decide +kernel
theorem dX8_paidShare_29 : decode cX8_paidShare 29 = .ok (.i2f, 1) := by decide +kernel
theorem dX8_paidShare_30 : decode cX8_paidShare 30 = .ok (.fdiv, 1) := by decide +kernel
theorem dX8_paidShare_31 : decode cX8_paidShare 31 = .ok (.freturn, 1) := by decide +kernel
set_option maxRecDepth 20000 in
theorem ggX8_account_X8_allTreaties : GoodIn wsX8_account wsX8_allTreaties := goodIn_r _ [8, 9, 10, 11, 7, 12, 1, 20, 21, 22, 23, 24, 25, 26, 27, 28, 29, 30, 31, 32, 33, 34, 35, 36, 37, 38, 39, 40, 41, 42, 43, 44, 45, 46] (by decide +kernel) (by decide +kernel)
set_option maxRecDepth 20000 in
theorem gX8_account_X8_allTreaties : GoodIn wsX8_account (wsV RX8 91 RX8 yX8_allTreaties wsX8_allTreaties) := goodIn_app (goodIn_of _ (by decide +kernel)) ggX8_account_X8_allTreaties
set_option maxRecDepth 20000 in
theorem ggX8_account_X8_all : GoodIn wsX8_account wsX8_all := goodIn_r _ [16, 1, 17, 18, 7, 19, 20, 21, 22, 23, 24, 25, 26, 27, 28, 29, 30, 31, 32, 33, 34, 35, 36, 37, 38, 39, 40, 41, 42, 43, 44, 45, 46] (by decide +kernel) (by decide +kernel)
set_option maxRecDepth 20000 in
theorem gX8_account_X8_all : GoodIn wsX8_account (wsV RX8 167 RX8 yX8_all wsX8_all) := goodIn_app (goodIn_of _ (by decide +kernel)) ggX8_account_X8_all
theorem dX8_account_0 : decode cX8_account 0 = .ok (.iload_n 1, 1) := by decide +kernel
theorem dX8_account_1 : decode cX8_account 1 = .ok (.tableswitch 134 0 15 #[79, 79, 86, 91, 97, 103, 109, 115, 115, 115, 115, 115, 115, 115, 124, 129], 79) := by decide +kernel
theorem dX8_account_80 : decode cX8_account 80 = .ok (.aload_n 0, 1) := by decide +kernel
theorem dX8_account_81 : decode cX8_account 81 = .ok (.getfield 13, 3) := by decide +kernel
theorem dX8_account_84 : decode cX8_account 84 = .ok (.iload_n 1, 1) := by decide +kernel
theorem dX8_account_85 : decode cX8_account 85 = .ok (.iaload, 1) := by decide +kernel
theorem dX8_account_86 : decode cX8_account 86 = .ok (.ireturn, 1) := by decide +kernel
theorem dX8_account_87 : decode cX8_account 87 = .ok (.aload_n 0, 1) := by decide +kernel
theorem dX8_account_88 : decode cX8_account 88 = .ok (.invokevirtual 91, 3) := by decide +kernel
theorem dX8_account_91 : decode cX8_account 91 = .ok (.ireturn, 1) := by decide +kernel
theorem dX8_account_92 : decode cX8_account 92 = .ok (.aload_n 0, 1) := by decide +kernel
theorem dX8_account_93 : decode cX8_account 93 = .ok (.iconst 0, 1) := by decide +kernel
theorem dX8_account_94 : decode cX8_account 94 = .ok (.invokevirtual 167, 3) := by decide +kernel
theorem dX8_account_97 : decode cX8_account 97 = .ok (.ireturn, 1) := by decide +kernel
theorem dX8_account_98 : decode cX8_account 98 = .ok (.aload_n 0, 1) := by decide +kernel
theorem dX8_account_99 : decode cX8_account 99 = .ok (.iconst 1, 1) := by decide +kernel
theorem dX8_account_100 : decode cX8_account 100 = .ok (.invokevirtual 167, 3) := by decide +kernel
theorem dX8_account_103 : decode cX8_account 103 = .ok (.ireturn, 1) := by decide +kernel
theorem dX8_account_104 : decode cX8_account 104 = .ok (.aload_n 0, 1) := by decide +kernel
theorem dX8_account_105 : decode cX8_account 105 = .ok (.iconst 3, 1) := by decide +kernel
theorem dX8_account_106 : decode cX8_account 106 = .ok (.invokevirtual 167, 3) := by decide +kernel
theorem dX8_account_109 : decode cX8_account 109 = .ok (.ireturn, 1) := by decide +kernel
theorem dX8_account_110 : decode cX8_account 110 = .ok (.aload_n 0, 1) := by decide +kernel
theorem dX8_account_111 : decode cX8_account 111 = .ok (.iconst 2, 1) := by decide +kernel
theorem dX8_account_112 : decode cX8_account 112 = .ok (.invokevirtual 167, 3) := by decide +kernel
theorem dX8_account_115 : decode cX8_account 115 = .ok (.ireturn, 1) := by decide +kernel
theorem dX8_account_116 : decode cX8_account 116 = .ok (.aload_n 0, 1) := by decide +kernel
theorem dX8_account_117 : decode cX8_account 117 = .ok (.getfield 13, 3) := by decide +kernel
theorem dX8_account_120 : decode cX8_account 120 = .ok (.iload_n 1, 1) := by decide +kernel
theorem dX8_account_121 : decode cX8_account 121 = .ok (.iconst 5, 1) := by decide +kernel
theorem dX8_account_122 : decode cX8_account 122 = .ok (.isub, 1) := by decide +kernel
theorem dX8_account_123 : decode cX8_account 123 = .ok (.iaload, 1) := by decide +kernel
theorem dX8_account_124 : decode cX8_account 124 = .ok (.ireturn, 1) := by decide +kernel
theorem dX8_account_125 : decode cX8_account 125 = .ok (.aload_n 0, 1) := by decide +kernel
theorem dX8_account_126 : decode cX8_account 126 = .ok (.getfield 172, 3) := by decide +kernel
theorem dX8_account_129 : decode cX8_account 129 = .ok (.ireturn, 1) := by decide +kernel
theorem dX8_account_130 : decode cX8_account 130 = .ok (.aload_n 0, 1) := by decide +kernel
theorem dX8_account_131 : decode cX8_account 131 = .ok (.getfield 74, 3) := by decide +kernel
theorem dX8_account_134 : decode cX8_account 134 = .ok (.ireturn, 1) := by decide +kernel
theorem dX8_account_135 : decode cX8_account 135 = .ok (.bipush (-2), 2) := by decide +kernel
theorem dX8_account_137 : decode cX8_account 137 = .ok (.ireturn, 1) := by decide +kernel
theorem dX8_writes_0 : decode cX8_writes 0 = .ok (.aload_n 0, 1) := by decide +kernel
theorem dX8_writes_1 : decode cX8_writes 1 = .ok (.getfield 38, 3) := by decide +kernel
theorem dX8_writes_4 : decode cX8_writes 4 = .ok (.aload_n 0, 1) := by decide +kernel
theorem dX8_writes_5 : decode cX8_writes 5 = .ok (.getfield 175, 3) := by decide +kernel
theorem dX8_writes_8 : decode cX8_writes 8 = .ok (.iload_n 1, 1) := by decide +kernel
theorem dX8_writes_9 : decode cX8_writes 9 = .ok (.iastore, 1) := by decide +kernel
theorem dX8_writes_10 : decode cX8_writes 10 = .ok (.aload_n 0, 1) := by decide +kernel
theorem dX8_writes_11 : decode cX8_writes 11 = .ok (.dup, 1) := by decide +kernel
theorem dX8_writes_12 : decode cX8_writes 12 = .ok (.getfield 175, 3) := by decide +kernel
theorem dX8_writes_15 : decode cX8_writes 15 = .ok (.iconst 1, 1) := by decide +kernel
theorem dX8_writes_16 : decode cX8_writes 16 = .ok (.iadd, 1) := by decide +kernel
theorem dX8_writes_17 : decode cX8_writes 17 = .ok (.putfield 175, 3) := by decide +kernel
theorem dX8_writes_20 : decode cX8_writes 20 = .ok (.return_, 1) := by decide +kernel
set_option maxRecDepth 20000 in
theorem ggX8_writesNumber_X8_writes : GoodIn wsX8_writesNumber wsX8_writes := goodIn_r _ [5, 6, 7, 8, 9, 10, 11, 12, 13, 14, 15, 16, 17, 18, 19, 20, 21, 22, 23, 24, 25, 26, 27, 28, 29, 30, 31, 32, 33, 34] (by decide +kernel) (by decide +kernel)
set_option maxRecDepth 20000 in
theorem gX8_writesNumber_X8_writes : GoodIn wsX8_writesNumber (wsV RX8 178 RX8 yX8_writes wsX8_writes) := goodIn_app (goodIn_of _ (by decide +kernel)) ggX8_writesNumber_X8_writes
theorem dX8_writesNumber_0 : decode cX8_writesNumber 0 = .ok (.iconst 1, 1) := by decide +kernel
theorem dX8_writesNumber_1 : decode cX8_writesNumber 1 = .ok (.istore_n 2, 1) := by decide +kernel
theorem dX8_writesNumber_2 : decode cX8_writesNumber 2 = .ok (.iload_n 1, 1) := by decide +kernel
theorem dX8_writesNumber_3 : decode cX8_writesNumber 3 = .ok (.iload_n 2, 1) := by decide +kernel
theorem dX8_writesNumber_4 : decode cX8_writesNumber 4 = .ok (.idiv, 1) := by decide +kernel
theorem dX8_writesNumber_5 : decode cX8_writesNumber 5 = .ok (.bipush 10, 2) := by decide +kernel
theorem dX8_writesNumber_7 : decode cX8_writesNumber 7 = .ok (.if_icmp .lt 11, 3) := by decide +kernel
theorem dX8_writesNumber_10 : decode cX8_writesNumber 10 = .ok (.iload_n 2, 1) := by decide +kernel
theorem dX8_writesNumber_11 : decode cX8_writesNumber 11 = .ok (.bipush 10, 2) := by decide +kernel
theorem dX8_writesNumber_13 : decode cX8_writesNumber 13 = .ok (.imul, 1) := by decide +kernel
theorem dX8_writesNumber_14 : decode cX8_writesNumber 14 = .ok (.istore_n 2, 1) := by decide +kernel
theorem dX8_writesNumber_15 : decode cX8_writesNumber 15 = .ok (.goto (-13), 3) := by decide +kernel
theorem dX8_writesNumber_18 : decode cX8_writesNumber 18 = .ok (.iload_n 2, 1) := by decide +kernel
theorem dX8_writesNumber_19 : decode cX8_writesNumber 19 = .ok (.ifCond .le 24, 3) := by decide +kernel
theorem dX8_writesNumber_22 : decode cX8_writesNumber 22 = .ok (.aload_n 0, 1) := by decide +kernel
theorem dX8_writesNumber_23 : decode cX8_writesNumber 23 = .ok (.bipush 48, 2) := by decide +kernel
theorem dX8_writesNumber_25 : decode cX8_writesNumber 25 = .ok (.iload_n 1, 1) := by decide +kernel
theorem dX8_writesNumber_26 : decode cX8_writesNumber 26 = .ok (.iload_n 2, 1) := by decide +kernel
theorem dX8_writesNumber_27 : decode cX8_writesNumber 27 = .ok (.idiv, 1) := by decide +kernel
theorem dX8_writesNumber_28 : decode cX8_writesNumber 28 = .ok (.bipush 10, 2) := by decide +kernel
theorem dX8_writesNumber_30 : decode cX8_writesNumber 30 = .ok (.irem, 1) := by decide +kernel
theorem dX8_writesNumber_31 : decode cX8_writesNumber 31 = .ok (.iadd, 1) := by decide +kernel
theorem dX8_writesNumber_32 : decode cX8_writesNumber 32 = .ok (.invokevirtual 178, 3) := by decide +kernel
theorem dX8_writesNumber_35 : decode cX8_writesNumber 35 = .ok (.iload_n 2, 1) := by decide +kernel
theorem dX8_writesNumber_36 : decode cX8_writesNumber 36 = .ok (.bipush 10, 2) := by decide +kernel
theorem dX8_writesNumber_38 : decode cX8_writesNumber 38 = .ok (.idiv, 1) := by decide +kernel
theorem dX8_writesNumber_39 : decode cX8_writesNumber 39 = .ok (.istore_n 2, 1) := by decide +kernel
theorem dX8_writesNumber_40 : decode cX8_writesNumber 40 = .ok (.goto (-22), 3) := by decide +kernel
theorem dX8_writesNumber_43 : decode cX8_writesNumber 43 = .ok (.return_, 1) := by decide +kernel
set_option maxRecDepth 20000 in
theorem ggX8_write_X8_isTown : GoodIn wsX8_write wsX8_isTown := goodIn_r _ [6, 7, 8, 5, 9] (by decide +kernel) (by decide +kernel)
set_option maxRecDepth 20000 in
theorem gX8_write_X8_isTown : GoodIn wsX8_write (va_wsS RX8 84 yX8_isTown wsX8_isTown) := goodIn_app (goodIn_of _ (by decide +kernel)) ggX8_write_X8_isTown
set_option maxRecDepth 20000 in
theorem ggX8_write_X8_writesNumber : GoodIn wsX8_write wsX8_writesNumber := goodIn_r _ [13, 14, 15, 16, 5, 17, 18, 1, 22, 23, 24, 25, 26, 27, 28, 29, 30, 31, 32, 33, 34, 35, 36, 37, 38, 39, 40, 41, 42, 43, 44, 45, 46, 47, 48] (by decide +kernel) (by decide +kernel)
set_option maxRecDepth 20000 in
theorem gX8_write_X8_writesNumber : GoodIn wsX8_write (wsV RX8 181 RX8 yX8_writesNumber wsX8_writesNumber) := goodIn_app (goodIn_of _ (by decide +kernel)) ggX8_write_X8_writesNumber
set_option maxRecDepth 20000 in
theorem ggX8_write_X8_writes : GoodIn wsX8_write wsX8_writes := goodIn_r _ [17, 18, 1, 22, 23, 24, 25, 26, 27, 28, 29, 30, 31, 32, 33, 34, 35, 36, 37, 38, 39, 40, 41, 42, 43, 44, 45, 46, 47, 48] (by decide +kernel) (by decide +kernel)
set_option maxRecDepth 20000 in
theorem gX8_write_X8_writes : GoodIn wsX8_write (wsV RX8 178 RX8 yX8_writes wsX8_writes) := goodIn_app (goodIn_of _ (by decide +kernel)) ggX8_write_X8_writes
set_option maxRecDepth 20000 in
theorem ggX8_write_X8_at : GoodIn wsX8_write wsX8_at := goodIn_r _ [21] (by decide +kernel) (by decide +kernel)
set_option maxRecDepth 20000 in
theorem gX8_write_X8_at : GoodIn wsX8_write (va_wsS RX8 50 yX8_at wsX8_at) := goodIn_app (goodIn_of _ (by decide +kernel)) ggX8_write_X8_at
theorem dX8_write_0 : decode cX8_write 0 = .ok (.iload_n 1, 1) := by decide +kernel
theorem dX8_write_1 : decode cX8_write 1 = .ok (.invokestatic 84, 3) := by decide +kernel
theorem dX8_write_4 : decode cX8_write 4 = .ok (.ifCond .ne 5, 3) := by decide +kernel
theorem dX8_write_7 : decode cX8_write 7 = .ok (.iconst (-1), 1) := by decide +kernel
theorem dX8_write_8 : decode cX8_write 8 = .ok (.ireturn, 1) := by decide +kernel
theorem dX8_write_9 : decode cX8_write 9 = .ok (.aload_n 0, 1) := by decide +kernel
theorem dX8_write_10 : decode cX8_write 10 = .ok (.iconst 0, 1) := by decide +kernel
theorem dX8_write_11 : decode cX8_write 11 = .ok (.putfield 175, 3) := by decide +kernel
theorem dX8_write_14 : decode cX8_write 14 = .ok (.aload_n 0, 1) := by decide +kernel
theorem dX8_write_15 : decode cX8_write 15 = .ok (.iload_n 1, 1) := by decide +kernel
theorem dX8_write_16 : decode cX8_write 16 = .ok (.invokevirtual 181, 3) := by decide +kernel
theorem dX8_write_19 : decode cX8_write 19 = .ok (.aload_n 0, 1) := by decide +kernel
theorem dX8_write_20 : decode cX8_write 20 = .ok (.bipush 58, 2) := by decide +kernel
theorem dX8_write_22 : decode cX8_write 22 = .ok (.invokevirtual 178, 3) := by decide +kernel
theorem dX8_write_25 : decode cX8_write 25 = .ok (.aload_n 0, 1) := by decide +kernel
theorem dX8_write_26 : decode cX8_write 26 = .ok (.aload_n 0, 1) := by decide +kernel
theorem dX8_write_27 : decode cX8_write 27 = .ok (.getfield 13, 3) := by decide +kernel
theorem dX8_write_30 : decode cX8_write 30 = .ok (.iload_n 1, 1) := by decide +kernel
theorem dX8_write_31 : decode cX8_write 31 = .ok (.iconst 0, 1) := by decide +kernel
theorem dX8_write_32 : decode cX8_write 32 = .ok (.invokestatic 50, 3) := by decide +kernel
theorem dX8_write_35 : decode cX8_write 35 = .ok (.iaload, 1) := by decide +kernel
theorem dX8_write_36 : decode cX8_write 36 = .ok (.invokevirtual 181, 3) := by decide +kernel
theorem dX8_write_39 : decode cX8_write 39 = .ok (.aload_n 0, 1) := by decide +kernel
theorem dX8_write_40 : decode cX8_write 40 = .ok (.bipush 115, 2) := by decide +kernel
theorem dX8_write_42 : decode cX8_write 42 = .ok (.invokevirtual 178, 3) := by decide +kernel
theorem dX8_write_45 : decode cX8_write 45 = .ok (.aload_n 0, 1) := by decide +kernel
theorem dX8_write_46 : decode cX8_write 46 = .ok (.aload_n 0, 1) := by decide +kernel
theorem dX8_write_47 : decode cX8_write 47 = .ok (.getfield 13, 3) := by decide +kernel
theorem dX8_write_50 : decode cX8_write 50 = .ok (.iload_n 1, 1) := by decide +kernel
theorem dX8_write_51 : decode cX8_write 51 = .ok (.iconst 1, 1) := by decide +kernel
theorem dX8_write_52 : decode cX8_write 52 = .ok (.invokestatic 50, 3) := by decide +kernel
theorem dX8_write_55 : decode cX8_write 55 = .ok (.iaload, 1) := by decide +kernel
theorem dX8_write_56 : decode cX8_write 56 = .ok (.invokevirtual 181, 3) := by decide +kernel
theorem dX8_write_59 : decode cX8_write 59 = .ok (.aload_n 0, 1) := by decide +kernel
theorem dX8_write_60 : decode cX8_write 60 = .ok (.bipush 114, 2) := by decide +kernel
theorem dX8_write_62 : decode cX8_write 62 = .ok (.invokevirtual 178, 3) := by decide +kernel
theorem dX8_write_65 : decode cX8_write 65 = .ok (.aload_n 0, 1) := by decide +kernel
theorem dX8_write_66 : decode cX8_write 66 = .ok (.aload_n 0, 1) := by decide +kernel
theorem dX8_write_67 : decode cX8_write 67 = .ok (.getfield 13, 3) := by decide +kernel
theorem dX8_write_70 : decode cX8_write 70 = .ok (.iload_n 1, 1) := by decide +kernel
theorem dX8_write_71 : decode cX8_write 71 = .ok (.iconst 2, 1) := by decide +kernel
theorem dX8_write_72 : decode cX8_write 72 = .ok (.invokestatic 50, 3) := by decide +kernel
theorem dX8_write_75 : decode cX8_write 75 = .ok (.iaload, 1) := by decide +kernel
theorem dX8_write_76 : decode cX8_write 76 = .ok (.invokevirtual 181, 3) := by decide +kernel
theorem dX8_write_79 : decode cX8_write 79 = .ok (.aload_n 0, 1) := by decide +kernel
theorem dX8_write_80 : decode cX8_write 80 = .ok (.bipush 117, 2) := by decide +kernel
theorem dX8_write_82 : decode cX8_write 82 = .ok (.invokevirtual 178, 3) := by decide +kernel
theorem dX8_write_85 : decode cX8_write 85 = .ok (.aload_n 0, 1) := by decide +kernel
theorem dX8_write_86 : decode cX8_write 86 = .ok (.getfield 13, 3) := by decide +kernel
theorem dX8_write_89 : decode cX8_write 89 = .ok (.iload_n 1, 1) := by decide +kernel
theorem dX8_write_90 : decode cX8_write 90 = .ok (.iconst 3, 1) := by decide +kernel
theorem dX8_write_91 : decode cX8_write 91 = .ok (.invokestatic 50, 3) := by decide +kernel
theorem dX8_write_94 : decode cX8_write 94 = .ok (.iaload, 1) := by decide +kernel
theorem dX8_write_95 : decode cX8_write 95 = .ok (.ifCond .ne 8, 3) := by decide +kernel
theorem dX8_write_98 : decode cX8_write 98 = .ok (.aload_n 0, 1) := by decide +kernel
theorem dX8_write_99 : decode cX8_write 99 = .ok (.getfield 175, 3) := by decide +kernel
theorem dX8_write_102 : decode cX8_write 102 = .ok (.ireturn, 1) := by decide +kernel
theorem dX8_write_103 : decode cX8_write 103 = .ok (.aload_n 0, 1) := by decide +kernel
theorem dX8_write_104 : decode cX8_write 104 = .ok (.aload_n 0, 1) := by decide +kernel
theorem dX8_write_105 : decode cX8_write 105 = .ok (.getfield 13, 3) := by decide +kernel
theorem dX8_write_108 : decode cX8_write 108 = .ok (.iload_n 1, 1) := by decide +kernel
theorem dX8_write_109 : decode cX8_write 109 = .ok (.iconst 3, 1) := by decide +kernel
theorem dX8_write_110 : decode cX8_write 110 = .ok (.invokestatic 50, 3) := by decide +kernel
theorem dX8_write_113 : decode cX8_write 113 = .ok (.iaload, 1) := by decide +kernel
theorem dX8_write_114 : decode cX8_write 114 = .ok (.invokevirtual 181, 3) := by decide +kernel
theorem dX8_write_117 : decode cX8_write 117 = .ok (.aload_n 0, 1) := by decide +kernel
theorem dX8_write_118 : decode cX8_write 118 = .ok (.bipush 97, 2) := by decide +kernel
theorem dX8_write_120 : decode cX8_write 120 = .ok (.invokevirtual 178, 3) := by decide +kernel
theorem dX8_write_123 : decode cX8_write 123 = .ok (.aload_n 0, 1) := by decide +kernel
theorem dX8_write_124 : decode cX8_write 124 = .ok (.getfield 175, 3) := by decide +kernel
theorem dX8_write_127 : decode cX8_write 127 = .ok (.ireturn, 1) := by decide +kernel
set_option maxRecDepth 20000 in
theorem ggX8_writeCredits_X8_writes : GoodIn wsX8_writeCredits wsX8_writes := goodIn_r _ [7, 8, 1, 16, 17, 18, 19, 20, 21, 22, 23, 24, 25, 26, 27, 28, 29, 30, 31, 32, 33, 34, 35, 36, 37, 38, 39, 40, 41, 42] (by decide +kernel) (by decide +kernel)
set_option maxRecDepth 20000 in
theorem gX8_writeCredits_X8_writes : GoodIn wsX8_writeCredits (wsV RX8 178 RX8 yX8_writes wsX8_writes) := goodIn_app (goodIn_of _ (by decide +kernel)) ggX8_writeCredits_X8_writes
set_option maxRecDepth 20000 in
theorem ggX8_writeCredits_X8_in : GoodIn wsX8_writeCredits wsX8_in := goodIn_r _ [11] (by decide +kernel) (by decide +kernel)
set_option maxRecDepth 20000 in
theorem gX8_writeCredits_X8_in : GoodIn wsX8_writeCredits (va_wsS RX8 118 yX8_in wsX8_in) := goodIn_app (goodIn_of _ (by decide +kernel)) ggX8_writeCredits_X8_in
set_option maxRecDepth 20000 in
theorem ggX8_writeCredits_X8_writesNumber : GoodIn wsX8_writeCredits wsX8_writesNumber := goodIn_r _ [15, 3, 4, 5, 6, 7, 8, 1, 16, 17, 18, 19, 20, 21, 22, 23, 24, 25, 26, 27, 28, 29, 30, 31, 32, 33, 34, 35, 36, 37, 38, 39, 40, 41, 42] (by decide +kernel) (by decide +kernel)
set_option maxRecDepth 20000 in
theorem gX8_writeCredits_X8_writesNumber : GoodIn wsX8_writeCredits (wsV RX8 181 RX8 yX8_writesNumber wsX8_writesNumber) := goodIn_app (goodIn_of _ (by decide +kernel)) ggX8_writeCredits_X8_writesNumber
theorem dX8_writeCredits_0 : decode cX8_writeCredits 0 = .ok (.aload_n 0, 1) := by decide +kernel
theorem dX8_writeCredits_1 : decode cX8_writeCredits 1 = .ok (.iconst 0, 1) := by decide +kernel
theorem dX8_writeCredits_2 : decode cX8_writeCredits 2 = .ok (.putfield 175, 3) := by decide +kernel
theorem dX8_writeCredits_5 : decode cX8_writeCredits 5 = .ok (.iconst 0, 1) := by decide +kernel
theorem dX8_writeCredits_6 : decode cX8_writeCredits 6 = .ok (.istore_n 1, 1) := by decide +kernel
theorem dX8_writeCredits_7 : decode cX8_writeCredits 7 = .ok (.iload_n 1, 1) := by decide +kernel
theorem dX8_writeCredits_8 : decode cX8_writeCredits 8 = .ok (.aload_n 0, 1) := by decide +kernel
theorem dX8_writeCredits_9 : decode cX8_writeCredits 9 = .ok (.getfield 13, 3) := by decide +kernel
theorem dX8_writeCredits_12 : decode cX8_writeCredits 12 = .ok (.iconst 1, 1) := by decide +kernel
theorem dX8_writeCredits_13 : decode cX8_writeCredits 13 = .ok (.iaload, 1) := by decide +kernel
theorem dX8_writeCredits_14 : decode cX8_writeCredits 14 = .ok (.if_icmp .ge 73, 3) := by decide +kernel
theorem dX8_writeCredits_17 : decode cX8_writeCredits 17 = .ok (.iload_n 1, 1) := by decide +kernel
theorem dX8_writeCredits_18 : decode cX8_writeCredits 18 = .ok (.ifCond .le 9, 3) := by decide +kernel
theorem dX8_writeCredits_21 : decode cX8_writeCredits 21 = .ok (.aload_n 0, 1) := by decide +kernel
theorem dX8_writeCredits_22 : decode cX8_writeCredits 22 = .ok (.bipush 32, 2) := by decide +kernel
theorem dX8_writeCredits_24 : decode cX8_writeCredits 24 = .ok (.invokevirtual 178, 3) := by decide +kernel
theorem dX8_writeCredits_27 : decode cX8_writeCredits 27 = .ok (.aload_n 0, 1) := by decide +kernel
theorem dX8_writeCredits_28 : decode cX8_writeCredits 28 = .ok (.aload_n 0, 1) := by decide +kernel
theorem dX8_writeCredits_29 : decode cX8_writeCredits 29 = .ok (.getfield 13, 3) := by decide +kernel
theorem dX8_writeCredits_32 : decode cX8_writeCredits 32 = .ok (.iload_n 1, 1) := by decide +kernel
theorem dX8_writeCredits_33 : decode cX8_writeCredits 33 = .ok (.iconst 0, 1) := by decide +kernel
theorem dX8_writeCredits_34 : decode cX8_writeCredits 34 = .ok (.invokestatic 118, 3) := by decide +kernel
theorem dX8_writeCredits_37 : decode cX8_writeCredits 37 = .ok (.iaload, 1) := by decide +kernel
theorem dX8_writeCredits_38 : decode cX8_writeCredits 38 = .ok (.invokevirtual 181, 3) := by decide +kernel
theorem dX8_writeCredits_41 : decode cX8_writeCredits 41 = .ok (.aload_n 0, 1) := by decide +kernel
theorem dX8_writeCredits_42 : decode cX8_writeCredits 42 = .ok (.bipush 42, 2) := by decide +kernel
theorem dX8_writeCredits_44 : decode cX8_writeCredits 44 = .ok (.invokevirtual 178, 3) := by decide +kernel
theorem dX8_writeCredits_47 : decode cX8_writeCredits 47 = .ok (.aload_n 0, 1) := by decide +kernel
theorem dX8_writeCredits_48 : decode cX8_writeCredits 48 = .ok (.aload_n 0, 1) := by decide +kernel
theorem dX8_writeCredits_49 : decode cX8_writeCredits 49 = .ok (.getfield 13, 3) := by decide +kernel
theorem dX8_writeCredits_52 : decode cX8_writeCredits 52 = .ok (.iload_n 1, 1) := by decide +kernel
theorem dX8_writeCredits_53 : decode cX8_writeCredits 53 = .ok (.iconst 1, 1) := by decide +kernel
theorem dX8_writeCredits_54 : decode cX8_writeCredits 54 = .ok (.invokestatic 118, 3) := by decide +kernel
theorem dX8_writeCredits_57 : decode cX8_writeCredits 57 = .ok (.iaload, 1) := by decide +kernel
theorem dX8_writeCredits_58 : decode cX8_writeCredits 58 = .ok (.invokevirtual 181, 3) := by decide +kernel
theorem dX8_writeCredits_61 : decode cX8_writeCredits 61 = .ok (.aload_n 0, 1) := by decide +kernel
theorem dX8_writeCredits_62 : decode cX8_writeCredits 62 = .ok (.bipush 64, 2) := by decide +kernel
theorem dX8_writeCredits_64 : decode cX8_writeCredits 64 = .ok (.invokevirtual 178, 3) := by decide +kernel
theorem dX8_writeCredits_67 : decode cX8_writeCredits 67 = .ok (.aload_n 0, 1) := by decide +kernel
theorem dX8_writeCredits_68 : decode cX8_writeCredits 68 = .ok (.aload_n 0, 1) := by decide +kernel
theorem dX8_writeCredits_69 : decode cX8_writeCredits 69 = .ok (.getfield 13, 3) := by decide +kernel
theorem dX8_writeCredits_72 : decode cX8_writeCredits 72 = .ok (.iload_n 1, 1) := by decide +kernel
theorem dX8_writeCredits_73 : decode cX8_writeCredits 73 = .ok (.iconst 2, 1) := by decide +kernel
theorem dX8_writeCredits_74 : decode cX8_writeCredits 74 = .ok (.invokestatic 118, 3) := by decide +kernel
theorem dX8_writeCredits_77 : decode cX8_writeCredits 77 = .ok (.iaload, 1) := by decide +kernel
theorem dX8_writeCredits_78 : decode cX8_writeCredits 78 = .ok (.invokevirtual 181, 3) := by decide +kernel
theorem dX8_writeCredits_81 : decode cX8_writeCredits 81 = .ok (.iinc 1 1, 3) := by decide +kernel
theorem dX8_writeCredits_84 : decode cX8_writeCredits 84 = .ok (.goto (-77), 3) := by decide +kernel
theorem dX8_writeCredits_87 : decode cX8_writeCredits 87 = .ok (.aload_n 0, 1) := by decide +kernel
theorem dX8_writeCredits_88 : decode cX8_writeCredits 88 = .ok (.getfield 175, 3) := by decide +kernel
theorem dX8_writeCredits_91 : decode cX8_writeCredits 91 = .ok (.ireturn, 1) := by decide +kernel
set_option maxRecDepth 20000 in
theorem ggX8_written_X8_isIn : GoodIn wsX8_written wsX8_isIn := goodIn_r _ [6] (by decide +kernel) (by decide +kernel)
set_option maxRecDepth 20000 in
theorem gX8_written_X8_isIn : GoodIn wsX8_written (va_wsS RX8 77 yX8_isIn wsX8_isIn) := goodIn_app (goodIn_of _ (by decide +kernel)) ggX8_written_X8_isIn
theorem dX8_written_0 : decode cX8_written 0 = .ok (.iload_n 1, 1) := by decide +kernel
theorem dX8_written_1 : decode cX8_written 1 = .ok (.iconst 0, 1) := by decide +kernel
theorem dX8_written_2 : decode cX8_written 2 = .ok (.aload_n 0, 1) := by decide +kernel
theorem dX8_written_3 : decode cX8_written 3 = .ok (.getfield 175, 3) := by decide +kernel
theorem dX8_written_6 : decode cX8_written 6 = .ok (.iconst 1, 1) := by decide +kernel
theorem dX8_written_7 : decode cX8_written 7 = .ok (.isub, 1) := by decide +kernel
theorem dX8_written_8 : decode cX8_written 8 = .ok (.invokestatic 77, 3) := by decide +kernel
theorem dX8_written_11 : decode cX8_written 11 = .ok (.ifCond .eq 12, 3) := by decide +kernel
theorem dX8_written_14 : decode cX8_written 14 = .ok (.aload_n 0, 1) := by decide +kernel
theorem dX8_written_15 : decode cX8_written 15 = .ok (.getfield 38, 3) := by decide +kernel
theorem dX8_written_18 : decode cX8_written 18 = .ok (.iload_n 1, 1) := by decide +kernel
theorem dX8_written_19 : decode cX8_written 19 = .ok (.iaload, 1) := by decide +kernel
theorem dX8_written_20 : decode cX8_written 20 = .ok (.goto 4, 3) := by decide +kernel
theorem dX8_written_23 : decode cX8_written 23 = .ok (.iconst (-1), 1) := by decide +kernel
theorem dX8_written_24 : decode cX8_written 24 = .ok (.ireturn, 1) := by decide +kernel
set_option maxRecDepth 20000 in
theorem ggX8_append_X8_isIn : GoodIn wsX8_append wsX8_isIn := goodIn_r _ [6] (by decide +kernel) (by decide +kernel)
set_option maxRecDepth 20000 in
theorem gX8_append_X8_isIn : GoodIn wsX8_append (va_wsS RX8 77 yX8_isIn wsX8_isIn) := goodIn_app (goodIn_of _ (by decide +kernel)) ggX8_append_X8_isIn
theorem dX8_append_0 : decode cX8_append 0 = .ok (.iload_n 1, 1) := by decide +kernel
theorem dX8_append_1 : decode cX8_append 1 = .ok (.bipush 32, 2) := by decide +kernel
theorem dX8_append_3 : decode cX8_append 3 = .ok (.bipush 126, 2) := by decide +kernel
theorem dX8_append_5 : decode cX8_append 5 = .ok (.invokestatic 77, 3) := by decide +kernel
theorem dX8_append_8 : decode cX8_append 8 = .ok (.ifCond .ne 6, 3) := by decide +kernel
theorem dX8_append_11 : decode cX8_append 11 = .ok (.bipush (-2), 2) := by decide +kernel
theorem dX8_append_13 : decode cX8_append 13 = .ok (.ireturn, 1) := by decide +kernel
theorem dX8_append_14 : decode cX8_append 14 = .ok (.aload_n 0, 1) := by decide +kernel
theorem dX8_append_15 : decode cX8_append 15 = .ok (.getfield 172, 3) := by decide +kernel
theorem dX8_append_18 : decode cX8_append 18 = .ok (.bipush 60, 2) := by decide +kernel
theorem dX8_append_20 : decode cX8_append 20 = .ok (.if_icmp .ne 6, 3) := by decide +kernel
theorem dX8_append_23 : decode cX8_append 23 = .ok (.bipush (-4), 2) := by decide +kernel
theorem dX8_append_25 : decode cX8_append 25 = .ok (.ireturn, 1) := by decide +kernel
theorem dX8_append_26 : decode cX8_append 26 = .ok (.aload_n 0, 1) := by decide +kernel
theorem dX8_append_27 : decode cX8_append 27 = .ok (.getfield 35, 3) := by decide +kernel
theorem dX8_append_30 : decode cX8_append 30 = .ok (.aload_n 0, 1) := by decide +kernel
theorem dX8_append_31 : decode cX8_append 31 = .ok (.getfield 172, 3) := by decide +kernel
theorem dX8_append_34 : decode cX8_append 34 = .ok (.iload_n 1, 1) := by decide +kernel
theorem dX8_append_35 : decode cX8_append 35 = .ok (.iastore, 1) := by decide +kernel
theorem dX8_append_36 : decode cX8_append 36 = .ok (.aload_n 0, 1) := by decide +kernel
theorem dX8_append_37 : decode cX8_append 37 = .ok (.dup, 1) := by decide +kernel
theorem dX8_append_38 : decode cX8_append 38 = .ok (.getfield 172, 3) := by decide +kernel
theorem dX8_append_41 : decode cX8_append 41 = .ok (.iconst 1, 1) := by decide +kernel
theorem dX8_append_42 : decode cX8_append 42 = .ok (.iadd, 1) := by decide +kernel
theorem dX8_append_43 : decode cX8_append 43 = .ok (.putfield 172, 3) := by decide +kernel
theorem dX8_append_46 : decode cX8_append 46 = .ok (.aload_n 0, 1) := by decide +kernel
theorem dX8_append_47 : decode cX8_append 47 = .ok (.getfield 172, 3) := by decide +kernel
theorem dX8_append_50 : decode cX8_append 50 = .ok (.ireturn, 1) := by decide +kernel
theorem dX8_sign_0 : decode cX8_sign 0 = .ok (.aload_n 0, 1) := by decide +kernel
theorem dX8_sign_1 : decode cX8_sign 1 = .ok (.getfield 184, 3) := by decide +kernel
theorem dX8_sign_4 : decode cX8_sign 4 = .ok (.aload_n 0, 1) := by decide +kernel
theorem dX8_sign_5 : decode cX8_sign 5 = .ok (.getfield 187, 3) := by decide +kernel
theorem dX8_sign_8 : decode cX8_sign 8 = .ok (.if_icmp .ge 15, 3) := by decide +kernel
theorem dX8_sign_11 : decode cX8_sign 11 = .ok (.aload_n 0, 1) := by decide +kernel
theorem dX8_sign_12 : decode cX8_sign 12 = .ok (.getfield 35, 3) := by decide +kernel
theorem dX8_sign_15 : decode cX8_sign 15 = .ok (.aload_n 0, 1) := by decide +kernel
theorem dX8_sign_16 : decode cX8_sign 16 = .ok (.getfield 184, 3) := by decide +kernel
theorem dX8_sign_19 : decode cX8_sign 19 = .ok (.iaload, 1) := by decide +kernel
theorem dX8_sign_20 : decode cX8_sign 20 = .ok (.goto 4, 3) := by decide +kernel
theorem dX8_sign_23 : decode cX8_sign 23 = .ok (.iconst (-1), 1) := by decide +kernel
theorem dX8_sign_24 : decode cX8_sign 24 = .ok (.ireturn, 1) := by decide +kernel
set_option maxRecDepth 20000 in
theorem ggX8_digits_X8_sign : GoodIn wsX8_digits wsX8_sign := goodIn_r _ [7, 2, 8, 9, 13, 14, 15, 16, 17, 18, 19, 20, 21, 22, 23, 24, 25, 26, 27, 28, 29, 30, 31, 32, 33, 34, 35, 36, 37, 38, 39] (by decide +kernel) (by decide +kernel)
set_option maxRecDepth 20000 in
theorem gX8_digits_X8_sign : GoodIn wsX8_digits (wsV RX8 193 RX8 yX8_sign wsX8_sign) := goodIn_app (goodIn_of _ (by decide +kernel)) ggX8_digits_X8_sign
set_option maxRecDepth 20000 in
theorem ggX8_digits_X8_isIn : GoodIn wsX8_digits wsX8_isIn := goodIn_r _ [12] (by decide +kernel) (by decide +kernel)
set_option maxRecDepth 20000 in
theorem gX8_digits_X8_isIn : GoodIn wsX8_digits (va_wsS RX8 77 yX8_isIn wsX8_isIn) := goodIn_app (goodIn_of _ (by decide +kernel)) ggX8_digits_X8_isIn
theorem dX8_digits_0 : decode cX8_digits 0 = .ok (.iconst 0, 1) := by decide +kernel
theorem dX8_digits_1 : decode cX8_digits 1 = .ok (.istore_n 2, 1) := by decide +kernel
theorem dX8_digits_2 : decode cX8_digits 2 = .ok (.iconst 0, 1) := by decide +kernel
theorem dX8_digits_3 : decode cX8_digits 3 = .ok (.istore_n 3, 1) := by decide +kernel
theorem dX8_digits_4 : decode cX8_digits 4 = .ok (.aload_n 0, 1) := by decide +kernel
theorem dX8_digits_5 : decode cX8_digits 5 = .ok (.getfield 190, 3) := by decide +kernel
theorem dX8_digits_8 : decode cX8_digits 8 = .ok (.ifCond .ne 51, 3) := by decide +kernel
theorem dX8_digits_11 : decode cX8_digits 11 = .ok (.iload_n 3, 1) := by decide +kernel
theorem dX8_digits_12 : decode cX8_digits 12 = .ok (.iload_n 1, 1) := by decide +kernel
theorem dX8_digits_13 : decode cX8_digits 13 = .ok (.if_icmp .ge 46, 3) := by decide +kernel
theorem dX8_digits_16 : decode cX8_digits 16 = .ok (.aload_n 0, 1) := by decide +kernel
theorem dX8_digits_17 : decode cX8_digits 17 = .ok (.invokevirtual 193, 3) := by decide +kernel
theorem dX8_digits_20 : decode cX8_digits 20 = .ok (.bipush 48, 2) := by decide +kernel
theorem dX8_digits_22 : decode cX8_digits 22 = .ok (.bipush 57, 2) := by decide +kernel
theorem dX8_digits_24 : decode cX8_digits 24 = .ok (.invokestatic 77, 3) := by decide +kernel
theorem dX8_digits_27 : decode cX8_digits 27 = .ok (.ifCond .eq 32, 3) := by decide +kernel
theorem dX8_digits_30 : decode cX8_digits 30 = .ok (.bipush 10, 2) := by decide +kernel
theorem dX8_digits_32 : decode cX8_digits 32 = .ok (.iload_n 2, 1) := by decide +kernel
theorem dX8_digits_33 : decode cX8_digits 33 = .ok (.imul, 1) := by decide +kernel
theorem dX8_digits_34 : decode cX8_digits 34 = .ok (.aload_n 0, 1) := by decide +kernel
theorem dX8_digits_35 : decode cX8_digits 35 = .ok (.invokevirtual 193, 3) := by decide +kernel
theorem dX8_digits_38 : decode cX8_digits 38 = .ok (.iadd, 1) := by decide +kernel
theorem dX8_digits_39 : decode cX8_digits 39 = .ok (.bipush 48, 2) := by decide +kernel
theorem dX8_digits_41 : decode cX8_digits 41 = .ok (.isub, 1) := by decide +kernel
theorem dX8_digits_42 : decode cX8_digits 42 = .ok (.istore_n 2, 1) := by decide +kernel
theorem dX8_digits_43 : decode cX8_digits 43 = .ok (.aload_n 0, 1) := by decide +kernel
theorem dX8_digits_44 : decode cX8_digits 44 = .ok (.dup, 1) := by decide +kernel
theorem dX8_digits_45 : decode cX8_digits 45 = .ok (.getfield 184, 3) := by decide +kernel
theorem dX8_digits_48 : decode cX8_digits 48 = .ok (.iconst 1, 1) := by decide +kernel
theorem dX8_digits_49 : decode cX8_digits 49 = .ok (.iadd, 1) := by decide +kernel
theorem dX8_digits_50 : decode cX8_digits 50 = .ok (.putfield 184, 3) := by decide +kernel
theorem dX8_digits_53 : decode cX8_digits 53 = .ok (.iinc 3 1, 3) := by decide +kernel
theorem dX8_digits_56 : decode cX8_digits 56 = .ok (.goto (-52), 3) := by decide +kernel
theorem dX8_digits_59 : decode cX8_digits 59 = .ok (.aload_n 0, 1) := by decide +kernel
theorem dX8_digits_60 : decode cX8_digits 60 = .ok (.dup, 1) := by decide +kernel
theorem dX8_digits_61 : decode cX8_digits 61 = .ok (.getfield 190, 3) := by decide +kernel
theorem dX8_digits_64 : decode cX8_digits 64 = .ok (.iload_n 3, 1) := by decide +kernel
theorem dX8_digits_65 : decode cX8_digits 65 = .ok (.ifCond .ne 7, 3) := by decide +kernel
theorem dX8_digits_68 : decode cX8_digits 68 = .ok (.iconst 1, 1) := by decide +kernel
theorem dX8_digits_69 : decode cX8_digits 69 = .ok (.goto 4, 3) := by decide +kernel
theorem dX8_digits_72 : decode cX8_digits 72 = .ok (.iconst 0, 1) := by decide +kernel
theorem dX8_digits_73 : decode cX8_digits 73 = .ok (.ior, 1) := by decide +kernel
theorem dX8_digits_74 : decode cX8_digits 74 = .ok (.putfield 190, 3) := by decide +kernel
theorem dX8_digits_77 : decode cX8_digits 77 = .ok (.iload_n 2, 1) := by decide +kernel
theorem dX8_digits_78 : decode cX8_digits 78 = .ok (.ireturn, 1) := by decide +kernel
set_option maxRecDepth 20000 in
theorem ggX8_blankAnd_X8_sign : GoodIn wsX8_blankAnd wsX8_sign := goodIn_r _ [7, 2, 8, 9, 17, 18, 19, 20, 21, 22, 23, 24, 25, 26, 27, 28, 29, 30, 31, 32, 33, 34, 35, 36, 37, 38, 39, 40, 41, 42, 43] (by decide +kernel) (by decide +kernel)
set_option maxRecDepth 20000 in
theorem gX8_blankAnd_X8_sign : GoodIn wsX8_blankAnd (wsV RX8 193 RX8 yX8_sign wsX8_sign) := goodIn_app (goodIn_of _ (by decide +kernel)) ggX8_blankAnd_X8_sign
set_option maxRecDepth 20000 in
theorem ggX8_blankAnd_X8_digits : GoodIn wsX8_blankAnd wsX8_digits := goodIn_r _ [13, 1, 2, 3, 4, 5, 6, 7, 8, 9, 14, 15, 16, 17, 18, 19, 20, 21, 22, 23, 24, 25, 26, 27, 28, 29, 30, 31, 32, 33, 34, 35, 36, 37, 38, 39, 40, 41, 42, 43] (by decide +kernel) (by decide +kernel)
set_option maxRecDepth 20000 in
theorem gX8_blankAnd_X8_digits : GoodIn wsX8_blankAnd (wsV RX8 196 RX8 yX8_digits wsX8_digits) := goodIn_app (goodIn_of _ (by decide +kernel)) ggX8_blankAnd_X8_digits
theorem dX8_blankAnd_0 : decode cX8_blankAnd 0 = .ok (.aload_n 0, 1) := by decide +kernel
theorem dX8_blankAnd_1 : decode cX8_blankAnd 1 = .ok (.getfield 190, 3) := by decide +kernel
theorem dX8_blankAnd_4 : decode cX8_blankAnd 4 = .ok (.ifCond .eq 5, 3) := by decide +kernel
theorem dX8_blankAnd_7 : decode cX8_blankAnd 7 = .ok (.iconst 0, 1) := by decide +kernel
theorem dX8_blankAnd_8 : decode cX8_blankAnd 8 = .ok (.ireturn, 1) := by decide +kernel
theorem dX8_blankAnd_9 : decode cX8_blankAnd 9 = .ok (.aload_n 0, 1) := by decide +kernel
theorem dX8_blankAnd_10 : decode cX8_blankAnd 10 = .ok (.aload_n 0, 1) := by decide +kernel
theorem dX8_blankAnd_11 : decode cX8_blankAnd 11 = .ok (.invokevirtual 193, 3) := by decide +kernel
theorem dX8_blankAnd_14 : decode cX8_blankAnd 14 = .ok (.bipush 32, 2) := by decide +kernel
theorem dX8_blankAnd_16 : decode cX8_blankAnd 16 = .ok (.if_icmp .eq 7, 3) := by decide +kernel
theorem dX8_blankAnd_19 : decode cX8_blankAnd 19 = .ok (.iconst 1, 1) := by decide +kernel
theorem dX8_blankAnd_20 : decode cX8_blankAnd 20 = .ok (.goto 4, 3) := by decide +kernel
theorem dX8_blankAnd_23 : decode cX8_blankAnd 23 = .ok (.iconst 0, 1) := by decide +kernel
theorem dX8_blankAnd_24 : decode cX8_blankAnd 24 = .ok (.putfield 190, 3) := by decide +kernel
theorem dX8_blankAnd_27 : decode cX8_blankAnd 27 = .ok (.aload_n 0, 1) := by decide +kernel
theorem dX8_blankAnd_28 : decode cX8_blankAnd 28 = .ok (.dup, 1) := by decide +kernel
theorem dX8_blankAnd_29 : decode cX8_blankAnd 29 = .ok (.getfield 184, 3) := by decide +kernel
theorem dX8_blankAnd_32 : decode cX8_blankAnd 32 = .ok (.aload_n 0, 1) := by decide +kernel
theorem dX8_blankAnd_33 : decode cX8_blankAnd 33 = .ok (.getfield 190, 3) := by decide +kernel
theorem dX8_blankAnd_36 : decode cX8_blankAnd 36 = .ok (.ifCond .eq 7, 3) := by decide +kernel
theorem dX8_blankAnd_39 : decode cX8_blankAnd 39 = .ok (.iconst 0, 1) := by decide +kernel
theorem dX8_blankAnd_40 : decode cX8_blankAnd 40 = .ok (.goto 4, 3) := by decide +kernel
theorem dX8_blankAnd_43 : decode cX8_blankAnd 43 = .ok (.iconst 1, 1) := by decide +kernel
theorem dX8_blankAnd_44 : decode cX8_blankAnd 44 = .ok (.iadd, 1) := by decide +kernel
theorem dX8_blankAnd_45 : decode cX8_blankAnd 45 = .ok (.putfield 184, 3) := by decide +kernel
theorem dX8_blankAnd_48 : decode cX8_blankAnd 48 = .ok (.aload_n 0, 1) := by decide +kernel
theorem dX8_blankAnd_49 : decode cX8_blankAnd 49 = .ok (.getfield 190, 3) := by decide +kernel
theorem dX8_blankAnd_52 : decode cX8_blankAnd 52 = .ok (.ifCond .eq 7, 3) := by decide +kernel
theorem dX8_blankAnd_55 : decode cX8_blankAnd 55 = .ok (.iconst 0, 1) := by decide +kernel
theorem dX8_blankAnd_56 : decode cX8_blankAnd 56 = .ok (.goto 8, 3) := by decide +kernel
theorem dX8_blankAnd_59 : decode cX8_blankAnd 59 = .ok (.aload_n 0, 1) := by decide +kernel
theorem dX8_blankAnd_60 : decode cX8_blankAnd 60 = .ok (.iload_n 1, 1) := by decide +kernel
theorem dX8_blankAnd_61 : decode cX8_blankAnd 61 = .ok (.invokevirtual 196, 3) := by decide +kernel
theorem dX8_blankAnd_64 : decode cX8_blankAnd 64 = .ok (.ireturn, 1) := by decide +kernel
set_option maxRecDepth 20000 in
theorem ggX8_word_X8_sign : GoodIn wsX8_word wsX8_sign := goodIn_r _ [10, 5, 11, 12, 13, 14, 15, 16, 17, 18, 19, 20, 21, 22, 23, 24, 25, 26, 27, 28, 29, 30, 31, 32, 33, 34, 35, 36, 37, 38, 39] (by decide +kernel) (by decide +kernel)
set_option maxRecDepth 20000 in
theorem gX8_word_X8_sign : GoodIn wsX8_word (wsV RX8 193 RX8 yX8_sign wsX8_sign) := goodIn_app (goodIn_of _ (by decide +kernel)) ggX8_word_X8_sign
theorem dX8_word_0 : decode cX8_word 0 = .ok (.iconst 0, 1) := by decide +kernel
theorem dX8_word_1 : decode cX8_word 1 = .ok (.istore_n 1, 1) := by decide +kernel
theorem dX8_word_2 : decode cX8_word 2 = .ok (.iload_n 1, 1) := by decide +kernel
theorem dX8_word_3 : decode cX8_word 3 = .ok (.bipush 8, 2) := by decide +kernel
theorem dX8_word_5 : decode cX8_word 5 = .ok (.if_icmp .ge 16, 3) := by decide +kernel
theorem dX8_word_8 : decode cX8_word 8 = .ok (.aload_n 0, 1) := by decide +kernel
theorem dX8_word_9 : decode cX8_word 9 = .ok (.getfield 41, 3) := by decide +kernel
theorem dX8_word_12 : decode cX8_word 12 = .ok (.iload_n 1, 1) := by decide +kernel
theorem dX8_word_13 : decode cX8_word 13 = .ok (.iconst 1, 1) := by decide +kernel
theorem dX8_word_14 : decode cX8_word 14 = .ok (.iastore, 1) := by decide +kernel
theorem dX8_word_15 : decode cX8_word 15 = .ok (.iinc 1 1, 3) := by decide +kernel
theorem dX8_word_18 : decode cX8_word 18 = .ok (.goto (-16), 3) := by decide +kernel
theorem dX8_word_21 : decode cX8_word 21 = .ok (.iconst 0, 1) := by decide +kernel
theorem dX8_word_22 : decode cX8_word 22 = .ok (.istore_n 1, 1) := by decide +kernel
theorem dX8_word_23 : decode cX8_word 23 = .ok (.iconst (-1), 1) := by decide +kernel
theorem dX8_word_24 : decode cX8_word 24 = .ok (.istore_n 2, 1) := by decide +kernel
theorem dX8_word_25 : decode cX8_word 25 = .ok (.iload_n 2, 1) := by decide +kernel
theorem dX8_word_26 : decode cX8_word 26 = .ok (.ifCond .ge 196, 3) := by decide +kernel
theorem dX8_word_29 : decode cX8_word 29 = .ok (.aload_n 0, 1) := by decide +kernel
theorem dX8_word_30 : decode cX8_word 30 = .ok (.getfield 190, 3) := by decide +kernel
theorem dX8_word_33 : decode cX8_word 33 = .ok (.ifCond .ne 189, 3) := by decide +kernel
theorem dX8_word_36 : decode cX8_word 36 = .ok (.iconst 0, 1) := by decide +kernel
theorem dX8_word_37 : decode cX8_word 37 = .ok (.istore_n 3, 1) := by decide +kernel
theorem dX8_word_38 : decode cX8_word 38 = .ok (.iconst 0, 1) := by decide +kernel
theorem dX8_word_39 : decode cX8_word 39 = .ok (.istore 4, 2) := by decide +kernel
theorem dX8_word_41 : decode cX8_word 41 = .ok (.iload 4, 2) := by decide +kernel
theorem dX8_word_43 : decode cX8_word 43 = .ok (.bipush 8, 2) := by decide +kernel
theorem dX8_word_45 : decode cX8_word 45 = .ok (.if_icmp .ge 85, 3) := by decide +kernel
theorem dX8_word_48 : decode cX8_word 48 = .ok (.aload_n 0, 1) := by decide +kernel
theorem dX8_word_49 : decode cX8_word 49 = .ok (.getfield 41, 3) := by decide +kernel
theorem dX8_word_52 : decode cX8_word 52 = .ok (.iload 4, 2) := by decide +kernel
theorem dX8_word_54 : decode cX8_word 54 = .ok (.dup2, 1) := by decide +kernel
theorem dX8_word_55 : decode cX8_word 55 = .ok (.iaload, 1) := by decide +kernel
theorem dX8_word_56 : decode cX8_word 56 = .ok (.aload_n 0, 1) := by decide +kernel
theorem dX8_word_57 : decode cX8_word 57 = .ok (.getfield 47, 3) := by decide +kernel
theorem dX8_word_60 : decode cX8_word 60 = .ok (.iload 4, 2) := by decide +kernel
theorem dX8_word_62 : decode cX8_word 62 = .ok (.iaload, 1) := by decide +kernel
theorem dX8_word_63 : decode cX8_word 63 = .ok (.iload_n 1, 1) := by decide +kernel
theorem dX8_word_64 : decode cX8_word 64 = .ok (.iadd, 1) := by decide +kernel
theorem dX8_word_65 : decode cX8_word 65 = .ok (.aload_n 0, 1) := by decide +kernel
theorem dX8_word_66 : decode cX8_word 66 = .ok (.getfield 47, 3) := by decide +kernel
theorem dX8_word_69 : decode cX8_word 69 = .ok (.iload 4, 2) := by decide +kernel
theorem dX8_word_71 : decode cX8_word 71 = .ok (.iconst 1, 1) := by decide +kernel
theorem dX8_word_72 : decode cX8_word 72 = .ok (.iadd, 1) := by decide +kernel
theorem dX8_word_73 : decode cX8_word 73 = .ok (.iaload, 1) := by decide +kernel
theorem dX8_word_74 : decode cX8_word 74 = .ok (.if_icmp .ge 28, 3) := by decide +kernel
theorem dX8_word_77 : decode cX8_word 77 = .ok (.aload_n 0, 1) := by decide +kernel
theorem dX8_word_78 : decode cX8_word 78 = .ok (.getfield 44, 3) := by decide +kernel
theorem dX8_word_81 : decode cX8_word 81 = .ok (.aload_n 0, 1) := by decide +kernel
theorem dX8_word_82 : decode cX8_word 82 = .ok (.getfield 47, 3) := by decide +kernel
theorem dX8_word_85 : decode cX8_word 85 = .ok (.iload 4, 2) := by decide +kernel
theorem dX8_word_87 : decode cX8_word 87 = .ok (.iaload, 1) := by decide +kernel
theorem dX8_word_88 : decode cX8_word 88 = .ok (.iload_n 1, 1) := by decide +kernel
theorem dX8_word_89 : decode cX8_word 89 = .ok (.iadd, 1) := by decide +kernel
theorem dX8_word_90 : decode cX8_word 90 = .ok (.iaload, 1) := by decide +kernel
theorem dX8_word_91 : decode cX8_word 91 = .ok (.aload_n 0, 1) := by decide +kernel
theorem dX8_word_92 : decode cX8_word 92 = .ok (.invokevirtual 193, 3) := by decide +kernel
theorem dX8_word_95 : decode cX8_word 95 = .ok (.if_icmp .ne 7, 3) := by decide +kernel
theorem dX8_word_98 : decode cX8_word 98 = .ok (.iconst 1, 1) := by decide +kernel
theorem dX8_word_99 : decode cX8_word 99 = .ok (.goto 4, 3) := by decide +kernel
theorem dX8_word_102 : decode cX8_word 102 = .ok (.iconst 0, 1) := by decide +kernel
theorem dX8_word_103 : decode cX8_word 103 = .ok (.iand, 1) := by decide +kernel
theorem dX8_word_104 : decode cX8_word 104 = .ok (.iastore, 1) := by decide +kernel
theorem dX8_word_105 : decode cX8_word 105 = .ok (.iload_n 3, 1) := by decide +kernel
theorem dX8_word_106 : decode cX8_word 106 = .ok (.aload_n 0, 1) := by decide +kernel
theorem dX8_word_107 : decode cX8_word 107 = .ok (.getfield 41, 3) := by decide +kernel
theorem dX8_word_110 : decode cX8_word 110 = .ok (.iload 4, 2) := by decide +kernel
theorem dX8_word_112 : decode cX8_word 112 = .ok (.iaload, 1) := by decide +kernel
theorem dX8_word_113 : decode cX8_word 113 = .ok (.iconst 1, 1) := by decide +kernel
theorem dX8_word_114 : decode cX8_word 114 = .ok (.if_icmp .ne 7, 3) := by decide +kernel
theorem dX8_word_117 : decode cX8_word 117 = .ok (.iconst 1, 1) := by decide +kernel
theorem dX8_word_118 : decode cX8_word 118 = .ok (.goto 4, 3) := by decide +kernel
theorem dX8_word_121 : decode cX8_word 121 = .ok (.iconst 0, 1) := by decide +kernel
theorem dX8_word_122 : decode cX8_word 122 = .ok (.ior, 1) := by decide +kernel
theorem dX8_word_123 : decode cX8_word 123 = .ok (.istore_n 3, 1) := by decide +kernel
theorem dX8_word_124 : decode cX8_word 124 = .ok (.iinc 4 1, 3) := by decide +kernel
theorem dX8_word_127 : decode cX8_word 127 = .ok (.goto (-86), 3) := by decide +kernel
theorem dX8_word_130 : decode cX8_word 130 = .ok (.aload_n 0, 1) := by decide +kernel
theorem dX8_word_131 : decode cX8_word 131 = .ok (.iload_n 3, 1) := by decide +kernel
theorem dX8_word_132 : decode cX8_word 132 = .ok (.ifCond .ne 7, 3) := by decide +kernel
theorem dX8_word_135 : decode cX8_word 135 = .ok (.iconst 1, 1) := by decide +kernel
theorem dX8_word_136 : decode cX8_word 136 = .ok (.goto 4, 3) := by decide +kernel
theorem dX8_word_139 : decode cX8_word 139 = .ok (.iconst 0, 1) := by decide +kernel
theorem dX8_word_140 : decode cX8_word 140 = .ok (.putfield 190, 3) := by decide +kernel
theorem dX8_word_143 : decode cX8_word 143 = .ok (.aload_n 0, 1) := by decide +kernel
theorem dX8_word_144 : decode cX8_word 144 = .ok (.dup, 1) := by decide +kernel
theorem dX8_word_145 : decode cX8_word 145 = .ok (.getfield 184, 3) := by decide +kernel
theorem dX8_word_148 : decode cX8_word 148 = .ok (.iload_n 3, 1) := by decide +kernel
theorem dX8_word_149 : decode cX8_word 149 = .ok (.ifCond .eq 7, 3) := by decide +kernel
theorem dX8_word_152 : decode cX8_word 152 = .ok (.iconst 1, 1) := by decide +kernel
theorem dX8_word_153 : decode cX8_word 153 = .ok (.goto 4, 3) := by decide +kernel
theorem dX8_word_156 : decode cX8_word 156 = .ok (.iconst 0, 1) := by decide +kernel
theorem dX8_word_157 : decode cX8_word 157 = .ok (.iadd, 1) := by decide +kernel
theorem dX8_word_158 : decode cX8_word 158 = .ok (.putfield 184, 3) := by decide +kernel
theorem dX8_word_161 : decode cX8_word 161 = .ok (.iinc 1 1, 3) := by decide +kernel
theorem dX8_word_164 : decode cX8_word 164 = .ok (.iconst 0, 1) := by decide +kernel
theorem dX8_word_165 : decode cX8_word 165 = .ok (.istore 4, 2) := by decide +kernel
theorem dX8_word_167 : decode cX8_word 167 = .ok (.iload 4, 2) := by decide +kernel
theorem dX8_word_169 : decode cX8_word 169 = .ok (.bipush 8, 2) := by decide +kernel
theorem dX8_word_171 : decode cX8_word 171 = .ok (.if_icmp .ge 48, 3) := by decide +kernel
theorem dX8_word_174 : decode cX8_word 174 = .ok (.aload_n 0, 1) := by decide +kernel
theorem dX8_word_175 : decode cX8_word 175 = .ok (.getfield 41, 3) := by decide +kernel
theorem dX8_word_178 : decode cX8_word 178 = .ok (.iload 4, 2) := by decide +kernel
theorem dX8_word_180 : decode cX8_word 180 = .ok (.iaload, 1) := by decide +kernel
theorem dX8_word_181 : decode cX8_word 181 = .ok (.iconst 1, 1) := by decide +kernel
theorem dX8_word_182 : decode cX8_word 182 = .ok (.if_icmp .ne 29, 3) := by decide +kernel
theorem dX8_word_185 : decode cX8_word 185 = .ok (.aload_n 0, 1) := by decide +kernel
theorem dX8_word_186 : decode cX8_word 186 = .ok (.getfield 47, 3) := by decide +kernel
theorem dX8_word_189 : decode cX8_word 189 = .ok (.iload 4, 2) := by decide +kernel
theorem dX8_word_191 : decode cX8_word 191 = .ok (.iaload, 1) := by decide +kernel
theorem dX8_word_192 : decode cX8_word 192 = .ok (.iload_n 1, 1) := by decide +kernel
theorem dX8_word_193 : decode cX8_word 193 = .ok (.iadd, 1) := by decide +kernel
theorem dX8_word_194 : decode cX8_word 194 = .ok (.aload_n 0, 1) := by decide +kernel
theorem dX8_word_195 : decode cX8_word 195 = .ok (.getfield 47, 3) := by decide +kernel
theorem dX8_word_198 : decode cX8_word 198 = .ok (.iload 4, 2) := by decide +kernel
theorem dX8_word_200 : decode cX8_word 200 = .ok (.iconst 1, 1) := by decide +kernel
theorem dX8_word_201 : decode cX8_word 201 = .ok (.iadd, 1) := by decide +kernel
theorem dX8_word_202 : decode cX8_word 202 = .ok (.iaload, 1) := by decide +kernel
theorem dX8_word_203 : decode cX8_word 203 = .ok (.if_icmp .ne 8, 3) := by decide +kernel
theorem dX8_word_206 : decode cX8_word 206 = .ok (.iload 4, 2) := by decide +kernel
theorem dX8_word_208 : decode cX8_word 208 = .ok (.goto 4, 3) := by decide +kernel
theorem dX8_word_211 : decode cX8_word 211 = .ok (.iload_n 2, 1) := by decide +kernel
theorem dX8_word_212 : decode cX8_word 212 = .ok (.istore_n 2, 1) := by decide +kernel
theorem dX8_word_213 : decode cX8_word 213 = .ok (.iinc 4 1, 3) := by decide +kernel
theorem dX8_word_216 : decode cX8_word 216 = .ok (.goto (-49), 3) := by decide +kernel
theorem dX8_word_219 : decode cX8_word 219 = .ok (.goto (-194), 3) := by decide +kernel
theorem dX8_word_222 : decode cX8_word 222 = .ok (.iload_n 2, 1) := by decide +kernel
theorem dX8_word_223 : decode cX8_word 223 = .ok (.ireturn, 1) := by decide +kernel
set_option maxRecDepth 20000 in
theorem ggX8_does_X8_treats : GoodIn wsX8_does wsX8_treats := goodIn_r _ [5, 6, 7, 8, 4, 9, 10, 11, 12, 13, 14, 15, 16, 17, 18, 19, 20, 21, 22, 23, 24, 25, 26, 27, 28, 29, 30, 31, 32, 94, 95, 96, 97, 98, 99, 100, 101, 102, 103, 104, 105, 106, 107, 108, 109, 110, 111, 112, 113, 114, 115, 116, 117, 118, 119, 120] (by decide +kernel) (by decide +kernel)
set_option maxRecDepth 20000 in
theorem gX8_does_X8_treats : GoodIn wsX8_does (wsV RX8 98 RX8 yX8_treats wsX8_treats) := goodIn_app (goodIn_of _ (by decide +kernel)) ggX8_does_X8_treats
set_option maxRecDepth 20000 in
theorem ggX8_does_X8_credits : GoodIn wsX8_does wsX8_credits := goodIn_r _ [36, 6, 7, 8, 4, 9, 10, 11, 12, 13, 14, 15, 16, 17, 37, 38, 39, 18, 19, 20, 21, 22, 23, 24, 40, 41, 42, 94, 95, 96, 97, 98, 99, 100, 101, 102, 103, 104, 105, 106, 107, 108, 109, 110, 111, 112, 113, 114, 115, 116, 117, 118, 119, 120] (by decide +kernel) (by decide +kernel)
set_option maxRecDepth 20000 in
theorem gX8_does_X8_credits : GoodIn wsX8_does (wsV RX8 121 RX8 yX8_credits wsX8_credits) := goodIn_app (goodIn_of _ (by decide +kernel)) ggX8_does_X8_credits
set_option maxRecDepth 20000 in
theorem ggX8_does_X8_repays : GoodIn wsX8_does wsX8_repays := goodIn_r _ [46, 6, 47, 48, 49, 4, 50, 10, 11, 12, 13, 14, 15, 16, 17, 40, 41, 42, 37, 38, 39, 18, 19, 20, 21, 22, 23, 24, 51, 52, 53, 54, 94, 95, 96, 97, 98, 99, 100, 101, 102, 103, 104, 105, 106, 107, 108, 109, 110, 111, 112, 113, 114, 115, 116, 117, 118, 119, 120] (by decide +kernel) (by decide +kernel)
set_option maxRecDepth 20000 in
theorem gX8_does_X8_repays : GoodIn wsX8_does (wsV RX8 130 RX8 yX8_repays wsX8_repays) := goodIn_app (goodIn_of _ (by decide +kernel)) ggX8_does_X8_repays
set_option maxRecDepth 20000 in
theorem ggX8_does_X8_letsRain : GoodIn wsX8_does wsX8_letsRain := goodIn_r _ [58, 7, 8, 4, 9, 10, 11, 12, 13, 14, 15, 16, 17, 59, 60, 61, 62, 6, 63, 64, 65, 66, 67, 68, 69, 70, 71, 37, 38, 39, 94, 95, 96, 97, 98, 99, 100, 101, 102, 103, 104, 105, 106, 107, 108, 109, 110, 111, 112, 113, 114, 115, 116, 117, 118, 119, 120] (by decide +kernel) (by decide +kernel)
set_option maxRecDepth 20000 in
theorem gX8_does_X8_letsRain : GoodIn wsX8_does (wsV RX8 115 RX8 yX8_letsRain wsX8_letsRain) := goodIn_app (goodIn_of _ (by decide +kernel)) ggX8_does_X8_letsRain
set_option maxRecDepth 20000 in
theorem ggX8_does_X8_bails : GoodIn wsX8_does wsX8_bails := goodIn_r _ [75, 6, 7, 8, 4, 9, 10, 11, 12, 13, 14, 15, 16, 17, 37, 38, 39, 18, 19, 20, 21, 22, 23, 24, 94, 95, 96, 97, 98, 99, 100, 101, 102, 103, 104, 105, 106, 107, 108, 109, 110, 111, 112, 113, 114, 115, 116, 117, 118, 119, 120] (by decide +kernel) (by decide +kernel)
set_option maxRecDepth 20000 in
theorem gX8_does_X8_bails : GoodIn wsX8_does (wsV RX8 133 RX8 yX8_bails wsX8_bails) := goodIn_app (goodIn_of _ (by decide +kernel)) ggX8_does_X8_bails
set_option maxRecDepth 20000 in
theorem ggX8_does_X8_buys : GoodIn wsX8_does wsX8_buys := goodIn_r _ [79, 6, 7, 8, 4, 9, 10, 11, 12, 13, 14, 15, 16, 17, 37, 38, 39, 18, 19, 20, 21, 22, 23, 24, 94, 95, 96, 97, 98, 99, 100, 101, 102, 103, 104, 105, 106, 107, 108, 109, 110, 111, 112, 113, 114, 115, 116, 117, 118, 119, 120] (by decide +kernel) (by decide +kernel)
set_option maxRecDepth 20000 in
theorem gX8_does_X8_buys : GoodIn wsX8_does (wsV RX8 136 RX8 yX8_buys wsX8_buys) := goodIn_app (goodIn_of _ (by decide +kernel)) ggX8_does_X8_buys
set_option maxRecDepth 20000 in
theorem ggX8_does_X8_months : GoodIn wsX8_does wsX8_months := goodIn_r _ [83, 6, 84, 85, 86, 87, 4, 88, 89, 40, 41, 42, 37, 38, 39, 51, 52, 53, 54, 59, 60, 61, 62, 63, 64, 65, 66, 67, 68, 69, 70, 71, 90, 91, 92, 93, 94, 95, 96, 97, 98, 99, 100, 101, 102, 103, 104, 105, 106, 107, 108, 109, 110, 111, 112, 113, 114, 115, 116, 117, 118, 119, 120] (by decide +kernel) (by decide +kernel)
set_option maxRecDepth 20000 in
theorem gX8_does_X8_months : GoodIn wsX8_does (wsV RX8 149 RX8 yX8_months wsX8_months) := goodIn_app (goodIn_of _ (by decide +kernel)) ggX8_does_X8_months
theorem dX8_does_0 : decode cX8_does 0 = .ok (.iload_n 1, 1) := by decide +kernel
theorem dX8_does_1 : decode cX8_does 1 = .ok (.tableswitch 88 0 6 #[43, 43, 53, 62, 68, 75, 82], 43) := by decide +kernel
theorem dX8_does_44 : decode cX8_does 44 = .ok (.aload_n 0, 1) := by decide +kernel
theorem dX8_does_45 : decode cX8_does 45 = .ok (.iload_n 2, 1) := by decide +kernel
theorem dX8_does_46 : decode cX8_does 46 = .ok (.iload_n 3, 1) := by decide +kernel
theorem dX8_does_47 : decode cX8_does 47 = .ok (.iconst 1, 1) := by decide +kernel
theorem dX8_does_48 : decode cX8_does 48 = .ok (.iload_n 1, 1) := by decide +kernel
theorem dX8_does_49 : decode cX8_does 49 = .ok (.isub, 1) := by decide +kernel
theorem dX8_does_50 : decode cX8_does 50 = .ok (.invokevirtual 98, 3) := by decide +kernel
theorem dX8_does_53 : decode cX8_does 53 = .ok (.ireturn, 1) := by decide +kernel
theorem dX8_does_54 : decode cX8_does 54 = .ok (.aload_n 0, 1) := by decide +kernel
theorem dX8_does_55 : decode cX8_does 55 = .ok (.iload_n 2, 1) := by decide +kernel
theorem dX8_does_56 : decode cX8_does 56 = .ok (.iload_n 3, 1) := by decide +kernel
theorem dX8_does_57 : decode cX8_does 57 = .ok (.iload 4, 2) := by decide +kernel
theorem dX8_does_59 : decode cX8_does 59 = .ok (.invokevirtual 121, 3) := by decide +kernel
theorem dX8_does_62 : decode cX8_does 62 = .ok (.ireturn, 1) := by decide +kernel
theorem dX8_does_63 : decode cX8_does 63 = .ok (.aload_n 0, 1) := by decide +kernel
theorem dX8_does_64 : decode cX8_does 64 = .ok (.iload_n 2, 1) := by decide +kernel
theorem dX8_does_65 : decode cX8_does 65 = .ok (.invokevirtual 130, 3) := by decide +kernel
theorem dX8_does_68 : decode cX8_does 68 = .ok (.ireturn, 1) := by decide +kernel
theorem dX8_does_69 : decode cX8_does 69 = .ok (.aload_n 0, 1) := by decide +kernel
theorem dX8_does_70 : decode cX8_does 70 = .ok (.iload_n 2, 1) := by decide +kernel
theorem dX8_does_71 : decode cX8_does 71 = .ok (.iload_n 3, 1) := by decide +kernel
theorem dX8_does_72 : decode cX8_does 72 = .ok (.invokevirtual 115, 3) := by decide +kernel
theorem dX8_does_75 : decode cX8_does 75 = .ok (.ireturn, 1) := by decide +kernel
theorem dX8_does_76 : decode cX8_does 76 = .ok (.aload_n 0, 1) := by decide +kernel
theorem dX8_does_77 : decode cX8_does 77 = .ok (.iload_n 2, 1) := by decide +kernel
theorem dX8_does_78 : decode cX8_does 78 = .ok (.iload_n 3, 1) := by decide +kernel
theorem dX8_does_79 : decode cX8_does 79 = .ok (.invokevirtual 133, 3) := by decide +kernel
theorem dX8_does_82 : decode cX8_does 82 = .ok (.ireturn, 1) := by decide +kernel
theorem dX8_does_83 : decode cX8_does 83 = .ok (.aload_n 0, 1) := by decide +kernel
theorem dX8_does_84 : decode cX8_does 84 = .ok (.iload_n 2, 1) := by decide +kernel
theorem dX8_does_85 : decode cX8_does 85 = .ok (.invokevirtual 136, 3) := by decide +kernel
theorem dX8_does_88 : decode cX8_does 88 = .ok (.ireturn, 1) := by decide +kernel
theorem dX8_does_89 : decode cX8_does 89 = .ok (.aload_n 0, 1) := by decide +kernel
theorem dX8_does_90 : decode cX8_does 90 = .ok (.invokevirtual 149, 3) := by decide +kernel
theorem dX8_does_93 : decode cX8_does 93 = .ok (.ireturn, 1) := by decide +kernel
set_option maxRecDepth 20000 in
theorem ggX8_command_X8_word : GoodIn wsX8_command wsX8_word := goodIn_r _ [7, 8, 1, 9, 10, 11, 12, 13, 14, 6, 15, 16, 17, 122, 123, 124, 125, 126, 127, 128, 129, 130, 131, 132, 133, 134, 135, 136, 137, 138, 139, 140, 141, 142, 143, 144, 145, 146, 147, 148] (by decide +kernel) (by decide +kernel)
set_option maxRecDepth 20000 in
theorem gX8_command_X8_word : GoodIn wsX8_command (wsV RX8 199 RX8 yX8_word wsX8_word) := goodIn_app (goodIn_of _ (by decide +kernel)) ggX8_command_X8_word
set_option maxRecDepth 20000 in
theorem ggX8_command_X8_digits : GoodIn wsX8_command wsX8_digits := goodIn_r _ [21, 1, 11, 12, 13, 14, 6, 15, 16, 17, 22, 23, 24, 122, 123, 124, 125, 126, 127, 128, 129, 130, 131, 132, 133, 134, 135, 136, 137, 138, 139, 140, 141, 142, 143, 144, 145, 146, 147, 148] (by decide +kernel) (by decide +kernel)
set_option maxRecDepth 20000 in
theorem gX8_command_X8_digits : GoodIn wsX8_command (wsV RX8 196 RX8 yX8_digits wsX8_digits) := goodIn_app (goodIn_of _ (by decide +kernel)) ggX8_command_X8_digits
set_option maxRecDepth 20000 in
theorem ggX8_command_X8_blankAnd : GoodIn wsX8_command wsX8_blankAnd := goodIn_r _ [28, 1, 11, 12, 13, 14, 6, 15, 16, 17, 18, 19, 20, 21, 22, 23, 24, 122, 123, 124, 125, 126, 127, 128, 129, 130, 131, 132, 133, 134, 135, 136, 137, 138, 139, 140, 141, 142, 143, 144, 145, 146, 147, 148] (by decide +kernel) (by decide +kernel)
set_option maxRecDepth 20000 in
theorem gX8_command_X8_blankAnd : GoodIn wsX8_command (wsV RX8 202 RX8 yX8_blankAnd wsX8_blankAnd) := goodIn_app (goodIn_of _ (by decide +kernel)) ggX8_command_X8_blankAnd
set_option maxRecDepth 20000 in
theorem ggX8_command_X8_does : GoodIn wsX8_command wsX8_does := goodIn_r _ [32, 33, 34, 35, 6, 36, 37, 38, 39, 40, 22, 23, 24, 41, 42, 43, 44, 45, 46, 47, 48, 49, 50, 51, 52, 53, 54, 55, 56, 57, 58, 59, 60, 61, 62, 63, 64, 65, 66, 67, 68, 69, 70, 71, 72, 73, 74, 75, 76, 77, 78, 79, 80, 81, 82, 83, 84, 85, 86, 87, 88, 89, 90, 91, 92, 93, 94, 95, 96, 97, 98, 99, 100, 101, 102, 103, 104, 105, 106, 107, 108, 109, 110, 111, 112, 113, 114, 115, 116, 117, 118, 119, 120, 121, 122, 123, 124, 125, 126, 127, 128, 129, 130, 131, 132, 133, 134, 135, 136, 137, 138, 139, 140, 141, 142, 143, 144, 145, 146, 147, 148] (by decide +kernel) (by decide +kernel)
set_option maxRecDepth 20000 in
theorem gX8_command_X8_does : GoodIn wsX8_command (wsV RX8 208 RX8 yX8_does wsX8_does) := goodIn_app (goodIn_of _ (by decide +kernel)) ggX8_command_X8_does
theorem dX8_command_0 : decode cX8_command 0 = .ok (.aload_n 0, 1) := by decide +kernel
theorem dX8_command_1 : decode cX8_command 1 = .ok (.invokevirtual 199, 3) := by decide +kernel
theorem dX8_command_4 : decode cX8_command 4 = .ok (.istore_n 1, 1) := by decide +kernel
theorem dX8_command_5 : decode cX8_command 5 = .ok (.iconst 0, 1) := by decide +kernel
theorem dX8_command_6 : decode cX8_command 6 = .ok (.istore_n 2, 1) := by decide +kernel
theorem dX8_command_7 : decode cX8_command 7 = .ok (.iconst 0, 1) := by decide +kernel
theorem dX8_command_8 : decode cX8_command 8 = .ok (.istore_n 3, 1) := by decide +kernel
theorem dX8_command_9 : decode cX8_command 9 = .ok (.iconst 0, 1) := by decide +kernel
theorem dX8_command_10 : decode cX8_command 10 = .ok (.istore 4, 2) := by decide +kernel
theorem dX8_command_12 : decode cX8_command 12 = .ok (.aload_n 0, 1) := by decide +kernel
theorem dX8_command_13 : decode cX8_command 13 = .ok (.getfield 190, 3) := by decide +kernel
theorem dX8_command_16 : decode cX8_command 16 = .ok (.ifCond .ne 15, 3) := by decide +kernel
theorem dX8_command_19 : decode cX8_command 19 = .ok (.iload_n 1, 1) := by decide +kernel
theorem dX8_command_20 : decode cX8_command 20 = .ok (.bipush 7, 2) := by decide +kernel
theorem dX8_command_22 : decode cX8_command 22 = .ok (.if_icmp .ge 9, 3) := by decide +kernel
theorem dX8_command_25 : decode cX8_command 25 = .ok (.aload_n 0, 1) := by decide +kernel
theorem dX8_command_26 : decode cX8_command 26 = .ok (.iconst 1, 1) := by decide +kernel
theorem dX8_command_27 : decode cX8_command 27 = .ok (.invokevirtual 196, 3) := by decide +kernel
theorem dX8_command_30 : decode cX8_command 30 = .ok (.istore_n 2, 1) := by decide +kernel
theorem dX8_command_31 : decode cX8_command 31 = .ok (.iload_n 1, 1) := by decide +kernel
theorem dX8_command_32 : decode cX8_command 32 = .ok (.ifCond .eq 13, 3) := by decide +kernel
theorem dX8_command_35 : decode cX8_command 35 = .ok (.iload_n 1, 1) := by decide +kernel
theorem dX8_command_36 : decode cX8_command 36 = .ok (.iconst 1, 1) := by decide +kernel
theorem dX8_command_37 : decode cX8_command 37 = .ok (.if_icmp .eq 8, 3) := by decide +kernel
theorem dX8_command_40 : decode cX8_command 40 = .ok (.iload_n 1, 1) := by decide +kernel
theorem dX8_command_41 : decode cX8_command 41 = .ok (.iconst 5, 1) := by decide +kernel
theorem dX8_command_42 : decode cX8_command 42 = .ok (.if_icmp .ne 9, 3) := by decide +kernel
theorem dX8_command_45 : decode cX8_command 45 = .ok (.aload_n 0, 1) := by decide +kernel
theorem dX8_command_46 : decode cX8_command 46 = .ok (.iconst 1, 1) := by decide +kernel
theorem dX8_command_47 : decode cX8_command 47 = .ok (.invokevirtual 202, 3) := by decide +kernel
theorem dX8_command_50 : decode cX8_command 50 = .ok (.istore_n 3, 1) := by decide +kernel
theorem dX8_command_51 : decode cX8_command 51 = .ok (.iload_n 1, 1) := by decide +kernel
theorem dX8_command_52 : decode cX8_command 52 = .ok (.iconst 2, 1) := by decide +kernel
theorem dX8_command_53 : decode cX8_command 53 = .ok (.if_icmp .eq 8, 3) := by decide +kernel
theorem dX8_command_56 : decode cX8_command 56 = .ok (.iload_n 1, 1) := by decide +kernel
theorem dX8_command_57 : decode cX8_command 57 = .ok (.iconst 4, 1) := by decide +kernel
theorem dX8_command_58 : decode cX8_command 58 = .ok (.if_icmp .ne 9, 3) := by decide +kernel
theorem dX8_command_61 : decode cX8_command 61 = .ok (.aload_n 0, 1) := by decide +kernel
theorem dX8_command_62 : decode cX8_command 62 = .ok (.iconst 2, 1) := by decide +kernel
theorem dX8_command_63 : decode cX8_command 63 = .ok (.invokevirtual 202, 3) := by decide +kernel
theorem dX8_command_66 : decode cX8_command 66 = .ok (.istore_n 3, 1) := by decide +kernel
theorem dX8_command_67 : decode cX8_command 67 = .ok (.iload_n 1, 1) := by decide +kernel
theorem dX8_command_68 : decode cX8_command 68 = .ok (.iconst 2, 1) := by decide +kernel
theorem dX8_command_69 : decode cX8_command 69 = .ok (.if_icmp .ne 10, 3) := by decide +kernel
theorem dX8_command_72 : decode cX8_command 72 = .ok (.aload_n 0, 1) := by decide +kernel
theorem dX8_command_73 : decode cX8_command 73 = .ok (.iconst 1, 1) := by decide +kernel
theorem dX8_command_74 : decode cX8_command 74 = .ok (.invokevirtual 202, 3) := by decide +kernel
theorem dX8_command_77 : decode cX8_command 77 = .ok (.istore 4, 2) := by decide +kernel
theorem dX8_command_79 : decode cX8_command 79 = .ok (.aload_n 0, 1) := by decide +kernel
theorem dX8_command_80 : decode cX8_command 80 = .ok (.getfield 190, 3) := by decide +kernel
theorem dX8_command_83 : decode cX8_command 83 = .ok (.ifCond .ne 10, 3) := by decide +kernel
theorem dX8_command_86 : decode cX8_command 86 = .ok (.aload_n 0, 1) := by decide +kernel
theorem dX8_command_87 : decode cX8_command 87 = .ok (.getfield 205, 3) := by decide +kernel
theorem dX8_command_90 : decode cX8_command 90 = .ok (.ifCond .ne 4, 3) := by decide +kernel
theorem dX8_command_93 : decode cX8_command 93 = .ok (.return_, 1) := by decide +kernel
theorem dX8_command_94 : decode cX8_command 94 = .ok (.aload_n 0, 1) := by decide +kernel
theorem dX8_command_95 : decode cX8_command 95 = .ok (.iload_n 1, 1) := by decide +kernel
theorem dX8_command_96 : decode cX8_command 96 = .ok (.iload_n 2, 1) := by decide +kernel
theorem dX8_command_97 : decode cX8_command 97 = .ok (.iload_n 3, 1) := by decide +kernel
theorem dX8_command_98 : decode cX8_command 98 = .ok (.iload 4, 2) := by decide +kernel
theorem dX8_command_100 : decode cX8_command 100 = .ok (.invokevirtual 208, 3) := by decide +kernel
theorem dX8_command_103 : decode cX8_command 103 = .ok (.istore 5, 2) := by decide +kernel
theorem dX8_command_105 : decode cX8_command 105 = .ok (.return_, 1) := by decide +kernel
set_option maxRecDepth 20000 in
theorem ggX8_commands_X8_command : GoodIn wsX8_commands wsX8_command := goodIn_r _ [9, 2, 10, 11, 12, 13, 8, 14, 15, 16, 17, 1, 18, 19, 20, 21, 4, 22, 23, 24, 25, 26, 27, 28, 29, 30, 31, 32, 33, 34, 35, 36, 37, 38, 39, 40, 41, 42, 43, 44, 45, 46, 47, 48, 49, 3, 50, 51, 52, 53, 54, 55, 56, 57, 58, 59, 60, 61, 62, 63, 64, 65, 66, 67, 68, 69, 70, 71, 72, 73, 74, 75, 76, 77, 78, 79, 80, 81, 82, 83, 84, 85, 86, 87, 88, 89, 90, 91, 92, 93, 94, 95, 96, 97, 98, 99, 100, 101, 102, 103, 104, 105, 106, 107, 108, 109, 110, 111, 112, 113, 114, 115, 116, 117, 118, 119, 120, 121, 122, 123, 124, 125, 126, 127, 128, 129, 130, 131, 132, 133, 134, 135, 136, 137, 138, 139, 140, 141, 142, 143, 144, 145, 146, 147, 148, 149, 150, 151, 152] (by decide +kernel) (by decide +kernel)
set_option maxRecDepth 20000 in
theorem gX8_commands_X8_command : GoodIn wsX8_commands (wsV RX8 212 RX8 yX8_command wsX8_command) := goodIn_app (goodIn_of _ (by decide +kernel)) ggX8_commands_X8_command
set_option maxRecDepth 20000 in
theorem ggX8_commands_X8_sign : GoodIn wsX8_commands wsX8_sign := goodIn_r _ [21, 1, 4, 22, 126, 127, 128, 129, 130, 131, 132, 133, 134, 135, 136, 137, 138, 139, 140, 141, 142, 143, 144, 145, 146, 147, 148, 149, 150, 151, 152] (by decide +kernel) (by decide +kernel)
set_option maxRecDepth 20000 in
theorem gX8_commands_X8_sign : GoodIn wsX8_commands (wsV RX8 193 RX8 yX8_sign wsX8_sign) := goodIn_app (goodIn_of _ (by decide +kernel)) ggX8_commands_X8_sign
theorem dX8_commands_0 : decode cX8_commands 0 = .ok (.aload_n 0, 1) := by decide +kernel
theorem dX8_commands_1 : decode cX8_commands 1 = .ok (.iconst 0, 1) := by decide +kernel
theorem dX8_commands_2 : decode cX8_commands 2 = .ok (.putfield 184, 3) := by decide +kernel
theorem dX8_commands_5 : decode cX8_commands 5 = .ok (.aload_n 0, 1) := by decide +kernel
theorem dX8_commands_6 : decode cX8_commands 6 = .ok (.iconst 0, 1) := by decide +kernel
theorem dX8_commands_7 : decode cX8_commands 7 = .ok (.putfield 190, 3) := by decide +kernel
theorem dX8_commands_10 : decode cX8_commands 10 = .ok (.iconst 1, 1) := by decide +kernel
theorem dX8_commands_11 : decode cX8_commands 11 = .ok (.istore_n 1, 1) := by decide +kernel
theorem dX8_commands_12 : decode cX8_commands 12 = .ok (.aload_n 0, 1) := by decide +kernel
theorem dX8_commands_13 : decode cX8_commands 13 = .ok (.invokevirtual 212, 3) := by decide +kernel
theorem dX8_commands_16 : decode cX8_commands 16 = .ok (.aload_n 0, 1) := by decide +kernel
theorem dX8_commands_17 : decode cX8_commands 17 = .ok (.getfield 190, 3) := by decide +kernel
theorem dX8_commands_20 : decode cX8_commands 20 = .ok (.ifCond .ne 77, 3) := by decide +kernel
theorem dX8_commands_23 : decode cX8_commands 23 = .ok (.aload_n 0, 1) := by decide +kernel
theorem dX8_commands_24 : decode cX8_commands 24 = .ok (.getfield 54, 3) := by decide +kernel
theorem dX8_commands_27 : decode cX8_commands 27 = .ok (.ifCond .ne 70, 3) := by decide +kernel
theorem dX8_commands_30 : decode cX8_commands 30 = .ok (.aload_n 0, 1) := by decide +kernel
theorem dX8_commands_31 : decode cX8_commands 31 = .ok (.getfield 184, 3) := by decide +kernel
theorem dX8_commands_34 : decode cX8_commands 34 = .ok (.aload_n 0, 1) := by decide +kernel
theorem dX8_commands_35 : decode cX8_commands 35 = .ok (.getfield 187, 3) := by decide +kernel
theorem dX8_commands_38 : decode cX8_commands 38 = .ok (.if_icmp .ge 59, 3) := by decide +kernel
theorem dX8_commands_41 : decode cX8_commands 41 = .ok (.aload_n 0, 1) := by decide +kernel
theorem dX8_commands_42 : decode cX8_commands 42 = .ok (.aload_n 0, 1) := by decide +kernel
theorem dX8_commands_43 : decode cX8_commands 43 = .ok (.invokevirtual 193, 3) := by decide +kernel
theorem dX8_commands_46 : decode cX8_commands 46 = .ok (.bipush 59, 2) := by decide +kernel
theorem dX8_commands_48 : decode cX8_commands 48 = .ok (.if_icmp .eq 7, 3) := by decide +kernel
theorem dX8_commands_51 : decode cX8_commands 51 = .ok (.iconst 1, 1) := by decide +kernel
theorem dX8_commands_52 : decode cX8_commands 52 = .ok (.goto 4, 3) := by decide +kernel
theorem dX8_commands_55 : decode cX8_commands 55 = .ok (.iconst 0, 1) := by decide +kernel
theorem dX8_commands_56 : decode cX8_commands 56 = .ok (.putfield 190, 3) := by decide +kernel
theorem dX8_commands_59 : decode cX8_commands 59 = .ok (.aload_n 0, 1) := by decide +kernel
theorem dX8_commands_60 : decode cX8_commands 60 = .ok (.dup, 1) := by decide +kernel
theorem dX8_commands_61 : decode cX8_commands 61 = .ok (.getfield 184, 3) := by decide +kernel
theorem dX8_commands_64 : decode cX8_commands 64 = .ok (.aload_n 0, 1) := by decide +kernel
theorem dX8_commands_65 : decode cX8_commands 65 = .ok (.getfield 190, 3) := by decide +kernel
theorem dX8_commands_68 : decode cX8_commands 68 = .ok (.ifCond .eq 7, 3) := by decide +kernel
theorem dX8_commands_71 : decode cX8_commands 71 = .ok (.iconst 0, 1) := by decide +kernel
theorem dX8_commands_72 : decode cX8_commands 72 = .ok (.goto 4, 3) := by decide +kernel
theorem dX8_commands_75 : decode cX8_commands 75 = .ok (.iconst 1, 1) := by decide +kernel
theorem dX8_commands_76 : decode cX8_commands 76 = .ok (.iadd, 1) := by decide +kernel
theorem dX8_commands_77 : decode cX8_commands 77 = .ok (.putfield 184, 3) := by decide +kernel
theorem dX8_commands_80 : decode cX8_commands 80 = .ok (.aload_n 0, 1) := by decide +kernel
theorem dX8_commands_81 : decode cX8_commands 81 = .ok (.getfield 190, 3) := by decide +kernel
theorem dX8_commands_84 : decode cX8_commands 84 = .ok (.ifCond .ne 7, 3) := by decide +kernel
theorem dX8_commands_87 : decode cX8_commands 87 = .ok (.aload_n 0, 1) := by decide +kernel
theorem dX8_commands_88 : decode cX8_commands 88 = .ok (.invokevirtual 212, 3) := by decide +kernel
theorem dX8_commands_91 : decode cX8_commands 91 = .ok (.iinc 1 1, 3) := by decide +kernel
theorem dX8_commands_94 : decode cX8_commands 94 = .ok (.goto (-78), 3) := by decide +kernel
theorem dX8_commands_97 : decode cX8_commands 97 = .ok (.iload_n 1, 1) := by decide +kernel
theorem dX8_commands_98 : decode cX8_commands 98 = .ok (.ireturn, 1) := by decide +kernel
set_option maxRecDepth 20000 in
theorem ggX8_read_X8_begins : GoodIn wsX8_read wsX8_begins := goodIn_r _ [16, 7, 17, 18, 19, 20, 15, 21, 147, 148, 149, 150, 151, 152, 153, 154, 155, 156, 157, 158, 159, 160, 161, 162, 163, 164, 165, 166, 167, 168, 169, 170, 171, 172, 173] (by decide +kernel) (by decide +kernel)
set_option maxRecDepth 20000 in
theorem gX8_read_X8_begins : GoodIn wsX8_read (wsV RX8 95 RX8 yX8_begins wsX8_begins) := goodIn_app (goodIn_of _ (by decide +kernel)) ggX8_read_X8_begins
set_option maxRecDepth 20000 in
theorem ggX8_read_X8_commands : GoodIn wsX8_read wsX8_commands := goodIn_r _ [25, 5, 4, 7, 2, 26, 27, 28, 15, 29, 3, 30, 31, 32, 33, 34, 35, 36, 37, 38, 39, 40, 41, 42, 43, 44, 45, 46, 47, 48, 49, 50, 51, 52, 53, 54, 55, 56, 57, 58, 59, 60, 18, 61, 62, 63, 64, 65, 66, 67, 68, 69, 70, 71, 8, 9, 10, 72, 73, 74, 75, 76, 77, 78, 79, 80, 81, 82, 83, 84, 85, 86, 87, 88, 89, 90, 91, 92, 93, 94, 95, 96, 97, 98, 99, 100, 101, 102, 103, 104, 105, 106, 107, 108, 109, 110, 111, 112, 113, 114, 115, 116, 117, 118, 119, 120, 121, 122, 123, 124, 125, 126, 127, 128, 129, 130, 131, 132, 133, 134, 135, 136, 137, 138, 139, 140, 147, 148, 149, 150, 151, 152, 153, 154, 155, 156, 157, 158, 159, 160, 161, 162, 163, 164, 165, 166, 167, 168, 169, 170, 171, 172, 173] (by decide +kernel) (by decide +kernel)
set_option maxRecDepth 20000 in
theorem gX8_read_X8_commands : GoodIn wsX8_read (wsV RX8 215 RX8 yX8_commands wsX8_commands) := goodIn_app (goodIn_of _ (by decide +kernel)) ggX8_read_X8_commands
set_option maxRecDepth 20000 in
theorem ggX8_read_X8_ends : GoodIn wsX8_read wsX8_ends := goodIn_r _ [144, 7, 18, 17, 145, 146, 19, 20, 15, 21, 147, 148, 149, 150, 151, 152, 153, 154, 155, 156, 157, 158, 159, 160, 161, 162, 163, 164, 165, 166, 167, 168, 169, 170, 171, 172, 173] (by decide +kernel) (by decide +kernel)
set_option maxRecDepth 20000 in
theorem gX8_read_X8_ends : GoodIn wsX8_read (wsV RX8 102 RX8 yX8_ends wsX8_ends) := goodIn_app (goodIn_of _ (by decide +kernel)) ggX8_read_X8_ends
set_option maxRecDepth 20000 in
theorem ggX8_read_X8_refuses : GoodIn wsX8_read wsX8_refuses := goodIn_r _ [71, 8, 9, 10, 64, 65, 66, 15, 67, 7, 147, 148, 149, 150, 151, 152, 153, 154, 155, 156, 157, 158, 159, 160, 161, 162, 163, 164, 165, 166, 167, 168, 169, 170, 171, 172, 173] (by decide +kernel) (by decide +kernel)
set_option maxRecDepth 20000 in
theorem gX8_read_X8_refuses : GoodIn wsX8_read (wsV RX8 88 RX8 yX8_refuses wsX8_refuses) := goodIn_app (goodIn_of _ (by decide +kernel)) ggX8_read_X8_refuses
theorem dX8_read_0 : decode cX8_read 0 = .ok (.aload_n 0, 1) := by decide +kernel
theorem dX8_read_1 : decode cX8_read 1 = .ok (.invokevirtual 95, 3) := by decide +kernel
theorem dX8_read_4 : decode cX8_read 4 = .ok (.aload_n 0, 1) := by decide +kernel
theorem dX8_read_5 : decode cX8_read 5 = .ok (.aload_n 0, 1) := by decide +kernel
theorem dX8_read_6 : decode cX8_read 6 = .ok (.getfield 172, 3) := by decide +kernel
theorem dX8_read_9 : decode cX8_read 9 = .ok (.putfield 187, 3) := by decide +kernel
theorem dX8_read_12 : decode cX8_read 12 = .ok (.aload_n 0, 1) := by decide +kernel
theorem dX8_read_13 : decode cX8_read 13 = .ok (.iconst 0, 1) := by decide +kernel
theorem dX8_read_14 : decode cX8_read 14 = .ok (.putfield 172, 3) := by decide +kernel
theorem dX8_read_17 : decode cX8_read 17 = .ok (.aload_n 0, 1) := by decide +kernel
theorem dX8_read_18 : decode cX8_read 18 = .ok (.iconst 0, 1) := by decide +kernel
theorem dX8_read_19 : decode cX8_read 19 = .ok (.putfield 205, 3) := by decide +kernel
theorem dX8_read_22 : decode cX8_read 22 = .ok (.aload_n 0, 1) := by decide +kernel
theorem dX8_read_23 : decode cX8_read 23 = .ok (.invokevirtual 215, 3) := by decide +kernel
theorem dX8_read_26 : decode cX8_read 26 = .ok (.istore_n 1, 1) := by decide +kernel
theorem dX8_read_27 : decode cX8_read 27 = .ok (.aload_n 0, 1) := by decide +kernel
theorem dX8_read_28 : decode cX8_read 28 = .ok (.getfield 190, 3) := by decide +kernel
theorem dX8_read_31 : decode cX8_read 31 = .ok (.ifCond .eq 14, 3) := by decide +kernel
theorem dX8_read_34 : decode cX8_read 34 = .ok (.aload_n 0, 1) := by decide +kernel
theorem dX8_read_35 : decode cX8_read 35 = .ok (.aload_n 0, 1) := by decide +kernel
theorem dX8_read_36 : decode cX8_read 36 = .ok (.getfield 184, 3) := by decide +kernel
theorem dX8_read_39 : decode cX8_read 39 = .ok (.putfield 7, 3) := by decide +kernel
theorem dX8_read_42 : decode cX8_read 42 = .ok (.bipush (-2), 2) := by decide +kernel
theorem dX8_read_44 : decode cX8_read 44 = .ok (.ireturn, 1) := by decide +kernel
theorem dX8_read_45 : decode cX8_read 45 = .ok (.aload_n 0, 1) := by decide +kernel
theorem dX8_read_46 : decode cX8_read 46 = .ok (.iconst 1, 1) := by decide +kernel
theorem dX8_read_47 : decode cX8_read 47 = .ok (.putfield 205, 3) := by decide +kernel
theorem dX8_read_50 : decode cX8_read 50 = .ok (.aload_n 0, 1) := by decide +kernel
theorem dX8_read_51 : decode cX8_read 51 = .ok (.invokevirtual 215, 3) := by decide +kernel
theorem dX8_read_54 : decode cX8_read 54 = .ok (.istore_n 1, 1) := by decide +kernel
theorem dX8_read_55 : decode cX8_read 55 = .ok (.aload_n 0, 1) := by decide +kernel
theorem dX8_read_56 : decode cX8_read 56 = .ok (.getfield 54, 3) := by decide +kernel
theorem dX8_read_59 : decode cX8_read 59 = .ok (.ifCond .ne 9, 3) := by decide +kernel
theorem dX8_read_62 : decode cX8_read 62 = .ok (.aload_n 0, 1) := by decide +kernel
theorem dX8_read_63 : decode cX8_read 63 = .ok (.iload_n 1, 1) := by decide +kernel
theorem dX8_read_64 : decode cX8_read 64 = .ok (.invokevirtual 102, 3) := by decide +kernel
theorem dX8_read_67 : decode cX8_read 67 = .ok (.ireturn, 1) := by decide +kernel
theorem dX8_read_68 : decode cX8_read 68 = .ok (.aload_n 0, 1) := by decide +kernel
theorem dX8_read_69 : decode cX8_read 69 = .ok (.getfield 54, 3) := by decide +kernel
theorem dX8_read_72 : decode cX8_read 72 = .ok (.bipush (-5), 2) := by decide +kernel
theorem dX8_read_74 : decode cX8_read 74 = .ok (.if_icmp .ne 10, 3) := by decide +kernel
theorem dX8_read_77 : decode cX8_read 77 = .ok (.aload_n 0, 1) := by decide +kernel
theorem dX8_read_78 : decode cX8_read 78 = .ok (.getfield 57, 3) := by decide +kernel
theorem dX8_read_81 : decode cX8_read 81 = .ok (.goto 4, 3) := by decide +kernel
theorem dX8_read_84 : decode cX8_read 84 = .ok (.iconst 0, 1) := by decide +kernel
theorem dX8_read_85 : decode cX8_read 85 = .ok (.istore_n 2, 1) := by decide +kernel
theorem dX8_read_86 : decode cX8_read 86 = .ok (.aload_n 0, 1) := by decide +kernel
theorem dX8_read_87 : decode cX8_read 87 = .ok (.getfield 60, 3) := by decide +kernel
theorem dX8_read_90 : decode cX8_read 90 = .ok (.istore_n 3, 1) := by decide +kernel
theorem dX8_read_91 : decode cX8_read 91 = .ok (.aload_n 0, 1) := by decide +kernel
theorem dX8_read_92 : decode cX8_read 92 = .ok (.bipush 9, 2) := by decide +kernel
theorem dX8_read_94 : decode cX8_read 94 = .ok (.iload_n 1, 1) := by decide +kernel
theorem dX8_read_95 : decode cX8_read 95 = .ok (.iconst 1, 1) := by decide +kernel
theorem dX8_read_96 : decode cX8_read 96 = .ok (.isub, 1) := by decide +kernel
theorem dX8_read_97 : decode cX8_read 97 = .ok (.invokevirtual 88, 3) := by decide +kernel
theorem dX8_read_100 : decode cX8_read 100 = .ok (.istore 4, 2) := by decide +kernel
theorem dX8_read_102 : decode cX8_read 102 = .ok (.aload_n 0, 1) := by decide +kernel
theorem dX8_read_103 : decode cX8_read 103 = .ok (.iload_n 2, 1) := by decide +kernel
theorem dX8_read_104 : decode cX8_read 104 = .ok (.putfield 63, 3) := by decide +kernel
theorem dX8_read_107 : decode cX8_read 107 = .ok (.aload_n 0, 1) := by decide +kernel
theorem dX8_read_108 : decode cX8_read 108 = .ok (.iload_n 3, 1) := by decide +kernel
theorem dX8_read_109 : decode cX8_read 109 = .ok (.putfield 218, 3) := by decide +kernel
theorem dX8_read_112 : decode cX8_read 112 = .ok (.aload_n 0, 1) := by decide +kernel
theorem dX8_read_113 : decode cX8_read 113 = .ok (.iload 4, 2) := by decide +kernel
theorem dX8_read_115 : decode cX8_read 115 = .ok (.invokevirtual 102, 3) := by decide +kernel
theorem dX8_read_118 : decode cX8_read 118 = .ok (.ireturn, 1) := by decide +kernel
theorem dX8_fault_0 : decode cX8_fault 0 = .ok (.aload_n 0, 1) := by decide +kernel
theorem dX8_fault_1 : decode cX8_fault 1 = .ok (.getfield 7, 3) := by decide +kernel
theorem dX8_fault_4 : decode cX8_fault 4 = .ok (.ifCond .ge 8, 3) := by decide +kernel
theorem dX8_fault_7 : decode cX8_fault 7 = .ok (.bipush (-3), 2) := by decide +kernel
theorem dX8_fault_9 : decode cX8_fault 9 = .ok (.goto 7, 3) := by decide +kernel
theorem dX8_fault_12 : decode cX8_fault 12 = .ok (.aload_n 0, 1) := by decide +kernel
theorem dX8_fault_13 : decode cX8_fault 13 = .ok (.getfield 7, 3) := by decide +kernel
theorem dX8_fault_16 : decode cX8_fault 16 = .ok (.ireturn, 1) := by decide +kernel
set_option maxRecDepth 20000 in
theorem ggX8_reason_X8_isIn : GoodIn wsX8_reason wsX8_isIn := goodIn_r _ [8] (by decide +kernel) (by decide +kernel)
set_option maxRecDepth 20000 in
theorem gX8_reason_X8_isIn : GoodIn wsX8_reason (va_wsS RX8 77 yX8_isIn wsX8_isIn) := goodIn_app (goodIn_of _ (by decide +kernel)) ggX8_reason_X8_isIn
theorem dX8_reason_0 : decode cX8_reason 0 = .ok (.iload_n 1, 1) := by decide +kernel
theorem dX8_reason_1 : decode cX8_reason 1 = .ok (.iconst 0, 1) := by decide +kernel
theorem dX8_reason_2 : decode cX8_reason 2 = .ok (.iconst 1, 1) := by decide +kernel
theorem dX8_reason_3 : decode cX8_reason 3 = .ok (.invokestatic 77, 3) := by decide +kernel
theorem dX8_reason_6 : decode cX8_reason 6 = .ok (.ifCond .ne 6, 3) := by decide +kernel
theorem dX8_reason_9 : decode cX8_reason 9 = .ok (.bipush (-2), 2) := by decide +kernel
theorem dX8_reason_11 : decode cX8_reason 11 = .ok (.ireturn, 1) := by decide +kernel
theorem dX8_reason_12 : decode cX8_reason 12 = .ok (.aload_n 0, 1) := by decide +kernel
theorem dX8_reason_13 : decode cX8_reason 13 = .ok (.getfield 57, 3) := by decide +kernel
theorem dX8_reason_16 : decode cX8_reason 16 = .ok (.ifCond .ne 6, 3) := by decide +kernel
theorem dX8_reason_19 : decode cX8_reason 19 = .ok (.bipush (-3), 2) := by decide +kernel
theorem dX8_reason_21 : decode cX8_reason 21 = .ok (.ireturn, 1) := by decide +kernel
theorem dX8_reason_22 : decode cX8_reason 22 = .ok (.iload_n 1, 1) := by decide +kernel
theorem dX8_reason_23 : decode cX8_reason 23 = .ok (.ifCond .ne 19, 3) := by decide +kernel
theorem dX8_reason_26 : decode cX8_reason 26 = .ok (.iload_n 2, 1) := by decide +kernel
theorem dX8_reason_27 : decode cX8_reason 27 = .ok (.ifCond .eq 10, 3) := by decide +kernel
theorem dX8_reason_30 : decode cX8_reason 30 = .ok (.aload_n 0, 1) := by decide +kernel
theorem dX8_reason_31 : decode cX8_reason 31 = .ok (.getfield 60, 3) := by decide +kernel
theorem dX8_reason_34 : decode cX8_reason 34 = .ok (.goto 7, 3) := by decide +kernel
theorem dX8_reason_37 : decode cX8_reason 37 = .ok (.aload_n 0, 1) := by decide +kernel
theorem dX8_reason_38 : decode cX8_reason 38 = .ok (.getfield 57, 3) := by decide +kernel
theorem dX8_reason_41 : decode cX8_reason 41 = .ok (.ireturn, 1) := by decide +kernel
theorem dX8_reason_42 : decode cX8_reason 42 = .ok (.aload_n 0, 1) := by decide +kernel
theorem dX8_reason_43 : decode cX8_reason 43 = .ok (.getfield 63, 3) := by decide +kernel
theorem dX8_reason_46 : decode cX8_reason 46 = .ok (.ifCond .ne 8, 3) := by decide +kernel
theorem dX8_reason_49 : decode cX8_reason 49 = .ok (.bipush (-6), 2) := by decide +kernel
theorem dX8_reason_51 : decode cX8_reason 51 = .ok (.goto 18, 3) := by decide +kernel
theorem dX8_reason_54 : decode cX8_reason 54 = .ok (.iload_n 2, 1) := by decide +kernel
theorem dX8_reason_55 : decode cX8_reason 55 = .ok (.ifCond .eq 10, 3) := by decide +kernel
theorem dX8_reason_58 : decode cX8_reason 58 = .ok (.aload_n 0, 1) := by decide +kernel
theorem dX8_reason_59 : decode cX8_reason 59 = .ok (.getfield 218, 3) := by decide +kernel
theorem dX8_reason_62 : decode cX8_reason 62 = .ok (.goto 7, 3) := by decide +kernel
theorem dX8_reason_65 : decode cX8_reason 65 = .ok (.aload_n 0, 1) := by decide +kernel
theorem dX8_reason_66 : decode cX8_reason 66 = .ok (.getfield 63, 3) := by decide +kernel
theorem dX8_reason_69 : decode cX8_reason 69 = .ok (.ireturn, 1) := by decide +kernel
theorem dX8_undo_0 : decode cX8_undo 0 = .ok (.aload_n 0, 1) := by decide +kernel
theorem dX8_undo_1 : decode cX8_undo 1 = .ok (.getfield 74, 3) := by decide +kernel
theorem dX8_undo_4 : decode cX8_undo 4 = .ok (.ifCond .ne 6, 3) := by decide +kernel
theorem dX8_undo_7 : decode cX8_undo 7 = .ok (.bipush (-3), 2) := by decide +kernel
theorem dX8_undo_9 : decode cX8_undo 9 = .ok (.ireturn, 1) := by decide +kernel
theorem dX8_undo_10 : decode cX8_undo 10 = .ok (.aload_n 0, 1) := by decide +kernel
theorem dX8_undo_11 : decode cX8_undo 11 = .ok (.dup, 1) := by decide +kernel
theorem dX8_undo_12 : decode cX8_undo 12 = .ok (.getfield 74, 3) := by decide +kernel
theorem dX8_undo_15 : decode cX8_undo 15 = .ok (.iconst 1, 1) := by decide +kernel
theorem dX8_undo_16 : decode cX8_undo 16 = .ok (.isub, 1) := by decide +kernel
theorem dX8_undo_17 : decode cX8_undo 17 = .ok (.putfield 74, 3) := by decide +kernel
theorem dX8_undo_20 : decode cX8_undo 20 = .ok (.iconst 0, 1) := by decide +kernel
theorem dX8_undo_21 : decode cX8_undo 21 = .ok (.istore_n 1, 1) := by decide +kernel
theorem dX8_undo_22 : decode cX8_undo 22 = .ok (.iload_n 1, 1) := by decide +kernel
theorem dX8_undo_23 : decode cX8_undo 23 = .ok (.bipush 79, 2) := by decide +kernel
theorem dX8_undo_25 : decode cX8_undo 25 = .ok (.if_icmp .ge 29, 3) := by decide +kernel
theorem dX8_undo_28 : decode cX8_undo 28 = .ok (.aload_n 0, 1) := by decide +kernel
theorem dX8_undo_29 : decode cX8_undo 29 = .ok (.getfield 13, 3) := by decide +kernel
theorem dX8_undo_32 : decode cX8_undo 32 = .ok (.iload_n 1, 1) := by decide +kernel
theorem dX8_undo_33 : decode cX8_undo 33 = .ok (.aload_n 0, 1) := by decide +kernel
theorem dX8_undo_34 : decode cX8_undo 34 = .ok (.getfield 26, 3) := by decide +kernel
theorem dX8_undo_37 : decode cX8_undo 37 = .ok (.aload_n 0, 1) := by decide +kernel
theorem dX8_undo_38 : decode cX8_undo 38 = .ok (.getfield 74, 3) := by decide +kernel
theorem dX8_undo_41 : decode cX8_undo 41 = .ok (.bipush 79, 2) := by decide +kernel
theorem dX8_undo_43 : decode cX8_undo 43 = .ok (.imul, 1) := by decide +kernel
theorem dX8_undo_44 : decode cX8_undo 44 = .ok (.iload_n 1, 1) := by decide +kernel
theorem dX8_undo_45 : decode cX8_undo 45 = .ok (.iadd, 1) := by decide +kernel
theorem dX8_undo_46 : decode cX8_undo 46 = .ok (.iaload, 1) := by decide +kernel
theorem dX8_undo_47 : decode cX8_undo 47 = .ok (.iastore, 1) := by decide +kernel
theorem dX8_undo_48 : decode cX8_undo 48 = .ok (.iinc 1 1, 3) := by decide +kernel
theorem dX8_undo_51 : decode cX8_undo 51 = .ok (.goto (-29), 3) := by decide +kernel
theorem dX8_undo_54 : decode cX8_undo 54 = .ok (.aload_n 0, 1) := by decide +kernel
theorem dX8_undo_55 : decode cX8_undo 55 = .ok (.getfield 74, 3) := by decide +kernel
theorem dX8_undo_58 : decode cX8_undo 58 = .ok (.ireturn, 1) := by decide +kernel
set_option maxRecDepth 20000 in
theorem ggX8_save_X8_lays : GoodIn wsX8_save wsX8_lays := goodIn_r _ [7] (by decide +kernel) (by decide +kernel)
set_option maxRecDepth 20000 in
theorem gX8_save_X8_lays : GoodIn wsX8_save (va_wsS RX8 70 yX8_lays wsX8_lays) := goodIn_app (goodIn_of _ (by decide +kernel)) ggX8_save_X8_lays
theorem dX8_save_0 : decode cX8_save 0 = .ok (.aload_n 0, 1) := by decide +kernel
theorem dX8_save_1 : decode cX8_save 1 = .ok (.getfield 20, 3) := by decide +kernel
theorem dX8_save_4 : decode cX8_save 4 = .ok (.aload_n 0, 1) := by decide +kernel
theorem dX8_save_5 : decode cX8_save 5 = .ok (.getfield 13, 3) := by decide +kernel
theorem dX8_save_8 : decode cX8_save 8 = .ok (.invokestatic 70, 3) := by decide +kernel
theorem dX8_save_11 : decode cX8_save 11 = .ok (.aload_n 0, 1) := by decide +kernel
theorem dX8_save_12 : decode cX8_save 12 = .ok (.iconst 1, 1) := by decide +kernel
theorem dX8_save_13 : decode cX8_save 13 = .ok (.putfield 221, 3) := by decide +kernel
theorem dX8_save_16 : decode cX8_save 16 = .ok (.aload_n 0, 1) := by decide +kernel
theorem dX8_save_17 : decode cX8_save 17 = .ok (.getfield 13, 3) := by decide +kernel
theorem dX8_save_20 : decode cX8_save 20 = .ok (.iconst 0, 1) := by decide +kernel
theorem dX8_save_21 : decode cX8_save 21 = .ok (.iaload, 1) := by decide +kernel
theorem dX8_save_22 : decode cX8_save 22 = .ok (.ireturn, 1) := by decide +kernel
set_option maxRecDepth 20000 in
theorem ggX8_restore_X8_lays : GoodIn wsX8_restore wsX8_lays := goodIn_r _ [8] (by decide +kernel) (by decide +kernel)
set_option maxRecDepth 20000 in
theorem gX8_restore_X8_lays : GoodIn wsX8_restore (va_wsS RX8 70 yX8_lays wsX8_lays) := goodIn_app (goodIn_of _ (by decide +kernel)) ggX8_restore_X8_lays
theorem dX8_restore_0 : decode cX8_restore 0 = .ok (.aload_n 0, 1) := by decide +kernel
theorem dX8_restore_1 : decode cX8_restore 1 = .ok (.getfield 221, 3) := by decide +kernel
theorem dX8_restore_4 : decode cX8_restore 4 = .ok (.ifCond .ne 6, 3) := by decide +kernel
theorem dX8_restore_7 : decode cX8_restore 7 = .ok (.bipush (-3), 2) := by decide +kernel
theorem dX8_restore_9 : decode cX8_restore 9 = .ok (.ireturn, 1) := by decide +kernel
theorem dX8_restore_10 : decode cX8_restore 10 = .ok (.aload_n 0, 1) := by decide +kernel
theorem dX8_restore_11 : decode cX8_restore 11 = .ok (.getfield 13, 3) := by decide +kernel
theorem dX8_restore_14 : decode cX8_restore 14 = .ok (.aload_n 0, 1) := by decide +kernel
theorem dX8_restore_15 : decode cX8_restore 15 = .ok (.getfield 20, 3) := by decide +kernel
theorem dX8_restore_18 : decode cX8_restore 18 = .ok (.invokestatic 70, 3) := by decide +kernel
theorem dX8_restore_21 : decode cX8_restore 21 = .ok (.aload_n 0, 1) := by decide +kernel
theorem dX8_restore_22 : decode cX8_restore 22 = .ok (.iconst 0, 1) := by decide +kernel
theorem dX8_restore_23 : decode cX8_restore 23 = .ok (.putfield 74, 3) := by decide +kernel
theorem dX8_restore_26 : decode cX8_restore 26 = .ok (.aload_n 0, 1) := by decide +kernel
theorem dX8_restore_27 : decode cX8_restore 27 = .ok (.getfield 13, 3) := by decide +kernel
theorem dX8_restore_30 : decode cX8_restore 30 = .ok (.iconst 0, 1) := by decide +kernel
theorem dX8_restore_31 : decode cX8_restore 31 = .ok (.iaload, 1) := by decide +kernel
theorem dX8_restore_32 : decode cX8_restore 32 = .ok (.ireturn, 1) := by decide +kernel
set_option maxRecDepth 20000 in
theorem ggJ5_init_d00df_J2_newBytesFor_77867 : GoodIn wsJ5_init_d00df wsJ2_newBytesFor_77867 := goodIn_r _ [11, 5, 12, 13, 10, 14, 15] (by decide +kernel) (by decide +kernel)
set_option maxRecDepth 20000 in
theorem gJ5_init_d00df_J2_newBytesFor_77867 : GoodIn wsJ5_init_d00df (va_wsS RJ5 26 yJ2_newBytesFor_77867 wsJ2_newBytesFor_77867) := goodIn_app (goodIn_of _ (by decide +kernel)) ggJ5_init_d00df_J2_newBytesFor_77867
