theorem dX4_init_0 : decode cX4_init 0 = .ok (.aload_n 0, 1) := by decide +kernel
theorem dX4_init_1 : decode cX4_init 1 = .ok (.invokespecial 3, 3) := by decide +kernel
theorem dX4_init_4 : decode cX4_init 4 = .ok (.aload_n 0, 1) := by decide +kernel
theorem dX4_init_5 : decode cX4_init 5 = .ok (.iconst 0, 1) := by decide +kernel
theorem dX4_init_6 : decode cX4_init 6 = .ok (.putfield 9, 3) := by decide +kernel
theorem dX4_init_9 : decode cX4_init 9 = .ok (.aload_n 0, 1) := by decide +kernel
theorem dX4_init_10 : decode cX4_init 10 = .ok (.iconst 0, 1) := by decide +kernel
theorem dX4_init_11 : decode cX4_init 11 = .ok (.putfield 15, 3) := by decide +kernel
theorem dX4_init_14 : decode cX4_init 14 = .ok (.aload_n 0, 1) := by decide +kernel
theorem dX4_init_15 : decode cX4_init 15 = .ok (.iconst 0, 1) := by decide +kernel
theorem dX4_init_16 : decode cX4_init 16 = .ok (.putfield 18, 3) := by decide +kernel
theorem dX4_init_19 : decode cX4_init 19 = .ok (.aload_n 0, 1) := by decide +kernel
theorem dX4_init_20 : decode cX4_init 20 = .ok (.iconst 0, 1) := by decide +kernel
theorem dX4_init_21 : decode cX4_init 21 = .ok (.putfield 21, 3) := by decide +kernel
theorem dX4_init_24 : decode cX4_init 24 = .ok (.return_, 1) := by decide +kernel
theorem dX4_keep_0 : decode cX4_keep 0 = .ok (.aload_n 0, 1) := by decide +kernel
theorem dX4_keep_1 : decode cX4_keep 1 = .ok (.iload_n 1, 1) := by decide +kernel
theorem dX4_keep_2 : decode cX4_keep 2 = .ok (.putfield 9, 3) := by decide +kernel
theorem dX4_keep_5 : decode cX4_keep 5 = .ok (.aload_n 0, 1) := by decide +kernel
theorem dX4_keep_6 : decode cX4_keep 6 = .ok (.iload_n 2, 1) := by decide +kernel
theorem dX4_keep_7 : decode cX4_keep 7 = .ok (.putfield 15, 3) := by decide +kernel
theorem dX4_keep_10 : decode cX4_keep 10 = .ok (.aload_n 0, 1) := by decide +kernel
theorem dX4_keep_11 : decode cX4_keep 11 = .ok (.iconst 0, 1) := by decide +kernel
theorem dX4_keep_12 : decode cX4_keep 12 = .ok (.putfield 18, 3) := by decide +kernel
theorem dX4_keep_15 : decode cX4_keep 15 = .ok (.aload_n 0, 1) := by decide +kernel
theorem dX4_keep_16 : decode cX4_keep 16 = .ok (.iconst 0, 1) := by decide +kernel
theorem dX4_keep_17 : decode cX4_keep 17 = .ok (.putfield 21, 3) := by decide +kernel
theorem dX4_keep_20 : decode cX4_keep 20 = .ok (.bipush (-5), 2) := by decide +kernel
theorem dX4_keep_22 : decode cX4_keep 22 = .ok (.ireturn, 1) := by decide +kernel
theorem dX4_keepOfCommand_0 : decode cX4_keepOfCommand 0 = .ok (.aload_n 0, 1) := by decide +kernel
theorem dX4_keepOfCommand_1 : decode cX4_keepOfCommand 1 = .ok (.iload_n 2, 1) := by decide +kernel
theorem dX4_keepOfCommand_2 : decode cX4_keepOfCommand 2 = .ok (.ifCond .eq 10, 3) := by decide +kernel
theorem dX4_keepOfCommand_5 : decode cX4_keepOfCommand 5 = .ok (.aload_n 0, 1) := by decide +kernel
theorem dX4_keepOfCommand_6 : decode cX4_keepOfCommand 6 = .ok (.getfield 9, 3) := by decide +kernel
theorem dX4_keepOfCommand_9 : decode cX4_keepOfCommand 9 = .ok (.goto 4, 3) := by decide +kernel
theorem dX4_keepOfCommand_12 : decode cX4_keepOfCommand 12 = .ok (.iconst 0, 1) := by decide +kernel
theorem dX4_keepOfCommand_13 : decode cX4_keepOfCommand 13 = .ok (.putfield 18, 3) := by decide +kernel
theorem dX4_keepOfCommand_16 : decode cX4_keepOfCommand 16 = .ok (.aload_n 0, 1) := by decide +kernel
theorem dX4_keepOfCommand_17 : decode cX4_keepOfCommand 17 = .ok (.iload_n 2, 1) := by decide +kernel
theorem dX4_keepOfCommand_18 : decode cX4_keepOfCommand 18 = .ok (.ifCond .eq 10, 3) := by decide +kernel
theorem dX4_keepOfCommand_21 : decode cX4_keepOfCommand 21 = .ok (.aload_n 0, 1) := by decide +kernel
theorem dX4_keepOfCommand_22 : decode cX4_keepOfCommand 22 = .ok (.getfield 15, 3) := by decide +kernel
theorem dX4_keepOfCommand_25 : decode cX4_keepOfCommand 25 = .ok (.goto 4, 3) := by decide +kernel
theorem dX4_keepOfCommand_28 : decode cX4_keepOfCommand 28 = .ok (.iconst 0, 1) := by decide +kernel
theorem dX4_keepOfCommand_29 : decode cX4_keepOfCommand 29 = .ok (.putfield 21, 3) := by decide +kernel
theorem dX4_keepOfCommand_32 : decode cX4_keepOfCommand 32 = .ok (.aload_n 0, 1) := by decide +kernel
theorem dX4_keepOfCommand_33 : decode cX4_keepOfCommand 33 = .ok (.bipush 9, 2) := by decide +kernel
theorem dX4_keepOfCommand_35 : decode cX4_keepOfCommand 35 = .ok (.putfield 9, 3) := by decide +kernel
theorem dX4_keepOfCommand_38 : decode cX4_keepOfCommand 38 = .ok (.aload_n 0, 1) := by decide +kernel
theorem dX4_keepOfCommand_39 : decode cX4_keepOfCommand 39 = .ok (.iload_n 1, 1) := by decide +kernel
theorem dX4_keepOfCommand_40 : decode cX4_keepOfCommand 40 = .ok (.putfield 15, 3) := by decide +kernel
theorem dX4_keepOfCommand_43 : decode cX4_keepOfCommand 43 = .ok (.bipush (-5), 2) := by decide +kernel
theorem dX4_keepOfCommand_45 : decode cX4_keepOfCommand 45 = .ok (.ireturn, 1) := by decide +kernel
set_option maxRecDepth 20000 in
theorem ggX5_init_J4_init_da8c8 : GoodIn wsX5_init wsJ4_init_da8c8 := goodIn_r _ [16, 17, 18, 19, 20, 21, 2, 3, 22, 23, 24, 25, 26, 27, 28, 29, 30, 31, 32, 33, 34, 35, 36, 37] (by decide +kernel) (by decide +kernel)
set_option maxRecDepth 20000 in
theorem gX5_init_J4_init_da8c8 : GoodIn wsX5_init (wsJ4_init_da8c8) := ggX5_init_J4_init_da8c8
theorem dX5_init_0 : decode cX5_init 0 = .ok (.aload_n 0, 1) := by decide +kernel
theorem dX5_init_1 : decode cX5_init 1 = .ok (.invokespecial 3, 3) := by decide +kernel
theorem dX5_init_4 : decode cX5_init 4 = .ok (.aload_n 0, 1) := by decide +kernel
theorem dX5_init_5 : decode cX5_init 5 = .ok (.new 9, 3) := by decide +kernel
theorem dX5_init_8 : decode cX5_init 8 = .ok (.dup, 1) := by decide +kernel
theorem dX5_init_9 : decode cX5_init 9 = .ok (.invokespecial 11, 3) := by decide +kernel
theorem dX5_init_12 : decode cX5_init 12 = .ok (.putfield 12, 3) := by decide +kernel
theorem dX5_init_15 : decode cX5_init 15 = .ok (.aload_n 0, 1) := by decide +kernel
theorem dX5_init_16 : decode cX5_init 16 = .ok (.iconst 0, 1) := by decide +kernel
theorem dX5_init_17 : decode cX5_init 17 = .ok (.putfield 18, 3) := by decide +kernel
theorem dX5_init_20 : decode cX5_init 20 = .ok (.aload_n 0, 1) := by decide +kernel
theorem dX5_init_21 : decode cX5_init 21 = .ok (.iconst 0, 1) := by decide +kernel
theorem dX5_init_22 : decode cX5_init 22 = .ok (.putfield 22, 3) := by decide +kernel
theorem dX5_init_25 : decode cX5_init 25 = .ok (.aload_n 0, 1) := by decide +kernel
theorem dX5_init_26 : decode cX5_init 26 = .ok (.bipush 12, 2) := by decide +kernel
theorem dX5_init_28 : decode cX5_init 28 = .ok (.newarray .int, 2) := by decide +kernel
theorem dX5_init_30 : decode cX5_init 30 = .ok (.putfield 25, 3) := by decide +kernel
theorem dX5_init_33 : decode cX5_init 33 = .ok (.aload_n 0, 1) := by decide +kernel
theorem dX5_init_34 : decode cX5_init 34 = .ok (.bipush 12, 2) := by decide +kernel
theorem dX5_init_36 : decode cX5_init 36 = .ok (.iconst 3, 1) := by decide +kernel
theorem dX5_init_37 : decode cX5_init 37 = .ok (.multianewarray 29 2, 4) := by decide +kernel
theorem dX5_init_41 : decode cX5_init 41 = .ok (.putfield 31, 3) := by decide +kernel
theorem dX5_init_44 : decode cX5_init 44 = .ok (.return_, 1) := by decide +kernel
theorem dX5_formOf_0 : decode cX5_formOf 0 = .ok (.iload_n 0, 1) := by decide +kernel
theorem dX5_formOf_1 : decode cX5_formOf 1 = .ok (.tableswitch 64 0 6 #[43, 46, 49, 52, 55, 58, 61], 43) := by decide +kernel
theorem dX5_formOf_44 : decode cX5_formOf 44 = .ok (.ldc 34, 2) := by decide +kernel
theorem dX5_formOf_46 : decode cX5_formOf 46 = .ok (.areturn, 1) := by decide +kernel
theorem dX5_formOf_47 : decode cX5_formOf 47 = .ok (.ldc 36, 2) := by decide +kernel
theorem dX5_formOf_49 : decode cX5_formOf 49 = .ok (.areturn, 1) := by decide +kernel
theorem dX5_formOf_50 : decode cX5_formOf 50 = .ok (.ldc 38, 2) := by decide +kernel
theorem dX5_formOf_52 : decode cX5_formOf 52 = .ok (.areturn, 1) := by decide +kernel
theorem dX5_formOf_53 : decode cX5_formOf 53 = .ok (.ldc 40, 2) := by decide +kernel
theorem dX5_formOf_55 : decode cX5_formOf 55 = .ok (.areturn, 1) := by decide +kernel
theorem dX5_formOf_56 : decode cX5_formOf 56 = .ok (.ldc 42, 2) := by decide +kernel
theorem dX5_formOf_58 : decode cX5_formOf 58 = .ok (.areturn, 1) := by decide +kernel
theorem dX5_formOf_59 : decode cX5_formOf 59 = .ok (.ldc 44, 2) := by decide +kernel
theorem dX5_formOf_61 : decode cX5_formOf 61 = .ok (.areturn, 1) := by decide +kernel
theorem dX5_formOf_62 : decode cX5_formOf 62 = .ok (.ldc 46, 2) := by decide +kernel
theorem dX5_formOf_64 : decode cX5_formOf 64 = .ok (.areturn, 1) := by decide +kernel
theorem dX5_formOf_65 : decode cX5_formOf 65 = .ok (.ldc 48, 2) := by decide +kernel
theorem dX5_formOf_67 : decode cX5_formOf 67 = .ok (.areturn, 1) := by decide +kernel
set_option maxRecDepth 20000 in
theorem ggX5_isWellFormed_X5_isSignTaken : GoodIn wsX5_isWellFormed wsX5_isSignTaken := goodIn_r _ [8, 1, 3, 9, 10, 11, 12, 13, 14, 15, 16, 17, 18, 19, 20, 21, 22, 23, 24, 25, 26, 27, 28, 29, 30, 31, 32, 33, 34, 35, 36, 37, 38, 39, 40, 41, 42, 43, 44, 45, 46, 47, 48, 49, 50, 51, 52, 53, 110, 111, 112, 113, 114, 115, 116, 117, 118] (by decide +kernel) (by decide +kernel)
set_option maxRecDepth 20000 in
theorem gX5_isWellFormed_X5_isSignTaken : GoodIn wsX5_isWellFormed (wsV RX5 50 RX5 yX5_isSignTaken wsX5_isSignTaken) := goodIn_app (goodIn_of _ (by decide +kernel)) ggX5_isWellFormed_X5_isSignTaken
set_option maxRecDepth 20000 in
theorem ggX5_isWellFormed_X5_isCommandTaken : GoodIn wsX5_isWellFormed wsX5_isCommandTaken := goodIn_r _ [57, 1, 2, 58, 59, 60, 33, 61, 62, 63, 7, 64, 65, 66, 67, 68, 69, 70, 71, 37, 72, 73, 74, 75, 76, 77, 78, 79, 80, 81, 82, 83, 84, 85, 86, 87, 88, 89, 90, 91, 92, 36, 38, 39, 40, 41, 42, 43, 93, 94, 46, 95, 96, 97, 98, 51, 52, 53, 99, 100, 45, 47, 48, 49, 50, 101, 102, 103, 104, 3, 105, 106, 107, 108, 109, 9, 10, 11, 12, 13, 14, 15, 16, 17, 18, 19, 20, 21, 22, 23, 24, 25, 26, 27, 28, 29, 30, 31, 32, 34, 35, 44, 4, 5, 6, 8, 110, 111, 112, 113, 114, 119, 120, 121, 122, 115, 116, 117, 118] (by decide +kernel) (by decide +kernel)
set_option maxRecDepth 20000 in
theorem gX5_isWellFormed_X5_isCommandTaken : GoodIn wsX5_isWellFormed (wsV RX5 54 RX5 yX5_isCommandTaken wsX5_isCommandTaken) := goodIn_app (goodIn_of _ (by decide +kernel)) ggX5_isWellFormed_X5_isCommandTaken
set_option maxRecDepth 20000 in
theorem ggX5_isWellFormed_J4_length_8abf5 : GoodIn wsX5_isWellFormed wsJ4_length_8abf5 := goodIn_r _ [13, 14, 15, 16, 17, 18, 19, 20, 115, 116, 117, 118] (by decide +kernel) (by decide +kernel)
set_option maxRecDepth 20000 in
theorem gX5_isWellFormed_J4_length_8abf5 : GoodIn wsX5_isWellFormed (wsV RX5 58 RJ4 yJ4_length_8abf5 wsJ4_length_8abf5) := goodIn_app (goodIn_of _ (by decide +kernel)) ggX5_isWellFormed_J4_length_8abf5
theorem dX5_isWellFormed_0 : decode cX5_isWellFormed 0 = .ok (.aload_n 0, 1) := by decide +kernel
theorem dX5_isWellFormed_1 : decode cX5_isWellFormed 1 = .ok (.iconst 0, 1) := by decide +kernel
theorem dX5_isWellFormed_2 : decode cX5_isWellFormed 2 = .ok (.putfield 18, 3) := by decide +kernel
theorem dX5_isWellFormed_5 : decode cX5_isWellFormed 5 = .ok (.aload_n 0, 1) := by decide +kernel
theorem dX5_isWellFormed_6 : decode cX5_isWellFormed 6 = .ok (.iconst 0, 1) := by decide +kernel
theorem dX5_isWellFormed_7 : decode cX5_isWellFormed 7 = .ok (.putfield 22, 3) := by decide +kernel
theorem dX5_isWellFormed_10 : decode cX5_isWellFormed 10 = .ok (.iconst 0, 1) := by decide +kernel
theorem dX5_isWellFormed_11 : decode cX5_isWellFormed 11 = .ok (.istore_n 1, 1) := by decide +kernel
theorem dX5_isWellFormed_12 : decode cX5_isWellFormed 12 = .ok (.iload_n 1, 1) := by decide +kernel
theorem dX5_isWellFormed_13 : decode cX5_isWellFormed 13 = .ok (.bipush 12, 2) := by decide +kernel
theorem dX5_isWellFormed_15 : decode cX5_isWellFormed 15 = .ok (.if_icmp .ge 49, 3) := by decide +kernel
theorem dX5_isWellFormed_18 : decode cX5_isWellFormed 18 = .ok (.iload_n 1, 1) := by decide +kernel
theorem dX5_isWellFormed_19 : decode cX5_isWellFormed 19 = .ok (.ifCond .le 14, 3) := by decide +kernel
theorem dX5_isWellFormed_22 : decode cX5_isWellFormed 22 = .ok (.aload_n 0, 1) := by decide +kernel
theorem dX5_isWellFormed_23 : decode cX5_isWellFormed 23 = .ok (.bipush 59, 2) := by decide +kernel
theorem dX5_isWellFormed_25 : decode cX5_isWellFormed 25 = .ok (.invokevirtual 50, 3) := by decide +kernel
theorem dX5_isWellFormed_28 : decode cX5_isWellFormed 28 = .ok (.ifCond .ne 5, 3) := by decide +kernel
theorem dX5_isWellFormed_31 : decode cX5_isWellFormed 31 = .ok (.iconst 0, 1) := by decide +kernel
theorem dX5_isWellFormed_32 : decode cX5_isWellFormed 32 = .ok (.ireturn, 1) := by decide +kernel
theorem dX5_isWellFormed_33 : decode cX5_isWellFormed 33 = .ok (.aload_n 0, 1) := by decide +kernel
theorem dX5_isWellFormed_34 : decode cX5_isWellFormed 34 = .ok (.invokevirtual 54, 3) := by decide +kernel
theorem dX5_isWellFormed_37 : decode cX5_isWellFormed 37 = .ok (.ifCond .ne 5, 3) := by decide +kernel
theorem dX5_isWellFormed_40 : decode cX5_isWellFormed 40 = .ok (.iconst 0, 1) := by decide +kernel
theorem dX5_isWellFormed_41 : decode cX5_isWellFormed 41 = .ok (.ireturn, 1) := by decide +kernel
theorem dX5_isWellFormed_42 : decode cX5_isWellFormed 42 = .ok (.aload_n 0, 1) := by decide +kernel
theorem dX5_isWellFormed_43 : decode cX5_isWellFormed 43 = .ok (.getfield 18, 3) := by decide +kernel
theorem dX5_isWellFormed_46 : decode cX5_isWellFormed 46 = .ok (.aload_n 0, 1) := by decide +kernel
theorem dX5_isWellFormed_47 : decode cX5_isWellFormed 47 = .ok (.getfield 12, 3) := by decide +kernel
theorem dX5_isWellFormed_50 : decode cX5_isWellFormed 50 = .ok (.invokevirtual 58, 3) := by decide +kernel
theorem dX5_isWellFormed_53 : decode cX5_isWellFormed 53 = .ok (.if_icmp .ne 5, 3) := by decide +kernel
theorem dX5_isWellFormed_56 : decode cX5_isWellFormed 56 = .ok (.iconst 1, 1) := by decide +kernel
theorem dX5_isWellFormed_57 : decode cX5_isWellFormed 57 = .ok (.ireturn, 1) := by decide +kernel
theorem dX5_isWellFormed_58 : decode cX5_isWellFormed 58 = .ok (.iinc 1 1, 3) := by decide +kernel
theorem dX5_isWellFormed_61 : decode cX5_isWellFormed 61 = .ok (.goto (-49), 3) := by decide +kernel
theorem dX5_isWellFormed_64 : decode cX5_isWellFormed 64 = .ok (.iconst 0, 1) := by decide +kernel
theorem dX5_isWellFormed_65 : decode cX5_isWellFormed 65 = .ok (.ireturn, 1) := by decide +kernel
set_option maxRecDepth 20000 in
theorem ggX5_isCommandTaken_X5_formOf : GoodIn wsX5_isCommandTaken wsX5_formOf := goodIn_r _ [11] (by decide +kernel) (by decide +kernel)
set_option maxRecDepth 20000 in
theorem gX5_isCommandTaken_X5_formOf : GoodIn wsX5_isCommandTaken (va_wsS RX5 62 yX5_formOf wsX5_formOf) := goodIn_app (goodIn_of _ (by decide +kernel)) ggX5_isCommandTaken_X5_formOf
set_option maxRecDepth 20000 in
theorem ggX5_isCommandTaken_X5_isFormTaken : GoodIn wsX5_isCommandTaken wsX5_isFormTaken := goodIn_r _ [15, 16, 17, 18, 19, 20, 21, 22, 23, 24, 25, 26, 27, 28, 29, 30, 31, 32, 33, 34, 35, 36, 37, 38, 39, 40, 41, 42, 43, 44, 45, 46, 47, 48, 49, 50, 51, 52, 53, 54, 55, 56, 57, 58, 59, 60, 61, 62, 63, 64, 65, 66, 67, 10, 68, 69, 1, 2, 70, 71, 72, 73, 74, 75, 76, 77, 78, 79, 80, 81, 82, 83, 84, 85, 86, 87, 88, 89, 90, 91, 92, 93, 94, 95, 96, 97, 98, 6, 99, 100, 101, 102, 103, 104, 105, 111, 112, 113, 114, 106, 107, 108, 109, 110, 115, 116, 117, 118] (by decide +kernel) (by decide +kernel)
set_option maxRecDepth 20000 in
theorem gX5_isCommandTaken_X5_isFormTaken : GoodIn wsX5_isCommandTaken (wsV RX5 66 RX5 yX5_isFormTaken wsX5_isFormTaken) := goodIn_app (goodIn_of _ (by decide +kernel)) ggX5_isCommandTaken_X5_isFormTaken
theorem dX5_isCommandTaken_0 : decode cX5_isCommandTaken 0 = .ok (.aload_n 0, 1) := by decide +kernel
theorem dX5_isCommandTaken_1 : decode cX5_isCommandTaken 1 = .ok (.getfield 18, 3) := by decide +kernel
theorem dX5_isCommandTaken_4 : decode cX5_isCommandTaken 4 = .ok (.istore_n 1, 1) := by decide +kernel
theorem dX5_isCommandTaken_5 : decode cX5_isCommandTaken 5 = .ok (.aload_n 0, 1) := by decide +kernel
theorem dX5_isCommandTaken_6 : decode cX5_isCommandTaken 6 = .ok (.getfield 18, 3) := by decide +kernel
theorem dX5_isCommandTaken_9 : decode cX5_isCommandTaken 9 = .ok (.istore_n 2, 1) := by decide +kernel
theorem dX5_isCommandTaken_10 : decode cX5_isCommandTaken 10 = .ok (.iconst 0, 1) := by decide +kernel
theorem dX5_isCommandTaken_11 : decode cX5_isCommandTaken 11 = .ok (.istore_n 3, 1) := by decide +kernel
theorem dX5_isCommandTaken_12 : decode cX5_isCommandTaken 12 = .ok (.iload_n 3, 1) := by decide +kernel
theorem dX5_isCommandTaken_13 : decode cX5_isCommandTaken 13 = .ok (.bipush 8, 2) := by decide +kernel
theorem dX5_isCommandTaken_15 : decode cX5_isCommandTaken 15 = .ok (.if_icmp .ge 65, 3) := by decide +kernel
theorem dX5_isCommandTaken_18 : decode cX5_isCommandTaken 18 = .ok (.aload_n 0, 1) := by decide +kernel
theorem dX5_isCommandTaken_19 : decode cX5_isCommandTaken 19 = .ok (.iload_n 1, 1) := by decide +kernel
theorem dX5_isCommandTaken_20 : decode cX5_isCommandTaken 20 = .ok (.putfield 18, 3) := by decide +kernel
theorem dX5_isCommandTaken_23 : decode cX5_isCommandTaken 23 = .ok (.aload_n 0, 1) := by decide +kernel
theorem dX5_isCommandTaken_24 : decode cX5_isCommandTaken 24 = .ok (.getfield 22, 3) := by decide +kernel
theorem dX5_isCommandTaken_27 : decode cX5_isCommandTaken 27 = .ok (.bipush 12, 2) := by decide +kernel
theorem dX5_isCommandTaken_29 : decode cX5_isCommandTaken 29 = .ok (.if_icmp .ge 36, 3) := by decide +kernel
theorem dX5_isCommandTaken_32 : decode cX5_isCommandTaken 32 = .ok (.aload_n 0, 1) := by decide +kernel
theorem dX5_isCommandTaken_33 : decode cX5_isCommandTaken 33 = .ok (.iload_n 3, 1) := by decide +kernel
theorem dX5_isCommandTaken_34 : decode cX5_isCommandTaken 34 = .ok (.invokestatic 62, 3) := by decide +kernel
theorem dX5_isCommandTaken_37 : decode cX5_isCommandTaken 37 = .ok (.invokevirtual 66, 3) := by decide +kernel
theorem dX5_isCommandTaken_40 : decode cX5_isCommandTaken 40 = .ok (.ifCond .eq 25, 3) := by decide +kernel
theorem dX5_isCommandTaken_43 : decode cX5_isCommandTaken 43 = .ok (.aload_n 0, 1) := by decide +kernel
theorem dX5_isCommandTaken_44 : decode cX5_isCommandTaken 44 = .ok (.getfield 25, 3) := by decide +kernel
theorem dX5_isCommandTaken_47 : decode cX5_isCommandTaken 47 = .ok (.aload_n 0, 1) := by decide +kernel
theorem dX5_isCommandTaken_48 : decode cX5_isCommandTaken 48 = .ok (.getfield 22, 3) := by decide +kernel
theorem dX5_isCommandTaken_51 : decode cX5_isCommandTaken 51 = .ok (.iload_n 3, 1) := by decide +kernel
theorem dX5_isCommandTaken_52 : decode cX5_isCommandTaken 52 = .ok (.iastore, 1) := by decide +kernel
theorem dX5_isCommandTaken_53 : decode cX5_isCommandTaken 53 = .ok (.aload_n 0, 1) := by decide +kernel
theorem dX5_isCommandTaken_54 : decode cX5_isCommandTaken 54 = .ok (.dup, 1) := by decide +kernel
theorem dX5_isCommandTaken_55 : decode cX5_isCommandTaken 55 = .ok (.getfield 22, 3) := by decide +kernel
theorem dX5_isCommandTaken_58 : decode cX5_isCommandTaken 58 = .ok (.iconst 1, 1) := by decide +kernel
theorem dX5_isCommandTaken_59 : decode cX5_isCommandTaken 59 = .ok (.iadd, 1) := by decide +kernel
theorem dX5_isCommandTaken_60 : decode cX5_isCommandTaken 60 = .ok (.putfield 22, 3) := by decide +kernel
theorem dX5_isCommandTaken_63 : decode cX5_isCommandTaken 63 = .ok (.iconst 1, 1) := by decide +kernel
theorem dX5_isCommandTaken_64 : decode cX5_isCommandTaken 64 = .ok (.ireturn, 1) := by decide +kernel
theorem dX5_isCommandTaken_65 : decode cX5_isCommandTaken 65 = .ok (.iload_n 2, 1) := by decide +kernel
theorem dX5_isCommandTaken_66 : decode cX5_isCommandTaken 66 = .ok (.aload_n 0, 1) := by decide +kernel
theorem dX5_isCommandTaken_67 : decode cX5_isCommandTaken 67 = .ok (.getfield 18, 3) := by decide +kernel
theorem dX5_isCommandTaken_70 : decode cX5_isCommandTaken 70 = .ok (.invokestatic 70, 3) := by decide +kernel
theorem dX5_isCommandTaken_73 : decode cX5_isCommandTaken 73 = .ok (.istore_n 2, 1) := by decide +kernel
theorem dX5_isCommandTaken_74 : decode cX5_isCommandTaken 74 = .ok (.iinc 3 1, 3) := by decide +kernel
theorem dX5_isCommandTaken_77 : decode cX5_isCommandTaken 77 = .ok (.goto (-65), 3) := by decide +kernel
theorem dX5_isCommandTaken_80 : decode cX5_isCommandTaken 80 = .ok (.aload_n 0, 1) := by decide +kernel
theorem dX5_isCommandTaken_81 : decode cX5_isCommandTaken 81 = .ok (.iload_n 2, 1) := by decide +kernel
theorem dX5_isCommandTaken_82 : decode cX5_isCommandTaken 82 = .ok (.putfield 18, 3) := by decide +kernel
theorem dX5_isCommandTaken_85 : decode cX5_isCommandTaken 85 = .ok (.iconst 0, 1) := by decide +kernel
theorem dX5_isCommandTaken_86 : decode cX5_isCommandTaken 86 = .ok (.ireturn, 1) := by decide +kernel
set_option maxRecDepth 20000 in
theorem ggX5_isFormTaken_J0_length_8abf5 : GoodIn wsX5_isFormTaken wsJ0_length_8abf5 := goodIn_r _ [5, 6, 7, 8, 9, 4, 10, 11, 12, 95, 96, 97, 98] (by decide +kernel) (by decide +kernel)
set_option maxRecDepth 20000 in
theorem gX5_isFormTaken_J0_length_8abf5 : GoodIn wsX5_isFormTaken (wsV RX5 76 RJ0 yJ0_length_8abf5 wsJ0_length_8abf5) := goodIn_app (goodIn_of _ (by decide +kernel)) ggX5_isFormTaken_J0_length_8abf5
set_option maxRecDepth 20000 in
theorem ggX5_isFormTaken_J0_charAt_5068e : GoodIn wsX5_isFormTaken wsJ0_charAt_5068e := goodIn_r _ [16, 6, 17, 18, 19, 4, 20, 11, 12, 21, 22, 23, 24, 25, 26, 27, 28, 29, 30, 31, 32, 33, 34, 35, 36, 37, 38, 39, 40, 41, 42, 43, 44, 45, 46, 47, 48, 49, 95, 96, 97, 98] (by decide +kernel) (by decide +kernel)
set_option maxRecDepth 20000 in
theorem gX5_isFormTaken_J0_charAt_5068e : GoodIn wsX5_isFormTaken (wsV RX5 79 RJ0 yJ0_charAt_5068e wsJ0_charAt_5068e) := goodIn_app (goodIn_of _ (by decide +kernel)) ggX5_isFormTaken_J0_charAt_5068e
set_option maxRecDepth 20000 in
theorem ggX5_isFormTaken_X5_isNumberTaken : GoodIn wsX5_isFormTaken wsX5_isNumberTaken := goodIn_r _ [54, 55, 56, 57, 58, 59, 60, 61, 53, 62, 63, 64, 65, 66, 67, 68, 69, 70, 71, 72, 73, 74, 75, 76, 77, 78, 79, 80, 81, 82, 83, 84, 85, 86, 87, 88, 89, 26, 4, 27, 28, 29, 30, 31, 32, 90, 45, 35, 46, 47, 48, 49, 40, 41, 42, 99, 100, 101, 102, 103, 104, 105, 106, 107] (by decide +kernel) (by decide +kernel)
set_option maxRecDepth 20000 in
theorem gX5_isFormTaken_X5_isNumberTaken : GoodIn wsX5_isFormTaken (wsV RX5 83 RX5 yX5_isNumberTaken wsX5_isNumberTaken) := goodIn_app (goodIn_of _ (by decide +kernel)) ggX5_isFormTaken_X5_isNumberTaken
set_option maxRecDepth 20000 in
theorem ggX5_isFormTaken_X5_isSignTaken : GoodIn wsX5_isFormTaken wsX5_isSignTaken := goodIn_r _ [94, 56, 55, 63, 64, 65, 66, 67, 68, 69, 70, 71, 72, 73, 74, 75, 76, 77, 78, 79, 80, 81, 82, 83, 84, 85, 86, 87, 88, 89, 26, 4, 27, 28, 29, 30, 31, 32, 90, 45, 35, 46, 47, 48, 49, 40, 41, 42, 99, 100, 101, 102, 103, 104, 105, 106, 107] (by decide +kernel) (by decide +kernel)
set_option maxRecDepth 20000 in
theorem gX5_isFormTaken_X5_isSignTaken : GoodIn wsX5_isFormTaken (wsV RX5 50 RX5 yX5_isSignTaken wsX5_isSignTaken) := goodIn_app (goodIn_of _ (by decide +kernel)) ggX5_isFormTaken_X5_isSignTaken
theorem dX5_isFormTaken_0 : decode cX5_isFormTaken 0 = .ok (.iconst 0, 1) := by decide +kernel
theorem dX5_isFormTaken_1 : decode cX5_isFormTaken 1 = .ok (.istore_n 2, 1) := by decide +kernel
theorem dX5_isFormTaken_2 : decode cX5_isFormTaken 2 = .ok (.iconst 0, 1) := by decide +kernel
theorem dX5_isFormTaken_3 : decode cX5_isFormTaken 3 = .ok (.istore_n 3, 1) := by decide +kernel
theorem dX5_isFormTaken_4 : decode cX5_isFormTaken 4 = .ok (.iload_n 3, 1) := by decide +kernel
theorem dX5_isFormTaken_5 : decode cX5_isFormTaken 5 = .ok (.aload_n 1, 1) := by decide +kernel
theorem dX5_isFormTaken_6 : decode cX5_isFormTaken 6 = .ok (.invokevirtual 76, 3) := by decide +kernel
theorem dX5_isFormTaken_9 : decode cX5_isFormTaken 9 = .ok (.if_icmp .ge 62, 3) := by decide +kernel
theorem dX5_isFormTaken_12 : decode cX5_isFormTaken 12 = .ok (.aload_n 1, 1) := by decide +kernel
theorem dX5_isFormTaken_13 : decode cX5_isFormTaken 13 = .ok (.iload_n 3, 1) := by decide +kernel
theorem dX5_isFormTaken_14 : decode cX5_isFormTaken 14 = .ok (.invokevirtual 79, 3) := by decide +kernel
theorem dX5_isFormTaken_17 : decode cX5_isFormTaken 17 = .ok (.istore 4, 2) := by decide +kernel
theorem dX5_isFormTaken_19 : decode cX5_isFormTaken 19 = .ok (.iload 4, 2) := by decide +kernel
theorem dX5_isFormTaken_21 : decode cX5_isFormTaken 21 = .ok (.bipush 49, 2) := by decide +kernel
theorem dX5_isFormTaken_23 : decode cX5_isFormTaken 23 = .ok (.if_icmp .eq 10, 3) := by decide +kernel
theorem dX5_isFormTaken_26 : decode cX5_isFormTaken 26 = .ok (.iload 4, 2) := by decide +kernel
theorem dX5_isFormTaken_28 : decode cX5_isFormTaken 28 = .ok (.bipush 50, 2) := by decide +kernel
theorem dX5_isFormTaken_30 : decode cX5_isFormTaken 30 = .ok (.if_icmp .ne 24, 3) := by decide +kernel
theorem dX5_isFormTaken_33 : decode cX5_isFormTaken 33 = .ok (.aload_n 0, 1) := by decide +kernel
theorem dX5_isFormTaken_34 : decode cX5_isFormTaken 34 = .ok (.iload 4, 2) := by decide +kernel
theorem dX5_isFormTaken_36 : decode cX5_isFormTaken 36 = .ok (.bipush 48, 2) := by decide +kernel
theorem dX5_isFormTaken_38 : decode cX5_isFormTaken 38 = .ok (.isub, 1) := by decide +kernel
theorem dX5_isFormTaken_39 : decode cX5_isFormTaken 39 = .ok (.iload_n 2, 1) := by decide +kernel
theorem dX5_isFormTaken_40 : decode cX5_isFormTaken 40 = .ok (.invokevirtual 83, 3) := by decide +kernel
theorem dX5_isFormTaken_43 : decode cX5_isFormTaken 43 = .ok (.ifCond .ne 5, 3) := by decide +kernel
theorem dX5_isFormTaken_46 : decode cX5_isFormTaken 46 = .ok (.iconst 0, 1) := by decide +kernel
theorem dX5_isFormTaken_47 : decode cX5_isFormTaken 47 = .ok (.ireturn, 1) := by decide +kernel
theorem dX5_isFormTaken_48 : decode cX5_isFormTaken 48 = .ok (.iinc 2 1, 3) := by decide +kernel
theorem dX5_isFormTaken_51 : decode cX5_isFormTaken 51 = .ok (.goto 14, 3) := by decide +kernel
theorem dX5_isFormTaken_54 : decode cX5_isFormTaken 54 = .ok (.aload_n 0, 1) := by decide +kernel
theorem dX5_isFormTaken_55 : decode cX5_isFormTaken 55 = .ok (.iload 4, 2) := by decide +kernel
theorem dX5_isFormTaken_57 : decode cX5_isFormTaken 57 = .ok (.invokevirtual 50, 3) := by decide +kernel
theorem dX5_isFormTaken_60 : decode cX5_isFormTaken 60 = .ok (.ifCond .ne 5, 3) := by decide +kernel
theorem dX5_isFormTaken_63 : decode cX5_isFormTaken 63 = .ok (.iconst 0, 1) := by decide +kernel
theorem dX5_isFormTaken_64 : decode cX5_isFormTaken 64 = .ok (.ireturn, 1) := by decide +kernel
theorem dX5_isFormTaken_65 : decode cX5_isFormTaken 65 = .ok (.iinc 3 1, 3) := by decide +kernel
theorem dX5_isFormTaken_68 : decode cX5_isFormTaken 68 = .ok (.goto (-64), 3) := by decide +kernel
theorem dX5_isFormTaken_71 : decode cX5_isFormTaken 71 = .ok (.iconst 1, 1) := by decide +kernel
theorem dX5_isFormTaken_72 : decode cX5_isFormTaken 72 = .ok (.ireturn, 1) := by decide +kernel
set_option maxRecDepth 20000 in
theorem ggX5_isNumberTaken_X5_isDigitNext : GoodIn wsX5_isNumberTaken wsX5_isDigitNext := goodIn_r _ [9, 2, 1, 10, 11, 12, 13, 14, 15, 16, 17, 18, 19, 20, 21, 22, 23, 24, 25, 26, 27, 28, 29, 30, 31, 32, 33, 34, 35, 36, 37, 38, 39, 40, 41, 42, 43, 44, 45, 46, 47, 48, 49, 50, 51, 52, 53, 54, 55, 56, 57, 58, 59, 60, 61, 62, 63] (by decide +kernel) (by decide +kernel)
set_option maxRecDepth 20000 in
theorem gX5_isNumberTaken_X5_isDigitNext : GoodIn wsX5_isNumberTaken (wsV RX5 87 RX5 yX5_isDigitNext wsX5_isDigitNext) := goodIn_app (goodIn_of _ (by decide +kernel)) ggX5_isNumberTaken_X5_isDigitNext
set_option maxRecDepth 20000 in
theorem ggX5_isNumberTaken_J4_charAt_5068e : GoodIn wsX5_isNumberTaken wsJ4_charAt_5068e := goodIn_r _ [25, 26, 27, 17, 28, 19, 29, 30, 31, 21, 32, 33, 34, 35, 36, 37, 38, 39, 40, 41, 42, 43, 44, 45, 46, 47, 48, 49, 50, 51, 52, 53, 54, 60, 61, 62, 63] (by decide +kernel) (by decide +kernel)
set_option maxRecDepth 20000 in
theorem gX5_isNumberTaken_J4_charAt_5068e : GoodIn wsX5_isNumberTaken (wsV RX5 90 RJ4 yJ4_charAt_5068e wsJ4_charAt_5068e) := goodIn_app (goodIn_of _ (by decide +kernel)) ggX5_isNumberTaken_J4_charAt_5068e
theorem dX5_isNumberTaken_0 : decode cX5_isNumberTaken 0 = .ok (.iconst 0, 1) := by decide +kernel
theorem dX5_isNumberTaken_1 : decode cX5_isNumberTaken 1 = .ok (.istore_n 3, 1) := by decide +kernel
theorem dX5_isNumberTaken_2 : decode cX5_isNumberTaken 2 = .ok (.iconst 0, 1) := by decide +kernel
theorem dX5_isNumberTaken_3 : decode cX5_isNumberTaken 3 = .ok (.istore 4, 2) := by decide +kernel
theorem dX5_isNumberTaken_5 : decode cX5_isNumberTaken 5 = .ok (.iload 4, 2) := by decide +kernel
theorem dX5_isNumberTaken_7 : decode cX5_isNumberTaken 7 = .ok (.iload_n 1, 1) := by decide +kernel
theorem dX5_isNumberTaken_8 : decode cX5_isNumberTaken 8 = .ok (.if_icmp .ge 46, 3) := by decide +kernel
theorem dX5_isNumberTaken_11 : decode cX5_isNumberTaken 11 = .ok (.aload_n 0, 1) := by decide +kernel
theorem dX5_isNumberTaken_12 : decode cX5_isNumberTaken 12 = .ok (.invokevirtual 87, 3) := by decide +kernel
theorem dX5_isNumberTaken_15 : decode cX5_isNumberTaken 15 = .ok (.ifCond .eq 39, 3) := by decide +kernel
theorem dX5_isNumberTaken_18 : decode cX5_isNumberTaken 18 = .ok (.bipush 10, 2) := by decide +kernel
theorem dX5_isNumberTaken_20 : decode cX5_isNumberTaken 20 = .ok (.iload_n 3, 1) := by decide +kernel
theorem dX5_isNumberTaken_21 : decode cX5_isNumberTaken 21 = .ok (.imul, 1) := by decide +kernel
theorem dX5_isNumberTaken_22 : decode cX5_isNumberTaken 22 = .ok (.aload_n 0, 1) := by decide +kernel
theorem dX5_isNumberTaken_23 : decode cX5_isNumberTaken 23 = .ok (.getfield 12, 3) := by decide +kernel
theorem dX5_isNumberTaken_26 : decode cX5_isNumberTaken 26 = .ok (.aload_n 0, 1) := by decide +kernel
theorem dX5_isNumberTaken_27 : decode cX5_isNumberTaken 27 = .ok (.getfield 18, 3) := by decide +kernel
theorem dX5_isNumberTaken_30 : decode cX5_isNumberTaken 30 = .ok (.invokevirtual 90, 3) := by decide +kernel
theorem dX5_isNumberTaken_33 : decode cX5_isNumberTaken 33 = .ok (.iadd, 1) := by decide +kernel
theorem dX5_isNumberTaken_34 : decode cX5_isNumberTaken 34 = .ok (.bipush 48, 2) := by decide +kernel
theorem dX5_isNumberTaken_36 : decode cX5_isNumberTaken 36 = .ok (.isub, 1) := by decide +kernel
theorem dX5_isNumberTaken_37 : decode cX5_isNumberTaken 37 = .ok (.istore_n 3, 1) := by decide +kernel
theorem dX5_isNumberTaken_38 : decode cX5_isNumberTaken 38 = .ok (.aload_n 0, 1) := by decide +kernel
theorem dX5_isNumberTaken_39 : decode cX5_isNumberTaken 39 = .ok (.dup, 1) := by decide +kernel
theorem dX5_isNumberTaken_40 : decode cX5_isNumberTaken 40 = .ok (.getfield 18, 3) := by decide +kernel
theorem dX5_isNumberTaken_43 : decode cX5_isNumberTaken 43 = .ok (.iconst 1, 1) := by decide +kernel
theorem dX5_isNumberTaken_44 : decode cX5_isNumberTaken 44 = .ok (.iadd, 1) := by decide +kernel
theorem dX5_isNumberTaken_45 : decode cX5_isNumberTaken 45 = .ok (.putfield 18, 3) := by decide +kernel
theorem dX5_isNumberTaken_48 : decode cX5_isNumberTaken 48 = .ok (.iinc 4 1, 3) := by decide +kernel
theorem dX5_isNumberTaken_51 : decode cX5_isNumberTaken 51 = .ok (.goto (-46), 3) := by decide +kernel
theorem dX5_isNumberTaken_54 : decode cX5_isNumberTaken 54 = .ok (.aload_n 0, 1) := by decide +kernel
theorem dX5_isNumberTaken_55 : decode cX5_isNumberTaken 55 = .ok (.getfield 22, 3) := by decide +kernel
theorem dX5_isNumberTaken_58 : decode cX5_isNumberTaken 58 = .ok (.bipush 12, 2) := by decide +kernel
theorem dX5_isNumberTaken_60 : decode cX5_isNumberTaken 60 = .ok (.if_icmp .ge 20, 3) := by decide +kernel
theorem dX5_isNumberTaken_63 : decode cX5_isNumberTaken 63 = .ok (.iload_n 2, 1) := by decide +kernel
theorem dX5_isNumberTaken_64 : decode cX5_isNumberTaken 64 = .ok (.iconst 3, 1) := by decide +kernel
theorem dX5_isNumberTaken_65 : decode cX5_isNumberTaken 65 = .ok (.if_icmp .ge 15, 3) := by decide +kernel
theorem dX5_isNumberTaken_68 : decode cX5_isNumberTaken 68 = .ok (.aload_n 0, 1) := by decide +kernel
theorem dX5_isNumberTaken_69 : decode cX5_isNumberTaken 69 = .ok (.getfield 31, 3) := by decide +kernel
theorem dX5_isNumberTaken_72 : decode cX5_isNumberTaken 72 = .ok (.aload_n 0, 1) := by decide +kernel
theorem dX5_isNumberTaken_73 : decode cX5_isNumberTaken 73 = .ok (.getfield 22, 3) := by decide +kernel
theorem dX5_isNumberTaken_76 : decode cX5_isNumberTaken 76 = .ok (.aaload, 1) := by decide +kernel
theorem dX5_isNumberTaken_77 : decode cX5_isNumberTaken 77 = .ok (.iload_n 2, 1) := by decide +kernel
theorem dX5_isNumberTaken_78 : decode cX5_isNumberTaken 78 = .ok (.iload_n 3, 1) := by decide +kernel
theorem dX5_isNumberTaken_79 : decode cX5_isNumberTaken 79 = .ok (.iastore, 1) := by decide +kernel
theorem dX5_isNumberTaken_80 : decode cX5_isNumberTaken 80 = .ok (.iload 4, 2) := by decide +kernel
theorem dX5_isNumberTaken_82 : decode cX5_isNumberTaken 82 = .ok (.ifCond .le 7, 3) := by decide +kernel
theorem dX5_isNumberTaken_85 : decode cX5_isNumberTaken 85 = .ok (.iconst 1, 1) := by decide +kernel
theorem dX5_isNumberTaken_86 : decode cX5_isNumberTaken 86 = .ok (.goto 4, 3) := by decide +kernel
theorem dX5_isNumberTaken_89 : decode cX5_isNumberTaken 89 = .ok (.iconst 0, 1) := by decide +kernel
theorem dX5_isNumberTaken_90 : decode cX5_isNumberTaken 90 = .ok (.ireturn, 1) := by decide +kernel
set_option maxRecDepth 20000 in
theorem ggX5_isDigitNext_J4_length_8abf5 : GoodIn wsX5_isDigitNext wsJ4_length_8abf5 := goodIn_r _ [7, 8, 9, 10, 11, 12, 13, 14, 53, 54, 55, 56] (by decide +kernel) (by decide +kernel)
set_option maxRecDepth 20000 in
theorem gX5_isDigitNext_J4_length_8abf5 : GoodIn wsX5_isDigitNext (wsV RX5 58 RJ4 yJ4_length_8abf5 wsJ4_length_8abf5) := goodIn_app (goodIn_of _ (by decide +kernel)) ggX5_isDigitNext_J4_length_8abf5
set_option maxRecDepth 20000 in
theorem ggX5_isDigitNext_J4_charAt_5068e : GoodIn wsX5_isDigitNext wsJ4_charAt_5068e := goodIn_r _ [18, 19, 20, 10, 21, 12, 22, 23, 24, 14, 25, 26, 27, 28, 29, 30, 31, 32, 33, 34, 35, 36, 37, 38, 39, 40, 41, 42, 43, 44, 45, 46, 47, 53, 54, 55, 56] (by decide +kernel) (by decide +kernel)
set_option maxRecDepth 20000 in
theorem gX5_isDigitNext_J4_charAt_5068e : GoodIn wsX5_isDigitNext (wsV RX5 90 RJ4 yJ4_charAt_5068e wsJ4_charAt_5068e) := goodIn_app (goodIn_of _ (by decide +kernel)) ggX5_isDigitNext_J4_charAt_5068e
theorem dX5_isDigitNext_0 : decode cX5_isDigitNext 0 = .ok (.aload_n 0, 1) := by decide +kernel
theorem dX5_isDigitNext_1 : decode cX5_isDigitNext 1 = .ok (.getfield 18, 3) := by decide +kernel
theorem dX5_isDigitNext_4 : decode cX5_isDigitNext 4 = .ok (.aload_n 0, 1) := by decide +kernel
theorem dX5_isDigitNext_5 : decode cX5_isDigitNext 5 = .ok (.getfield 12, 3) := by decide +kernel
theorem dX5_isDigitNext_8 : decode cX5_isDigitNext 8 = .ok (.invokevirtual 58, 3) := by decide +kernel
theorem dX5_isDigitNext_11 : decode cX5_isDigitNext 11 = .ok (.if_icmp .ge 39, 3) := by decide +kernel
theorem dX5_isDigitNext_14 : decode cX5_isDigitNext 14 = .ok (.aload_n 0, 1) := by decide +kernel
theorem dX5_isDigitNext_15 : decode cX5_isDigitNext 15 = .ok (.getfield 12, 3) := by decide +kernel
theorem dX5_isDigitNext_18 : decode cX5_isDigitNext 18 = .ok (.aload_n 0, 1) := by decide +kernel
theorem dX5_isDigitNext_19 : decode cX5_isDigitNext 19 = .ok (.getfield 18, 3) := by decide +kernel
theorem dX5_isDigitNext_22 : decode cX5_isDigitNext 22 = .ok (.invokevirtual 90, 3) := by decide +kernel
theorem dX5_isDigitNext_25 : decode cX5_isDigitNext 25 = .ok (.bipush 48, 2) := by decide +kernel
theorem dX5_isDigitNext_27 : decode cX5_isDigitNext 27 = .ok (.if_icmp .lt 23, 3) := by decide +kernel
theorem dX5_isDigitNext_30 : decode cX5_isDigitNext 30 = .ok (.aload_n 0, 1) := by decide +kernel
theorem dX5_isDigitNext_31 : decode cX5_isDigitNext 31 = .ok (.getfield 12, 3) := by decide +kernel
theorem dX5_isDigitNext_34 : decode cX5_isDigitNext 34 = .ok (.aload_n 0, 1) := by decide +kernel
theorem dX5_isDigitNext_35 : decode cX5_isDigitNext 35 = .ok (.getfield 18, 3) := by decide +kernel
theorem dX5_isDigitNext_38 : decode cX5_isDigitNext 38 = .ok (.invokevirtual 90, 3) := by decide +kernel
theorem dX5_isDigitNext_41 : decode cX5_isDigitNext 41 = .ok (.bipush 57, 2) := by decide +kernel
theorem dX5_isDigitNext_43 : decode cX5_isDigitNext 43 = .ok (.if_icmp .gt 7, 3) := by decide +kernel
theorem dX5_isDigitNext_46 : decode cX5_isDigitNext 46 = .ok (.iconst 1, 1) := by decide +kernel
theorem dX5_isDigitNext_47 : decode cX5_isDigitNext 47 = .ok (.goto 4, 3) := by decide +kernel
theorem dX5_isDigitNext_50 : decode cX5_isDigitNext 50 = .ok (.iconst 0, 1) := by decide +kernel
theorem dX5_isDigitNext_51 : decode cX5_isDigitNext 51 = .ok (.ireturn, 1) := by decide +kernel
set_option maxRecDepth 20000 in
theorem ggX5_isSignTaken_J4_length_8abf5 : GoodIn wsX5_isSignTaken wsJ4_length_8abf5 := goodIn_r _ [7, 8, 9, 10, 11, 12, 13, 14, 53, 54, 55, 56] (by decide +kernel) (by decide +kernel)
set_option maxRecDepth 20000 in
theorem gX5_isSignTaken_J4_length_8abf5 : GoodIn wsX5_isSignTaken (wsV RX5 58 RJ4 yJ4_length_8abf5 wsJ4_length_8abf5) := goodIn_app (goodIn_of _ (by decide +kernel)) ggX5_isSignTaken_J4_length_8abf5
set_option maxRecDepth 20000 in
theorem ggX5_isSignTaken_J4_charAt_5068e : GoodIn wsX5_isSignTaken wsJ4_charAt_5068e := goodIn_r _ [18, 19, 20, 10, 21, 12, 22, 23, 24, 14, 25, 26, 27, 28, 29, 30, 31, 32, 33, 34, 35, 36, 37, 38, 39, 40, 41, 42, 43, 44, 45, 46, 47, 53, 54, 55, 56] (by decide +kernel) (by decide +kernel)
set_option maxRecDepth 20000 in
theorem gX5_isSignTaken_J4_charAt_5068e : GoodIn wsX5_isSignTaken (wsV RX5 90 RJ4 yJ4_charAt_5068e wsJ4_charAt_5068e) := goodIn_app (goodIn_of _ (by decide +kernel)) ggX5_isSignTaken_J4_charAt_5068e
theorem dX5_isSignTaken_0 : decode cX5_isSignTaken 0 = .ok (.aload_n 0, 1) := by decide +kernel
theorem dX5_isSignTaken_1 : decode cX5_isSignTaken 1 = .ok (.getfield 18, 3) := by decide +kernel
theorem dX5_isSignTaken_4 : decode cX5_isSignTaken 4 = .ok (.aload_n 0, 1) := by decide +kernel
theorem dX5_isSignTaken_5 : decode cX5_isSignTaken 5 = .ok (.getfield 12, 3) := by decide +kernel
theorem dX5_isSignTaken_8 : decode cX5_isSignTaken 8 = .ok (.invokevirtual 58, 3) := by decide +kernel
theorem dX5_isSignTaken_11 : decode cX5_isSignTaken 11 = .ok (.if_icmp .ge 30, 3) := by decide +kernel
theorem dX5_isSignTaken_14 : decode cX5_isSignTaken 14 = .ok (.aload_n 0, 1) := by decide +kernel
theorem dX5_isSignTaken_15 : decode cX5_isSignTaken 15 = .ok (.getfield 12, 3) := by decide +kernel
theorem dX5_isSignTaken_18 : decode cX5_isSignTaken 18 = .ok (.aload_n 0, 1) := by decide +kernel
theorem dX5_isSignTaken_19 : decode cX5_isSignTaken 19 = .ok (.getfield 18, 3) := by decide +kernel
theorem dX5_isSignTaken_22 : decode cX5_isSignTaken 22 = .ok (.invokevirtual 90, 3) := by decide +kernel
theorem dX5_isSignTaken_25 : decode cX5_isSignTaken 25 = .ok (.iload_n 1, 1) := by decide +kernel
theorem dX5_isSignTaken_26 : decode cX5_isSignTaken 26 = .ok (.if_icmp .ne 15, 3) := by decide +kernel
theorem dX5_isSignTaken_29 : decode cX5_isSignTaken 29 = .ok (.aload_n 0, 1) := by decide +kernel
theorem dX5_isSignTaken_30 : decode cX5_isSignTaken 30 = .ok (.dup, 1) := by decide +kernel
theorem dX5_isSignTaken_31 : decode cX5_isSignTaken 31 = .ok (.getfield 18, 3) := by decide +kernel
theorem dX5_isSignTaken_34 : decode cX5_isSignTaken 34 = .ok (.iconst 1, 1) := by decide +kernel
theorem dX5_isSignTaken_35 : decode cX5_isSignTaken 35 = .ok (.iadd, 1) := by decide +kernel
theorem dX5_isSignTaken_36 : decode cX5_isSignTaken 36 = .ok (.putfield 18, 3) := by decide +kernel
theorem dX5_isSignTaken_39 : decode cX5_isSignTaken 39 = .ok (.iconst 1, 1) := by decide +kernel
theorem dX5_isSignTaken_40 : decode cX5_isSignTaken 40 = .ok (.ireturn, 1) := by decide +kernel
theorem dX5_isSignTaken_41 : decode cX5_isSignTaken 41 = .ok (.iconst 0, 1) := by decide +kernel
theorem dX5_isSignTaken_42 : decode cX5_isSignTaken 42 = .ok (.ireturn, 1) := by decide +kernel
theorem dX6_init_0 : decode cX6_init 0 = .ok (.aload_n 0, 1) := by decide +kernel
theorem dX6_init_1 : decode cX6_init 1 = .ok (.invokespecial 3, 3) := by decide +kernel
theorem dX6_init_4 : decode cX6_init 4 = .ok (.aload_n 0, 1) := by decide +kernel
theorem dX6_init_5 : decode cX6_init 5 = .ok (.iconst 5, 1) := by decide +kernel
theorem dX6_init_6 : decode cX6_init 6 = .ok (.newarray .int, 2) := by decide +kernel
theorem dX6_init_8 : decode cX6_init 8 = .ok (.putfield 9, 3) := by decide +kernel
theorem dX6_init_11 : decode cX6_init 11 = .ok (.aload_n 0, 1) := by decide +kernel
theorem dX6_init_12 : decode cX6_init 12 = .ok (.iconst 5, 1) := by decide +kernel
theorem dX6_init_13 : decode cX6_init 13 = .ok (.newarray .int, 2) := by decide +kernel
theorem dX6_init_15 : decode cX6_init 15 = .ok (.putfield 15, 3) := by decide +kernel
theorem dX6_init_18 : decode cX6_init 18 = .ok (.return_, 1) := by decide +kernel
theorem dX6_copyFrom_0 : decode cX6_copyFrom 0 = .ok (.aload_n 1, 1) := by decide +kernel
theorem dX6_copyFrom_1 : decode cX6_copyFrom 1 = .ok (.getfield 9, 3) := by decide +kernel
theorem dX6_copyFrom_4 : decode cX6_copyFrom 4 = .ok (.iconst 0, 1) := by decide +kernel
theorem dX6_copyFrom_5 : decode cX6_copyFrom 5 = .ok (.aload_n 0, 1) := by decide +kernel
theorem dX6_copyFrom_6 : decode cX6_copyFrom 6 = .ok (.getfield 9, 3) := by decide +kernel
theorem dX6_copyFrom_9 : decode cX6_copyFrom 9 = .ok (.iconst 0, 1) := by decide +kernel
theorem dX6_copyFrom_10 : decode cX6_copyFrom 10 = .ok (.iconst 5, 1) := by decide +kernel
theorem dX6_copyFrom_11 : decode cX6_copyFrom 11 = .ok (.invokestatic 18, 3) := by decide +kernel
theorem dX6_copyFrom_14 : decode cX6_copyFrom 14 = .ok (.return_, 1) := by decide +kernel
set_option maxRecDepth 20000 in
theorem ggX6_isBetween_X7_isTown : GoodIn wsX6_isBetween wsX7_isTown := goodIn_r _ [4] (by decide +kernel) (by decide +kernel)
set_option maxRecDepth 20000 in
theorem gX6_isBetween_X7_isTown_n24 : GoodIn wsX6_isBetween (wsX7_isTown) := ggX6_isBetween_X7_isTown
theorem dX6_isBetween_0 : decode cX6_isBetween 0 = .ok (.iload_n 1, 1) := by decide +kernel
theorem dX6_isBetween_1 : decode cX6_isBetween 1 = .ok (.invokestatic 24, 3) := by decide +kernel
theorem dX6_isBetween_4 : decode cX6_isBetween 4 = .ok (.ifCond .eq 28, 3) := by decide +kernel
theorem dX6_isBetween_7 : decode cX6_isBetween 7 = .ok (.iload_n 2, 1) := by decide +kernel
theorem dX6_isBetween_8 : decode cX6_isBetween 8 = .ok (.invokestatic 24, 3) := by decide +kernel
theorem dX6_isBetween_11 : decode cX6_isBetween 11 = .ok (.ifCond .eq 21, 3) := by decide +kernel
theorem dX6_isBetween_14 : decode cX6_isBetween 14 = .ok (.aload_n 0, 1) := by decide +kernel
theorem dX6_isBetween_15 : decode cX6_isBetween 15 = .ok (.getfield 9, 3) := by decide +kernel
theorem dX6_isBetween_18 : decode cX6_isBetween 18 = .ok (.iload_n 1, 1) := by decide +kernel
theorem dX6_isBetween_19 : decode cX6_isBetween 19 = .ok (.iaload, 1) := by decide +kernel
theorem dX6_isBetween_20 : decode cX6_isBetween 20 = .ok (.iload_n 2, 1) := by decide +kernel
theorem dX6_isBetween_21 : decode cX6_isBetween 21 = .ok (.ishr, 1) := by decide +kernel
theorem dX6_isBetween_22 : decode cX6_isBetween 22 = .ok (.iconst 1, 1) := by decide +kernel
theorem dX6_isBetween_23 : decode cX6_isBetween 23 = .ok (.iand, 1) := by decide +kernel
theorem dX6_isBetween_24 : decode cX6_isBetween 24 = .ok (.iconst 1, 1) := by decide +kernel
theorem dX6_isBetween_25 : decode cX6_isBetween 25 = .ok (.if_icmp .ne 7, 3) := by decide +kernel
theorem dX6_isBetween_28 : decode cX6_isBetween 28 = .ok (.iconst 1, 1) := by decide +kernel
theorem dX6_isBetween_29 : decode cX6_isBetween 29 = .ok (.goto 4, 3) := by decide +kernel
theorem dX6_isBetween_32 : decode cX6_isBetween 32 = .ok (.iconst 0, 1) := by decide +kernel
theorem dX6_isBetween_33 : decode cX6_isBetween 33 = .ok (.ireturn, 1) := by decide +kernel
set_option maxRecDepth 20000 in
theorem ggX6_turn_X7_isTown : GoodIn wsX6_turn wsX7_isTown := goodIn_r _ [4] (by decide +kernel) (by decide +kernel)
set_option maxRecDepth 20000 in
theorem gX6_turn_X7_isTown_n24 : GoodIn wsX6_turn (wsX7_isTown) := ggX6_turn_X7_isTown
theorem dX6_turn_0 : decode cX6_turn 0 = .ok (.iload_n 1, 1) := by decide +kernel
theorem dX6_turn_1 : decode cX6_turn 1 = .ok (.invokestatic 24, 3) := by decide +kernel
theorem dX6_turn_4 : decode cX6_turn 4 = .ok (.ifCond .eq 34, 3) := by decide +kernel
theorem dX6_turn_7 : decode cX6_turn 7 = .ok (.iload_n 2, 1) := by decide +kernel
theorem dX6_turn_8 : decode cX6_turn 8 = .ok (.invokestatic 24, 3) := by decide +kernel
theorem dX6_turn_11 : decode cX6_turn 11 = .ok (.ifCond .eq 27, 3) := by decide +kernel
theorem dX6_turn_14 : decode cX6_turn 14 = .ok (.aload_n 0, 1) := by decide +kernel
theorem dX6_turn_15 : decode cX6_turn 15 = .ok (.getfield 9, 3) := by decide +kernel
theorem dX6_turn_18 : decode cX6_turn 18 = .ok (.iload_n 1, 1) := by decide +kernel
theorem dX6_turn_19 : decode cX6_turn 19 = .ok (.dup2, 1) := by decide +kernel
theorem dX6_turn_20 : decode cX6_turn 20 = .ok (.iaload, 1) := by decide +kernel
theorem dX6_turn_21 : decode cX6_turn 21 = .ok (.iconst 1, 1) := by decide +kernel
theorem dX6_turn_22 : decode cX6_turn 22 = .ok (.iload_n 2, 1) := by decide +kernel
theorem dX6_turn_23 : decode cX6_turn 23 = .ok (.ishl, 1) := by decide +kernel
theorem dX6_turn_24 : decode cX6_turn 24 = .ok (.ixor, 1) := by decide +kernel
theorem dX6_turn_25 : decode cX6_turn 25 = .ok (.iastore, 1) := by decide +kernel
theorem dX6_turn_26 : decode cX6_turn 26 = .ok (.aload_n 0, 1) := by decide +kernel
theorem dX6_turn_27 : decode cX6_turn 27 = .ok (.getfield 9, 3) := by decide +kernel
theorem dX6_turn_30 : decode cX6_turn 30 = .ok (.iload_n 2, 1) := by decide +kernel
theorem dX6_turn_31 : decode cX6_turn 31 = .ok (.dup2, 1) := by decide +kernel
theorem dX6_turn_32 : decode cX6_turn 32 = .ok (.iaload, 1) := by decide +kernel
theorem dX6_turn_33 : decode cX6_turn 33 = .ok (.iconst 1, 1) := by decide +kernel
theorem dX6_turn_34 : decode cX6_turn 34 = .ok (.iload_n 1, 1) := by decide +kernel
theorem dX6_turn_35 : decode cX6_turn 35 = .ok (.ishl, 1) := by decide +kernel
theorem dX6_turn_36 : decode cX6_turn 36 = .ok (.ixor, 1) := by decide +kernel
theorem dX6_turn_37 : decode cX6_turn 37 = .ok (.iastore, 1) := by decide +kernel
theorem dX6_turn_38 : decode cX6_turn 38 = .ok (.return_, 1) := by decide +kernel
set_option maxRecDepth 20000 in
theorem ggX6_partnersOf_X7_isTown : GoodIn wsX6_partnersOf wsX7_isTown := goodIn_r _ [4] (by decide +kernel) (by decide +kernel)
set_option maxRecDepth 20000 in
theorem gX6_partnersOf_X7_isTown_n24 : GoodIn wsX6_partnersOf (wsX7_isTown) := ggX6_partnersOf_X7_isTown
set_option maxRecDepth 20000 in
theorem ggX6_partnersOf_J6_bitCount_0f7a4 : GoodIn wsX6_partnersOf wsJ6_bitCount_0f7a4 := goodIn_r _ [8, 9, 10, 11] (by decide +kernel) (by decide +kernel)
set_option maxRecDepth 20000 in
theorem gX6_partnersOf_J6_bitCount_0f7a4 : GoodIn wsX6_partnersOf (va_wsS RX6 28 yJ6_bitCount_0f7a4 wsJ6_bitCount_0f7a4) := goodIn_app (goodIn_of _ (by decide +kernel)) ggX6_partnersOf_J6_bitCount_0f7a4
theorem dX6_partnersOf_0 : decode cX6_partnersOf 0 = .ok (.iload_n 1, 1) := by decide +kernel
theorem dX6_partnersOf_1 : decode cX6_partnersOf 1 = .ok (.invokestatic 24, 3) := by decide +kernel
theorem dX6_partnersOf_4 : decode cX6_partnersOf 4 = .ok (.ifCond .eq 15, 3) := by decide +kernel
theorem dX6_partnersOf_7 : decode cX6_partnersOf 7 = .ok (.aload_n 0, 1) := by decide +kernel
theorem dX6_partnersOf_8 : decode cX6_partnersOf 8 = .ok (.getfield 9, 3) := by decide +kernel
theorem dX6_partnersOf_11 : decode cX6_partnersOf 11 = .ok (.iload_n 1, 1) := by decide +kernel
theorem dX6_partnersOf_12 : decode cX6_partnersOf 12 = .ok (.iaload, 1) := by decide +kernel
theorem dX6_partnersOf_13 : decode cX6_partnersOf 13 = .ok (.invokestatic 28, 3) := by decide +kernel
theorem dX6_partnersOf_16 : decode cX6_partnersOf 16 = .ok (.goto 4, 3) := by decide +kernel
theorem dX6_partnersOf_19 : decode cX6_partnersOf 19 = .ok (.iconst 0, 1) := by decide +kernel
theorem dX6_partnersOf_20 : decode cX6_partnersOf 20 = .ok (.ireturn, 1) := by decide +kernel
set_option maxRecDepth 20000 in
theorem ggX6_countAll_X6_partnersOf : GoodIn wsX6_countAll wsX6_partnersOf := goodIn_r _ [5, 6, 7, 8, 9, 10, 11, 12, 13, 14, 15, 16, 17, 18] (by decide +kernel) (by decide +kernel)
set_option maxRecDepth 20000 in
theorem gX6_countAll_X6_partnersOf : GoodIn wsX6_countAll (wsV RX6 34 RX6 yX6_partnersOf wsX6_partnersOf) := goodIn_app (goodIn_of _ (by decide +kernel)) ggX6_countAll_X6_partnersOf
theorem dX6_countAll_0 : decode cX6_countAll 0 = .ok (.iconst 0, 1) := by decide +kernel
theorem dX6_countAll_1 : decode cX6_countAll 1 = .ok (.istore_n 1, 1) := by decide +kernel
theorem dX6_countAll_2 : decode cX6_countAll 2 = .ok (.iconst 0, 1) := by decide +kernel
theorem dX6_countAll_3 : decode cX6_countAll 3 = .ok (.istore_n 2, 1) := by decide +kernel
theorem dX6_countAll_4 : decode cX6_countAll 4 = .ok (.iload_n 2, 1) := by decide +kernel
theorem dX6_countAll_5 : decode cX6_countAll 5 = .ok (.iconst 5, 1) := by decide +kernel
theorem dX6_countAll_6 : decode cX6_countAll 6 = .ok (.if_icmp .ge 17, 3) := by decide +kernel
theorem dX6_countAll_9 : decode cX6_countAll 9 = .ok (.iload_n 1, 1) := by decide +kernel
theorem dX6_countAll_10 : decode cX6_countAll 10 = .ok (.aload_n 0, 1) := by decide +kernel
theorem dX6_countAll_11 : decode cX6_countAll 11 = .ok (.iload_n 2, 1) := by decide +kernel
theorem dX6_countAll_12 : decode cX6_countAll 12 = .ok (.invokevirtual 34, 3) := by decide +kernel
theorem dX6_countAll_15 : decode cX6_countAll 15 = .ok (.iadd, 1) := by decide +kernel
theorem dX6_countAll_16 : decode cX6_countAll 16 = .ok (.istore_n 1, 1) := by decide +kernel
theorem dX6_countAll_17 : decode cX6_countAll 17 = .ok (.iinc 2 1, 3) := by decide +kernel
theorem dX6_countAll_20 : decode cX6_countAll 20 = .ok (.goto (-16), 3) := by decide +kernel
theorem dX6_countAll_23 : decode cX6_countAll 23 = .ok (.iload_n 1, 1) := by decide +kernel
theorem dX6_countAll_24 : decode cX6_countAll 24 = .ok (.iconst 2, 1) := by decide +kernel
theorem dX6_countAll_25 : decode cX6_countAll 25 = .ok (.idiv, 1) := by decide +kernel
theorem dX6_countAll_26 : decode cX6_countAll 26 = .ok (.ireturn, 1) := by decide +kernel
theorem dX6_withPartners_0 : decode cX6_withPartners 0 = .ok (.iload_n 1, 1) := by decide +kernel
theorem dX6_withPartners_1 : decode cX6_withPartners 1 = .ok (.istore_n 2, 1) := by decide +kernel
theorem dX6_withPartners_2 : decode cX6_withPartners 2 = .ok (.iconst 0, 1) := by decide +kernel
theorem dX6_withPartners_3 : decode cX6_withPartners 3 = .ok (.istore_n 3, 1) := by decide +kernel
theorem dX6_withPartners_4 : decode cX6_withPartners 4 = .ok (.iload_n 3, 1) := by decide +kernel
theorem dX6_withPartners_5 : decode cX6_withPartners 5 = .ok (.iconst 5, 1) := by decide +kernel
theorem dX6_withPartners_6 : decode cX6_withPartners 6 = .ok (.if_icmp .ge 27, 3) := by decide +kernel
theorem dX6_withPartners_9 : decode cX6_withPartners 9 = .ok (.iload_n 1, 1) := by decide +kernel
theorem dX6_withPartners_10 : decode cX6_withPartners 10 = .ok (.iload_n 3, 1) := by decide +kernel
theorem dX6_withPartners_11 : decode cX6_withPartners 11 = .ok (.ishr, 1) := by decide +kernel
theorem dX6_withPartners_12 : decode cX6_withPartners 12 = .ok (.iconst 1, 1) := by decide +kernel
theorem dX6_withPartners_13 : decode cX6_withPartners 13 = .ok (.iand, 1) := by decide +kernel
theorem dX6_withPartners_14 : decode cX6_withPartners 14 = .ok (.iconst 1, 1) := by decide +kernel
theorem dX6_withPartners_15 : decode cX6_withPartners 15 = .ok (.if_icmp .ne 12, 3) := by decide +kernel
theorem dX6_withPartners_18 : decode cX6_withPartners 18 = .ok (.iload_n 2, 1) := by decide +kernel
theorem dX6_withPartners_19 : decode cX6_withPartners 19 = .ok (.aload_n 0, 1) := by decide +kernel
theorem dX6_withPartners_20 : decode cX6_withPartners 20 = .ok (.getfield 9, 3) := by decide +kernel
theorem dX6_withPartners_23 : decode cX6_withPartners 23 = .ok (.iload_n 3, 1) := by decide +kernel
theorem dX6_withPartners_24 : decode cX6_withPartners 24 = .ok (.iaload, 1) := by decide +kernel
theorem dX6_withPartners_25 : decode cX6_withPartners 25 = .ok (.ior, 1) := by decide +kernel
theorem dX6_withPartners_26 : decode cX6_withPartners 26 = .ok (.istore_n 2, 1) := by decide +kernel
theorem dX6_withPartners_27 : decode cX6_withPartners 27 = .ok (.iinc 3 1, 3) := by decide +kernel
theorem dX6_withPartners_30 : decode cX6_withPartners 30 = .ok (.goto (-26), 3) := by decide +kernel
theorem dX6_withPartners_33 : decode cX6_withPartners 33 = .ok (.iload_n 2, 1) := by decide +kernel
theorem dX6_withPartners_34 : decode cX6_withPartners 34 = .ok (.ireturn, 1) := by decide +kernel
set_option maxRecDepth 20000 in
theorem ggX6_ledToFrom_X6_withPartners : GoodIn wsX6_ledToFrom wsX6_withPartners := goodIn_r _ [5, 6, 14, 15] (by decide +kernel) (by decide +kernel)
set_option maxRecDepth 20000 in
theorem gX6_ledToFrom_X6_withPartners : GoodIn wsX6_ledToFrom (wsV RX6 37 RX6 yX6_withPartners wsX6_withPartners) := goodIn_app (goodIn_of _ (by decide +kernel)) ggX6_ledToFrom_X6_withPartners
set_option maxRecDepth 20000 in
theorem ggX6_ledToFrom_J6_bitCount_0f7a4 : GoodIn wsX6_ledToFrom wsJ6_bitCount_0f7a4 := goodIn_r _ [10, 11, 12, 13] (by decide +kernel) (by decide +kernel)
set_option maxRecDepth 20000 in
theorem gX6_ledToFrom_J6_bitCount_0f7a4 : GoodIn wsX6_ledToFrom (va_wsS RX6 28 yJ6_bitCount_0f7a4 wsJ6_bitCount_0f7a4) := goodIn_app (goodIn_of _ (by decide +kernel)) ggX6_ledToFrom_J6_bitCount_0f7a4
theorem dX6_ledToFrom_0 : decode cX6_ledToFrom 0 = .ok (.iconst 1, 1) := by decide +kernel
theorem dX6_ledToFrom_1 : decode cX6_ledToFrom 1 = .ok (.iload_n 1, 1) := by decide +kernel
theorem dX6_ledToFrom_2 : decode cX6_ledToFrom 2 = .ok (.ishl, 1) := by decide +kernel
theorem dX6_ledToFrom_3 : decode cX6_ledToFrom 3 = .ok (.istore_n 2, 1) := by decide +kernel
theorem dX6_ledToFrom_4 : decode cX6_ledToFrom 4 = .ok (.iconst 1, 1) := by decide +kernel
theorem dX6_ledToFrom_5 : decode cX6_ledToFrom 5 = .ok (.istore_n 3, 1) := by decide +kernel
theorem dX6_ledToFrom_6 : decode cX6_ledToFrom 6 = .ok (.iload_n 3, 1) := by decide +kernel
theorem dX6_ledToFrom_7 : decode cX6_ledToFrom 7 = .ok (.iconst 5, 1) := by decide +kernel
theorem dX6_ledToFrom_8 : decode cX6_ledToFrom 8 = .ok (.if_icmp .ge 15, 3) := by decide +kernel
theorem dX6_ledToFrom_11 : decode cX6_ledToFrom 11 = .ok (.aload_n 0, 1) := by decide +kernel
theorem dX6_ledToFrom_12 : decode cX6_ledToFrom 12 = .ok (.iload_n 2, 1) := by decide +kernel
theorem dX6_ledToFrom_13 : decode cX6_ledToFrom 13 = .ok (.invokevirtual 37, 3) := by decide +kernel
theorem dX6_ledToFrom_16 : decode cX6_ledToFrom 16 = .ok (.istore_n 2, 1) := by decide +kernel
theorem dX6_ledToFrom_17 : decode cX6_ledToFrom 17 = .ok (.iinc 3 1, 3) := by decide +kernel
theorem dX6_ledToFrom_20 : decode cX6_ledToFrom 20 = .ok (.goto (-14), 3) := by decide +kernel
theorem dX6_ledToFrom_23 : decode cX6_ledToFrom 23 = .ok (.iload_n 2, 1) := by decide +kernel
theorem dX6_ledToFrom_24 : decode cX6_ledToFrom 24 = .ok (.invokestatic 28, 3) := by decide +kernel
theorem dX6_ledToFrom_27 : decode cX6_ledToFrom 27 = .ok (.iconst 1, 1) := by decide +kernel
theorem dX6_ledToFrom_28 : decode cX6_ledToFrom 28 = .ok (.isub, 1) := by decide +kernel
theorem dX6_ledToFrom_29 : decode cX6_ledToFrom 29 = .ok (.ireturn, 1) := by decide +kernel
set_option maxRecDepth 20000 in
theorem ggX6_stepsBetween_X6_withPartners : GoodIn wsX6_stepsBetween wsX6_withPartners := goodIn_r _ [5, 6, 7, 8] (by decide +kernel) (by decide +kernel)
set_option maxRecDepth 20000 in
theorem gX6_stepsBetween_X6_withPartners : GoodIn wsX6_stepsBetween (wsV RX6 37 RX6 yX6_withPartners wsX6_withPartners) := goodIn_app (goodIn_of _ (by decide +kernel)) ggX6_stepsBetween_X6_withPartners
theorem dX6_stepsBetween_0 : decode cX6_stepsBetween 0 = .ok (.iconst 1, 1) := by decide +kernel
theorem dX6_stepsBetween_1 : decode cX6_stepsBetween 1 = .ok (.iload_n 1, 1) := by decide +kernel
theorem dX6_stepsBetween_2 : decode cX6_stepsBetween 2 = .ok (.ishl, 1) := by decide +kernel
theorem dX6_stepsBetween_3 : decode cX6_stepsBetween 3 = .ok (.istore_n 3, 1) := by decide +kernel
theorem dX6_stepsBetween_4 : decode cX6_stepsBetween 4 = .ok (.iconst 0, 1) := by decide +kernel
theorem dX6_stepsBetween_5 : decode cX6_stepsBetween 5 = .ok (.istore 4, 2) := by decide +kernel
theorem dX6_stepsBetween_7 : decode cX6_stepsBetween 7 = .ok (.iload 4, 2) := by decide +kernel
theorem dX6_stepsBetween_9 : decode cX6_stepsBetween 9 = .ok (.iconst 5, 1) := by decide +kernel
theorem dX6_stepsBetween_10 : decode cX6_stepsBetween 10 = .ok (.if_icmp .ge 27, 3) := by decide +kernel
theorem dX6_stepsBetween_13 : decode cX6_stepsBetween 13 = .ok (.iload_n 3, 1) := by decide +kernel
theorem dX6_stepsBetween_14 : decode cX6_stepsBetween 14 = .ok (.iload_n 2, 1) := by decide +kernel
theorem dX6_stepsBetween_15 : decode cX6_stepsBetween 15 = .ok (.ishr, 1) := by decide +kernel
theorem dX6_stepsBetween_16 : decode cX6_stepsBetween 16 = .ok (.iconst 1, 1) := by decide +kernel
theorem dX6_stepsBetween_17 : decode cX6_stepsBetween 17 = .ok (.iand, 1) := by decide +kernel
theorem dX6_stepsBetween_18 : decode cX6_stepsBetween 18 = .ok (.iconst 1, 1) := by decide +kernel
theorem dX6_stepsBetween_19 : decode cX6_stepsBetween 19 = .ok (.if_icmp .ne 6, 3) := by decide +kernel
theorem dX6_stepsBetween_22 : decode cX6_stepsBetween 22 = .ok (.iload 4, 2) := by decide +kernel
theorem dX6_stepsBetween_24 : decode cX6_stepsBetween 24 = .ok (.ireturn, 1) := by decide +kernel
theorem dX6_stepsBetween_25 : decode cX6_stepsBetween 25 = .ok (.aload_n 0, 1) := by decide +kernel
theorem dX6_stepsBetween_26 : decode cX6_stepsBetween 26 = .ok (.iload_n 3, 1) := by decide +kernel
theorem dX6_stepsBetween_27 : decode cX6_stepsBetween 27 = .ok (.invokevirtual 37, 3) := by decide +kernel
theorem dX6_stepsBetween_30 : decode cX6_stepsBetween 30 = .ok (.istore_n 3, 1) := by decide +kernel
theorem dX6_stepsBetween_31 : decode cX6_stepsBetween 31 = .ok (.iinc 4 1, 3) := by decide +kernel
theorem dX6_stepsBetween_34 : decode cX6_stepsBetween 34 = .ok (.goto (-27), 3) := by decide +kernel
theorem dX6_stepsBetween_37 : decode cX6_stepsBetween 37 = .ok (.bipush (-6), 2) := by decide +kernel
theorem dX6_stepsBetween_39 : decode cX6_stepsBetween 39 = .ok (.ireturn, 1) := by decide +kernel
set_option maxRecDepth 20000 in
theorem ggX6_halvedBySteps_X6_stepsBetween : GoodIn wsX6_halvedBySteps wsX6_stepsBetween := goodIn_r _ [5, 6, 7, 8, 4, 9, 10, 11, 12] (by decide +kernel) (by decide +kernel)
set_option maxRecDepth 20000 in
theorem gX6_halvedBySteps_X6_stepsBetween : GoodIn wsX6_halvedBySteps (wsV RX6 40 RX6 yX6_stepsBetween wsX6_stepsBetween) := goodIn_app (goodIn_of _ (by decide +kernel)) ggX6_halvedBySteps_X6_stepsBetween
theorem dX6_halvedBySteps_0 : decode cX6_halvedBySteps 0 = .ok (.aload_n 0, 1) := by decide +kernel
theorem dX6_halvedBySteps_1 : decode cX6_halvedBySteps 1 = .ok (.iload_n 1, 1) := by decide +kernel
theorem dX6_halvedBySteps_2 : decode cX6_halvedBySteps 2 = .ok (.iload_n 3, 1) := by decide +kernel
theorem dX6_halvedBySteps_3 : decode cX6_halvedBySteps 3 = .ok (.invokevirtual 40, 3) := by decide +kernel
theorem dX6_halvedBySteps_6 : decode cX6_halvedBySteps 6 = .ok (.istore 4, 2) := by decide +kernel
theorem dX6_halvedBySteps_8 : decode cX6_halvedBySteps 8 = .ok (.iload 4, 2) := by decide +kernel
theorem dX6_halvedBySteps_10 : decode cX6_halvedBySteps 10 = .ok (.bipush (-6), 2) := by decide +kernel
theorem dX6_halvedBySteps_12 : decode cX6_halvedBySteps 12 = .ok (.if_icmp .ne 7, 3) := by decide +kernel
theorem dX6_halvedBySteps_15 : decode cX6_halvedBySteps 15 = .ok (.iconst 0, 1) := by decide +kernel
theorem dX6_halvedBySteps_16 : decode cX6_halvedBySteps 16 = .ok (.goto 7, 3) := by decide +kernel
theorem dX6_halvedBySteps_19 : decode cX6_halvedBySteps 19 = .ok (.iload_n 2, 1) := by decide +kernel
theorem dX6_halvedBySteps_20 : decode cX6_halvedBySteps 20 = .ok (.iload 4, 2) := by decide +kernel
theorem dX6_halvedBySteps_22 : decode cX6_halvedBySteps 22 = .ok (.ishr, 1) := by decide +kernel
theorem dX6_halvedBySteps_23 : decode cX6_halvedBySteps 23 = .ok (.ireturn, 1) := by decide +kernel
theorem dX6_spread_0 : decode cX6_spread 0 = .ok (.iconst 0, 1) := by decide +kernel
theorem dX6_spread_1 : decode cX6_spread 1 = .ok (.istore_n 3, 1) := by decide +kernel
theorem dX6_spread_2 : decode cX6_spread 2 = .ok (.iload_n 3, 1) := by decide +kernel
theorem dX6_spread_3 : decode cX6_spread 3 = .ok (.iconst 5, 1) := by decide +kernel
theorem dX6_spread_4 : decode cX6_spread 4 = .ok (.if_icmp .ge 25, 3) := by decide +kernel
theorem dX6_spread_7 : decode cX6_spread 7 = .ok (.aload_n 0, 1) := by decide +kernel
theorem dX6_spread_8 : decode cX6_spread 8 = .ok (.getfield 15, 3) := by decide +kernel
theorem dX6_spread_11 : decode cX6_spread 11 = .ok (.iload_n 3, 1) := by decide +kernel
theorem dX6_spread_12 : decode cX6_spread 12 = .ok (.iload_n 3, 1) := by decide +kernel
theorem dX6_spread_13 : decode cX6_spread 13 = .ok (.iload_n 1, 1) := by decide +kernel
theorem dX6_spread_14 : decode cX6_spread 14 = .ok (.if_icmp .ne 7, 3) := by decide +kernel
theorem dX6_spread_17 : decode cX6_spread 17 = .ok (.iload_n 2, 1) := by decide +kernel
theorem dX6_spread_18 : decode cX6_spread 18 = .ok (.goto 4, 3) := by decide +kernel
theorem dX6_spread_21 : decode cX6_spread 21 = .ok (.iconst 0, 1) := by decide +kernel
theorem dX6_spread_22 : decode cX6_spread 22 = .ok (.iastore, 1) := by decide +kernel
theorem dX6_spread_23 : decode cX6_spread 23 = .ok (.iinc 3 1, 3) := by decide +kernel
theorem dX6_spread_26 : decode cX6_spread 26 = .ok (.goto (-24), 3) := by decide +kernel
theorem dX6_spread_29 : decode cX6_spread 29 = .ok (.iconst 1, 1) := by decide +kernel
theorem dX6_spread_30 : decode cX6_spread 30 = .ok (.istore_n 3, 1) := by decide +kernel
theorem dX6_spread_31 : decode cX6_spread 31 = .ok (.iload_n 3, 1) := by decide +kernel
theorem dX6_spread_32 : decode cX6_spread 32 = .ok (.iconst 5, 1) := by decide +kernel
theorem dX6_spread_33 : decode cX6_spread 33 = .ok (.if_icmp .ge 87, 3) := by decide +kernel
theorem dX6_spread_36 : decode cX6_spread 36 = .ok (.iconst 0, 1) := by decide +kernel
theorem dX6_spread_37 : decode cX6_spread 37 = .ok (.istore 4, 2) := by decide +kernel
theorem dX6_spread_39 : decode cX6_spread 39 = .ok (.iload 4, 2) := by decide +kernel
theorem dX6_spread_41 : decode cX6_spread 41 = .ok (.iconst 5, 1) := by decide +kernel
theorem dX6_spread_42 : decode cX6_spread 42 = .ok (.if_icmp .ge 72, 3) := by decide +kernel
theorem dX6_spread_45 : decode cX6_spread 45 = .ok (.aload_n 0, 1) := by decide +kernel
theorem dX6_spread_46 : decode cX6_spread 46 = .ok (.getfield 15, 3) := by decide +kernel
theorem dX6_spread_49 : decode cX6_spread 49 = .ok (.iload 4, 2) := by decide +kernel
theorem dX6_spread_51 : decode cX6_spread 51 = .ok (.iaload, 1) := by decide +kernel
theorem dX6_spread_52 : decode cX6_spread 52 = .ok (.iconst 2, 1) := by decide +kernel
theorem dX6_spread_53 : decode cX6_spread 53 = .ok (.idiv, 1) := by decide +kernel
theorem dX6_spread_54 : decode cX6_spread 54 = .ok (.istore 5, 2) := by decide +kernel
theorem dX6_spread_56 : decode cX6_spread 56 = .ok (.iconst 0, 1) := by decide +kernel
theorem dX6_spread_57 : decode cX6_spread 57 = .ok (.istore 6, 2) := by decide +kernel
theorem dX6_spread_59 : decode cX6_spread 59 = .ok (.iload 6, 2) := by decide +kernel
theorem dX6_spread_61 : decode cX6_spread 61 = .ok (.iconst 5, 1) := by decide +kernel
theorem dX6_spread_62 : decode cX6_spread 62 = .ok (.if_icmp .ge 46, 3) := by decide +kernel
theorem dX6_spread_65 : decode cX6_spread 65 = .ok (.aload_n 0, 1) := by decide +kernel
theorem dX6_spread_66 : decode cX6_spread 66 = .ok (.getfield 9, 3) := by decide +kernel
theorem dX6_spread_69 : decode cX6_spread 69 = .ok (.iload 4, 2) := by decide +kernel
theorem dX6_spread_71 : decode cX6_spread 71 = .ok (.iaload, 1) := by decide +kernel
theorem dX6_spread_72 : decode cX6_spread 72 = .ok (.iload 6, 2) := by decide +kernel
theorem dX6_spread_74 : decode cX6_spread 74 = .ok (.ishr, 1) := by decide +kernel
theorem dX6_spread_75 : decode cX6_spread 75 = .ok (.iconst 1, 1) := by decide +kernel
theorem dX6_spread_76 : decode cX6_spread 76 = .ok (.iand, 1) := by decide +kernel
theorem dX6_spread_77 : decode cX6_spread 77 = .ok (.iconst 1, 1) := by decide +kernel
theorem dX6_spread_78 : decode cX6_spread 78 = .ok (.if_icmp .ne 24, 3) := by decide +kernel
theorem dX6_spread_81 : decode cX6_spread 81 = .ok (.aload_n 0, 1) := by decide +kernel
theorem dX6_spread_82 : decode cX6_spread 82 = .ok (.getfield 15, 3) := by decide +kernel
theorem dX6_spread_85 : decode cX6_spread 85 = .ok (.iload 6, 2) := by decide +kernel
theorem dX6_spread_87 : decode cX6_spread 87 = .ok (.iaload, 1) := by decide +kernel
theorem dX6_spread_88 : decode cX6_spread 88 = .ok (.iload 5, 2) := by decide +kernel
theorem dX6_spread_90 : decode cX6_spread 90 = .ok (.if_icmp .ge 12, 3) := by decide +kernel
theorem dX6_spread_93 : decode cX6_spread 93 = .ok (.aload_n 0, 1) := by decide +kernel
theorem dX6_spread_94 : decode cX6_spread 94 = .ok (.getfield 15, 3) := by decide +kernel
theorem dX6_spread_97 : decode cX6_spread 97 = .ok (.iload 6, 2) := by decide +kernel
theorem dX6_spread_99 : decode cX6_spread 99 = .ok (.iload 5, 2) := by decide +kernel
theorem dX6_spread_101 : decode cX6_spread 101 = .ok (.iastore, 1) := by decide +kernel
theorem dX6_spread_102 : decode cX6_spread 102 = .ok (.iinc 6 1, 3) := by decide +kernel
theorem dX6_spread_105 : decode cX6_spread 105 = .ok (.goto (-46), 3) := by decide +kernel
theorem dX6_spread_108 : decode cX6_spread 108 = .ok (.iinc 4 1, 3) := by decide +kernel
theorem dX6_spread_111 : decode cX6_spread 111 = .ok (.goto (-72), 3) := by decide +kernel
theorem dX6_spread_114 : decode cX6_spread 114 = .ok (.iinc 3 1, 3) := by decide +kernel
theorem dX6_spread_117 : decode cX6_spread 117 = .ok (.goto (-86), 3) := by decide +kernel
theorem dX6_spread_120 : decode cX6_spread 120 = .ok (.return_, 1) := by decide +kernel
set_option maxRecDepth 20000 in
theorem ggX7_init_X3_init : GoodIn wsX7_init wsX3_init := goodIn_r _ [31, 32, 2, 3, 33, 34, 35, 36, 37, 38, 39, 40, 41, 42, 43, 44, 45, 46, 47, 48, 49, 50, 51, 52, 53, 54, 55, 56, 57, 58, 59, 60, 61, 62, 63, 64, 65, 66, 67, 68, 69, 70, 71, 72, 73, 121, 122, 123, 124, 125, 126, 127, 128, 155, 156, 157, 158, 159, 160, 161, 162, 163, 164, 165, 166, 167, 168] (by decide +kernel) (by decide +kernel)
set_option maxRecDepth 20000 in
theorem gX7_init_X3_init : GoodIn wsX7_init (wsX3_init) := ggX7_init_X3_init
set_option maxRecDepth 20000 in
theorem ggX7_init_X2_init : GoodIn wsX7_init wsX2_init := goodIn_r _ [76, 77, 2, 3, 78, 79, 80, 81, 5, 6, 82, 30, 31, 32, 33, 34, 35, 36, 37, 38, 39, 40, 41, 42, 43, 44, 45, 46, 47, 48, 49, 50, 51, 52, 53, 54, 55, 56, 57, 58, 59, 60, 61, 62, 63, 64, 65, 66, 67, 68, 69, 70, 71, 72, 73, 139, 140, 141, 121, 122, 123, 124, 125, 126, 127, 128, 155, 156, 157, 158, 159, 160, 161, 162, 163, 164, 165, 166, 167, 168] (by decide +kernel) (by decide +kernel)
set_option maxRecDepth 20000 in
theorem gX7_init_X2_init : GoodIn wsX7_init (wsX2_init) := ggX7_init_X2_init
set_option maxRecDepth 20000 in
theorem ggX7_init_X5_init : GoodIn wsX7_init wsX5_init := goodIn_r _ [84, 85, 2, 3, 86, 21, 22, 87, 88, 89, 34, 90, 91, 92, 93, 94, 95, 96, 97, 98, 99, 100, 101, 102, 103, 104, 105, 106, 107, 108, 109, 110, 111, 112, 147, 148, 149, 150, 142, 143, 144, 145, 146] (by decide +kernel) (by decide +kernel)
set_option maxRecDepth 20000 in
theorem gX7_init_X5_init_n38 : GoodIn wsX7_init (wsX5_init) := ggX7_init_X5_init
set_option maxRecDepth 20000 in
theorem ggX7_init_J4_init_da8c8 : GoodIn wsX7_init wsJ4_init_da8c8 := goodIn_r _ [95, 96, 97, 98, 99, 100, 2, 3, 101, 102, 103, 104, 105, 106, 107, 108, 109, 110, 111, 112, 147, 148, 149, 150] (by decide +kernel) (by decide +kernel)
set_option maxRecDepth 20000 in
theorem gX7_init_J4_init_da8c8 : GoodIn wsX7_init (wsJ4_init_da8c8) := ggX7_init_J4_init_da8c8
set_option maxRecDepth 20000 in
theorem ggX7_init_X4_init : GoodIn wsX7_init wsX4_init := goodIn_r _ [115, 116, 2, 3, 117, 118, 119, 120, 151, 152, 153, 154] (by decide +kernel) (by decide +kernel)
set_option maxRecDepth 20000 in
theorem gX7_init_X4_init_n52 : GoodIn wsX7_init (wsX4_init) := ggX7_init_X4_init
