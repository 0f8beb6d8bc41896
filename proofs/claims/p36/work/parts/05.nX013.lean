theorem dX0_init_0 : decode cX0_init 0 = .ok (.aload_n 0, 1) := by decide +kernel
theorem dX0_init_1 : decode cX0_init 1 = .ok (.invokespecial 3, 3) := by decide +kernel
theorem dX0_init_4 : decode cX0_init 4 = .ok (.aload_n 0, 1) := by decide +kernel
theorem dX0_init_5 : decode cX0_init 5 = .ok (.iconst 0, 1) := by decide +kernel
theorem dX0_init_6 : decode cX0_init 6 = .ok (.putfield 9, 3) := by decide +kernel
theorem dX0_init_9 : decode cX0_init 9 = .ok (.aload_n 0, 1) := by decide +kernel
theorem dX0_init_10 : decode cX0_init 10 = .ok (.iconst 0, 1) := by decide +kernel
theorem dX0_init_11 : decode cX0_init 11 = .ok (.putfield 15, 3) := by decide +kernel
theorem dX0_init_14 : decode cX0_init 14 = .ok (.aload_n 0, 1) := by decide +kernel
theorem dX0_init_15 : decode cX0_init 15 = .ok (.iconst 0, 1) := by decide +kernel
theorem dX0_init_16 : decode cX0_init 16 = .ok (.putfield 18, 3) := by decide +kernel
theorem dX0_init_19 : decode cX0_init 19 = .ok (.aload_n 0, 1) := by decide +kernel
theorem dX0_init_20 : decode cX0_init 20 = .ok (.iconst 0, 1) := by decide +kernel
theorem dX0_init_21 : decode cX0_init 21 = .ok (.putfield 21, 3) := by decide +kernel
theorem dX0_init_24 : decode cX0_init 24 = .ok (.aload_n 0, 1) := by decide +kernel
theorem dX0_init_25 : decode cX0_init 25 = .ok (.iconst 0, 1) := by decide +kernel
theorem dX0_init_26 : decode cX0_init 26 = .ok (.putfield 24, 3) := by decide +kernel
theorem dX0_init_29 : decode cX0_init 29 = .ok (.aload_n 0, 1) := by decide +kernel
theorem dX0_init_30 : decode cX0_init 30 = .ok (.iconst 0, 1) := by decide +kernel
theorem dX0_init_31 : decode cX0_init 31 = .ok (.putfield 27, 3) := by decide +kernel
theorem dX0_init_34 : decode cX0_init 34 = .ok (.aload_n 0, 1) := by decide +kernel
theorem dX0_init_35 : decode cX0_init 35 = .ok (.iconst 0, 1) := by decide +kernel
theorem dX0_init_36 : decode cX0_init 36 = .ok (.putfield 30, 3) := by decide +kernel
theorem dX0_init_39 : decode cX0_init 39 = .ok (.aload_n 0, 1) := by decide +kernel
theorem dX0_init_40 : decode cX0_init 40 = .ok (.iconst 0, 1) := by decide +kernel
theorem dX0_init_41 : decode cX0_init 41 = .ok (.putfield 33, 3) := by decide +kernel
theorem dX0_init_44 : decode cX0_init 44 = .ok (.return_, 1) := by decide +kernel
theorem dX0_copyFrom_0 : decode cX0_copyFrom 0 = .ok (.aload_n 0, 1) := by decide +kernel
theorem dX0_copyFrom_1 : decode cX0_copyFrom 1 = .ok (.aload_n 1, 1) := by decide +kernel
theorem dX0_copyFrom_2 : decode cX0_copyFrom 2 = .ok (.getfield 9, 3) := by decide +kernel
theorem dX0_copyFrom_5 : decode cX0_copyFrom 5 = .ok (.putfield 9, 3) := by decide +kernel
theorem dX0_copyFrom_8 : decode cX0_copyFrom 8 = .ok (.aload_n 0, 1) := by decide +kernel
theorem dX0_copyFrom_9 : decode cX0_copyFrom 9 = .ok (.aload_n 1, 1) := by decide +kernel
theorem dX0_copyFrom_10 : decode cX0_copyFrom 10 = .ok (.getfield 15, 3) := by decide +kernel
theorem dX0_copyFrom_13 : decode cX0_copyFrom 13 = .ok (.putfield 15, 3) := by decide +kernel
theorem dX0_copyFrom_16 : decode cX0_copyFrom 16 = .ok (.aload_n 0, 1) := by decide +kernel
theorem dX0_copyFrom_17 : decode cX0_copyFrom 17 = .ok (.aload_n 1, 1) := by decide +kernel
theorem dX0_copyFrom_18 : decode cX0_copyFrom 18 = .ok (.getfield 18, 3) := by decide +kernel
theorem dX0_copyFrom_21 : decode cX0_copyFrom 21 = .ok (.putfield 18, 3) := by decide +kernel
theorem dX0_copyFrom_24 : decode cX0_copyFrom 24 = .ok (.aload_n 0, 1) := by decide +kernel
theorem dX0_copyFrom_25 : decode cX0_copyFrom 25 = .ok (.aload_n 1, 1) := by decide +kernel
theorem dX0_copyFrom_26 : decode cX0_copyFrom 26 = .ok (.getfield 21, 3) := by decide +kernel
theorem dX0_copyFrom_29 : decode cX0_copyFrom 29 = .ok (.putfield 21, 3) := by decide +kernel
theorem dX0_copyFrom_32 : decode cX0_copyFrom 32 = .ok (.aload_n 0, 1) := by decide +kernel
theorem dX0_copyFrom_33 : decode cX0_copyFrom 33 = .ok (.aload_n 1, 1) := by decide +kernel
theorem dX0_copyFrom_34 : decode cX0_copyFrom 34 = .ok (.getfield 24, 3) := by decide +kernel
theorem dX0_copyFrom_37 : decode cX0_copyFrom 37 = .ok (.putfield 24, 3) := by decide +kernel
theorem dX0_copyFrom_40 : decode cX0_copyFrom 40 = .ok (.aload_n 0, 1) := by decide +kernel
theorem dX0_copyFrom_41 : decode cX0_copyFrom 41 = .ok (.aload_n 1, 1) := by decide +kernel
theorem dX0_copyFrom_42 : decode cX0_copyFrom 42 = .ok (.getfield 27, 3) := by decide +kernel
theorem dX0_copyFrom_45 : decode cX0_copyFrom 45 = .ok (.putfield 27, 3) := by decide +kernel
theorem dX0_copyFrom_48 : decode cX0_copyFrom 48 = .ok (.aload_n 0, 1) := by decide +kernel
theorem dX0_copyFrom_49 : decode cX0_copyFrom 49 = .ok (.aload_n 1, 1) := by decide +kernel
theorem dX0_copyFrom_50 : decode cX0_copyFrom 50 = .ok (.getfield 30, 3) := by decide +kernel
theorem dX0_copyFrom_53 : decode cX0_copyFrom 53 = .ok (.putfield 30, 3) := by decide +kernel
theorem dX0_copyFrom_56 : decode cX0_copyFrom 56 = .ok (.aload_n 0, 1) := by decide +kernel
theorem dX0_copyFrom_57 : decode cX0_copyFrom 57 = .ok (.aload_n 1, 1) := by decide +kernel
theorem dX0_copyFrom_58 : decode cX0_copyFrom 58 = .ok (.getfield 33, 3) := by decide +kernel
theorem dX0_copyFrom_61 : decode cX0_copyFrom 61 = .ok (.putfield 33, 3) := by decide +kernel
theorem dX0_copyFrom_64 : decode cX0_copyFrom 64 = .ok (.return_, 1) := by decide +kernel
theorem dX0_entryOf_0 : decode cX0_entryOf 0 = .ok (.iload_n 1, 1) := by decide +kernel
theorem dX0_entryOf_1 : decode cX0_entryOf 1 = .ok (.tableswitch 78 7 13 #[43, 48, 53, 58, 63, 68, 73], 43) := by decide +kernel
theorem dX0_entryOf_44 : decode cX0_entryOf 44 = .ok (.aload_n 0, 1) := by decide +kernel
theorem dX0_entryOf_45 : decode cX0_entryOf 45 = .ok (.getfield 9, 3) := by decide +kernel
theorem dX0_entryOf_48 : decode cX0_entryOf 48 = .ok (.ireturn, 1) := by decide +kernel
theorem dX0_entryOf_49 : decode cX0_entryOf 49 = .ok (.aload_n 0, 1) := by decide +kernel
theorem dX0_entryOf_50 : decode cX0_entryOf 50 = .ok (.getfield 15, 3) := by decide +kernel
theorem dX0_entryOf_53 : decode cX0_entryOf 53 = .ok (.ireturn, 1) := by decide +kernel
theorem dX0_entryOf_54 : decode cX0_entryOf 54 = .ok (.aload_n 0, 1) := by decide +kernel
theorem dX0_entryOf_55 : decode cX0_entryOf 55 = .ok (.getfield 21, 3) := by decide +kernel
theorem dX0_entryOf_58 : decode cX0_entryOf 58 = .ok (.ireturn, 1) := by decide +kernel
theorem dX0_entryOf_59 : decode cX0_entryOf 59 = .ok (.aload_n 0, 1) := by decide +kernel
theorem dX0_entryOf_60 : decode cX0_entryOf 60 = .ok (.getfield 24, 3) := by decide +kernel
theorem dX0_entryOf_63 : decode cX0_entryOf 63 = .ok (.ireturn, 1) := by decide +kernel
theorem dX0_entryOf_64 : decode cX0_entryOf 64 = .ok (.aload_n 0, 1) := by decide +kernel
theorem dX0_entryOf_65 : decode cX0_entryOf 65 = .ok (.getfield 27, 3) := by decide +kernel
theorem dX0_entryOf_68 : decode cX0_entryOf 68 = .ok (.ireturn, 1) := by decide +kernel
theorem dX0_entryOf_69 : decode cX0_entryOf 69 = .ok (.aload_n 0, 1) := by decide +kernel
theorem dX0_entryOf_70 : decode cX0_entryOf 70 = .ok (.getfield 30, 3) := by decide +kernel
theorem dX0_entryOf_73 : decode cX0_entryOf 73 = .ok (.ireturn, 1) := by decide +kernel
theorem dX0_entryOf_74 : decode cX0_entryOf 74 = .ok (.aload_n 0, 1) := by decide +kernel
theorem dX0_entryOf_75 : decode cX0_entryOf 75 = .ok (.getfield 33, 3) := by decide +kernel
theorem dX0_entryOf_78 : decode cX0_entryOf 78 = .ok (.ireturn, 1) := by decide +kernel
theorem dX0_entryOf_79 : decode cX0_entryOf 79 = .ok (.bipush (-2), 2) := by decide +kernel
theorem dX0_entryOf_81 : decode cX0_entryOf 81 = .ok (.ireturn, 1) := by decide +kernel
theorem dX1_init_0 : decode cX1_init 0 = .ok (.aload_n 0, 1) := by decide +kernel
theorem dX1_init_1 : decode cX1_init 1 = .ok (.invokespecial 3, 3) := by decide +kernel
theorem dX1_init_4 : decode cX1_init 4 = .ok (.aload_n 0, 1) := by decide +kernel
theorem dX1_init_5 : decode cX1_init 5 = .ok (.iconst 0, 1) := by decide +kernel
theorem dX1_init_6 : decode cX1_init 6 = .ok (.putfield 9, 3) := by decide +kernel
theorem dX1_init_9 : decode cX1_init 9 = .ok (.aload_n 0, 1) := by decide +kernel
theorem dX1_init_10 : decode cX1_init 10 = .ok (.bipush 8, 2) := by decide +kernel
theorem dX1_init_12 : decode cX1_init 12 = .ok (.newarray .int, 2) := by decide +kernel
theorem dX1_init_14 : decode cX1_init 14 = .ok (.putfield 15, 3) := by decide +kernel
theorem dX1_init_17 : decode cX1_init 17 = .ok (.aload_n 0, 1) := by decide +kernel
theorem dX1_init_18 : decode cX1_init 18 = .ok (.bipush 8, 2) := by decide +kernel
theorem dX1_init_20 : decode cX1_init 20 = .ok (.newarray .int, 2) := by decide +kernel
theorem dX1_init_22 : decode cX1_init 22 = .ok (.putfield 19, 3) := by decide +kernel
theorem dX1_init_25 : decode cX1_init 25 = .ok (.aload_n 0, 1) := by decide +kernel
theorem dX1_init_26 : decode cX1_init 26 = .ok (.bipush 8, 2) := by decide +kernel
theorem dX1_init_28 : decode cX1_init 28 = .ok (.newarray .int, 2) := by decide +kernel
theorem dX1_init_30 : decode cX1_init 30 = .ok (.putfield 22, 3) := by decide +kernel
theorem dX1_init_33 : decode cX1_init 33 = .ok (.return_, 1) := by decide +kernel
theorem dX1_copyFrom_0 : decode cX1_copyFrom 0 = .ok (.aload_n 0, 1) := by decide +kernel
theorem dX1_copyFrom_1 : decode cX1_copyFrom 1 = .ok (.aload_n 1, 1) := by decide +kernel
theorem dX1_copyFrom_2 : decode cX1_copyFrom 2 = .ok (.getfield 9, 3) := by decide +kernel
theorem dX1_copyFrom_5 : decode cX1_copyFrom 5 = .ok (.putfield 9, 3) := by decide +kernel
theorem dX1_copyFrom_8 : decode cX1_copyFrom 8 = .ok (.aload_n 1, 1) := by decide +kernel
theorem dX1_copyFrom_9 : decode cX1_copyFrom 9 = .ok (.getfield 15, 3) := by decide +kernel
theorem dX1_copyFrom_12 : decode cX1_copyFrom 12 = .ok (.iconst 0, 1) := by decide +kernel
theorem dX1_copyFrom_13 : decode cX1_copyFrom 13 = .ok (.aload_n 0, 1) := by decide +kernel
theorem dX1_copyFrom_14 : decode cX1_copyFrom 14 = .ok (.getfield 15, 3) := by decide +kernel
theorem dX1_copyFrom_17 : decode cX1_copyFrom 17 = .ok (.iconst 0, 1) := by decide +kernel
theorem dX1_copyFrom_18 : decode cX1_copyFrom 18 = .ok (.bipush 8, 2) := by decide +kernel
theorem dX1_copyFrom_20 : decode cX1_copyFrom 20 = .ok (.invokestatic 25, 3) := by decide +kernel
theorem dX1_copyFrom_23 : decode cX1_copyFrom 23 = .ok (.aload_n 1, 1) := by decide +kernel
theorem dX1_copyFrom_24 : decode cX1_copyFrom 24 = .ok (.getfield 19, 3) := by decide +kernel
theorem dX1_copyFrom_27 : decode cX1_copyFrom 27 = .ok (.iconst 0, 1) := by decide +kernel
theorem dX1_copyFrom_28 : decode cX1_copyFrom 28 = .ok (.aload_n 0, 1) := by decide +kernel
theorem dX1_copyFrom_29 : decode cX1_copyFrom 29 = .ok (.getfield 19, 3) := by decide +kernel
theorem dX1_copyFrom_32 : decode cX1_copyFrom 32 = .ok (.iconst 0, 1) := by decide +kernel
theorem dX1_copyFrom_33 : decode cX1_copyFrom 33 = .ok (.bipush 8, 2) := by decide +kernel
theorem dX1_copyFrom_35 : decode cX1_copyFrom 35 = .ok (.invokestatic 25, 3) := by decide +kernel
theorem dX1_copyFrom_38 : decode cX1_copyFrom 38 = .ok (.aload_n 1, 1) := by decide +kernel
theorem dX1_copyFrom_39 : decode cX1_copyFrom 39 = .ok (.getfield 22, 3) := by decide +kernel
theorem dX1_copyFrom_42 : decode cX1_copyFrom 42 = .ok (.iconst 0, 1) := by decide +kernel
theorem dX1_copyFrom_43 : decode cX1_copyFrom 43 = .ok (.aload_n 0, 1) := by decide +kernel
theorem dX1_copyFrom_44 : decode cX1_copyFrom 44 = .ok (.getfield 22, 3) := by decide +kernel
theorem dX1_copyFrom_47 : decode cX1_copyFrom 47 = .ok (.iconst 0, 1) := by decide +kernel
theorem dX1_copyFrom_48 : decode cX1_copyFrom 48 = .ok (.bipush 8, 2) := by decide +kernel
theorem dX1_copyFrom_50 : decode cX1_copyFrom 50 = .ok (.invokestatic 25, 3) := by decide +kernel
theorem dX1_copyFrom_53 : decode cX1_copyFrom 53 = .ok (.return_, 1) := by decide +kernel
theorem dX1_isThere_0 : decode cX1_isThere 0 = .ok (.iload_n 1, 1) := by decide +kernel
theorem dX1_isThere_1 : decode cX1_isThere 1 = .ok (.ifCond .lt 21, 3) := by decide +kernel
theorem dX1_isThere_4 : decode cX1_isThere 4 = .ok (.iload_n 1, 1) := by decide +kernel
theorem dX1_isThere_5 : decode cX1_isThere 5 = .ok (.aload_n 0, 1) := by decide +kernel
theorem dX1_isThere_6 : decode cX1_isThere 6 = .ok (.getfield 9, 3) := by decide +kernel
theorem dX1_isThere_9 : decode cX1_isThere 9 = .ok (.if_icmp .ge 13, 3) := by decide +kernel
theorem dX1_isThere_12 : decode cX1_isThere 12 = .ok (.iload_n 1, 1) := by decide +kernel
theorem dX1_isThere_13 : decode cX1_isThere 13 = .ok (.bipush 8, 2) := by decide +kernel
theorem dX1_isThere_15 : decode cX1_isThere 15 = .ok (.if_icmp .ge 7, 3) := by decide +kernel
theorem dX1_isThere_18 : decode cX1_isThere 18 = .ok (.iconst 1, 1) := by decide +kernel
theorem dX1_isThere_19 : decode cX1_isThere 19 = .ok (.goto 4, 3) := by decide +kernel
theorem dX1_isThere_22 : decode cX1_isThere 22 = .ok (.iconst 0, 1) := by decide +kernel
theorem dX1_isThere_23 : decode cX1_isThere 23 = .ok (.ireturn, 1) := by decide +kernel
theorem dX1_add_0 : decode cX1_add 0 = .ok (.aload_n 0, 1) := by decide +kernel
theorem dX1_add_1 : decode cX1_add 1 = .ok (.getfield 9, 3) := by decide +kernel
theorem dX1_add_4 : decode cX1_add 4 = .ok (.bipush 8, 2) := by decide +kernel
theorem dX1_add_6 : decode cX1_add 6 = .ok (.if_icmp .ge 43, 3) := by decide +kernel
theorem dX1_add_9 : decode cX1_add 9 = .ok (.aload_n 0, 1) := by decide +kernel
theorem dX1_add_10 : decode cX1_add 10 = .ok (.getfield 15, 3) := by decide +kernel
theorem dX1_add_13 : decode cX1_add 13 = .ok (.aload_n 0, 1) := by decide +kernel
theorem dX1_add_14 : decode cX1_add 14 = .ok (.getfield 9, 3) := by decide +kernel
theorem dX1_add_17 : decode cX1_add 17 = .ok (.iload_n 1, 1) := by decide +kernel
theorem dX1_add_18 : decode cX1_add 18 = .ok (.iastore, 1) := by decide +kernel
theorem dX1_add_19 : decode cX1_add 19 = .ok (.aload_n 0, 1) := by decide +kernel
theorem dX1_add_20 : decode cX1_add 20 = .ok (.getfield 19, 3) := by decide +kernel
theorem dX1_add_23 : decode cX1_add 23 = .ok (.aload_n 0, 1) := by decide +kernel
theorem dX1_add_24 : decode cX1_add 24 = .ok (.getfield 9, 3) := by decide +kernel
theorem dX1_add_27 : decode cX1_add 27 = .ok (.iload_n 2, 1) := by decide +kernel
theorem dX1_add_28 : decode cX1_add 28 = .ok (.iastore, 1) := by decide +kernel
theorem dX1_add_29 : decode cX1_add 29 = .ok (.aload_n 0, 1) := by decide +kernel
theorem dX1_add_30 : decode cX1_add 30 = .ok (.getfield 22, 3) := by decide +kernel
theorem dX1_add_33 : decode cX1_add 33 = .ok (.aload_n 0, 1) := by decide +kernel
theorem dX1_add_34 : decode cX1_add 34 = .ok (.getfield 9, 3) := by decide +kernel
theorem dX1_add_37 : decode cX1_add 37 = .ok (.iload_n 3, 1) := by decide +kernel
theorem dX1_add_38 : decode cX1_add 38 = .ok (.iastore, 1) := by decide +kernel
theorem dX1_add_39 : decode cX1_add 39 = .ok (.aload_n 0, 1) := by decide +kernel
theorem dX1_add_40 : decode cX1_add 40 = .ok (.dup, 1) := by decide +kernel
theorem dX1_add_41 : decode cX1_add 41 = .ok (.getfield 9, 3) := by decide +kernel
theorem dX1_add_44 : decode cX1_add 44 = .ok (.iconst 1, 1) := by decide +kernel
theorem dX1_add_45 : decode cX1_add 45 = .ok (.iadd, 1) := by decide +kernel
theorem dX1_add_46 : decode cX1_add 46 = .ok (.putfield 9, 3) := by decide +kernel
theorem dX1_add_49 : decode cX1_add 49 = .ok (.return_, 1) := by decide +kernel
set_option maxRecDepth 20000 in
theorem ggX1_remove_X1_isThere : GoodIn wsX1_remove wsX1_isThere := goodIn_r _ [6, 1, 14, 15, 16, 17] (by decide +kernel) (by decide +kernel)
set_option maxRecDepth 20000 in
theorem gX1_remove_X1_isThere : GoodIn wsX1_remove (wsV RX1 31 RX1 yX1_isThere wsX1_isThere) := goodIn_app (goodIn_of _ (by decide +kernel)) ggX1_remove_X1_isThere
set_option maxRecDepth 20000 in
theorem ggX1_remove_X1_move : GoodIn wsX1_remove wsX1_move := goodIn_r _ [10, 11, 12, 13, 2, 3, 4, 5, 6, 1, 14, 15, 16, 17] (by decide +kernel) (by decide +kernel)
set_option maxRecDepth 20000 in
theorem gX1_remove_X1_move : GoodIn wsX1_remove (wsV RX1 35 RX1 yX1_move wsX1_move) := goodIn_app (goodIn_of _ (by decide +kernel)) ggX1_remove_X1_move
theorem dX1_remove_0 : decode cX1_remove 0 = .ok (.aload_n 0, 1) := by decide +kernel
theorem dX1_remove_1 : decode cX1_remove 1 = .ok (.iload_n 1, 1) := by decide +kernel
theorem dX1_remove_2 : decode cX1_remove 2 = .ok (.invokevirtual 31, 3) := by decide +kernel
theorem dX1_remove_5 : decode cX1_remove 5 = .ok (.ifCond .eq 39, 3) := by decide +kernel
theorem dX1_remove_8 : decode cX1_remove 8 = .ok (.iload_n 1, 1) := by decide +kernel
theorem dX1_remove_9 : decode cX1_remove 9 = .ok (.iconst 1, 1) := by decide +kernel
theorem dX1_remove_10 : decode cX1_remove 10 = .ok (.iadd, 1) := by decide +kernel
theorem dX1_remove_11 : decode cX1_remove 11 = .ok (.istore_n 2, 1) := by decide +kernel
theorem dX1_remove_12 : decode cX1_remove 12 = .ok (.iload_n 2, 1) := by decide +kernel
theorem dX1_remove_13 : decode cX1_remove 13 = .ok (.aload_n 0, 1) := by decide +kernel
theorem dX1_remove_14 : decode cX1_remove 14 = .ok (.getfield 9, 3) := by decide +kernel
theorem dX1_remove_17 : decode cX1_remove 17 = .ok (.if_icmp .ge 17, 3) := by decide +kernel
theorem dX1_remove_20 : decode cX1_remove 20 = .ok (.aload_n 0, 1) := by decide +kernel
theorem dX1_remove_21 : decode cX1_remove 21 = .ok (.iload_n 2, 1) := by decide +kernel
theorem dX1_remove_22 : decode cX1_remove 22 = .ok (.iload_n 2, 1) := by decide +kernel
theorem dX1_remove_23 : decode cX1_remove 23 = .ok (.iconst 1, 1) := by decide +kernel
theorem dX1_remove_24 : decode cX1_remove 24 = .ok (.isub, 1) := by decide +kernel
theorem dX1_remove_25 : decode cX1_remove 25 = .ok (.invokevirtual 35, 3) := by decide +kernel
theorem dX1_remove_28 : decode cX1_remove 28 = .ok (.iinc 2 1, 3) := by decide +kernel
theorem dX1_remove_31 : decode cX1_remove 31 = .ok (.goto (-19), 3) := by decide +kernel
theorem dX1_remove_34 : decode cX1_remove 34 = .ok (.aload_n 0, 1) := by decide +kernel
theorem dX1_remove_35 : decode cX1_remove 35 = .ok (.dup, 1) := by decide +kernel
theorem dX1_remove_36 : decode cX1_remove 36 = .ok (.getfield 9, 3) := by decide +kernel
theorem dX1_remove_39 : decode cX1_remove 39 = .ok (.iconst 1, 1) := by decide +kernel
theorem dX1_remove_40 : decode cX1_remove 40 = .ok (.isub, 1) := by decide +kernel
theorem dX1_remove_41 : decode cX1_remove 41 = .ok (.putfield 9, 3) := by decide +kernel
theorem dX1_remove_44 : decode cX1_remove 44 = .ok (.return_, 1) := by decide +kernel
set_option maxRecDepth 20000 in
theorem ggX1_move_X1_isThere : GoodIn wsX1_move wsX1_isThere := goodIn_r _ [8, 9, 10, 11, 12, 13] (by decide +kernel) (by decide +kernel)
set_option maxRecDepth 20000 in
theorem gX1_move_X1_isThere : GoodIn wsX1_move (wsV RX1 31 RX1 yX1_isThere wsX1_isThere) := goodIn_app (goodIn_of _ (by decide +kernel)) ggX1_move_X1_isThere
theorem dX1_move_0 : decode cX1_move 0 = .ok (.aload_n 0, 1) := by decide +kernel
theorem dX1_move_1 : decode cX1_move 1 = .ok (.iload_n 1, 1) := by decide +kernel
theorem dX1_move_2 : decode cX1_move 2 = .ok (.invokevirtual 31, 3) := by decide +kernel
theorem dX1_move_5 : decode cX1_move 5 = .ok (.ifCond .eq 47, 3) := by decide +kernel
theorem dX1_move_8 : decode cX1_move 8 = .ok (.aload_n 0, 1) := by decide +kernel
theorem dX1_move_9 : decode cX1_move 9 = .ok (.iload_n 2, 1) := by decide +kernel
theorem dX1_move_10 : decode cX1_move 10 = .ok (.invokevirtual 31, 3) := by decide +kernel
theorem dX1_move_13 : decode cX1_move 13 = .ok (.ifCond .eq 39, 3) := by decide +kernel
theorem dX1_move_16 : decode cX1_move 16 = .ok (.aload_n 0, 1) := by decide +kernel
theorem dX1_move_17 : decode cX1_move 17 = .ok (.getfield 15, 3) := by decide +kernel
theorem dX1_move_20 : decode cX1_move 20 = .ok (.iload_n 2, 1) := by decide +kernel
theorem dX1_move_21 : decode cX1_move 21 = .ok (.aload_n 0, 1) := by decide +kernel
theorem dX1_move_22 : decode cX1_move 22 = .ok (.getfield 15, 3) := by decide +kernel
theorem dX1_move_25 : decode cX1_move 25 = .ok (.iload_n 1, 1) := by decide +kernel
theorem dX1_move_26 : decode cX1_move 26 = .ok (.iaload, 1) := by decide +kernel
theorem dX1_move_27 : decode cX1_move 27 = .ok (.iastore, 1) := by decide +kernel
theorem dX1_move_28 : decode cX1_move 28 = .ok (.aload_n 0, 1) := by decide +kernel
theorem dX1_move_29 : decode cX1_move 29 = .ok (.getfield 19, 3) := by decide +kernel
theorem dX1_move_32 : decode cX1_move 32 = .ok (.iload_n 2, 1) := by decide +kernel
theorem dX1_move_33 : decode cX1_move 33 = .ok (.aload_n 0, 1) := by decide +kernel
theorem dX1_move_34 : decode cX1_move 34 = .ok (.getfield 19, 3) := by decide +kernel
theorem dX1_move_37 : decode cX1_move 37 = .ok (.iload_n 1, 1) := by decide +kernel
theorem dX1_move_38 : decode cX1_move 38 = .ok (.iaload, 1) := by decide +kernel
theorem dX1_move_39 : decode cX1_move 39 = .ok (.iastore, 1) := by decide +kernel
theorem dX1_move_40 : decode cX1_move 40 = .ok (.aload_n 0, 1) := by decide +kernel
theorem dX1_move_41 : decode cX1_move 41 = .ok (.getfield 22, 3) := by decide +kernel
theorem dX1_move_44 : decode cX1_move 44 = .ok (.iload_n 2, 1) := by decide +kernel
theorem dX1_move_45 : decode cX1_move 45 = .ok (.aload_n 0, 1) := by decide +kernel
theorem dX1_move_46 : decode cX1_move 46 = .ok (.getfield 22, 3) := by decide +kernel
theorem dX1_move_49 : decode cX1_move 49 = .ok (.iload_n 1, 1) := by decide +kernel
theorem dX1_move_50 : decode cX1_move 50 = .ok (.iaload, 1) := by decide +kernel
theorem dX1_move_51 : decode cX1_move 51 = .ok (.iastore, 1) := by decide +kernel
theorem dX1_move_52 : decode cX1_move 52 = .ok (.return_, 1) := by decide +kernel
theorem dX1_countOf_0 : decode cX1_countOf 0 = .ok (.iconst 0, 1) := by decide +kernel
theorem dX1_countOf_1 : decode cX1_countOf 1 = .ok (.istore_n 2, 1) := by decide +kernel
theorem dX1_countOf_2 : decode cX1_countOf 2 = .ok (.iconst 0, 1) := by decide +kernel
theorem dX1_countOf_3 : decode cX1_countOf 3 = .ok (.istore_n 3, 1) := by decide +kernel
theorem dX1_countOf_4 : decode cX1_countOf 4 = .ok (.iload_n 3, 1) := by decide +kernel
theorem dX1_countOf_5 : decode cX1_countOf 5 = .ok (.aload_n 0, 1) := by decide +kernel
theorem dX1_countOf_6 : decode cX1_countOf 6 = .ok (.getfield 9, 3) := by decide +kernel
theorem dX1_countOf_9 : decode cX1_countOf 9 = .ok (.if_icmp .ge 22, 3) := by decide +kernel
theorem dX1_countOf_12 : decode cX1_countOf 12 = .ok (.aload_n 0, 1) := by decide +kernel
theorem dX1_countOf_13 : decode cX1_countOf 13 = .ok (.getfield 15, 3) := by decide +kernel
theorem dX1_countOf_16 : decode cX1_countOf 16 = .ok (.iload_n 3, 1) := by decide +kernel
theorem dX1_countOf_17 : decode cX1_countOf 17 = .ok (.iaload, 1) := by decide +kernel
theorem dX1_countOf_18 : decode cX1_countOf 18 = .ok (.iload_n 1, 1) := by decide +kernel
theorem dX1_countOf_19 : decode cX1_countOf 19 = .ok (.if_icmp .ne 6, 3) := by decide +kernel
theorem dX1_countOf_22 : decode cX1_countOf 22 = .ok (.iinc 2 1, 3) := by decide +kernel
theorem dX1_countOf_25 : decode cX1_countOf 25 = .ok (.iinc 3 1, 3) := by decide +kernel
theorem dX1_countOf_28 : decode cX1_countOf 28 = .ok (.goto (-24), 3) := by decide +kernel
theorem dX1_countOf_31 : decode cX1_countOf 31 = .ok (.iload_n 2, 1) := by decide +kernel
theorem dX1_countOf_32 : decode cX1_countOf 32 = .ok (.ireturn, 1) := by decide +kernel
theorem dX1_owedBy_0 : decode cX1_owedBy 0 = .ok (.iconst 0, 1) := by decide +kernel
theorem dX1_owedBy_1 : decode cX1_owedBy 1 = .ok (.istore_n 2, 1) := by decide +kernel
theorem dX1_owedBy_2 : decode cX1_owedBy 2 = .ok (.iconst 0, 1) := by decide +kernel
theorem dX1_owedBy_3 : decode cX1_owedBy 3 = .ok (.istore_n 3, 1) := by decide +kernel
theorem dX1_owedBy_4 : decode cX1_owedBy 4 = .ok (.iload_n 3, 1) := by decide +kernel
theorem dX1_owedBy_5 : decode cX1_owedBy 5 = .ok (.aload_n 0, 1) := by decide +kernel
theorem dX1_owedBy_6 : decode cX1_owedBy 6 = .ok (.getfield 9, 3) := by decide +kernel
theorem dX1_owedBy_9 : decode cX1_owedBy 9 = .ok (.if_icmp .ge 28, 3) := by decide +kernel
theorem dX1_owedBy_12 : decode cX1_owedBy 12 = .ok (.aload_n 0, 1) := by decide +kernel
theorem dX1_owedBy_13 : decode cX1_owedBy 13 = .ok (.getfield 15, 3) := by decide +kernel
theorem dX1_owedBy_16 : decode cX1_owedBy 16 = .ok (.iload_n 3, 1) := by decide +kernel
theorem dX1_owedBy_17 : decode cX1_owedBy 17 = .ok (.iaload, 1) := by decide +kernel
theorem dX1_owedBy_18 : decode cX1_owedBy 18 = .ok (.iload_n 1, 1) := by decide +kernel
theorem dX1_owedBy_19 : decode cX1_owedBy 19 = .ok (.if_icmp .ne 12, 3) := by decide +kernel
theorem dX1_owedBy_22 : decode cX1_owedBy 22 = .ok (.iload_n 2, 1) := by decide +kernel
theorem dX1_owedBy_23 : decode cX1_owedBy 23 = .ok (.aload_n 0, 1) := by decide +kernel
theorem dX1_owedBy_24 : decode cX1_owedBy 24 = .ok (.getfield 19, 3) := by decide +kernel
theorem dX1_owedBy_27 : decode cX1_owedBy 27 = .ok (.iload_n 3, 1) := by decide +kernel
theorem dX1_owedBy_28 : decode cX1_owedBy 28 = .ok (.iaload, 1) := by decide +kernel
theorem dX1_owedBy_29 : decode cX1_owedBy 29 = .ok (.iadd, 1) := by decide +kernel
theorem dX1_owedBy_30 : decode cX1_owedBy 30 = .ok (.istore_n 2, 1) := by decide +kernel
theorem dX1_owedBy_31 : decode cX1_owedBy 31 = .ok (.iinc 3 1, 3) := by decide +kernel
theorem dX1_owedBy_34 : decode cX1_owedBy 34 = .ok (.goto (-30), 3) := by decide +kernel
theorem dX1_owedBy_37 : decode cX1_owedBy 37 = .ok (.iload_n 2, 1) := by decide +kernel
theorem dX1_owedBy_38 : decode cX1_owedBy 38 = .ok (.ireturn, 1) := by decide +kernel
theorem dX1_owedIn_0 : decode cX1_owedIn 0 = .ok (.iconst 0, 1) := by decide +kernel
theorem dX1_owedIn_1 : decode cX1_owedIn 1 = .ok (.istore_n 3, 1) := by decide +kernel
theorem dX1_owedIn_2 : decode cX1_owedIn 2 = .ok (.iconst 0, 1) := by decide +kernel
theorem dX1_owedIn_3 : decode cX1_owedIn 3 = .ok (.istore 4, 2) := by decide +kernel
theorem dX1_owedIn_5 : decode cX1_owedIn 5 = .ok (.iload 4, 2) := by decide +kernel
theorem dX1_owedIn_7 : decode cX1_owedIn 7 = .ok (.aload_n 0, 1) := by decide +kernel
theorem dX1_owedIn_8 : decode cX1_owedIn 8 = .ok (.getfield 9, 3) := by decide +kernel
theorem dX1_owedIn_11 : decode cX1_owedIn 11 = .ok (.if_icmp .ge 41, 3) := by decide +kernel
theorem dX1_owedIn_14 : decode cX1_owedIn 14 = .ok (.aload_n 0, 1) := by decide +kernel
theorem dX1_owedIn_15 : decode cX1_owedIn 15 = .ok (.getfield 15, 3) := by decide +kernel
theorem dX1_owedIn_18 : decode cX1_owedIn 18 = .ok (.iload 4, 2) := by decide +kernel
theorem dX1_owedIn_20 : decode cX1_owedIn 20 = .ok (.iaload, 1) := by decide +kernel
theorem dX1_owedIn_21 : decode cX1_owedIn 21 = .ok (.iload_n 1, 1) := by decide +kernel
theorem dX1_owedIn_22 : decode cX1_owedIn 22 = .ok (.if_icmp .ne 24, 3) := by decide +kernel
theorem dX1_owedIn_25 : decode cX1_owedIn 25 = .ok (.aload_n 0, 1) := by decide +kernel
theorem dX1_owedIn_26 : decode cX1_owedIn 26 = .ok (.getfield 22, 3) := by decide +kernel
theorem dX1_owedIn_29 : decode cX1_owedIn 29 = .ok (.iload 4, 2) := by decide +kernel
theorem dX1_owedIn_31 : decode cX1_owedIn 31 = .ok (.iaload, 1) := by decide +kernel
theorem dX1_owedIn_32 : decode cX1_owedIn 32 = .ok (.iload_n 2, 1) := by decide +kernel
theorem dX1_owedIn_33 : decode cX1_owedIn 33 = .ok (.if_icmp .ne 13, 3) := by decide +kernel
theorem dX1_owedIn_36 : decode cX1_owedIn 36 = .ok (.iload_n 3, 1) := by decide +kernel
theorem dX1_owedIn_37 : decode cX1_owedIn 37 = .ok (.aload_n 0, 1) := by decide +kernel
theorem dX1_owedIn_38 : decode cX1_owedIn 38 = .ok (.getfield 19, 3) := by decide +kernel
theorem dX1_owedIn_41 : decode cX1_owedIn 41 = .ok (.iload 4, 2) := by decide +kernel
theorem dX1_owedIn_43 : decode cX1_owedIn 43 = .ok (.iaload, 1) := by decide +kernel
theorem dX1_owedIn_44 : decode cX1_owedIn 44 = .ok (.iadd, 1) := by decide +kernel
theorem dX1_owedIn_45 : decode cX1_owedIn 45 = .ok (.istore_n 3, 1) := by decide +kernel
theorem dX1_owedIn_46 : decode cX1_owedIn 46 = .ok (.iinc 4 1, 3) := by decide +kernel
theorem dX1_owedIn_49 : decode cX1_owedIn 49 = .ok (.goto (-44), 3) := by decide +kernel
theorem dX1_owedIn_52 : decode cX1_owedIn 52 = .ok (.iload_n 3, 1) := by decide +kernel
theorem dX1_owedIn_53 : decode cX1_owedIn 53 = .ok (.ireturn, 1) := by decide +kernel
set_option maxRecDepth 20000 in
theorem ggX1_placeOf_X1_comesAhead : GoodIn wsX1_placeOf wsX1_comesAhead := goodIn_r _ [6, 7, 8, 9, 10, 11, 5, 12, 1, 13, 14, 15, 16] (by decide +kernel) (by decide +kernel)
set_option maxRecDepth 20000 in
theorem gX1_placeOf_X1_comesAhead : GoodIn wsX1_placeOf (wsV RX1 39 RX1 yX1_comesAhead wsX1_comesAhead) := goodIn_app (goodIn_of _ (by decide +kernel)) ggX1_placeOf_X1_comesAhead
theorem dX1_placeOf_0 : decode cX1_placeOf 0 = .ok (.iconst 0, 1) := by decide +kernel
theorem dX1_placeOf_1 : decode cX1_placeOf 1 = .ok (.istore_n 2, 1) := by decide +kernel
theorem dX1_placeOf_2 : decode cX1_placeOf 2 = .ok (.iconst 0, 1) := by decide +kernel
theorem dX1_placeOf_3 : decode cX1_placeOf 3 = .ok (.istore_n 3, 1) := by decide +kernel
theorem dX1_placeOf_4 : decode cX1_placeOf 4 = .ok (.iload_n 3, 1) := by decide +kernel
theorem dX1_placeOf_5 : decode cX1_placeOf 5 = .ok (.aload_n 0, 1) := by decide +kernel
theorem dX1_placeOf_6 : decode cX1_placeOf 6 = .ok (.getfield 9, 3) := by decide +kernel
theorem dX1_placeOf_9 : decode cX1_placeOf 9 = .ok (.if_icmp .ge 21, 3) := by decide +kernel
theorem dX1_placeOf_12 : decode cX1_placeOf 12 = .ok (.aload_n 0, 1) := by decide +kernel
theorem dX1_placeOf_13 : decode cX1_placeOf 13 = .ok (.iload_n 3, 1) := by decide +kernel
theorem dX1_placeOf_14 : decode cX1_placeOf 14 = .ok (.iload_n 1, 1) := by decide +kernel
theorem dX1_placeOf_15 : decode cX1_placeOf 15 = .ok (.invokevirtual 39, 3) := by decide +kernel
theorem dX1_placeOf_18 : decode cX1_placeOf 18 = .ok (.ifCond .eq 6, 3) := by decide +kernel
theorem dX1_placeOf_21 : decode cX1_placeOf 21 = .ok (.iinc 2 1, 3) := by decide +kernel
theorem dX1_placeOf_24 : decode cX1_placeOf 24 = .ok (.iinc 3 1, 3) := by decide +kernel
theorem dX1_placeOf_27 : decode cX1_placeOf 27 = .ok (.goto (-23), 3) := by decide +kernel
theorem dX1_placeOf_30 : decode cX1_placeOf 30 = .ok (.iload_n 2, 1) := by decide +kernel
theorem dX1_placeOf_31 : decode cX1_placeOf 31 = .ok (.ireturn, 1) := by decide +kernel
set_option maxRecDepth 20000 in
theorem ggX1_comesAhead_X1_isThere : GoodIn wsX1_comesAhead wsX1_isThere := goodIn_r _ [7, 8, 9, 10, 11, 12] (by decide +kernel) (by decide +kernel)
set_option maxRecDepth 20000 in
theorem gX1_comesAhead_X1_isThere : GoodIn wsX1_comesAhead (wsV RX1 31 RX1 yX1_isThere wsX1_isThere) := goodIn_app (goodIn_of _ (by decide +kernel)) ggX1_comesAhead_X1_isThere
theorem dX1_comesAhead_0 : decode cX1_comesAhead 0 = .ok (.aload_n 0, 1) := by decide +kernel
theorem dX1_comesAhead_1 : decode cX1_comesAhead 1 = .ok (.iload_n 1, 1) := by decide +kernel
theorem dX1_comesAhead_2 : decode cX1_comesAhead 2 = .ok (.invokevirtual 31, 3) := by decide +kernel
theorem dX1_comesAhead_5 : decode cX1_comesAhead 5 = .ok (.ifCond .eq 11, 3) := by decide +kernel
theorem dX1_comesAhead_8 : decode cX1_comesAhead 8 = .ok (.aload_n 0, 1) := by decide +kernel
theorem dX1_comesAhead_9 : decode cX1_comesAhead 9 = .ok (.iload_n 2, 1) := by decide +kernel
theorem dX1_comesAhead_10 : decode cX1_comesAhead 10 = .ok (.invokevirtual 31, 3) := by decide +kernel
theorem dX1_comesAhead_13 : decode cX1_comesAhead 13 = .ok (.ifCond .ne 5, 3) := by decide +kernel
theorem dX1_comesAhead_16 : decode cX1_comesAhead 16 = .ok (.iconst 0, 1) := by decide +kernel
theorem dX1_comesAhead_17 : decode cX1_comesAhead 17 = .ok (.ireturn, 1) := by decide +kernel
theorem dX1_comesAhead_18 : decode cX1_comesAhead 18 = .ok (.aload_n 0, 1) := by decide +kernel
theorem dX1_comesAhead_19 : decode cX1_comesAhead 19 = .ok (.getfield 22, 3) := by decide +kernel
theorem dX1_comesAhead_22 : decode cX1_comesAhead 22 = .ok (.iload_n 1, 1) := by decide +kernel
theorem dX1_comesAhead_23 : decode cX1_comesAhead 23 = .ok (.iaload, 1) := by decide +kernel
theorem dX1_comesAhead_24 : decode cX1_comesAhead 24 = .ok (.aload_n 0, 1) := by decide +kernel
theorem dX1_comesAhead_25 : decode cX1_comesAhead 25 = .ok (.getfield 22, 3) := by decide +kernel
theorem dX1_comesAhead_28 : decode cX1_comesAhead 28 = .ok (.iload_n 2, 1) := by decide +kernel
theorem dX1_comesAhead_29 : decode cX1_comesAhead 29 = .ok (.iaload, 1) := by decide +kernel
theorem dX1_comesAhead_30 : decode cX1_comesAhead 30 = .ok (.if_icmp .eq 24, 3) := by decide +kernel
theorem dX1_comesAhead_33 : decode cX1_comesAhead 33 = .ok (.aload_n 0, 1) := by decide +kernel
theorem dX1_comesAhead_34 : decode cX1_comesAhead 34 = .ok (.getfield 22, 3) := by decide +kernel
theorem dX1_comesAhead_37 : decode cX1_comesAhead 37 = .ok (.iload_n 1, 1) := by decide +kernel
theorem dX1_comesAhead_38 : decode cX1_comesAhead 38 = .ok (.iaload, 1) := by decide +kernel
theorem dX1_comesAhead_39 : decode cX1_comesAhead 39 = .ok (.aload_n 0, 1) := by decide +kernel
theorem dX1_comesAhead_40 : decode cX1_comesAhead 40 = .ok (.getfield 22, 3) := by decide +kernel
theorem dX1_comesAhead_43 : decode cX1_comesAhead 43 = .ok (.iload_n 2, 1) := by decide +kernel
theorem dX1_comesAhead_44 : decode cX1_comesAhead 44 = .ok (.iaload, 1) := by decide +kernel
theorem dX1_comesAhead_45 : decode cX1_comesAhead 45 = .ok (.if_icmp .ge 7, 3) := by decide +kernel
theorem dX1_comesAhead_48 : decode cX1_comesAhead 48 = .ok (.iconst 1, 1) := by decide +kernel
theorem dX1_comesAhead_49 : decode cX1_comesAhead 49 = .ok (.goto 4, 3) := by decide +kernel
theorem dX1_comesAhead_52 : decode cX1_comesAhead 52 = .ok (.iconst 0, 1) := by decide +kernel
theorem dX1_comesAhead_53 : decode cX1_comesAhead 53 = .ok (.ireturn, 1) := by decide +kernel
theorem dX1_comesAhead_54 : decode cX1_comesAhead 54 = .ok (.aload_n 0, 1) := by decide +kernel
theorem dX1_comesAhead_55 : decode cX1_comesAhead 55 = .ok (.getfield 19, 3) := by decide +kernel
theorem dX1_comesAhead_58 : decode cX1_comesAhead 58 = .ok (.iload_n 1, 1) := by decide +kernel
theorem dX1_comesAhead_59 : decode cX1_comesAhead 59 = .ok (.iaload, 1) := by decide +kernel
theorem dX1_comesAhead_60 : decode cX1_comesAhead 60 = .ok (.aload_n 0, 1) := by decide +kernel
theorem dX1_comesAhead_61 : decode cX1_comesAhead 61 = .ok (.getfield 19, 3) := by decide +kernel
theorem dX1_comesAhead_64 : decode cX1_comesAhead 64 = .ok (.iload_n 2, 1) := by decide +kernel
theorem dX1_comesAhead_65 : decode cX1_comesAhead 65 = .ok (.iaload, 1) := by decide +kernel
theorem dX1_comesAhead_66 : decode cX1_comesAhead 66 = .ok (.if_icmp .eq 26, 3) := by decide +kernel
theorem dX1_comesAhead_69 : decode cX1_comesAhead 69 = .ok (.aload_n 0, 1) := by decide +kernel
theorem dX1_comesAhead_70 : decode cX1_comesAhead 70 = .ok (.getfield 19, 3) := by decide +kernel
theorem dX1_comesAhead_73 : decode cX1_comesAhead 73 = .ok (.iload_n 1, 1) := by decide +kernel
theorem dX1_comesAhead_74 : decode cX1_comesAhead 74 = .ok (.iaload, 1) := by decide +kernel
theorem dX1_comesAhead_75 : decode cX1_comesAhead 75 = .ok (.aload_n 0, 1) := by decide +kernel
theorem dX1_comesAhead_76 : decode cX1_comesAhead 76 = .ok (.getfield 19, 3) := by decide +kernel
theorem dX1_comesAhead_79 : decode cX1_comesAhead 79 = .ok (.iload_n 2, 1) := by decide +kernel
theorem dX1_comesAhead_80 : decode cX1_comesAhead 80 = .ok (.iaload, 1) := by decide +kernel
theorem dX1_comesAhead_81 : decode cX1_comesAhead 81 = .ok (.if_icmp .le 7, 3) := by decide +kernel
theorem dX1_comesAhead_84 : decode cX1_comesAhead 84 = .ok (.iconst 1, 1) := by decide +kernel
theorem dX1_comesAhead_85 : decode cX1_comesAhead 85 = .ok (.goto 17, 3) := by decide +kernel
theorem dX1_comesAhead_88 : decode cX1_comesAhead 88 = .ok (.iconst 0, 1) := by decide +kernel
theorem dX1_comesAhead_89 : decode cX1_comesAhead 89 = .ok (.goto 13, 3) := by decide +kernel
theorem dX1_comesAhead_92 : decode cX1_comesAhead 92 = .ok (.iload_n 1, 1) := by decide +kernel
theorem dX1_comesAhead_93 : decode cX1_comesAhead 93 = .ok (.iload_n 2, 1) := by decide +kernel
theorem dX1_comesAhead_94 : decode cX1_comesAhead 94 = .ok (.if_icmp .ge 7, 3) := by decide +kernel
theorem dX1_comesAhead_97 : decode cX1_comesAhead 97 = .ok (.iconst 1, 1) := by decide +kernel
theorem dX1_comesAhead_98 : decode cX1_comesAhead 98 = .ok (.goto 4, 3) := by decide +kernel
theorem dX1_comesAhead_101 : decode cX1_comesAhead 101 = .ok (.iconst 0, 1) := by decide +kernel
theorem dX1_comesAhead_102 : decode cX1_comesAhead 102 = .ok (.ireturn, 1) := by decide +kernel
set_option maxRecDepth 20000 in
theorem ggX2_init_X3_init : GoodIn wsX2_init wsX3_init := goodIn_r _ [12, 13, 2, 3, 14, 15, 16, 17, 18, 19, 20, 21, 22, 23, 24, 25, 26, 27, 28, 29, 30, 31, 32, 33, 34, 35, 36, 37, 38, 39, 40, 41, 42, 43, 44, 45, 46, 47, 48, 49, 50, 51, 52, 53, 54, 58, 59, 60, 61, 62, 63, 64, 65, 66, 67, 68, 69, 70, 71, 72, 73, 74, 75, 76, 77, 78, 79] (by decide +kernel) (by decide +kernel)
set_option maxRecDepth 20000 in
theorem gX2_init_X3_init : GoodIn wsX2_init (wsX3_init) := ggX2_init_X3_init
theorem dX2_init_0 : decode cX2_init 0 = .ok (.aload_n 0, 1) := by decide +kernel
theorem dX2_init_1 : decode cX2_init 1 = .ok (.invokespecial 3, 3) := by decide +kernel
theorem dX2_init_4 : decode cX2_init 4 = .ok (.aload_n 0, 1) := by decide +kernel
theorem dX2_init_5 : decode cX2_init 5 = .ok (.iconst 0, 1) := by decide +kernel
theorem dX2_init_6 : decode cX2_init 6 = .ok (.putfield 9, 3) := by decide +kernel
theorem dX2_init_9 : decode cX2_init 9 = .ok (.aload_n 0, 1) := by decide +kernel
theorem dX2_init_10 : decode cX2_init 10 = .ok (.iconst 0, 1) := by decide +kernel
theorem dX2_init_11 : decode cX2_init 11 = .ok (.putfield 15, 3) := by decide +kernel
theorem dX2_init_14 : decode cX2_init 14 = .ok (.aload_n 0, 1) := by decide +kernel
theorem dX2_init_15 : decode cX2_init 15 = .ok (.bipush 8, 2) := by decide +kernel
theorem dX2_init_17 : decode cX2_init 17 = .ok (.anewarray 18, 3) := by decide +kernel
theorem dX2_init_20 : decode cX2_init 20 = .ok (.putfield 20, 3) := by decide +kernel
theorem dX2_init_23 : decode cX2_init 23 = .ok (.iconst 0, 1) := by decide +kernel
theorem dX2_init_24 : decode cX2_init 24 = .ok (.istore_n 1, 1) := by decide +kernel
theorem dX2_init_25 : decode cX2_init 25 = .ok (.iload_n 1, 1) := by decide +kernel
theorem dX2_init_26 : decode cX2_init 26 = .ok (.bipush 8, 2) := by decide +kernel
theorem dX2_init_28 : decode cX2_init 28 = .ok (.if_icmp .ge 22, 3) := by decide +kernel
theorem dX2_init_31 : decode cX2_init 31 = .ok (.aload_n 0, 1) := by decide +kernel
theorem dX2_init_32 : decode cX2_init 32 = .ok (.getfield 20, 3) := by decide +kernel
theorem dX2_init_35 : decode cX2_init 35 = .ok (.iload_n 1, 1) := by decide +kernel
theorem dX2_init_36 : decode cX2_init 36 = .ok (.new 18, 3) := by decide +kernel
theorem dX2_init_39 : decode cX2_init 39 = .ok (.dup, 1) := by decide +kernel
theorem dX2_init_40 : decode cX2_init 40 = .ok (.invokespecial 24, 3) := by decide +kernel
theorem dX2_init_43 : decode cX2_init 43 = .ok (.aastore, 1) := by decide +kernel
theorem dX2_init_44 : decode cX2_init 44 = .ok (.iinc 1 1, 3) := by decide +kernel
theorem dX2_init_47 : decode cX2_init 47 = .ok (.goto (-22), 3) := by decide +kernel
theorem dX2_init_50 : decode cX2_init 50 = .ok (.return_, 1) := by decide +kernel
set_option maxRecDepth 20000 in
theorem ggX2_keep_X3_copyFrom : GoodIn wsX2_keep wsX3_copyFrom := goodIn_r _ [12, 13, 14, 15, 16, 17, 18, 19, 20, 21, 22, 23, 24, 25, 26, 27, 28, 29, 30, 31, 32, 33, 34, 35, 36, 37, 38, 39, 40, 41, 42, 43, 44, 45, 46, 47, 48, 49, 50, 51, 52, 53, 54, 62, 63, 64, 65, 66, 67, 68, 69, 70, 71, 72, 73, 74, 75, 76, 77, 78, 79, 80, 81, 82, 83] (by decide +kernel) (by decide +kernel)
set_option maxRecDepth 20000 in
theorem gX2_keep_X3_copyFrom : GoodIn wsX2_keep (wsV RX2 25 RX3 yX3_copyFrom wsX3_copyFrom) := goodIn_app (goodIn_of _ (by decide +kernel)) ggX2_keep_X3_copyFrom
set_option maxRecDepth 20000 in
theorem ggX2_keep_J9_floorMod_7cf53 : GoodIn wsX2_keep wsJ9_floorMod_7cf53 := goodIn_r _ [58] (by decide +kernel) (by decide +kernel)
set_option maxRecDepth 20000 in
theorem gX2_keep_J9_floorMod_7cf53 : GoodIn wsX2_keep (va_wsS RX2 29 yJ9_floorMod_7cf53 wsJ9_floorMod_7cf53) := goodIn_app (goodIn_of _ (by decide +kernel)) ggX2_keep_J9_floorMod_7cf53
theorem dX2_keep_0 : decode cX2_keep 0 = .ok (.aload_n 0, 1) := by decide +kernel
theorem dX2_keep_1 : decode cX2_keep 1 = .ok (.getfield 20, 3) := by decide +kernel
theorem dX2_keep_4 : decode cX2_keep 4 = .ok (.aload_n 0, 1) := by decide +kernel
theorem dX2_keep_5 : decode cX2_keep 5 = .ok (.getfield 15, 3) := by decide +kernel
theorem dX2_keep_8 : decode cX2_keep 8 = .ok (.aaload, 1) := by decide +kernel
theorem dX2_keep_9 : decode cX2_keep 9 = .ok (.aload_n 1, 1) := by decide +kernel
theorem dX2_keep_10 : decode cX2_keep 10 = .ok (.invokevirtual 25, 3) := by decide +kernel
theorem dX2_keep_13 : decode cX2_keep 13 = .ok (.aload_n 0, 1) := by decide +kernel
theorem dX2_keep_14 : decode cX2_keep 14 = .ok (.aload_n 0, 1) := by decide +kernel
theorem dX2_keep_15 : decode cX2_keep 15 = .ok (.getfield 15, 3) := by decide +kernel
theorem dX2_keep_18 : decode cX2_keep 18 = .ok (.iconst 1, 1) := by decide +kernel
theorem dX2_keep_19 : decode cX2_keep 19 = .ok (.iadd, 1) := by decide +kernel
theorem dX2_keep_20 : decode cX2_keep 20 = .ok (.bipush 8, 2) := by decide +kernel
theorem dX2_keep_22 : decode cX2_keep 22 = .ok (.invokestatic 29, 3) := by decide +kernel
theorem dX2_keep_25 : decode cX2_keep 25 = .ok (.putfield 15, 3) := by decide +kernel
theorem dX2_keep_28 : decode cX2_keep 28 = .ok (.aload_n 0, 1) := by decide +kernel
theorem dX2_keep_29 : decode cX2_keep 29 = .ok (.aload_n 0, 1) := by decide +kernel
theorem dX2_keep_30 : decode cX2_keep 30 = .ok (.getfield 9, 3) := by decide +kernel
theorem dX2_keep_33 : decode cX2_keep 33 = .ok (.iconst 1, 1) := by decide +kernel
theorem dX2_keep_34 : decode cX2_keep 34 = .ok (.iadd, 1) := by decide +kernel
theorem dX2_keep_35 : decode cX2_keep 35 = .ok (.bipush 8, 2) := by decide +kernel
theorem dX2_keep_37 : decode cX2_keep 37 = .ok (.invokestatic 35, 3) := by decide +kernel
theorem dX2_keep_40 : decode cX2_keep 40 = .ok (.putfield 9, 3) := by decide +kernel
theorem dX2_keep_43 : decode cX2_keep 43 = .ok (.return_, 1) := by decide +kernel
set_option maxRecDepth 20000 in
theorem ggX2_takeBack_J9_floorMod_7cf53 : GoodIn wsX2_takeBack wsJ9_floorMod_7cf53 := goodIn_r _ [7] (by decide +kernel) (by decide +kernel)
set_option maxRecDepth 20000 in
theorem gX2_takeBack_J9_floorMod_7cf53 : GoodIn wsX2_takeBack (va_wsS RX2 29 yJ9_floorMod_7cf53 wsJ9_floorMod_7cf53) := goodIn_app (goodIn_of _ (by decide +kernel)) ggX2_takeBack_J9_floorMod_7cf53
set_option maxRecDepth 20000 in
theorem ggX2_takeBack_X3_copyFrom : GoodIn wsX2_takeBack wsX3_copyFrom := goodIn_r _ [12, 13, 14, 15, 16, 17, 18, 19, 20, 21, 22, 23, 24, 25, 26, 27, 28, 29, 30, 31, 32, 33, 34, 35, 36, 37, 38, 39, 40, 41, 42, 43, 44, 45, 46, 47, 48, 49, 50, 51, 52, 53, 54, 58, 59, 60, 61, 62, 63, 64, 65, 66, 67, 68, 69, 70, 71, 72, 73, 74, 75, 76, 77, 78, 79] (by decide +kernel) (by decide +kernel)
set_option maxRecDepth 20000 in
theorem gX2_takeBack_X3_copyFrom : GoodIn wsX2_takeBack (wsV RX2 25 RX3 yX3_copyFrom wsX3_copyFrom) := goodIn_app (goodIn_of _ (by decide +kernel)) ggX2_takeBack_X3_copyFrom
theorem dX2_takeBack_0 : decode cX2_takeBack 0 = .ok (.aload_n 0, 1) := by decide +kernel
theorem dX2_takeBack_1 : decode cX2_takeBack 1 = .ok (.aload_n 0, 1) := by decide +kernel
theorem dX2_takeBack_2 : decode cX2_takeBack 2 = .ok (.getfield 15, 3) := by decide +kernel
theorem dX2_takeBack_5 : decode cX2_takeBack 5 = .ok (.iconst 1, 1) := by decide +kernel
theorem dX2_takeBack_6 : decode cX2_takeBack 6 = .ok (.isub, 1) := by decide +kernel
theorem dX2_takeBack_7 : decode cX2_takeBack 7 = .ok (.bipush 8, 2) := by decide +kernel
theorem dX2_takeBack_9 : decode cX2_takeBack 9 = .ok (.invokestatic 29, 3) := by decide +kernel
theorem dX2_takeBack_12 : decode cX2_takeBack 12 = .ok (.putfield 15, 3) := by decide +kernel
theorem dX2_takeBack_15 : decode cX2_takeBack 15 = .ok (.aload_n 1, 1) := by decide +kernel
theorem dX2_takeBack_16 : decode cX2_takeBack 16 = .ok (.aload_n 0, 1) := by decide +kernel
theorem dX2_takeBack_17 : decode cX2_takeBack 17 = .ok (.getfield 20, 3) := by decide +kernel
theorem dX2_takeBack_20 : decode cX2_takeBack 20 = .ok (.aload_n 0, 1) := by decide +kernel
theorem dX2_takeBack_21 : decode cX2_takeBack 21 = .ok (.getfield 15, 3) := by decide +kernel
theorem dX2_takeBack_24 : decode cX2_takeBack 24 = .ok (.aaload, 1) := by decide +kernel
theorem dX2_takeBack_25 : decode cX2_takeBack 25 = .ok (.invokevirtual 25, 3) := by decide +kernel
theorem dX2_takeBack_28 : decode cX2_takeBack 28 = .ok (.aload_n 0, 1) := by decide +kernel
theorem dX2_takeBack_29 : decode cX2_takeBack 29 = .ok (.dup, 1) := by decide +kernel
theorem dX2_takeBack_30 : decode cX2_takeBack 30 = .ok (.getfield 9, 3) := by decide +kernel
theorem dX2_takeBack_33 : decode cX2_takeBack 33 = .ok (.iconst 1, 1) := by decide +kernel
theorem dX2_takeBack_34 : decode cX2_takeBack 34 = .ok (.isub, 1) := by decide +kernel
theorem dX2_takeBack_35 : decode cX2_takeBack 35 = .ok (.putfield 9, 3) := by decide +kernel
theorem dX2_takeBack_38 : decode cX2_takeBack 38 = .ok (.return_, 1) := by decide +kernel
set_option maxRecDepth 20000 in
theorem ggX3_init_X6_init : GoodIn wsX3_init wsX6_init := goodIn_r _ [23, 24, 2, 3, 5, 25, 26, 53, 54] (by decide +kernel) (by decide +kernel)
set_option maxRecDepth 20000 in
theorem gX3_init_X6_init_n30 : GoodIn wsX3_init (wsX6_init) := ggX3_init_X6_init
set_option maxRecDepth 20000 in
theorem ggX3_init_X1_init : GoodIn wsX3_init wsX1_init := goodIn_r _ [28, 29, 2, 3, 30, 5, 31, 32, 33, 55, 56, 57, 58] (by decide +kernel) (by decide +kernel)
set_option maxRecDepth 20000 in
theorem gX3_init_X1_init_n37 : GoodIn wsX3_init (wsX1_init) := ggX3_init_X1_init
set_option maxRecDepth 20000 in
theorem ggX3_init_X0_init : GoodIn wsX3_init wsX0_init := goodIn_r _ [35, 36, 2, 3, 37, 38, 39, 40, 41, 42, 43, 44, 59, 60, 61, 62, 63, 64, 65, 66] (by decide +kernel) (by decide +kernel)
set_option maxRecDepth 20000 in
theorem gX3_init_X0_init_n44 : GoodIn wsX3_init (wsX0_init) := ggX3_init_X0_init
theorem dX3_init_0 : decode cX3_init 0 = .ok (.aload_n 0, 1) := by decide +kernel
theorem dX3_init_1 : decode cX3_init 1 = .ok (.invokespecial 3, 3) := by decide +kernel
theorem dX3_init_4 : decode cX3_init 4 = .ok (.aload_n 0, 1) := by decide +kernel
theorem dX3_init_5 : decode cX3_init 5 = .ok (.iconst 0, 1) := by decide +kernel
theorem dX3_init_6 : decode cX3_init 6 = .ok (.putfield 9, 3) := by decide +kernel
theorem dX3_init_9 : decode cX3_init 9 = .ok (.aload_n 0, 1) := by decide +kernel
theorem dX3_init_10 : decode cX3_init 10 = .ok (.iconst 5, 1) := by decide +kernel
theorem dX3_init_11 : decode cX3_init 11 = .ok (.newarray .int, 2) := by decide +kernel
theorem dX3_init_13 : decode cX3_init 13 = .ok (.putfield 15, 3) := by decide +kernel
theorem dX3_init_16 : decode cX3_init 16 = .ok (.aload_n 0, 1) := by decide +kernel
theorem dX3_init_17 : decode cX3_init 17 = .ok (.iconst 5, 1) := by decide +kernel
theorem dX3_init_18 : decode cX3_init 18 = .ok (.newarray .int, 2) := by decide +kernel
theorem dX3_init_20 : decode cX3_init 20 = .ok (.putfield 19, 3) := by decide +kernel
theorem dX3_init_23 : decode cX3_init 23 = .ok (.aload_n 0, 1) := by decide +kernel
theorem dX3_init_24 : decode cX3_init 24 = .ok (.iconst 5, 1) := by decide +kernel
theorem dX3_init_25 : decode cX3_init 25 = .ok (.newarray .int, 2) := by decide +kernel
theorem dX3_init_27 : decode cX3_init 27 = .ok (.putfield 22, 3) := by decide +kernel
theorem dX3_init_30 : decode cX3_init 30 = .ok (.aload_n 0, 1) := by decide +kernel
theorem dX3_init_31 : decode cX3_init 31 = .ok (.iconst 5, 1) := by decide +kernel
theorem dX3_init_32 : decode cX3_init 32 = .ok (.newarray .int, 2) := by decide +kernel
theorem dX3_init_34 : decode cX3_init 34 = .ok (.putfield 25, 3) := by decide +kernel
theorem dX3_init_37 : decode cX3_init 37 = .ok (.aload_n 0, 1) := by decide +kernel
theorem dX3_init_38 : decode cX3_init 38 = .ok (.new 28, 3) := by decide +kernel
theorem dX3_init_41 : decode cX3_init 41 = .ok (.dup, 1) := by decide +kernel
theorem dX3_init_42 : decode cX3_init 42 = .ok (.invokespecial 30, 3) := by decide +kernel
theorem dX3_init_45 : decode cX3_init 45 = .ok (.putfield 31, 3) := by decide +kernel
theorem dX3_init_48 : decode cX3_init 48 = .ok (.aload_n 0, 1) := by decide +kernel
theorem dX3_init_49 : decode cX3_init 49 = .ok (.new 35, 3) := by decide +kernel
theorem dX3_init_52 : decode cX3_init 52 = .ok (.dup, 1) := by decide +kernel
theorem dX3_init_53 : decode cX3_init 53 = .ok (.invokespecial 37, 3) := by decide +kernel
theorem dX3_init_56 : decode cX3_init 56 = .ok (.putfield 38, 3) := by decide +kernel
theorem dX3_init_59 : decode cX3_init 59 = .ok (.aload_n 0, 1) := by decide +kernel
theorem dX3_init_60 : decode cX3_init 60 = .ok (.new 42, 3) := by decide +kernel
theorem dX3_init_63 : decode cX3_init 63 = .ok (.dup, 1) := by decide +kernel
theorem dX3_init_64 : decode cX3_init 64 = .ok (.invokespecial 44, 3) := by decide +kernel
theorem dX3_init_67 : decode cX3_init 67 = .ok (.putfield 45, 3) := by decide +kernel
theorem dX3_init_70 : decode cX3_init 70 = .ok (.iconst 0, 1) := by decide +kernel
theorem dX3_init_71 : decode cX3_init 71 = .ok (.istore_n 1, 1) := by decide +kernel
theorem dX3_init_72 : decode cX3_init 72 = .ok (.iload_n 1, 1) := by decide +kernel
theorem dX3_init_73 : decode cX3_init 73 = .ok (.iconst 5, 1) := by decide +kernel
theorem dX3_init_74 : decode cX3_init 74 = .ok (.if_icmp .ge 24, 3) := by decide +kernel
theorem dX3_init_77 : decode cX3_init 77 = .ok (.aload_n 0, 1) := by decide +kernel
theorem dX3_init_78 : decode cX3_init 78 = .ok (.getfield 15, 3) := by decide +kernel
theorem dX3_init_81 : decode cX3_init 81 = .ok (.iload_n 1, 1) := by decide +kernel
theorem dX3_init_82 : decode cX3_init 82 = .ok (.bipush 10, 2) := by decide +kernel
theorem dX3_init_84 : decode cX3_init 84 = .ok (.iastore, 1) := by decide +kernel
theorem dX3_init_85 : decode cX3_init 85 = .ok (.aload_n 0, 1) := by decide +kernel
theorem dX3_init_86 : decode cX3_init 86 = .ok (.getfield 22, 3) := by decide +kernel
theorem dX3_init_89 : decode cX3_init 89 = .ok (.iload_n 1, 1) := by decide +kernel
theorem dX3_init_90 : decode cX3_init 90 = .ok (.iconst 2, 1) := by decide +kernel
theorem dX3_init_91 : decode cX3_init 91 = .ok (.iastore, 1) := by decide +kernel
theorem dX3_init_92 : decode cX3_init 92 = .ok (.iinc 1 1, 3) := by decide +kernel
theorem dX3_init_95 : decode cX3_init 95 = .ok (.goto (-23), 3) := by decide +kernel
theorem dX3_init_98 : decode cX3_init 98 = .ok (.return_, 1) := by decide +kernel
set_option maxRecDepth 20000 in
theorem ggX3_copyFrom_X6_copyFrom : GoodIn wsX3_copyFrom wsX6_copyFrom := goodIn_r _ [17, 18, 19, 4, 5, 6, 51, 52] (by decide +kernel) (by decide +kernel)
set_option maxRecDepth 20000 in
theorem gX3_copyFrom_X6_copyFrom : GoodIn wsX3_copyFrom (wsV RX3 55 RX6 yX6_copyFrom wsX6_copyFrom) := goodIn_app (goodIn_of _ (by decide +kernel)) ggX3_copyFrom_X6_copyFrom
set_option maxRecDepth 20000 in
theorem ggX3_copyFrom_X1_copyFrom : GoodIn wsX3_copyFrom wsX1_copyFrom := goodIn_r _ [24, 25, 26, 27, 4, 5, 6, 28, 29, 53, 54, 55, 56] (by decide +kernel) (by decide +kernel)
set_option maxRecDepth 20000 in
theorem gX3_copyFrom_X1_copyFrom : GoodIn wsX3_copyFrom (wsV RX3 59 RX1 yX1_copyFrom wsX1_copyFrom) := goodIn_app (goodIn_of _ (by decide +kernel)) ggX3_copyFrom_X1_copyFrom
set_option maxRecDepth 20000 in
theorem ggX3_copyFrom_X0_copyFrom : GoodIn wsX3_copyFrom wsX0_copyFrom := goodIn_r _ [34, 35, 36, 37, 38, 39, 40, 41, 42, 57, 58, 59, 60, 61, 62, 63, 64] (by decide +kernel) (by decide +kernel)
set_option maxRecDepth 20000 in
theorem gX3_copyFrom_X0_copyFrom : GoodIn wsX3_copyFrom (wsV RX3 62 RX0 yX0_copyFrom wsX0_copyFrom) := goodIn_app (goodIn_of _ (by decide +kernel)) ggX3_copyFrom_X0_copyFrom
theorem dX3_copyFrom_0 : decode cX3_copyFrom 0 = .ok (.aload_n 0, 1) := by decide +kernel
theorem dX3_copyFrom_1 : decode cX3_copyFrom 1 = .ok (.aload_n 1, 1) := by decide +kernel
theorem dX3_copyFrom_2 : decode cX3_copyFrom 2 = .ok (.getfield 9, 3) := by decide +kernel
theorem dX3_copyFrom_5 : decode cX3_copyFrom 5 = .ok (.putfield 9, 3) := by decide +kernel
theorem dX3_copyFrom_8 : decode cX3_copyFrom 8 = .ok (.aload_n 1, 1) := by decide +kernel
theorem dX3_copyFrom_9 : decode cX3_copyFrom 9 = .ok (.getfield 15, 3) := by decide +kernel
theorem dX3_copyFrom_12 : decode cX3_copyFrom 12 = .ok (.iconst 0, 1) := by decide +kernel
theorem dX3_copyFrom_13 : decode cX3_copyFrom 13 = .ok (.aload_n 0, 1) := by decide +kernel
theorem dX3_copyFrom_14 : decode cX3_copyFrom 14 = .ok (.getfield 15, 3) := by decide +kernel
theorem dX3_copyFrom_17 : decode cX3_copyFrom 17 = .ok (.iconst 0, 1) := by decide +kernel
theorem dX3_copyFrom_18 : decode cX3_copyFrom 18 = .ok (.iconst 5, 1) := by decide +kernel
theorem dX3_copyFrom_19 : decode cX3_copyFrom 19 = .ok (.invokestatic 49, 3) := by decide +kernel
theorem dX3_copyFrom_22 : decode cX3_copyFrom 22 = .ok (.aload_n 1, 1) := by decide +kernel
theorem dX3_copyFrom_23 : decode cX3_copyFrom 23 = .ok (.getfield 19, 3) := by decide +kernel
theorem dX3_copyFrom_26 : decode cX3_copyFrom 26 = .ok (.iconst 0, 1) := by decide +kernel
theorem dX3_copyFrom_27 : decode cX3_copyFrom 27 = .ok (.aload_n 0, 1) := by decide +kernel
theorem dX3_copyFrom_28 : decode cX3_copyFrom 28 = .ok (.getfield 19, 3) := by decide +kernel
theorem dX3_copyFrom_31 : decode cX3_copyFrom 31 = .ok (.iconst 0, 1) := by decide +kernel
theorem dX3_copyFrom_32 : decode cX3_copyFrom 32 = .ok (.iconst 5, 1) := by decide +kernel
theorem dX3_copyFrom_33 : decode cX3_copyFrom 33 = .ok (.invokestatic 49, 3) := by decide +kernel
theorem dX3_copyFrom_36 : decode cX3_copyFrom 36 = .ok (.aload_n 1, 1) := by decide +kernel
theorem dX3_copyFrom_37 : decode cX3_copyFrom 37 = .ok (.getfield 22, 3) := by decide +kernel
theorem dX3_copyFrom_40 : decode cX3_copyFrom 40 = .ok (.iconst 0, 1) := by decide +kernel
theorem dX3_copyFrom_41 : decode cX3_copyFrom 41 = .ok (.aload_n 0, 1) := by decide +kernel
theorem dX3_copyFrom_42 : decode cX3_copyFrom 42 = .ok (.getfield 22, 3) := by decide +kernel
theorem dX3_copyFrom_45 : decode cX3_copyFrom 45 = .ok (.iconst 0, 1) := by decide +kernel
theorem dX3_copyFrom_46 : decode cX3_copyFrom 46 = .ok (.iconst 5, 1) := by decide +kernel
theorem dX3_copyFrom_47 : decode cX3_copyFrom 47 = .ok (.invokestatic 49, 3) := by decide +kernel
theorem dX3_copyFrom_50 : decode cX3_copyFrom 50 = .ok (.aload_n 1, 1) := by decide +kernel
theorem dX3_copyFrom_51 : decode cX3_copyFrom 51 = .ok (.getfield 25, 3) := by decide +kernel
theorem dX3_copyFrom_54 : decode cX3_copyFrom 54 = .ok (.iconst 0, 1) := by decide +kernel
theorem dX3_copyFrom_55 : decode cX3_copyFrom 55 = .ok (.aload_n 0, 1) := by decide +kernel
theorem dX3_copyFrom_56 : decode cX3_copyFrom 56 = .ok (.getfield 25, 3) := by decide +kernel
theorem dX3_copyFrom_59 : decode cX3_copyFrom 59 = .ok (.iconst 0, 1) := by decide +kernel
theorem dX3_copyFrom_60 : decode cX3_copyFrom 60 = .ok (.iconst 5, 1) := by decide +kernel
theorem dX3_copyFrom_61 : decode cX3_copyFrom 61 = .ok (.invokestatic 49, 3) := by decide +kernel
theorem dX3_copyFrom_64 : decode cX3_copyFrom 64 = .ok (.aload_n 0, 1) := by decide +kernel
theorem dX3_copyFrom_65 : decode cX3_copyFrom 65 = .ok (.getfield 31, 3) := by decide +kernel
theorem dX3_copyFrom_68 : decode cX3_copyFrom 68 = .ok (.aload_n 1, 1) := by decide +kernel
theorem dX3_copyFrom_69 : decode cX3_copyFrom 69 = .ok (.getfield 31, 3) := by decide +kernel
theorem dX3_copyFrom_72 : decode cX3_copyFrom 72 = .ok (.invokevirtual 55, 3) := by decide +kernel
theorem dX3_copyFrom_75 : decode cX3_copyFrom 75 = .ok (.aload_n 0, 1) := by decide +kernel
theorem dX3_copyFrom_76 : decode cX3_copyFrom 76 = .ok (.getfield 38, 3) := by decide +kernel
theorem dX3_copyFrom_79 : decode cX3_copyFrom 79 = .ok (.aload_n 1, 1) := by decide +kernel
theorem dX3_copyFrom_80 : decode cX3_copyFrom 80 = .ok (.getfield 38, 3) := by decide +kernel
theorem dX3_copyFrom_83 : decode cX3_copyFrom 83 = .ok (.invokevirtual 59, 3) := by decide +kernel
theorem dX3_copyFrom_86 : decode cX3_copyFrom 86 = .ok (.aload_n 0, 1) := by decide +kernel
theorem dX3_copyFrom_87 : decode cX3_copyFrom 87 = .ok (.getfield 45, 3) := by decide +kernel
theorem dX3_copyFrom_90 : decode cX3_copyFrom 90 = .ok (.aload_n 1, 1) := by decide +kernel
theorem dX3_copyFrom_91 : decode cX3_copyFrom 91 = .ok (.getfield 45, 3) := by decide +kernel
theorem dX3_copyFrom_94 : decode cX3_copyFrom 94 = .ok (.invokevirtual 62, 3) := by decide +kernel
theorem dX3_copyFrom_97 : decode cX3_copyFrom 97 = .ok (.return_, 1) := by decide +kernel
set_option maxRecDepth 20000 in
theorem ggX3_weatherOf_X7_isTown : GoodIn wsX3_weatherOf wsX7_isTown := goodIn_r _ [7] (by decide +kernel) (by decide +kernel)
set_option maxRecDepth 20000 in
theorem gX3_weatherOf_X7_isTown_n65 : GoodIn wsX3_weatherOf (wsX7_isTown) := ggX3_weatherOf_X7_isTown
theorem dX3_weatherOf_0 : decode cX3_weatherOf 0 = .ok (.iload_n 1, 1) := by decide +kernel
theorem dX3_weatherOf_1 : decode cX3_weatherOf 1 = .ok (.invokestatic 65, 3) := by decide +kernel
theorem dX3_weatherOf_4 : decode cX3_weatherOf 4 = .ok (.ifCond .ne 5, 3) := by decide +kernel
theorem dX3_weatherOf_7 : decode cX3_weatherOf 7 = .ok (.iconst (-1), 1) := by decide +kernel
theorem dX3_weatherOf_8 : decode cX3_weatherOf 8 = .ok (.ireturn, 1) := by decide +kernel
theorem dX3_weatherOf_9 : decode cX3_weatherOf 9 = .ok (.iload_n 2, 1) := by decide +kernel
theorem dX3_weatherOf_10 : decode cX3_weatherOf 10 = .ok (.tableswitch 58 0 3 #[30, 37, 44, 51], 30) := by decide +kernel
theorem dX3_weatherOf_40 : decode cX3_weatherOf 40 = .ok (.aload_n 0, 1) := by decide +kernel
theorem dX3_weatherOf_41 : decode cX3_weatherOf 41 = .ok (.getfield 15, 3) := by decide +kernel
theorem dX3_weatherOf_44 : decode cX3_weatherOf 44 = .ok (.iload_n 1, 1) := by decide +kernel
theorem dX3_weatherOf_45 : decode cX3_weatherOf 45 = .ok (.iaload, 1) := by decide +kernel
theorem dX3_weatherOf_46 : decode cX3_weatherOf 46 = .ok (.ireturn, 1) := by decide +kernel
theorem dX3_weatherOf_47 : decode cX3_weatherOf 47 = .ok (.aload_n 0, 1) := by decide +kernel
theorem dX3_weatherOf_48 : decode cX3_weatherOf 48 = .ok (.getfield 19, 3) := by decide +kernel
theorem dX3_weatherOf_51 : decode cX3_weatherOf 51 = .ok (.iload_n 1, 1) := by decide +kernel
theorem dX3_weatherOf_52 : decode cX3_weatherOf 52 = .ok (.iaload, 1) := by decide +kernel
theorem dX3_weatherOf_53 : decode cX3_weatherOf 53 = .ok (.ireturn, 1) := by decide +kernel
theorem dX3_weatherOf_54 : decode cX3_weatherOf 54 = .ok (.aload_n 0, 1) := by decide +kernel
theorem dX3_weatherOf_55 : decode cX3_weatherOf 55 = .ok (.getfield 22, 3) := by decide +kernel
theorem dX3_weatherOf_58 : decode cX3_weatherOf 58 = .ok (.iload_n 1, 1) := by decide +kernel
theorem dX3_weatherOf_59 : decode cX3_weatherOf 59 = .ok (.iaload, 1) := by decide +kernel
theorem dX3_weatherOf_60 : decode cX3_weatherOf 60 = .ok (.ireturn, 1) := by decide +kernel
theorem dX3_weatherOf_61 : decode cX3_weatherOf 61 = .ok (.aload_n 0, 1) := by decide +kernel
theorem dX3_weatherOf_62 : decode cX3_weatherOf 62 = .ok (.getfield 25, 3) := by decide +kernel
theorem dX3_weatherOf_65 : decode cX3_weatherOf 65 = .ok (.iload_n 1, 1) := by decide +kernel
theorem dX3_weatherOf_66 : decode cX3_weatherOf 66 = .ok (.iaload, 1) := by decide +kernel
theorem dX3_weatherOf_67 : decode cX3_weatherOf 67 = .ok (.ireturn, 1) := by decide +kernel
theorem dX3_weatherOf_68 : decode cX3_weatherOf 68 = .ok (.bipush (-2), 2) := by decide +kernel
theorem dX3_weatherOf_70 : decode cX3_weatherOf 70 = .ok (.ireturn, 1) := by decide +kernel
set_option maxRecDepth 20000 in
theorem ggX3_rankOf_X3_comesAhead : GoodIn wsX3_rankOf wsX3_comesAhead := goodIn_r _ [5, 6, 7, 8, 9, 10, 11, 12, 13, 14, 15, 16, 17, 18] (by decide +kernel) (by decide +kernel)
set_option maxRecDepth 20000 in
theorem gX3_rankOf_X3_comesAhead : GoodIn wsX3_rankOf (wsV RX3 69 RX3 yX3_comesAhead wsX3_comesAhead) := goodIn_app (goodIn_of _ (by decide +kernel)) ggX3_rankOf_X3_comesAhead
theorem dX3_rankOf_0 : decode cX3_rankOf 0 = .ok (.iconst 0, 1) := by decide +kernel
theorem dX3_rankOf_1 : decode cX3_rankOf 1 = .ok (.istore_n 2, 1) := by decide +kernel
theorem dX3_rankOf_2 : decode cX3_rankOf 2 = .ok (.iconst 0, 1) := by decide +kernel
theorem dX3_rankOf_3 : decode cX3_rankOf 3 = .ok (.istore_n 3, 1) := by decide +kernel
theorem dX3_rankOf_4 : decode cX3_rankOf 4 = .ok (.iload_n 3, 1) := by decide +kernel
theorem dX3_rankOf_5 : decode cX3_rankOf 5 = .ok (.iconst 5, 1) := by decide +kernel
theorem dX3_rankOf_6 : decode cX3_rankOf 6 = .ok (.if_icmp .ge 21, 3) := by decide +kernel
theorem dX3_rankOf_9 : decode cX3_rankOf 9 = .ok (.aload_n 0, 1) := by decide +kernel
theorem dX3_rankOf_10 : decode cX3_rankOf 10 = .ok (.iload_n 3, 1) := by decide +kernel
theorem dX3_rankOf_11 : decode cX3_rankOf 11 = .ok (.iload_n 1, 1) := by decide +kernel
theorem dX3_rankOf_12 : decode cX3_rankOf 12 = .ok (.invokevirtual 69, 3) := by decide +kernel
theorem dX3_rankOf_15 : decode cX3_rankOf 15 = .ok (.ifCond .eq 6, 3) := by decide +kernel
theorem dX3_rankOf_18 : decode cX3_rankOf 18 = .ok (.iinc 2 1, 3) := by decide +kernel
theorem dX3_rankOf_21 : decode cX3_rankOf 21 = .ok (.iinc 3 1, 3) := by decide +kernel
theorem dX3_rankOf_24 : decode cX3_rankOf 24 = .ok (.goto (-20), 3) := by decide +kernel
theorem dX3_rankOf_27 : decode cX3_rankOf 27 = .ok (.iload_n 2, 1) := by decide +kernel
theorem dX3_rankOf_28 : decode cX3_rankOf 28 = .ok (.ireturn, 1) := by decide +kernel
set_option maxRecDepth 20000 in
theorem ggX3_comesAhead_X7_isTown : GoodIn wsX3_comesAhead wsX7_isTown := goodIn_r _ [5] (by decide +kernel) (by decide +kernel)
set_option maxRecDepth 20000 in
theorem gX3_comesAhead_X7_isTown_n65 : GoodIn wsX3_comesAhead (wsX7_isTown) := ggX3_comesAhead_X7_isTown
theorem dX3_comesAhead_0 : decode cX3_comesAhead 0 = .ok (.iload_n 1, 1) := by decide +kernel
theorem dX3_comesAhead_1 : decode cX3_comesAhead 1 = .ok (.invokestatic 65, 3) := by decide +kernel
theorem dX3_comesAhead_4 : decode cX3_comesAhead 4 = .ok (.ifCond .eq 10, 3) := by decide +kernel
theorem dX3_comesAhead_7 : decode cX3_comesAhead 7 = .ok (.iload_n 2, 1) := by decide +kernel
theorem dX3_comesAhead_8 : decode cX3_comesAhead 8 = .ok (.invokestatic 65, 3) := by decide +kernel
theorem dX3_comesAhead_11 : decode cX3_comesAhead 11 = .ok (.ifCond .ne 5, 3) := by decide +kernel
theorem dX3_comesAhead_14 : decode cX3_comesAhead 14 = .ok (.iconst 0, 1) := by decide +kernel
theorem dX3_comesAhead_15 : decode cX3_comesAhead 15 = .ok (.ireturn, 1) := by decide +kernel
theorem dX3_comesAhead_16 : decode cX3_comesAhead 16 = .ok (.aload_n 0, 1) := by decide +kernel
theorem dX3_comesAhead_17 : decode cX3_comesAhead 17 = .ok (.getfield 25, 3) := by decide +kernel
theorem dX3_comesAhead_20 : decode cX3_comesAhead 20 = .ok (.iload_n 1, 1) := by decide +kernel
theorem dX3_comesAhead_21 : decode cX3_comesAhead 21 = .ok (.iaload, 1) := by decide +kernel
theorem dX3_comesAhead_22 : decode cX3_comesAhead 22 = .ok (.aload_n 0, 1) := by decide +kernel
theorem dX3_comesAhead_23 : decode cX3_comesAhead 23 = .ok (.getfield 25, 3) := by decide +kernel
theorem dX3_comesAhead_26 : decode cX3_comesAhead 26 = .ok (.iload_n 2, 1) := by decide +kernel
theorem dX3_comesAhead_27 : decode cX3_comesAhead 27 = .ok (.iaload, 1) := by decide +kernel
theorem dX3_comesAhead_28 : decode cX3_comesAhead 28 = .ok (.if_icmp .eq 24, 3) := by decide +kernel
theorem dX3_comesAhead_31 : decode cX3_comesAhead 31 = .ok (.aload_n 0, 1) := by decide +kernel
theorem dX3_comesAhead_32 : decode cX3_comesAhead 32 = .ok (.getfield 25, 3) := by decide +kernel
theorem dX3_comesAhead_35 : decode cX3_comesAhead 35 = .ok (.iload_n 1, 1) := by decide +kernel
theorem dX3_comesAhead_36 : decode cX3_comesAhead 36 = .ok (.iaload, 1) := by decide +kernel
theorem dX3_comesAhead_37 : decode cX3_comesAhead 37 = .ok (.aload_n 0, 1) := by decide +kernel
theorem dX3_comesAhead_38 : decode cX3_comesAhead 38 = .ok (.getfield 25, 3) := by decide +kernel
theorem dX3_comesAhead_41 : decode cX3_comesAhead 41 = .ok (.iload_n 2, 1) := by decide +kernel
theorem dX3_comesAhead_42 : decode cX3_comesAhead 42 = .ok (.iaload, 1) := by decide +kernel
theorem dX3_comesAhead_43 : decode cX3_comesAhead 43 = .ok (.if_icmp .le 7, 3) := by decide +kernel
theorem dX3_comesAhead_46 : decode cX3_comesAhead 46 = .ok (.iconst 1, 1) := by decide +kernel
theorem dX3_comesAhead_47 : decode cX3_comesAhead 47 = .ok (.goto 4, 3) := by decide +kernel
theorem dX3_comesAhead_50 : decode cX3_comesAhead 50 = .ok (.iconst 0, 1) := by decide +kernel
theorem dX3_comesAhead_51 : decode cX3_comesAhead 51 = .ok (.ireturn, 1) := by decide +kernel
theorem dX3_comesAhead_52 : decode cX3_comesAhead 52 = .ok (.aload_n 0, 1) := by decide +kernel
theorem dX3_comesAhead_53 : decode cX3_comesAhead 53 = .ok (.getfield 15, 3) := by decide +kernel
theorem dX3_comesAhead_56 : decode cX3_comesAhead 56 = .ok (.iload_n 1, 1) := by decide +kernel
theorem dX3_comesAhead_57 : decode cX3_comesAhead 57 = .ok (.iaload, 1) := by decide +kernel
theorem dX3_comesAhead_58 : decode cX3_comesAhead 58 = .ok (.aload_n 0, 1) := by decide +kernel
theorem dX3_comesAhead_59 : decode cX3_comesAhead 59 = .ok (.getfield 15, 3) := by decide +kernel
theorem dX3_comesAhead_62 : decode cX3_comesAhead 62 = .ok (.iload_n 2, 1) := by decide +kernel
theorem dX3_comesAhead_63 : decode cX3_comesAhead 63 = .ok (.iaload, 1) := by decide +kernel
theorem dX3_comesAhead_64 : decode cX3_comesAhead 64 = .ok (.if_icmp .eq 26, 3) := by decide +kernel
theorem dX3_comesAhead_67 : decode cX3_comesAhead 67 = .ok (.aload_n 0, 1) := by decide +kernel
theorem dX3_comesAhead_68 : decode cX3_comesAhead 68 = .ok (.getfield 15, 3) := by decide +kernel
theorem dX3_comesAhead_71 : decode cX3_comesAhead 71 = .ok (.iload_n 1, 1) := by decide +kernel
theorem dX3_comesAhead_72 : decode cX3_comesAhead 72 = .ok (.iaload, 1) := by decide +kernel
theorem dX3_comesAhead_73 : decode cX3_comesAhead 73 = .ok (.aload_n 0, 1) := by decide +kernel
theorem dX3_comesAhead_74 : decode cX3_comesAhead 74 = .ok (.getfield 15, 3) := by decide +kernel
theorem dX3_comesAhead_77 : decode cX3_comesAhead 77 = .ok (.iload_n 2, 1) := by decide +kernel
theorem dX3_comesAhead_78 : decode cX3_comesAhead 78 = .ok (.iaload, 1) := by decide +kernel
theorem dX3_comesAhead_79 : decode cX3_comesAhead 79 = .ok (.if_icmp .ge 7, 3) := by decide +kernel
theorem dX3_comesAhead_82 : decode cX3_comesAhead 82 = .ok (.iconst 1, 1) := by decide +kernel
theorem dX3_comesAhead_83 : decode cX3_comesAhead 83 = .ok (.goto 17, 3) := by decide +kernel
theorem dX3_comesAhead_86 : decode cX3_comesAhead 86 = .ok (.iconst 0, 1) := by decide +kernel
theorem dX3_comesAhead_87 : decode cX3_comesAhead 87 = .ok (.goto 13, 3) := by decide +kernel
theorem dX3_comesAhead_90 : decode cX3_comesAhead 90 = .ok (.iload_n 1, 1) := by decide +kernel
theorem dX3_comesAhead_91 : decode cX3_comesAhead 91 = .ok (.iload_n 2, 1) := by decide +kernel
theorem dX3_comesAhead_92 : decode cX3_comesAhead 92 = .ok (.if_icmp .ge 7, 3) := by decide +kernel
theorem dX3_comesAhead_95 : decode cX3_comesAhead 95 = .ok (.iconst 1, 1) := by decide +kernel
theorem dX3_comesAhead_96 : decode cX3_comesAhead 96 = .ok (.goto 4, 3) := by decide +kernel
theorem dX3_comesAhead_99 : decode cX3_comesAhead 99 = .ok (.iconst 0, 1) := by decide +kernel
theorem dX3_comesAhead_100 : decode cX3_comesAhead 100 = .ok (.ireturn, 1) := by decide +kernel
set_option maxRecDepth 20000 in
theorem ggX3_owedByMonths_X1_owedIn : GoodIn wsX3_owedByMonths wsX1_owedIn := goodIn_r _ [7, 8, 9, 10, 11, 20, 21, 22, 23] (by decide +kernel) (by decide +kernel)
set_option maxRecDepth 20000 in
theorem gX3_owedByMonths_X1_owedIn : GoodIn wsX3_owedByMonths (wsV RX3 73 RX1 yX1_owedIn wsX1_owedIn) := goodIn_app (goodIn_of _ (by decide +kernel)) ggX3_owedByMonths_X1_owedIn
theorem dX3_owedByMonths_0 : decode cX3_owedByMonths 0 = .ok (.iconst 0, 1) := by decide +kernel
theorem dX3_owedByMonths_1 : decode cX3_owedByMonths 1 = .ok (.istore_n 2, 1) := by decide +kernel
theorem dX3_owedByMonths_2 : decode cX3_owedByMonths 2 = .ok (.iconst 0, 1) := by decide +kernel
theorem dX3_owedByMonths_3 : decode cX3_owedByMonths 3 = .ok (.istore_n 3, 1) := by decide +kernel
theorem dX3_owedByMonths_4 : decode cX3_owedByMonths 4 = .ok (.iload_n 3, 1) := by decide +kernel
theorem dX3_owedByMonths_5 : decode cX3_owedByMonths 5 = .ok (.bipush 6, 2) := by decide +kernel
theorem dX3_owedByMonths_7 : decode cX3_owedByMonths 7 = .ok (.if_icmp .gt 26, 3) := by decide +kernel
theorem dX3_owedByMonths_10 : decode cX3_owedByMonths 10 = .ok (.iload_n 2, 1) := by decide +kernel
theorem dX3_owedByMonths_11 : decode cX3_owedByMonths 11 = .ok (.aload_n 0, 1) := by decide +kernel
theorem dX3_owedByMonths_12 : decode cX3_owedByMonths 12 = .ok (.getfield 38, 3) := by decide +kernel
theorem dX3_owedByMonths_15 : decode cX3_owedByMonths 15 = .ok (.iload_n 1, 1) := by decide +kernel
theorem dX3_owedByMonths_16 : decode cX3_owedByMonths 16 = .ok (.aload_n 0, 1) := by decide +kernel
theorem dX3_owedByMonths_17 : decode cX3_owedByMonths 17 = .ok (.getfield 9, 3) := by decide +kernel
theorem dX3_owedByMonths_20 : decode cX3_owedByMonths 20 = .ok (.iload_n 3, 1) := by decide +kernel
theorem dX3_owedByMonths_21 : decode cX3_owedByMonths 21 = .ok (.iadd, 1) := by decide +kernel
theorem dX3_owedByMonths_22 : decode cX3_owedByMonths 22 = .ok (.invokevirtual 73, 3) := by decide +kernel
theorem dX3_owedByMonths_25 : decode cX3_owedByMonths 25 = .ok (.iadd, 1) := by decide +kernel
theorem dX3_owedByMonths_26 : decode cX3_owedByMonths 26 = .ok (.istore_n 2, 1) := by decide +kernel
theorem dX3_owedByMonths_27 : decode cX3_owedByMonths 27 = .ok (.iinc 3 1, 3) := by decide +kernel
theorem dX3_owedByMonths_30 : decode cX3_owedByMonths 30 = .ok (.goto (-26), 3) := by decide +kernel
theorem dX3_owedByMonths_33 : decode cX3_owedByMonths 33 = .ok (.iload_n 2, 1) := by decide +kernel
theorem dX3_owedByMonths_34 : decode cX3_owedByMonths 34 = .ok (.ireturn, 1) := by decide +kernel
set_option maxRecDepth 20000 in
theorem ggX3_isSunCounted_X7_sumOf : GoodIn wsX3_isSunCounted wsX7_sumOf := goodIn_r _ [9] (by decide +kernel) (by decide +kernel)
set_option maxRecDepth 20000 in
theorem gX3_isSunCounted_X7_sumOf_n80 : GoodIn wsX3_isSunCounted (wsX7_sumOf) := ggX3_isSunCounted_X7_sumOf
theorem dX3_isSunCounted_0 : decode cX3_isSunCounted 0 = .ok (.bipush 50, 2) := by decide +kernel
theorem dX3_isSunCounted_2 : decode cX3_isSunCounted 2 = .ok (.aload_n 0, 1) := by decide +kernel
theorem dX3_isSunCounted_3 : decode cX3_isSunCounted 3 = .ok (.getfield 45, 3) := by decide +kernel
theorem dX3_isSunCounted_6 : decode cX3_isSunCounted 6 = .ok (.getfield 77, 3) := by decide +kernel
theorem dX3_isSunCounted_9 : decode cX3_isSunCounted 9 = .ok (.iadd, 1) := by decide +kernel
theorem dX3_isSunCounted_10 : decode cX3_isSunCounted 10 = .ok (.istore_n 1, 1) := by decide +kernel
theorem dX3_isSunCounted_11 : decode cX3_isSunCounted 11 = .ok (.iload_n 1, 1) := by decide +kernel
theorem dX3_isSunCounted_12 : decode cX3_isSunCounted 12 = .ok (.aload_n 0, 1) := by decide +kernel
theorem dX3_isSunCounted_13 : decode cX3_isSunCounted 13 = .ok (.getfield 15, 3) := by decide +kernel
theorem dX3_isSunCounted_16 : decode cX3_isSunCounted 16 = .ok (.invokestatic 80, 3) := by decide +kernel
theorem dX3_isSunCounted_19 : decode cX3_isSunCounted 19 = .ok (.aload_n 0, 1) := by decide +kernel
theorem dX3_isSunCounted_20 : decode cX3_isSunCounted 20 = .ok (.getfield 45, 3) := by decide +kernel
theorem dX3_isSunCounted_23 : decode cX3_isSunCounted 23 = .ok (.getfield 84, 3) := by decide +kernel
theorem dX3_isSunCounted_26 : decode cX3_isSunCounted 26 = .ok (.iadd, 1) := by decide +kernel
theorem dX3_isSunCounted_27 : decode cX3_isSunCounted 27 = .ok (.aload_n 0, 1) := by decide +kernel
theorem dX3_isSunCounted_28 : decode cX3_isSunCounted 28 = .ok (.getfield 45, 3) := by decide +kernel
theorem dX3_isSunCounted_31 : decode cX3_isSunCounted 31 = .ok (.getfield 87, 3) := by decide +kernel
theorem dX3_isSunCounted_34 : decode cX3_isSunCounted 34 = .ok (.iadd, 1) := by decide +kernel
theorem dX3_isSunCounted_35 : decode cX3_isSunCounted 35 = .ok (.aload_n 0, 1) := by decide +kernel
theorem dX3_isSunCounted_36 : decode cX3_isSunCounted 36 = .ok (.getfield 45, 3) := by decide +kernel
theorem dX3_isSunCounted_39 : decode cX3_isSunCounted 39 = .ok (.getfield 90, 3) := by decide +kernel
theorem dX3_isSunCounted_42 : decode cX3_isSunCounted 42 = .ok (.iadd, 1) := by decide +kernel
theorem dX3_isSunCounted_43 : decode cX3_isSunCounted 43 = .ok (.if_icmp .ne 7, 3) := by decide +kernel
theorem dX3_isSunCounted_46 : decode cX3_isSunCounted 46 = .ok (.iconst 1, 1) := by decide +kernel
theorem dX3_isSunCounted_47 : decode cX3_isSunCounted 47 = .ok (.goto 4, 3) := by decide +kernel
theorem dX3_isSunCounted_50 : decode cX3_isSunCounted 50 = .ok (.iconst 0, 1) := by decide +kernel
theorem dX3_isSunCounted_51 : decode cX3_isSunCounted 51 = .ok (.ireturn, 1) := by decide +kernel
set_option maxRecDepth 20000 in
theorem ggX3_giveCredit_X7_isTown : GoodIn wsX3_giveCredit wsX7_isTown := goodIn_r _ [8] (by decide +kernel) (by decide +kernel)
set_option maxRecDepth 20000 in
theorem gX3_giveCredit_X7_isTown_n65 : GoodIn wsX3_giveCredit (wsX7_isTown) := ggX3_giveCredit_X7_isTown
set_option maxRecDepth 20000 in
theorem ggX3_giveCredit_X1_add : GoodIn wsX3_giveCredit wsX1_add := goodIn_r _ [13, 14, 15, 16, 17, 34, 35, 36, 37] (by decide +kernel) (by decide +kernel)
set_option maxRecDepth 20000 in
theorem gX3_giveCredit_X1_add : GoodIn wsX3_giveCredit (wsV RX3 93 RX1 yX1_add wsX1_add) := goodIn_app (goodIn_of _ (by decide +kernel)) ggX3_giveCredit_X1_add
theorem dX3_giveCredit_0 : decode cX3_giveCredit 0 = .ok (.iload_n 1, 1) := by decide +kernel
theorem dX3_giveCredit_1 : decode cX3_giveCredit 1 = .ok (.invokestatic 65, 3) := by decide +kernel
theorem dX3_giveCredit_4 : decode cX3_giveCredit 4 = .ok (.ifCond .eq 41, 3) := by decide +kernel
theorem dX3_giveCredit_7 : decode cX3_giveCredit 7 = .ok (.aload_n 0, 1) := by decide +kernel
theorem dX3_giveCredit_8 : decode cX3_giveCredit 8 = .ok (.getfield 15, 3) := by decide +kernel
theorem dX3_giveCredit_11 : decode cX3_giveCredit 11 = .ok (.iload_n 1, 1) := by decide +kernel
theorem dX3_giveCredit_12 : decode cX3_giveCredit 12 = .ok (.dup2, 1) := by decide +kernel
theorem dX3_giveCredit_13 : decode cX3_giveCredit 13 = .ok (.iaload, 1) := by decide +kernel
theorem dX3_giveCredit_14 : decode cX3_giveCredit 14 = .ok (.iload_n 2, 1) := by decide +kernel
theorem dX3_giveCredit_15 : decode cX3_giveCredit 15 = .ok (.iadd, 1) := by decide +kernel
theorem dX3_giveCredit_16 : decode cX3_giveCredit 16 = .ok (.iastore, 1) := by decide +kernel
theorem dX3_giveCredit_17 : decode cX3_giveCredit 17 = .ok (.aload_n 0, 1) := by decide +kernel
theorem dX3_giveCredit_18 : decode cX3_giveCredit 18 = .ok (.getfield 45, 3) := by decide +kernel
theorem dX3_giveCredit_21 : decode cX3_giveCredit 21 = .ok (.dup, 1) := by decide +kernel
theorem dX3_giveCredit_22 : decode cX3_giveCredit 22 = .ok (.getfield 77, 3) := by decide +kernel
theorem dX3_giveCredit_25 : decode cX3_giveCredit 25 = .ok (.iload_n 2, 1) := by decide +kernel
theorem dX3_giveCredit_26 : decode cX3_giveCredit 26 = .ok (.iadd, 1) := by decide +kernel
theorem dX3_giveCredit_27 : decode cX3_giveCredit 27 = .ok (.putfield 77, 3) := by decide +kernel
theorem dX3_giveCredit_30 : decode cX3_giveCredit 30 = .ok (.aload_n 0, 1) := by decide +kernel
theorem dX3_giveCredit_31 : decode cX3_giveCredit 31 = .ok (.getfield 38, 3) := by decide +kernel
theorem dX3_giveCredit_34 : decode cX3_giveCredit 34 = .ok (.iload_n 1, 1) := by decide +kernel
theorem dX3_giveCredit_35 : decode cX3_giveCredit 35 = .ok (.iload_n 2, 1) := by decide +kernel
theorem dX3_giveCredit_36 : decode cX3_giveCredit 36 = .ok (.aload_n 0, 1) := by decide +kernel
theorem dX3_giveCredit_37 : decode cX3_giveCredit 37 = .ok (.getfield 9, 3) := by decide +kernel
theorem dX3_giveCredit_40 : decode cX3_giveCredit 40 = .ok (.iload_n 3, 1) := by decide +kernel
theorem dX3_giveCredit_41 : decode cX3_giveCredit 41 = .ok (.iadd, 1) := by decide +kernel
theorem dX3_giveCredit_42 : decode cX3_giveCredit 42 = .ok (.invokevirtual 93, 3) := by decide +kernel
theorem dX3_giveCredit_45 : decode cX3_giveCredit 45 = .ok (.return_, 1) := by decide +kernel
set_option maxRecDepth 20000 in
theorem ggX3_letRain_X6_spread : GoodIn wsX3_letRain wsX6_spread := goodIn_r _ [12, 13, 14, 23, 24] (by decide +kernel) (by decide +kernel)
set_option maxRecDepth 20000 in
theorem gX3_letRain_X6_spread : GoodIn wsX3_letRain (wsV RX3 97 RX6 yX6_spread wsX6_spread) := goodIn_app (goodIn_of _ (by decide +kernel)) ggX3_letRain_X6_spread
theorem dX3_letRain_0 : decode cX3_letRain 0 = .ok (.aload_n 0, 1) := by decide +kernel
theorem dX3_letRain_1 : decode cX3_letRain 1 = .ok (.getfield 31, 3) := by decide +kernel
theorem dX3_letRain_4 : decode cX3_letRain 4 = .ok (.iload_n 1, 1) := by decide +kernel
theorem dX3_letRain_5 : decode cX3_letRain 5 = .ok (.iload_n 2, 1) := by decide +kernel
theorem dX3_letRain_6 : decode cX3_letRain 6 = .ok (.invokevirtual 97, 3) := by decide +kernel
theorem dX3_letRain_9 : decode cX3_letRain 9 = .ok (.iconst 0, 1) := by decide +kernel
theorem dX3_letRain_10 : decode cX3_letRain 10 = .ok (.istore_n 3, 1) := by decide +kernel
theorem dX3_letRain_11 : decode cX3_letRain 11 = .ok (.iconst 0, 1) := by decide +kernel
theorem dX3_letRain_12 : decode cX3_letRain 12 = .ok (.istore 4, 2) := by decide +kernel
theorem dX3_letRain_14 : decode cX3_letRain 14 = .ok (.iload 4, 2) := by decide +kernel
theorem dX3_letRain_16 : decode cX3_letRain 16 = .ok (.iconst 5, 1) := by decide +kernel
theorem dX3_letRain_17 : decode cX3_letRain 17 = .ok (.if_icmp .ge 52, 3) := by decide +kernel
theorem dX3_letRain_20 : decode cX3_letRain 20 = .ok (.aload_n 0, 1) := by decide +kernel
theorem dX3_letRain_21 : decode cX3_letRain 21 = .ok (.getfield 19, 3) := by decide +kernel
theorem dX3_letRain_24 : decode cX3_letRain 24 = .ok (.iload 4, 2) := by decide +kernel
theorem dX3_letRain_26 : decode cX3_letRain 26 = .ok (.bipush 60, 2) := by decide +kernel
theorem dX3_letRain_28 : decode cX3_letRain 28 = .ok (.aload_n 0, 1) := by decide +kernel
theorem dX3_letRain_29 : decode cX3_letRain 29 = .ok (.getfield 19, 3) := by decide +kernel
theorem dX3_letRain_32 : decode cX3_letRain 32 = .ok (.iload 4, 2) := by decide +kernel
theorem dX3_letRain_34 : decode cX3_letRain 34 = .ok (.iaload, 1) := by decide +kernel
theorem dX3_letRain_35 : decode cX3_letRain 35 = .ok (.aload_n 0, 1) := by decide +kernel
theorem dX3_letRain_36 : decode cX3_letRain 36 = .ok (.getfield 31, 3) := by decide +kernel
theorem dX3_letRain_39 : decode cX3_letRain 39 = .ok (.getfield 101, 3) := by decide +kernel
theorem dX3_letRain_42 : decode cX3_letRain 42 = .ok (.iload 4, 2) := by decide +kernel
theorem dX3_letRain_44 : decode cX3_letRain 44 = .ok (.iaload, 1) := by decide +kernel
theorem dX3_letRain_45 : decode cX3_letRain 45 = .ok (.iadd, 1) := by decide +kernel
theorem dX3_letRain_46 : decode cX3_letRain 46 = .ok (.invokestatic 104, 3) := by decide +kernel
theorem dX3_letRain_49 : decode cX3_letRain 49 = .ok (.iastore, 1) := by decide +kernel
theorem dX3_letRain_50 : decode cX3_letRain 50 = .ok (.iload_n 3, 1) := by decide +kernel
theorem dX3_letRain_51 : decode cX3_letRain 51 = .ok (.aload_n 0, 1) := by decide +kernel
theorem dX3_letRain_52 : decode cX3_letRain 52 = .ok (.getfield 31, 3) := by decide +kernel
theorem dX3_letRain_55 : decode cX3_letRain 55 = .ok (.getfield 101, 3) := by decide +kernel
theorem dX3_letRain_58 : decode cX3_letRain 58 = .ok (.iload 4, 2) := by decide +kernel
theorem dX3_letRain_60 : decode cX3_letRain 60 = .ok (.iaload, 1) := by decide +kernel
theorem dX3_letRain_61 : decode cX3_letRain 61 = .ok (.iadd, 1) := by decide +kernel
theorem dX3_letRain_62 : decode cX3_letRain 62 = .ok (.istore_n 3, 1) := by decide +kernel
theorem dX3_letRain_63 : decode cX3_letRain 63 = .ok (.iinc 4 1, 3) := by decide +kernel
theorem dX3_letRain_66 : decode cX3_letRain 66 = .ok (.goto (-52), 3) := by decide +kernel
theorem dX3_letRain_69 : decode cX3_letRain 69 = .ok (.iload_n 3, 1) := by decide +kernel
theorem dX3_letRain_70 : decode cX3_letRain 70 = .ok (.ireturn, 1) := by decide +kernel
set_option maxRecDepth 20000 in
theorem ggX3_pass_X3_endCredits : GoodIn wsX3_pass wsX3_endCredits := goodIn_r _ [18, 19, 20, 21, 1, 22, 23, 24, 25, 26, 27, 28, 29, 30, 31, 32, 33, 34, 35, 36, 37, 38, 39, 17, 40, 3, 4, 5, 6, 7, 2, 8, 41, 42, 43, 44, 45, 46, 47, 48, 49, 50, 51, 52, 10, 53, 54, 55, 56, 57, 58, 59, 60, 72, 73, 74, 75, 76, 77, 78, 79, 88, 89, 90, 91, 80, 81, 82, 83, 84, 85, 86, 87, 92, 93] (by decide +kernel) (by decide +kernel)
set_option maxRecDepth 20000 in
theorem gX3_pass_X3_endCredits : GoodIn wsX3_pass (wsV RX3 109 RX3 yX3_endCredits wsX3_endCredits) := goodIn_app (goodIn_of _ (by decide +kernel)) ggX3_pass_X3_endCredits
set_option maxRecDepth 20000 in
theorem ggX3_pass_X3_letHail : GoodIn wsX3_pass wsX3_letHail := goodIn_r _ [64, 2, 65, 4, 5, 6, 7, 3, 8, 66, 67, 45, 46, 47, 72, 73, 74, 75, 76, 77, 78, 79, 80, 81, 82, 83, 84, 85, 86, 87] (by decide +kernel) (by decide +kernel)
set_option maxRecDepth 20000 in
theorem gX3_pass_X3_letHail : GoodIn wsX3_pass (wsV RX3 113 RX3 yX3_letHail wsX3_letHail) := goodIn_app (goodIn_of _ (by decide +kernel)) ggX3_pass_X3_letHail
set_option maxRecDepth 20000 in
theorem ggX3_pass_J9_floorMod_7cf53 : GoodIn wsX3_pass wsJ9_floorMod_7cf53 := goodIn_r _ [71] (by decide +kernel) (by decide +kernel)
set_option maxRecDepth 20000 in
theorem gX3_pass_J9_floorMod_7cf53 : GoodIn wsX3_pass (va_wsS RX3 120 yJ9_floorMod_7cf53 wsJ9_floorMod_7cf53) := goodIn_app (goodIn_of _ (by decide +kernel)) ggX3_pass_J9_floorMod_7cf53
theorem dX3_pass_0 : decode cX3_pass 0 = .ok (.aload_n 0, 1) := by decide +kernel
theorem dX3_pass_1 : decode cX3_pass 1 = .ok (.dup, 1) := by decide +kernel
theorem dX3_pass_2 : decode cX3_pass 2 = .ok (.getfield 9, 3) := by decide +kernel
theorem dX3_pass_5 : decode cX3_pass 5 = .ok (.iconst 1, 1) := by decide +kernel
theorem dX3_pass_6 : decode cX3_pass 6 = .ok (.iadd, 1) := by decide +kernel
theorem dX3_pass_7 : decode cX3_pass 7 = .ok (.putfield 9, 3) := by decide +kernel
theorem dX3_pass_10 : decode cX3_pass 10 = .ok (.aload_n 0, 1) := by decide +kernel
theorem dX3_pass_11 : decode cX3_pass 11 = .ok (.invokevirtual 109, 3) := by decide +kernel
theorem dX3_pass_14 : decode cX3_pass 14 = .ok (.istore_n 1, 1) := by decide +kernel
theorem dX3_pass_15 : decode cX3_pass 15 = .ok (.iconst 0, 1) := by decide +kernel
theorem dX3_pass_16 : decode cX3_pass 16 = .ok (.istore_n 2, 1) := by decide +kernel
theorem dX3_pass_17 : decode cX3_pass 17 = .ok (.iload_n 2, 1) := by decide +kernel
theorem dX3_pass_18 : decode cX3_pass 18 = .ok (.iconst 5, 1) := by decide +kernel
theorem dX3_pass_19 : decode cX3_pass 19 = .ok (.if_icmp .ge 23, 3) := by decide +kernel
theorem dX3_pass_22 : decode cX3_pass 22 = .ok (.aload_n 0, 1) := by decide +kernel
theorem dX3_pass_23 : decode cX3_pass 23 = .ok (.getfield 25, 3) := by decide +kernel
theorem dX3_pass_26 : decode cX3_pass 26 = .ok (.iload_n 2, 1) := by decide +kernel
theorem dX3_pass_27 : decode cX3_pass 27 = .ok (.iaload, 1) := by decide +kernel
theorem dX3_pass_28 : decode cX3_pass 28 = .ok (.ifCond .le 8, 3) := by decide +kernel
theorem dX3_pass_31 : decode cX3_pass 31 = .ok (.aload_n 0, 1) := by decide +kernel
theorem dX3_pass_32 : decode cX3_pass 32 = .ok (.iload_n 2, 1) := by decide +kernel
theorem dX3_pass_33 : decode cX3_pass 33 = .ok (.invokevirtual 113, 3) := by decide +kernel
theorem dX3_pass_36 : decode cX3_pass 36 = .ok (.iinc 2 1, 3) := by decide +kernel
theorem dX3_pass_39 : decode cX3_pass 39 = .ok (.goto (-22), 3) := by decide +kernel
theorem dX3_pass_42 : decode cX3_pass 42 = .ok (.getstatic 117, 3) := by decide +kernel
theorem dX3_pass_45 : decode cX3_pass 45 = .ok (.aload_n 0, 1) := by decide +kernel
theorem dX3_pass_46 : decode cX3_pass 46 = .ok (.getfield 9, 3) := by decide +kernel
theorem dX3_pass_49 : decode cX3_pass 49 = .ok (.getstatic 117, 3) := by decide +kernel
theorem dX3_pass_52 : decode cX3_pass 52 = .ok (.arraylength, 1) := by decide +kernel
theorem dX3_pass_53 : decode cX3_pass 53 = .ok (.invokestatic 120, 3) := by decide +kernel
theorem dX3_pass_56 : decode cX3_pass 56 = .ok (.iaload, 1) := by decide +kernel
theorem dX3_pass_57 : decode cX3_pass 57 = .ok (.istore_n 2, 1) := by decide +kernel
theorem dX3_pass_58 : decode cX3_pass 58 = .ok (.iconst 0, 1) := by decide +kernel
theorem dX3_pass_59 : decode cX3_pass 59 = .ok (.istore_n 3, 1) := by decide +kernel
theorem dX3_pass_60 : decode cX3_pass 60 = .ok (.iload_n 3, 1) := by decide +kernel
theorem dX3_pass_61 : decode cX3_pass 61 = .ok (.iconst 5, 1) := by decide +kernel
theorem dX3_pass_62 : decode cX3_pass 62 = .ok (.if_icmp .ge 67, 3) := by decide +kernel
theorem dX3_pass_65 : decode cX3_pass 65 = .ok (.iload_n 2, 1) := by decide +kernel
theorem dX3_pass_66 : decode cX3_pass 66 = .ok (.bipush 60, 2) := by decide +kernel
theorem dX3_pass_68 : decode cX3_pass 68 = .ok (.aload_n 0, 1) := by decide +kernel
theorem dX3_pass_69 : decode cX3_pass 69 = .ok (.getfield 15, 3) := by decide +kernel
theorem dX3_pass_72 : decode cX3_pass 72 = .ok (.iload_n 3, 1) := by decide +kernel
theorem dX3_pass_73 : decode cX3_pass 73 = .ok (.iaload, 1) := by decide +kernel
theorem dX3_pass_74 : decode cX3_pass 74 = .ok (.isub, 1) := by decide +kernel
theorem dX3_pass_75 : decode cX3_pass 75 = .ok (.invokestatic 104, 3) := by decide +kernel
theorem dX3_pass_78 : decode cX3_pass 78 = .ok (.istore 4, 2) := by decide +kernel
theorem dX3_pass_80 : decode cX3_pass 80 = .ok (.aload_n 0, 1) := by decide +kernel
theorem dX3_pass_81 : decode cX3_pass 81 = .ok (.getfield 15, 3) := by decide +kernel
theorem dX3_pass_84 : decode cX3_pass 84 = .ok (.iload_n 3, 1) := by decide +kernel
theorem dX3_pass_85 : decode cX3_pass 85 = .ok (.dup2, 1) := by decide +kernel
theorem dX3_pass_86 : decode cX3_pass 86 = .ok (.iaload, 1) := by decide +kernel
theorem dX3_pass_87 : decode cX3_pass 87 = .ok (.iload 4, 2) := by decide +kernel
theorem dX3_pass_89 : decode cX3_pass 89 = .ok (.iadd, 1) := by decide +kernel
theorem dX3_pass_90 : decode cX3_pass 90 = .ok (.iastore, 1) := by decide +kernel
theorem dX3_pass_91 : decode cX3_pass 91 = .ok (.aload_n 0, 1) := by decide +kernel
theorem dX3_pass_92 : decode cX3_pass 92 = .ok (.getfield 45, 3) := by decide +kernel
theorem dX3_pass_95 : decode cX3_pass 95 = .ok (.dup, 1) := by decide +kernel
theorem dX3_pass_96 : decode cX3_pass 96 = .ok (.getfield 77, 3) := by decide +kernel
theorem dX3_pass_99 : decode cX3_pass 99 = .ok (.iload 4, 2) := by decide +kernel
theorem dX3_pass_101 : decode cX3_pass 101 = .ok (.iadd, 1) := by decide +kernel
theorem dX3_pass_102 : decode cX3_pass 102 = .ok (.putfield 77, 3) := by decide +kernel
theorem dX3_pass_105 : decode cX3_pass 105 = .ok (.aload_n 0, 1) := by decide +kernel
theorem dX3_pass_106 : decode cX3_pass 106 = .ok (.getfield 19, 3) := by decide +kernel
theorem dX3_pass_109 : decode cX3_pass 109 = .ok (.iload_n 3, 1) := by decide +kernel
theorem dX3_pass_110 : decode cX3_pass 110 = .ok (.iconst 0, 1) := by decide +kernel
theorem dX3_pass_111 : decode cX3_pass 111 = .ok (.aload_n 0, 1) := by decide +kernel
theorem dX3_pass_112 : decode cX3_pass 112 = .ok (.getfield 19, 3) := by decide +kernel
theorem dX3_pass_115 : decode cX3_pass 115 = .ok (.iload_n 3, 1) := by decide +kernel
theorem dX3_pass_116 : decode cX3_pass 116 = .ok (.iaload, 1) := by decide +kernel
theorem dX3_pass_117 : decode cX3_pass 117 = .ok (.iconst 3, 1) := by decide +kernel
theorem dX3_pass_118 : decode cX3_pass 118 = .ok (.isub, 1) := by decide +kernel
theorem dX3_pass_119 : decode cX3_pass 119 = .ok (.invokestatic 123, 3) := by decide +kernel
theorem dX3_pass_122 : decode cX3_pass 122 = .ok (.iastore, 1) := by decide +kernel
theorem dX3_pass_123 : decode cX3_pass 123 = .ok (.iinc 3 1, 3) := by decide +kernel
theorem dX3_pass_126 : decode cX3_pass 126 = .ok (.goto (-66), 3) := by decide +kernel
theorem dX3_pass_129 : decode cX3_pass 129 = .ok (.iload_n 1, 1) := by decide +kernel
theorem dX3_pass_130 : decode cX3_pass 130 = .ok (.ireturn, 1) := by decide +kernel
set_option maxRecDepth 20000 in
theorem ggX3_endCredits_X1_move : GoodIn wsX3_endCredits wsX1_move := goodIn_r _ [11, 12, 13, 14, 15, 16, 17, 10, 18, 19, 61, 62, 63, 64] (by decide +kernel) (by decide +kernel)
set_option maxRecDepth 20000 in
theorem gX3_endCredits_X1_move : GoodIn wsX3_endCredits (wsV RX3 132 RX1 yX1_move wsX1_move) := goodIn_app (goodIn_of _ (by decide +kernel)) ggX3_endCredits_X1_move
set_option maxRecDepth 20000 in
theorem ggX3_endCredits_X3_payFor : GoodIn wsX3_endCredits wsX3_payFor := goodIn_r _ [24, 25, 26, 27, 28, 29, 30, 31, 32, 33, 34, 35, 36, 37, 38, 53, 54, 55, 56, 57, 58, 59, 60, 65, 66, 67, 68, 69, 70, 71, 72] (by decide +kernel) (by decide +kernel)
set_option maxRecDepth 20000 in
theorem gX3_endCredits_X3_payFor : GoodIn wsX3_endCredits (wsV RX3 141 RX3 yX3_payFor wsX3_payFor) := goodIn_app (goodIn_of _ (by decide +kernel)) ggX3_endCredits_X3_payFor
set_option maxRecDepth 20000 in
theorem ggX3_endCredits_X3_letRain : GoodIn wsX3_endCredits wsX3_letRain := goodIn_r _ [42, 43, 44, 45, 26, 27, 28, 29, 46, 47, 48, 49, 50, 51, 52, 53, 54, 55, 56, 57, 58, 59, 60, 73, 74] (by decide +kernel) (by decide +kernel)
set_option maxRecDepth 20000 in
theorem gX3_endCredits_X3_letRain : GoodIn wsX3_endCredits (wsV RX3 144 RX3 yX3_letRain wsX3_letRain) := goodIn_app (goodIn_of _ (by decide +kernel)) ggX3_endCredits_X3_letRain
theorem dX3_endCredits_0 : decode cX3_endCredits 0 = .ok (.iconst 0, 1) := by decide +kernel
theorem dX3_endCredits_1 : decode cX3_endCredits 1 = .ok (.istore_n 1, 1) := by decide +kernel
theorem dX3_endCredits_2 : decode cX3_endCredits 2 = .ok (.iconst 0, 1) := by decide +kernel
theorem dX3_endCredits_3 : decode cX3_endCredits 3 = .ok (.istore_n 2, 1) := by decide +kernel
theorem dX3_endCredits_4 : decode cX3_endCredits 4 = .ok (.iconst 0, 1) := by decide +kernel
theorem dX3_endCredits_5 : decode cX3_endCredits 5 = .ok (.istore_n 3, 1) := by decide +kernel
theorem dX3_endCredits_6 : decode cX3_endCredits 6 = .ok (.iload_n 3, 1) := by decide +kernel
theorem dX3_endCredits_7 : decode cX3_endCredits 7 = .ok (.aload_n 0, 1) := by decide +kernel
theorem dX3_endCredits_8 : decode cX3_endCredits 8 = .ok (.getfield 38, 3) := by decide +kernel
theorem dX3_endCredits_11 : decode cX3_endCredits 11 = .ok (.getfield 126, 3) := by decide +kernel
theorem dX3_endCredits_14 : decode cX3_endCredits 14 = .ok (.if_icmp .ge 90, 3) := by decide +kernel
theorem dX3_endCredits_17 : decode cX3_endCredits 17 = .ok (.aload_n 0, 1) := by decide +kernel
theorem dX3_endCredits_18 : decode cX3_endCredits 18 = .ok (.getfield 38, 3) := by decide +kernel
theorem dX3_endCredits_21 : decode cX3_endCredits 21 = .ok (.getfield 129, 3) := by decide +kernel
theorem dX3_endCredits_24 : decode cX3_endCredits 24 = .ok (.iload_n 3, 1) := by decide +kernel
theorem dX3_endCredits_25 : decode cX3_endCredits 25 = .ok (.iaload, 1) := by decide +kernel
theorem dX3_endCredits_26 : decode cX3_endCredits 26 = .ok (.aload_n 0, 1) := by decide +kernel
theorem dX3_endCredits_27 : decode cX3_endCredits 27 = .ok (.getfield 9, 3) := by decide +kernel
theorem dX3_endCredits_30 : decode cX3_endCredits 30 = .ok (.if_icmp .eq 18, 3) := by decide +kernel
theorem dX3_endCredits_33 : decode cX3_endCredits 33 = .ok (.aload_n 0, 1) := by decide +kernel
theorem dX3_endCredits_34 : decode cX3_endCredits 34 = .ok (.getfield 38, 3) := by decide +kernel
theorem dX3_endCredits_37 : decode cX3_endCredits 37 = .ok (.iload_n 3, 1) := by decide +kernel
theorem dX3_endCredits_38 : decode cX3_endCredits 38 = .ok (.iload_n 2, 1) := by decide +kernel
theorem dX3_endCredits_39 : decode cX3_endCredits 39 = .ok (.invokevirtual 132, 3) := by decide +kernel
theorem dX3_endCredits_42 : decode cX3_endCredits 42 = .ok (.iinc 2 1, 3) := by decide +kernel
theorem dX3_endCredits_45 : decode cX3_endCredits 45 = .ok (.goto 53, 3) := by decide +kernel
theorem dX3_endCredits_48 : decode cX3_endCredits 48 = .ok (.aload_n 0, 1) := by decide +kernel
theorem dX3_endCredits_49 : decode cX3_endCredits 49 = .ok (.aload_n 0, 1) := by decide +kernel
theorem dX3_endCredits_50 : decode cX3_endCredits 50 = .ok (.getfield 38, 3) := by decide +kernel
theorem dX3_endCredits_53 : decode cX3_endCredits 53 = .ok (.getfield 135, 3) := by decide +kernel
theorem dX3_endCredits_56 : decode cX3_endCredits 56 = .ok (.iload_n 3, 1) := by decide +kernel
theorem dX3_endCredits_57 : decode cX3_endCredits 57 = .ok (.iaload, 1) := by decide +kernel
theorem dX3_endCredits_58 : decode cX3_endCredits 58 = .ok (.aload_n 0, 1) := by decide +kernel
theorem dX3_endCredits_59 : decode cX3_endCredits 59 = .ok (.getfield 38, 3) := by decide +kernel
theorem dX3_endCredits_62 : decode cX3_endCredits 62 = .ok (.getfield 138, 3) := by decide +kernel
theorem dX3_endCredits_65 : decode cX3_endCredits 65 = .ok (.iload_n 3, 1) := by decide +kernel
theorem dX3_endCredits_66 : decode cX3_endCredits 66 = .ok (.iaload, 1) := by decide +kernel
theorem dX3_endCredits_67 : decode cX3_endCredits 67 = .ok (.invokevirtual 141, 3) := by decide +kernel
theorem dX3_endCredits_70 : decode cX3_endCredits 70 = .ok (.istore 4, 2) := by decide +kernel
theorem dX3_endCredits_72 : decode cX3_endCredits 72 = .ok (.iload 4, 2) := by decide +kernel
theorem dX3_endCredits_74 : decode cX3_endCredits 74 = .ok (.ifCond .le 24, 3) := by decide +kernel
theorem dX3_endCredits_77 : decode cX3_endCredits 77 = .ok (.iinc 1 1, 3) := by decide +kernel
theorem dX3_endCredits_80 : decode cX3_endCredits 80 = .ok (.aload_n 0, 1) := by decide +kernel
theorem dX3_endCredits_81 : decode cX3_endCredits 81 = .ok (.aload_n 0, 1) := by decide +kernel
theorem dX3_endCredits_82 : decode cX3_endCredits 82 = .ok (.getfield 38, 3) := by decide +kernel
theorem dX3_endCredits_85 : decode cX3_endCredits 85 = .ok (.getfield 135, 3) := by decide +kernel
theorem dX3_endCredits_88 : decode cX3_endCredits 88 = .ok (.iload_n 3, 1) := by decide +kernel
theorem dX3_endCredits_89 : decode cX3_endCredits 89 = .ok (.iaload, 1) := by decide +kernel
theorem dX3_endCredits_90 : decode cX3_endCredits 90 = .ok (.iconst 2, 1) := by decide +kernel
theorem dX3_endCredits_91 : decode cX3_endCredits 91 = .ok (.iload 4, 2) := by decide +kernel
theorem dX3_endCredits_93 : decode cX3_endCredits 93 = .ok (.imul, 1) := by decide +kernel
theorem dX3_endCredits_94 : decode cX3_endCredits 94 = .ok (.invokevirtual 144, 3) := by decide +kernel
theorem dX3_endCredits_97 : decode cX3_endCredits 97 = .ok (.pop, 1) := by decide +kernel
theorem dX3_endCredits_98 : decode cX3_endCredits 98 = .ok (.iinc 3 1, 3) := by decide +kernel
theorem dX3_endCredits_101 : decode cX3_endCredits 101 = .ok (.goto (-95), 3) := by decide +kernel
theorem dX3_endCredits_104 : decode cX3_endCredits 104 = .ok (.aload_n 0, 1) := by decide +kernel
theorem dX3_endCredits_105 : decode cX3_endCredits 105 = .ok (.getfield 38, 3) := by decide +kernel
theorem dX3_endCredits_108 : decode cX3_endCredits 108 = .ok (.iload_n 2, 1) := by decide +kernel
theorem dX3_endCredits_109 : decode cX3_endCredits 109 = .ok (.putfield 126, 3) := by decide +kernel
theorem dX3_endCredits_112 : decode cX3_endCredits 112 = .ok (.iload_n 1, 1) := by decide +kernel
theorem dX3_endCredits_113 : decode cX3_endCredits 113 = .ok (.ireturn, 1) := by decide +kernel
set_option maxRecDepth 20000 in
theorem ggX3_payFor_X7_isTown : GoodIn wsX3_payFor wsX7_isTown := goodIn_r _ [14] (by decide +kernel) (by decide +kernel)
set_option maxRecDepth 20000 in
theorem gX3_payFor_X7_isTown_n65 : GoodIn wsX3_payFor (wsX7_isTown) := ggX3_payFor_X7_isTown
theorem dX3_payFor_0 : decode cX3_payFor 0 = .ok (.iload_n 1, 1) := by decide +kernel
theorem dX3_payFor_1 : decode cX3_payFor 1 = .ok (.invokestatic 65, 3) := by decide +kernel
theorem dX3_payFor_4 : decode cX3_payFor 4 = .ok (.ifCond .ne 5, 3) := by decide +kernel
theorem dX3_payFor_7 : decode cX3_payFor 7 = .ok (.iconst 0, 1) := by decide +kernel
theorem dX3_payFor_8 : decode cX3_payFor 8 = .ok (.ireturn, 1) := by decide +kernel
theorem dX3_payFor_9 : decode cX3_payFor 9 = .ok (.aload_n 0, 1) := by decide +kernel
theorem dX3_payFor_10 : decode cX3_payFor 10 = .ok (.getfield 15, 3) := by decide +kernel
theorem dX3_payFor_13 : decode cX3_payFor 13 = .ok (.iload_n 1, 1) := by decide +kernel
theorem dX3_payFor_14 : decode cX3_payFor 14 = .ok (.iaload, 1) := by decide +kernel
theorem dX3_payFor_15 : decode cX3_payFor 15 = .ok (.iload_n 2, 1) := by decide +kernel
theorem dX3_payFor_16 : decode cX3_payFor 16 = .ok (.invokestatic 104, 3) := by decide +kernel
theorem dX3_payFor_19 : decode cX3_payFor 19 = .ok (.istore_n 3, 1) := by decide +kernel
theorem dX3_payFor_20 : decode cX3_payFor 20 = .ok (.iload_n 2, 1) := by decide +kernel
theorem dX3_payFor_21 : decode cX3_payFor 21 = .ok (.iload_n 3, 1) := by decide +kernel
theorem dX3_payFor_22 : decode cX3_payFor 22 = .ok (.isub, 1) := by decide +kernel
theorem dX3_payFor_23 : decode cX3_payFor 23 = .ok (.istore 4, 2) := by decide +kernel
theorem dX3_payFor_25 : decode cX3_payFor 25 = .ok (.aload_n 0, 1) := by decide +kernel
theorem dX3_payFor_26 : decode cX3_payFor 26 = .ok (.getfield 15, 3) := by decide +kernel
theorem dX3_payFor_29 : decode cX3_payFor 29 = .ok (.iload_n 1, 1) := by decide +kernel
theorem dX3_payFor_30 : decode cX3_payFor 30 = .ok (.dup2, 1) := by decide +kernel
theorem dX3_payFor_31 : decode cX3_payFor 31 = .ok (.iaload, 1) := by decide +kernel
theorem dX3_payFor_32 : decode cX3_payFor 32 = .ok (.iload_n 3, 1) := by decide +kernel
theorem dX3_payFor_33 : decode cX3_payFor 33 = .ok (.isub, 1) := by decide +kernel
theorem dX3_payFor_34 : decode cX3_payFor 34 = .ok (.iastore, 1) := by decide +kernel
theorem dX3_payFor_35 : decode cX3_payFor 35 = .ok (.aload_n 0, 1) := by decide +kernel
theorem dX3_payFor_36 : decode cX3_payFor 36 = .ok (.getfield 25, 3) := by decide +kernel
theorem dX3_payFor_39 : decode cX3_payFor 39 = .ok (.iload_n 1, 1) := by decide +kernel
theorem dX3_payFor_40 : decode cX3_payFor 40 = .ok (.dup2, 1) := by decide +kernel
theorem dX3_payFor_41 : decode cX3_payFor 41 = .ok (.iaload, 1) := by decide +kernel
theorem dX3_payFor_42 : decode cX3_payFor 42 = .ok (.iload 4, 2) := by decide +kernel
theorem dX3_payFor_44 : decode cX3_payFor 44 = .ok (.iadd, 1) := by decide +kernel
theorem dX3_payFor_45 : decode cX3_payFor 45 = .ok (.iastore, 1) := by decide +kernel
theorem dX3_payFor_46 : decode cX3_payFor 46 = .ok (.aload_n 0, 1) := by decide +kernel
theorem dX3_payFor_47 : decode cX3_payFor 47 = .ok (.getfield 45, 3) := by decide +kernel
theorem dX3_payFor_50 : decode cX3_payFor 50 = .ok (.dup, 1) := by decide +kernel
theorem dX3_payFor_51 : decode cX3_payFor 51 = .ok (.getfield 84, 3) := by decide +kernel
theorem dX3_payFor_54 : decode cX3_payFor 54 = .ok (.iload_n 3, 1) := by decide +kernel
theorem dX3_payFor_55 : decode cX3_payFor 55 = .ok (.iadd, 1) := by decide +kernel
theorem dX3_payFor_56 : decode cX3_payFor 56 = .ok (.putfield 84, 3) := by decide +kernel
theorem dX3_payFor_59 : decode cX3_payFor 59 = .ok (.aload_n 0, 1) := by decide +kernel
theorem dX3_payFor_60 : decode cX3_payFor 60 = .ok (.getfield 45, 3) := by decide +kernel
theorem dX3_payFor_63 : decode cX3_payFor 63 = .ok (.dup, 1) := by decide +kernel
theorem dX3_payFor_64 : decode cX3_payFor 64 = .ok (.getfield 147, 3) := by decide +kernel
theorem dX3_payFor_67 : decode cX3_payFor 67 = .ok (.iconst 2, 1) := by decide +kernel
theorem dX3_payFor_68 : decode cX3_payFor 68 = .ok (.iload 4, 2) := by decide +kernel
theorem dX3_payFor_70 : decode cX3_payFor 70 = .ok (.imul, 1) := by decide +kernel
theorem dX3_payFor_71 : decode cX3_payFor 71 = .ok (.iadd, 1) := by decide +kernel
theorem dX3_payFor_72 : decode cX3_payFor 72 = .ok (.putfield 147, 3) := by decide +kernel
theorem dX3_payFor_75 : decode cX3_payFor 75 = .ok (.aload_n 0, 1) := by decide +kernel
theorem dX3_payFor_76 : decode cX3_payFor 76 = .ok (.getfield 45, 3) := by decide +kernel
theorem dX3_payFor_79 : decode cX3_payFor 79 = .ok (.dup, 1) := by decide +kernel
theorem dX3_payFor_80 : decode cX3_payFor 80 = .ok (.getfield 150, 3) := by decide +kernel
theorem dX3_payFor_83 : decode cX3_payFor 83 = .ok (.iconst 1, 1) := by decide +kernel
theorem dX3_payFor_84 : decode cX3_payFor 84 = .ok (.iadd, 1) := by decide +kernel
theorem dX3_payFor_85 : decode cX3_payFor 85 = .ok (.putfield 150, 3) := by decide +kernel
theorem dX3_payFor_88 : decode cX3_payFor 88 = .ok (.iload 4, 2) := by decide +kernel
theorem dX3_payFor_90 : decode cX3_payFor 90 = .ok (.ifCond .ne 16, 3) := by decide +kernel
theorem dX3_payFor_93 : decode cX3_payFor 93 = .ok (.aload_n 0, 1) := by decide +kernel
theorem dX3_payFor_94 : decode cX3_payFor 94 = .ok (.getfield 45, 3) := by decide +kernel
theorem dX3_payFor_97 : decode cX3_payFor 97 = .ok (.dup, 1) := by decide +kernel
theorem dX3_payFor_98 : decode cX3_payFor 98 = .ok (.getfield 153, 3) := by decide +kernel
theorem dX3_payFor_101 : decode cX3_payFor 101 = .ok (.iconst 1, 1) := by decide +kernel
theorem dX3_payFor_102 : decode cX3_payFor 102 = .ok (.iadd, 1) := by decide +kernel
theorem dX3_payFor_103 : decode cX3_payFor 103 = .ok (.putfield 153, 3) := by decide +kernel
theorem dX3_payFor_106 : decode cX3_payFor 106 = .ok (.iload 4, 2) := by decide +kernel
theorem dX3_payFor_108 : decode cX3_payFor 108 = .ok (.ireturn, 1) := by decide +kernel
set_option maxRecDepth 20000 in
theorem ggX3_letHail_X7_isTown : GoodIn wsX3_letHail wsX7_isTown := goodIn_r _ [13] (by decide +kernel) (by decide +kernel)
set_option maxRecDepth 20000 in
theorem gX3_letHail_X7_isTown_n65 : GoodIn wsX3_letHail (wsX7_isTown) := ggX3_letHail_X7_isTown
theorem dX3_letHail_0 : decode cX3_letHail 0 = .ok (.iload_n 1, 1) := by decide +kernel
theorem dX3_letHail_1 : decode cX3_letHail 1 = .ok (.invokestatic 65, 3) := by decide +kernel
theorem dX3_letHail_4 : decode cX3_letHail 4 = .ok (.ifCond .ne 4, 3) := by decide +kernel
theorem dX3_letHail_7 : decode cX3_letHail 7 = .ok (.return_, 1) := by decide +kernel
theorem dX3_letHail_8 : decode cX3_letHail 8 = .ok (.aload_n 0, 1) := by decide +kernel
theorem dX3_letHail_9 : decode cX3_letHail 9 = .ok (.getfield 25, 3) := by decide +kernel
theorem dX3_letHail_12 : decode cX3_letHail 12 = .ok (.iload_n 1, 1) := by decide +kernel
theorem dX3_letHail_13 : decode cX3_letHail 13 = .ok (.iaload, 1) := by decide +kernel
theorem dX3_letHail_14 : decode cX3_letHail 14 = .ok (.iconst 5, 1) := by decide +kernel
theorem dX3_letHail_15 : decode cX3_letHail 15 = .ok (.iadd, 1) := by decide +kernel
theorem dX3_letHail_16 : decode cX3_letHail 16 = .ok (.iconst 1, 1) := by decide +kernel
theorem dX3_letHail_17 : decode cX3_letHail 17 = .ok (.isub, 1) := by decide +kernel
theorem dX3_letHail_18 : decode cX3_letHail 18 = .ok (.iconst 5, 1) := by decide +kernel
theorem dX3_letHail_19 : decode cX3_letHail 19 = .ok (.idiv, 1) := by decide +kernel
theorem dX3_letHail_20 : decode cX3_letHail 20 = .ok (.istore_n 2, 1) := by decide +kernel
theorem dX3_letHail_21 : decode cX3_letHail 21 = .ok (.iload_n 2, 1) := by decide +kernel
theorem dX3_letHail_22 : decode cX3_letHail 22 = .ok (.aload_n 0, 1) := by decide +kernel
theorem dX3_letHail_23 : decode cX3_letHail 23 = .ok (.getfield 22, 3) := by decide +kernel
theorem dX3_letHail_26 : decode cX3_letHail 26 = .ok (.iload_n 1, 1) := by decide +kernel
theorem dX3_letHail_27 : decode cX3_letHail 27 = .ok (.iaload, 1) := by decide +kernel
theorem dX3_letHail_28 : decode cX3_letHail 28 = .ok (.invokestatic 104, 3) := by decide +kernel
theorem dX3_letHail_31 : decode cX3_letHail 31 = .ok (.istore_n 3, 1) := by decide +kernel
theorem dX3_letHail_32 : decode cX3_letHail 32 = .ok (.iload_n 2, 1) := by decide +kernel
theorem dX3_letHail_33 : decode cX3_letHail 33 = .ok (.iload_n 3, 1) := by decide +kernel
theorem dX3_letHail_34 : decode cX3_letHail 34 = .ok (.isub, 1) := by decide +kernel
theorem dX3_letHail_35 : decode cX3_letHail 35 = .ok (.aload_n 0, 1) := by decide +kernel
theorem dX3_letHail_36 : decode cX3_letHail 36 = .ok (.getfield 15, 3) := by decide +kernel
theorem dX3_letHail_39 : decode cX3_letHail 39 = .ok (.iload_n 1, 1) := by decide +kernel
theorem dX3_letHail_40 : decode cX3_letHail 40 = .ok (.iaload, 1) := by decide +kernel
theorem dX3_letHail_41 : decode cX3_letHail 41 = .ok (.invokestatic 104, 3) := by decide +kernel
theorem dX3_letHail_44 : decode cX3_letHail 44 = .ok (.istore 4, 2) := by decide +kernel
theorem dX3_letHail_46 : decode cX3_letHail 46 = .ok (.aload_n 0, 1) := by decide +kernel
theorem dX3_letHail_47 : decode cX3_letHail 47 = .ok (.getfield 22, 3) := by decide +kernel
theorem dX3_letHail_50 : decode cX3_letHail 50 = .ok (.iload_n 1, 1) := by decide +kernel
theorem dX3_letHail_51 : decode cX3_letHail 51 = .ok (.dup2, 1) := by decide +kernel
theorem dX3_letHail_52 : decode cX3_letHail 52 = .ok (.iaload, 1) := by decide +kernel
theorem dX3_letHail_53 : decode cX3_letHail 53 = .ok (.iload_n 3, 1) := by decide +kernel
theorem dX3_letHail_54 : decode cX3_letHail 54 = .ok (.isub, 1) := by decide +kernel
theorem dX3_letHail_55 : decode cX3_letHail 55 = .ok (.iastore, 1) := by decide +kernel
theorem dX3_letHail_56 : decode cX3_letHail 56 = .ok (.aload_n 0, 1) := by decide +kernel
theorem dX3_letHail_57 : decode cX3_letHail 57 = .ok (.getfield 15, 3) := by decide +kernel
theorem dX3_letHail_60 : decode cX3_letHail 60 = .ok (.iload_n 1, 1) := by decide +kernel
theorem dX3_letHail_61 : decode cX3_letHail 61 = .ok (.dup2, 1) := by decide +kernel
theorem dX3_letHail_62 : decode cX3_letHail 62 = .ok (.iaload, 1) := by decide +kernel
theorem dX3_letHail_63 : decode cX3_letHail 63 = .ok (.iload 4, 2) := by decide +kernel
theorem dX3_letHail_65 : decode cX3_letHail 65 = .ok (.isub, 1) := by decide +kernel
theorem dX3_letHail_66 : decode cX3_letHail 66 = .ok (.iastore, 1) := by decide +kernel
theorem dX3_letHail_67 : decode cX3_letHail 67 = .ok (.aload_n 0, 1) := by decide +kernel
theorem dX3_letHail_68 : decode cX3_letHail 68 = .ok (.getfield 25, 3) := by decide +kernel
theorem dX3_letHail_71 : decode cX3_letHail 71 = .ok (.iload_n 1, 1) := by decide +kernel
theorem dX3_letHail_72 : decode cX3_letHail 72 = .ok (.dup2, 1) := by decide +kernel
theorem dX3_letHail_73 : decode cX3_letHail 73 = .ok (.iaload, 1) := by decide +kernel
theorem dX3_letHail_74 : decode cX3_letHail 74 = .ok (.iconst 1, 1) := by decide +kernel
theorem dX3_letHail_75 : decode cX3_letHail 75 = .ok (.isub, 1) := by decide +kernel
theorem dX3_letHail_76 : decode cX3_letHail 76 = .ok (.iastore, 1) := by decide +kernel
theorem dX3_letHail_77 : decode cX3_letHail 77 = .ok (.aload_n 0, 1) := by decide +kernel
theorem dX3_letHail_78 : decode cX3_letHail 78 = .ok (.getfield 45, 3) := by decide +kernel
theorem dX3_letHail_81 : decode cX3_letHail 81 = .ok (.dup, 1) := by decide +kernel
theorem dX3_letHail_82 : decode cX3_letHail 82 = .ok (.getfield 156, 3) := by decide +kernel
theorem dX3_letHail_85 : decode cX3_letHail 85 = .ok (.iload_n 3, 1) := by decide +kernel
theorem dX3_letHail_86 : decode cX3_letHail 86 = .ok (.iadd, 1) := by decide +kernel
theorem dX3_letHail_87 : decode cX3_letHail 87 = .ok (.putfield 156, 3) := by decide +kernel
theorem dX3_letHail_90 : decode cX3_letHail 90 = .ok (.aload_n 0, 1) := by decide +kernel
theorem dX3_letHail_91 : decode cX3_letHail 91 = .ok (.getfield 45, 3) := by decide +kernel
theorem dX3_letHail_94 : decode cX3_letHail 94 = .ok (.dup, 1) := by decide +kernel
theorem dX3_letHail_95 : decode cX3_letHail 95 = .ok (.getfield 90, 3) := by decide +kernel
theorem dX3_letHail_98 : decode cX3_letHail 98 = .ok (.iload 4, 2) := by decide +kernel
theorem dX3_letHail_100 : decode cX3_letHail 100 = .ok (.iadd, 1) := by decide +kernel
theorem dX3_letHail_101 : decode cX3_letHail 101 = .ok (.putfield 90, 3) := by decide +kernel
theorem dX3_letHail_104 : decode cX3_letHail 104 = .ok (.return_, 1) := by decide +kernel
