set_option maxRecDepth 20000 in
theorem ggL_some_X8_next : GoodIn wsL_some wsX8_next := goodIn_r _ [9, 10, 11, 12] (by decide +kernel) (by decide +kernel)
set_option maxRecDepth 20000 in
theorem gL_some_X8_next : GoodIn wsL_some (wsV RL 23 RX8 yX8_next wsX8_next) := goodIn_app (goodIn_of _ (by decide +kernel)) ggL_some_X8_next
theorem dL_some_0 : decode cL_some 0 = .ok (.aload_n 0, 1) := by decide +kernel
theorem dL_some_1 : decode cL_some 1 = .ok (.bipush 25, 2) := by decide +kernel
theorem dL_some_3 : decode cL_some 3 = .ok (.invokevirtual 23, 3) := by decide +kernel
theorem dL_some_6 : decode cL_some 6 = .ok (.ifCond .ne 7, 3) := by decide +kernel
theorem dL_some_9 : decode cL_some 9 = .ok (.iload_n 1, 1) := by decide +kernel
theorem dL_some_10 : decode cL_some 10 = .ok (.goto 12, 3) := by decide +kernel
theorem dL_some_13 : decode cL_some 13 = .ok (.aload_n 0, 1) := by decide +kernel
theorem dL_some_14 : decode cL_some 14 = .ok (.iconst 1, 1) := by decide +kernel
theorem dL_some_15 : decode cL_some 15 = .ok (.iload_n 1, 1) := by decide +kernel
theorem dL_some_16 : decode cL_some 16 = .ok (.invokestatic 29, 3) := by decide +kernel
theorem dL_some_19 : decode cL_some 19 = .ok (.invokevirtual 23, 3) := by decide +kernel
theorem dL_some_22 : decode cL_some 22 = .ok (.ireturn, 1) := by decide +kernel
