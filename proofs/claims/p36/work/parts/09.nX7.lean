theorem dX7_init_0 : decode cX7_init 0 = .ok (.aload_n 0, 1) := by decide +kernel
theorem dX7_init_1 : decode cX7_init 1 = .ok (.invokespecial 1, 3) := by decide +kernel
theorem dX7_init_4 : decode cX7_init 4 = .ok (.aload_n 0, 1) := by decide +kernel
theorem dX7_init_5 : decode cX7_init 5 = .ok (.new 7, 3) := by decide +kernel
theorem dX7_init_8 : decode cX7_init 8 = .ok (.dup, 1) := by decide +kernel
theorem dX7_init_9 : decode cX7_init 9 = .ok (.invokespecial 9, 3) := by decide +kernel
theorem dX7_init_12 : decode cX7_init 12 = .ok (.putfield 10, 3) := by decide +kernel
theorem dX7_init_15 : decode cX7_init 15 = .ok (.aload_n 0, 1) := by decide +kernel
theorem dX7_init_16 : decode cX7_init 16 = .ok (.new 7, 3) := by decide +kernel
theorem dX7_init_19 : decode cX7_init 19 = .ok (.dup, 1) := by decide +kernel
theorem dX7_init_20 : decode cX7_init 20 = .ok (.invokespecial 9, 3) := by decide +kernel
theorem dX7_init_23 : decode cX7_init 23 = .ok (.putfield 16, 3) := by decide +kernel
theorem dX7_init_26 : decode cX7_init 26 = .ok (.aload_n 0, 1) := by decide +kernel
theorem dX7_init_27 : decode cX7_init 27 = .ok (.new 7, 3) := by decide +kernel
theorem dX7_init_30 : decode cX7_init 30 = .ok (.dup, 1) := by decide +kernel
theorem dX7_init_31 : decode cX7_init 31 = .ok (.invokespecial 9, 3) := by decide +kernel
theorem dX7_init_34 : decode cX7_init 34 = .ok (.putfield 19, 3) := by decide +kernel
theorem dX7_init_37 : decode cX7_init 37 = .ok (.aload_n 0, 1) := by decide +kernel
theorem dX7_init_38 : decode cX7_init 38 = .ok (.new 7, 3) := by decide +kernel
theorem dX7_init_41 : decode cX7_init 41 = .ok (.dup, 1) := by decide +kernel
theorem dX7_init_42 : decode cX7_init 42 = .ok (.invokespecial 9, 3) := by decide +kernel
theorem dX7_init_45 : decode cX7_init 45 = .ok (.putfield 22, 3) := by decide +kernel
theorem dX7_init_48 : decode cX7_init 48 = .ok (.aload_n 0, 1) := by decide +kernel
theorem dX7_init_49 : decode cX7_init 49 = .ok (.iconst 0, 1) := by decide +kernel
theorem dX7_init_50 : decode cX7_init 50 = .ok (.putfield 25, 3) := by decide +kernel
theorem dX7_init_53 : decode cX7_init 53 = .ok (.aload_n 0, 1) := by decide +kernel
theorem dX7_init_54 : decode cX7_init 54 = .ok (.new 29, 3) := by decide +kernel
theorem dX7_init_57 : decode cX7_init 57 = .ok (.dup, 1) := by decide +kernel
theorem dX7_init_58 : decode cX7_init 58 = .ok (.invokespecial 31, 3) := by decide +kernel
theorem dX7_init_61 : decode cX7_init 61 = .ok (.putfield 32, 3) := by decide +kernel
theorem dX7_init_64 : decode cX7_init 64 = .ok (.aload_n 0, 1) := by decide +kernel
theorem dX7_init_65 : decode cX7_init 65 = .ok (.new 36, 3) := by decide +kernel
theorem dX7_init_68 : decode cX7_init 68 = .ok (.dup, 1) := by decide +kernel
theorem dX7_init_69 : decode cX7_init 69 = .ok (.invokespecial 38, 3) := by decide +kernel
theorem dX7_init_72 : decode cX7_init 72 = .ok (.putfield 39, 3) := by decide +kernel
theorem dX7_init_75 : decode cX7_init 75 = .ok (.aload_n 0, 1) := by decide +kernel
theorem dX7_init_76 : decode cX7_init 76 = .ok (.new 43, 3) := by decide +kernel
theorem dX7_init_79 : decode cX7_init 79 = .ok (.dup, 1) := by decide +kernel
theorem dX7_init_80 : decode cX7_init 80 = .ok (.invokespecial 45, 3) := by decide +kernel
theorem dX7_init_83 : decode cX7_init 83 = .ok (.putfield 46, 3) := by decide +kernel
theorem dX7_init_86 : decode cX7_init 86 = .ok (.aload_n 0, 1) := by decide +kernel
theorem dX7_init_87 : decode cX7_init 87 = .ok (.new 50, 3) := by decide +kernel
theorem dX7_init_90 : decode cX7_init 90 = .ok (.dup, 1) := by decide +kernel
theorem dX7_init_91 : decode cX7_init 91 = .ok (.invokespecial 52, 3) := by decide +kernel
theorem dX7_init_94 : decode cX7_init 94 = .ok (.putfield 53, 3) := by decide +kernel
theorem dX7_init_97 : decode cX7_init 97 = .ok (.aload_n 0, 1) := by decide +kernel
theorem dX7_init_98 : decode cX7_init 98 = .ok (.bipush (-3), 2) := by decide +kernel
theorem dX7_init_100 : decode cX7_init 100 = .ok (.putfield 57, 3) := by decide +kernel
theorem dX7_init_103 : decode cX7_init 103 = .ok (.return_, 1) := by decide +kernel
set_option maxRecDepth 20000 in
theorem ggX7_treaty_X7_change : GoodIn wsX7_treaty wsX7_change := goodIn_r _ [5, 6, 7, 8, 9, 10, 11, 12, 13, 14, 15, 16, 17, 18, 19, 20, 21, 22, 23, 24, 25, 26, 27, 28, 29, 30, 31, 32, 33, 34, 35, 36, 37, 38, 39, 40, 41, 42, 43, 44, 45, 46, 47, 48, 49, 50, 51, 52, 53, 54, 55, 56, 57, 58, 4, 59, 60, 61, 62, 63, 64, 65, 66, 67, 68, 69, 70, 71, 72, 73, 74, 75, 76, 77, 78, 79, 80, 81, 82, 83, 84, 85, 86, 87, 88, 89, 90, 91, 92, 93, 94, 95, 96, 97, 98, 99, 100, 101, 102, 103, 104, 105, 106, 107, 108, 109, 110, 111, 112, 113, 114, 115, 116, 117, 118, 119, 120, 121, 122, 123, 124, 125, 126, 127, 128, 129, 130, 131, 132, 133, 134, 135, 136, 137, 138, 139, 140, 141, 142, 143, 144, 145, 146, 147, 148, 149, 150, 151, 152, 153, 154, 155, 156, 157, 158, 159, 160, 161, 162, 163, 164, 165, 166, 167, 168, 169, 170, 171, 172, 173, 174, 175, 176, 177, 178, 179, 180, 181, 182, 183, 184, 185, 186, 187, 188, 189, 190, 191, 192, 193, 194, 195, 196, 197, 198, 199, 200, 201, 202, 203, 204, 205, 206, 207, 208, 209, 210, 211, 212, 213, 214, 215, 216, 217, 218, 219, 220, 221, 222, 223, 224, 225, 226, 227, 228, 229, 230, 231, 232, 233, 234, 235, 236, 237, 238, 239, 240, 241, 242, 243, 244, 245, 246, 247, 248, 249, 250, 251, 252, 253, 254, 255, 256, 257, 258] (by decide +kernel) (by decide +kernel)
set_option maxRecDepth 20000 in
theorem gX7_treaty_X7_change : GoodIn wsX7_treaty (wsV RX7 61 RX7 yX7_change wsX7_change) := goodIn_app (goodIn_of _ (by decide +kernel)) ggX7_treaty_X7_change
theorem dX7_treaty_0 : decode cX7_treaty 0 = .ok (.aload_n 0, 1) := by decide +kernel
theorem dX7_treaty_1 : decode cX7_treaty 1 = .ok (.iload_n 3, 1) := by decide +kernel
theorem dX7_treaty_2 : decode cX7_treaty 2 = .ok (.ifCond .eq 7, 3) := by decide +kernel
theorem dX7_treaty_5 : decode cX7_treaty 5 = .ok (.iconst 0, 1) := by decide +kernel
theorem dX7_treaty_6 : decode cX7_treaty 6 = .ok (.goto 4, 3) := by decide +kernel
theorem dX7_treaty_9 : decode cX7_treaty 9 = .ok (.iconst 1, 1) := by decide +kernel
theorem dX7_treaty_10 : decode cX7_treaty 10 = .ok (.iload_n 1, 1) := by decide +kernel
theorem dX7_treaty_11 : decode cX7_treaty 11 = .ok (.iload_n 2, 1) := by decide +kernel
theorem dX7_treaty_12 : decode cX7_treaty 12 = .ok (.iconst 0, 1) := by decide +kernel
theorem dX7_treaty_13 : decode cX7_treaty 13 = .ok (.invokevirtual 61, 3) := by decide +kernel
theorem dX7_treaty_16 : decode cX7_treaty 16 = .ok (.ireturn, 1) := by decide +kernel
set_option maxRecDepth 20000 in
theorem ggX7_credit_X7_change : GoodIn wsX7_credit wsX7_change := goodIn_r _ [5, 6, 7, 8, 9, 10, 11, 12, 13, 14, 15, 16, 17, 18, 19, 20, 21, 22, 23, 24, 25, 26, 27, 28, 29, 30, 31, 32, 33, 34, 35, 36, 37, 38, 39, 40, 41, 42, 43, 44, 45, 46, 47, 48, 49, 50, 51, 52, 53, 54, 55, 56, 57, 58, 4, 59, 60, 61, 62, 63, 64, 65, 66, 67, 68, 69, 70, 71, 72, 73, 74, 75, 76, 77, 78, 79, 80, 81, 82, 83, 84, 85, 86, 87, 88, 89, 90, 91, 92, 93, 94, 95, 96, 97, 98, 99, 100, 101, 102, 103, 104, 105, 106, 107, 108, 109, 110, 111, 112, 113, 114, 115, 116, 117, 118, 119, 120, 121, 122, 123, 124, 125, 126, 127, 128, 129, 130, 131, 132, 133, 134, 135, 136, 137, 138, 139, 140, 141, 142, 143, 144, 145, 146, 147, 148, 149, 150, 151, 152, 153, 154, 155, 156, 157, 158, 159, 160, 161, 162, 163, 164, 165, 166, 167, 168, 169, 170, 171, 172, 173, 174, 175, 176, 177, 178, 179, 180, 181, 182, 183, 184, 185, 186, 187, 188, 189, 190, 191, 192, 193, 194, 195, 196, 197, 198, 199, 200, 201, 202, 203, 204, 205, 206, 207, 208, 209, 210, 211, 212, 213, 214, 215, 216, 217, 218, 219, 220, 221, 222, 223, 224, 225, 226, 227, 228, 229, 230, 231, 232, 233, 234, 235, 236, 237, 238, 239, 240, 241, 242, 243, 244, 245, 246, 247, 248, 249, 250, 251, 252, 253, 254, 255, 256, 257, 258] (by decide +kernel) (by decide +kernel)
set_option maxRecDepth 20000 in
theorem gX7_credit_X7_change : GoodIn wsX7_credit (wsV RX7 61 RX7 yX7_change wsX7_change) := goodIn_app (goodIn_of _ (by decide +kernel)) ggX7_credit_X7_change
theorem dX7_credit_0 : decode cX7_credit 0 = .ok (.aload_n 0, 1) := by decide +kernel
theorem dX7_credit_1 : decode cX7_credit 1 = .ok (.iconst 2, 1) := by decide +kernel
theorem dX7_credit_2 : decode cX7_credit 2 = .ok (.iload_n 1, 1) := by decide +kernel
theorem dX7_credit_3 : decode cX7_credit 3 = .ok (.iload_n 2, 1) := by decide +kernel
theorem dX7_credit_4 : decode cX7_credit 4 = .ok (.iload_n 3, 1) := by decide +kernel
theorem dX7_credit_5 : decode cX7_credit 5 = .ok (.invokevirtual 61, 3) := by decide +kernel
theorem dX7_credit_8 : decode cX7_credit 8 = .ok (.ireturn, 1) := by decide +kernel
set_option maxRecDepth 20000 in
theorem ggX7_repay_X7_change : GoodIn wsX7_repay wsX7_change := goodIn_r _ [5, 6, 7, 8, 9, 10, 11, 12, 13, 14, 15, 16, 17, 18, 19, 20, 21, 22, 23, 24, 25, 26, 27, 28, 29, 30, 31, 32, 33, 34, 35, 36, 37, 38, 39, 40, 41, 42, 43, 44, 45, 46, 47, 48, 49, 50, 51, 52, 53, 54, 55, 56, 57, 58, 4, 59, 60, 61, 62, 63, 64, 65, 66, 67, 68, 69, 70, 71, 72, 73, 74, 75, 76, 77, 78, 79, 80, 81, 82, 83, 84, 85, 86, 87, 88, 89, 90, 91, 92, 93, 94, 95, 96, 97, 98, 99, 100, 101, 102, 103, 104, 105, 106, 107, 108, 109, 110, 111, 112, 113, 114, 115, 116, 117, 118, 119, 120, 121, 122, 123, 124, 125, 126, 127, 128, 129, 130, 131, 132, 133, 134, 135, 136, 137, 138, 139, 140, 141, 142, 143, 144, 145, 146, 147, 148, 149, 150, 151, 152, 153, 154, 155, 156, 157, 158, 159, 160, 161, 162, 163, 164, 165, 166, 167, 168, 169, 170, 171, 172, 173, 174, 175, 176, 177, 178, 179, 180, 181, 182, 183, 184, 185, 186, 187, 188, 189, 190, 191, 192, 193, 194, 195, 196, 197, 198, 199, 200, 201, 202, 203, 204, 205, 206, 207, 208, 209, 210, 211, 212, 213, 214, 215, 216, 217, 218, 219, 220, 221, 222, 223, 224, 225, 226, 227, 228, 229, 230, 231, 232, 233, 234, 235, 236, 237, 238, 239, 240, 241, 242, 243, 244, 245, 246, 247, 248, 249, 250, 251, 252, 253, 254, 255, 256, 257, 258] (by decide +kernel) (by decide +kernel)
set_option maxRecDepth 20000 in
theorem gX7_repay_X7_change : GoodIn wsX7_repay (wsV RX7 61 RX7 yX7_change wsX7_change) := goodIn_app (goodIn_of _ (by decide +kernel)) ggX7_repay_X7_change
theorem dX7_repay_0 : decode cX7_repay 0 = .ok (.aload_n 0, 1) := by decide +kernel
theorem dX7_repay_1 : decode cX7_repay 1 = .ok (.iconst 3, 1) := by decide +kernel
theorem dX7_repay_2 : decode cX7_repay 2 = .ok (.iload_n 1, 1) := by decide +kernel
theorem dX7_repay_3 : decode cX7_repay 3 = .ok (.iconst 0, 1) := by decide +kernel
theorem dX7_repay_4 : decode cX7_repay 4 = .ok (.iconst 0, 1) := by decide +kernel
theorem dX7_repay_5 : decode cX7_repay 5 = .ok (.invokevirtual 61, 3) := by decide +kernel
theorem dX7_repay_8 : decode cX7_repay 8 = .ok (.ireturn, 1) := by decide +kernel
set_option maxRecDepth 20000 in
theorem ggX7_rain_X7_change : GoodIn wsX7_rain wsX7_change := goodIn_r _ [5, 6, 7, 8, 9, 10, 11, 12, 13, 14, 15, 16, 17, 18, 19, 20, 21, 22, 23, 24, 25, 26, 27, 28, 29, 30, 31, 32, 33, 34, 35, 36, 37, 38, 39, 40, 41, 42, 43, 44, 45, 46, 47, 48, 49, 50, 51, 52, 53, 54, 55, 56, 57, 58, 4, 59, 60, 61, 62, 63, 64, 65, 66, 67, 68, 69, 70, 71, 72, 73, 74, 75, 76, 77, 78, 79, 80, 81, 82, 83, 84, 85, 86, 87, 88, 89, 90, 91, 92, 93, 94, 95, 96, 97, 98, 99, 100, 101, 102, 103, 104, 105, 106, 107, 108, 109, 110, 111, 112, 113, 114, 115, 116, 117, 118, 119, 120, 121, 122, 123, 124, 125, 126, 127, 128, 129, 130, 131, 132, 133, 134, 135, 136, 137, 138, 139, 140, 141, 142, 143, 144, 145, 146, 147, 148, 149, 150, 151, 152, 153, 154, 155, 156, 157, 158, 159, 160, 161, 162, 163, 164, 165, 166, 167, 168, 169, 170, 171, 172, 173, 174, 175, 176, 177, 178, 179, 180, 181, 182, 183, 184, 185, 186, 187, 188, 189, 190, 191, 192, 193, 194, 195, 196, 197, 198, 199, 200, 201, 202, 203, 204, 205, 206, 207, 208, 209, 210, 211, 212, 213, 214, 215, 216, 217, 218, 219, 220, 221, 222, 223, 224, 225, 226, 227, 228, 229, 230, 231, 232, 233, 234, 235, 236, 237, 238, 239, 240, 241, 242, 243, 244, 245, 246, 247, 248, 249, 250, 251, 252, 253, 254, 255, 256, 257, 258] (by decide +kernel) (by decide +kernel)
set_option maxRecDepth 20000 in
theorem gX7_rain_X7_change : GoodIn wsX7_rain (wsV RX7 61 RX7 yX7_change wsX7_change) := goodIn_app (goodIn_of _ (by decide +kernel)) ggX7_rain_X7_change
theorem dX7_rain_0 : decode cX7_rain 0 = .ok (.aload_n 0, 1) := by decide +kernel
theorem dX7_rain_1 : decode cX7_rain 1 = .ok (.iconst 4, 1) := by decide +kernel
theorem dX7_rain_2 : decode cX7_rain 2 = .ok (.iload_n 1, 1) := by decide +kernel
theorem dX7_rain_3 : decode cX7_rain 3 = .ok (.iload_n 2, 1) := by decide +kernel
theorem dX7_rain_4 : decode cX7_rain 4 = .ok (.iconst 0, 1) := by decide +kernel
theorem dX7_rain_5 : decode cX7_rain 5 = .ok (.invokevirtual 61, 3) := by decide +kernel
theorem dX7_rain_8 : decode cX7_rain 8 = .ok (.ireturn, 1) := by decide +kernel
set_option maxRecDepth 20000 in
theorem ggX7_bail_X7_change : GoodIn wsX7_bail wsX7_change := goodIn_r _ [5, 6, 7, 8, 9, 10, 11, 12, 13, 14, 15, 16, 17, 18, 19, 20, 21, 22, 23, 24, 25, 26, 27, 28, 29, 30, 31, 32, 33, 34, 35, 36, 37, 38, 39, 40, 41, 42, 43, 44, 45, 46, 47, 48, 49, 50, 51, 52, 53, 54, 55, 56, 57, 58, 4, 59, 60, 61, 62, 63, 64, 65, 66, 67, 68, 69, 70, 71, 72, 73, 74, 75, 76, 77, 78, 79, 80, 81, 82, 83, 84, 85, 86, 87, 88, 89, 90, 91, 92, 93, 94, 95, 96, 97, 98, 99, 100, 101, 102, 103, 104, 105, 106, 107, 108, 109, 110, 111, 112, 113, 114, 115, 116, 117, 118, 119, 120, 121, 122, 123, 124, 125, 126, 127, 128, 129, 130, 131, 132, 133, 134, 135, 136, 137, 138, 139, 140, 141, 142, 143, 144, 145, 146, 147, 148, 149, 150, 151, 152, 153, 154, 155, 156, 157, 158, 159, 160, 161, 162, 163, 164, 165, 166, 167, 168, 169, 170, 171, 172, 173, 174, 175, 176, 177, 178, 179, 180, 181, 182, 183, 184, 185, 186, 187, 188, 189, 190, 191, 192, 193, 194, 195, 196, 197, 198, 199, 200, 201, 202, 203, 204, 205, 206, 207, 208, 209, 210, 211, 212, 213, 214, 215, 216, 217, 218, 219, 220, 221, 222, 223, 224, 225, 226, 227, 228, 229, 230, 231, 232, 233, 234, 235, 236, 237, 238, 239, 240, 241, 242, 243, 244, 245, 246, 247, 248, 249, 250, 251, 252, 253, 254, 255, 256, 257, 258] (by decide +kernel) (by decide +kernel)
set_option maxRecDepth 20000 in
theorem gX7_bail_X7_change : GoodIn wsX7_bail (wsV RX7 61 RX7 yX7_change wsX7_change) := goodIn_app (goodIn_of _ (by decide +kernel)) ggX7_bail_X7_change
theorem dX7_bail_0 : decode cX7_bail 0 = .ok (.aload_n 0, 1) := by decide +kernel
theorem dX7_bail_1 : decode cX7_bail 1 = .ok (.iconst 5, 1) := by decide +kernel
theorem dX7_bail_2 : decode cX7_bail 2 = .ok (.iload_n 1, 1) := by decide +kernel
theorem dX7_bail_3 : decode cX7_bail 3 = .ok (.iload_n 2, 1) := by decide +kernel
theorem dX7_bail_4 : decode cX7_bail 4 = .ok (.iconst 0, 1) := by decide +kernel
theorem dX7_bail_5 : decode cX7_bail 5 = .ok (.invokevirtual 61, 3) := by decide +kernel
theorem dX7_bail_8 : decode cX7_bail 8 = .ok (.ireturn, 1) := by decide +kernel
set_option maxRecDepth 20000 in
theorem ggX7_buy_X7_change : GoodIn wsX7_buy wsX7_change := goodIn_r _ [5, 6, 7, 8, 9, 10, 11, 12, 13, 14, 15, 16, 17, 18, 19, 20, 21, 22, 23, 24, 25, 26, 27, 28, 29, 30, 31, 32, 33, 34, 35, 36, 37, 38, 39, 40, 41, 42, 43, 44, 45, 46, 47, 48, 49, 50, 51, 52, 53, 54, 55, 56, 57, 58, 4, 59, 60, 61, 62, 63, 64, 65, 66, 67, 68, 69, 70, 71, 72, 73, 74, 75, 76, 77, 78, 79, 80, 81, 82, 83, 84, 85, 86, 87, 88, 89, 90, 91, 92, 93, 94, 95, 96, 97, 98, 99, 100, 101, 102, 103, 104, 105, 106, 107, 108, 109, 110, 111, 112, 113, 114, 115, 116, 117, 118, 119, 120, 121, 122, 123, 124, 125, 126, 127, 128, 129, 130, 131, 132, 133, 134, 135, 136, 137, 138, 139, 140, 141, 142, 143, 144, 145, 146, 147, 148, 149, 150, 151, 152, 153, 154, 155, 156, 157, 158, 159, 160, 161, 162, 163, 164, 165, 166, 167, 168, 169, 170, 171, 172, 173, 174, 175, 176, 177, 178, 179, 180, 181, 182, 183, 184, 185, 186, 187, 188, 189, 190, 191, 192, 193, 194, 195, 196, 197, 198, 199, 200, 201, 202, 203, 204, 205, 206, 207, 208, 209, 210, 211, 212, 213, 214, 215, 216, 217, 218, 219, 220, 221, 222, 223, 224, 225, 226, 227, 228, 229, 230, 231, 232, 233, 234, 235, 236, 237, 238, 239, 240, 241, 242, 243, 244, 245, 246, 247, 248, 249, 250, 251, 252, 253, 254, 255, 256, 257, 258] (by decide +kernel) (by decide +kernel)
set_option maxRecDepth 20000 in
theorem gX7_buy_X7_change : GoodIn wsX7_buy (wsV RX7 61 RX7 yX7_change wsX7_change) := goodIn_app (goodIn_of _ (by decide +kernel)) ggX7_buy_X7_change
theorem dX7_buy_0 : decode cX7_buy 0 = .ok (.aload_n 0, 1) := by decide +kernel
theorem dX7_buy_1 : decode cX7_buy 1 = .ok (.bipush 6, 2) := by decide +kernel
theorem dX7_buy_3 : decode cX7_buy 3 = .ok (.iload_n 1, 1) := by decide +kernel
theorem dX7_buy_4 : decode cX7_buy 4 = .ok (.iconst 0, 1) := by decide +kernel
theorem dX7_buy_5 : decode cX7_buy 5 = .ok (.iconst 0, 1) := by decide +kernel
theorem dX7_buy_6 : decode cX7_buy 6 = .ok (.invokevirtual 61, 3) := by decide +kernel
theorem dX7_buy_9 : decode cX7_buy 9 = .ok (.ireturn, 1) := by decide +kernel
set_option maxRecDepth 20000 in
theorem ggX7_month_X7_change : GoodIn wsX7_month wsX7_change := goodIn_r _ [5, 6, 7, 8, 9, 10, 11, 12, 13, 14, 15, 16, 17, 18, 19, 20, 21, 22, 23, 24, 25, 26, 27, 28, 29, 30, 31, 32, 33, 34, 35, 36, 37, 38, 39, 40, 41, 42, 43, 44, 45, 46, 47, 48, 49, 50, 51, 52, 53, 54, 55, 56, 57, 58, 4, 59, 60, 61, 62, 63, 64, 65, 66, 67, 68, 69, 70, 71, 72, 73, 74, 75, 76, 77, 78, 79, 80, 81, 82, 83, 84, 85, 86, 87, 88, 89, 90, 91, 92, 93, 94, 95, 96, 97, 98, 99, 100, 101, 102, 103, 104, 105, 106, 107, 108, 109, 110, 111, 112, 113, 114, 115, 116, 117, 118, 119, 120, 121, 122, 123, 124, 125, 126, 127, 128, 129, 130, 131, 132, 133, 134, 135, 136, 137, 138, 139, 140, 141, 142, 143, 144, 145, 146, 147, 148, 149, 150, 151, 152, 153, 154, 155, 156, 157, 158, 159, 160, 161, 162, 163, 164, 165, 166, 167, 168, 169, 170, 171, 172, 173, 174, 175, 176, 177, 178, 179, 180, 181, 182, 183, 184, 185, 186, 187, 188, 189, 190, 191, 192, 193, 194, 195, 196, 197, 198, 199, 200, 201, 202, 203, 204, 205, 206, 207, 208, 209, 210, 211, 212, 213, 214, 215, 216, 217, 218, 219, 220, 221, 222, 223, 224, 225, 226, 227, 228, 229, 230, 231, 232, 233, 234, 235, 236, 237, 238, 239, 240, 241, 242, 243, 244, 245, 246, 247, 248, 249, 250, 251, 252, 253, 254, 255, 256, 257, 258] (by decide +kernel) (by decide +kernel)
set_option maxRecDepth 20000 in
theorem gX7_month_X7_change : GoodIn wsX7_month (wsV RX7 61 RX7 yX7_change wsX7_change) := goodIn_app (goodIn_of _ (by decide +kernel)) ggX7_month_X7_change
theorem dX7_month_0 : decode cX7_month 0 = .ok (.aload_n 0, 1) := by decide +kernel
theorem dX7_month_1 : decode cX7_month 1 = .ok (.bipush 7, 2) := by decide +kernel
theorem dX7_month_3 : decode cX7_month 3 = .ok (.iconst 0, 1) := by decide +kernel
theorem dX7_month_4 : decode cX7_month 4 = .ok (.iconst 0, 1) := by decide +kernel
theorem dX7_month_5 : decode cX7_month 5 = .ok (.iconst 0, 1) := by decide +kernel
theorem dX7_month_6 : decode cX7_month 6 = .ok (.invokevirtual 61, 3) := by decide +kernel
theorem dX7_month_9 : decode cX7_month 9 = .ok (.ireturn, 1) := by decide +kernel
set_option maxRecDepth 20000 in
theorem ggX7_townOf_X7_isTown : GoodIn wsX7_townOf wsX7_isTown := goodIn_r _ [7] (by decide +kernel) (by decide +kernel)
set_option maxRecDepth 20000 in
theorem gX7_townOf_X7_isTown : GoodIn wsX7_townOf (va_wsS RX7 65 yX7_isTown wsX7_isTown) := goodIn_app (goodIn_of _ (by decide +kernel)) ggX7_townOf_X7_isTown
set_option maxRecDepth 20000 in
theorem ggX7_townOf_X1_countOf : GoodIn wsX7_townOf wsX1_countOf := goodIn_r _ [12, 13, 14, 63, 64, 65, 66] (by decide +kernel) (by decide +kernel)
set_option maxRecDepth 20000 in
theorem gX7_townOf_X1_countOf : GoodIn wsX7_townOf (wsV RX7 73 RX1 yX1_countOf wsX1_countOf) := goodIn_app (goodIn_of _ (by decide +kernel)) ggX7_townOf_X1_countOf
set_option maxRecDepth 20000 in
theorem ggX7_townOf_X6_partnersOf : GoodIn wsX7_townOf wsX6_partnersOf := goodIn_r _ [19, 20, 5, 6, 7, 21, 22, 23, 24, 25, 26, 27, 67, 68] (by decide +kernel) (by decide +kernel)
set_option maxRecDepth 20000 in
theorem gX7_townOf_X6_partnersOf : GoodIn wsX7_townOf (wsV RX7 83 RX6 yX6_partnersOf wsX6_partnersOf) := goodIn_app (goodIn_of _ (by decide +kernel)) ggX7_townOf_X6_partnersOf
set_option maxRecDepth 20000 in
theorem ggX7_townOf_X6_ledToFrom : GoodIn wsX7_townOf wsX6_ledToFrom := goodIn_r _ [31, 32, 33, 34, 18, 35, 20, 21, 22, 23, 24, 25, 26, 27, 67, 68] (by decide +kernel) (by decide +kernel)
set_option maxRecDepth 20000 in
theorem gX7_townOf_X6_ledToFrom : GoodIn wsX7_townOf (wsV RX7 88 RX6 yX6_ledToFrom wsX6_ledToFrom) := goodIn_app (goodIn_of _ (by decide +kernel)) ggX7_townOf_X6_ledToFrom
set_option maxRecDepth 20000 in
theorem ggX7_townOf_X3_weatherOf : GoodIn wsX7_townOf wsX3_weatherOf := goodIn_r _ [40, 41, 42, 43, 44, 5, 6, 7, 55, 56, 57, 58, 59, 60, 61, 62] (by decide +kernel) (by decide +kernel)
set_option maxRecDepth 20000 in
theorem gX7_townOf_X3_weatherOf : GoodIn wsX7_townOf (wsV RX7 91 RX3 yX3_weatherOf wsX3_weatherOf) := goodIn_app (goodIn_of _ (by decide +kernel)) ggX7_townOf_X3_weatherOf
theorem dX7_townOf_0 : decode cX7_townOf 0 = .ok (.iload_n 1, 1) := by decide +kernel
theorem dX7_townOf_1 : decode cX7_townOf 1 = .ok (.invokestatic 65, 3) := by decide +kernel
theorem dX7_townOf_4 : decode cX7_townOf 4 = .ok (.ifCond .ne 5, 3) := by decide +kernel
theorem dX7_townOf_7 : decode cX7_townOf 7 = .ok (.iconst (-1), 1) := by decide +kernel
theorem dX7_townOf_8 : decode cX7_townOf 8 = .ok (.ireturn, 1) := by decide +kernel
theorem dX7_townOf_9 : decode cX7_townOf 9 = .ok (.iload_n 2, 1) := by decide +kernel
theorem dX7_townOf_10 : decode cX7_townOf 10 = .ok (.tableswitch 62 4 6 #[26, 38, 50], 26) := by decide +kernel
theorem dX7_townOf_36 : decode cX7_townOf 36 = .ok (.aload_n 0, 1) := by decide +kernel
theorem dX7_townOf_37 : decode cX7_townOf 37 = .ok (.getfield 10, 3) := by decide +kernel
theorem dX7_townOf_40 : decode cX7_townOf 40 = .ok (.getfield 69, 3) := by decide +kernel
theorem dX7_townOf_43 : decode cX7_townOf 43 = .ok (.iload_n 1, 1) := by decide +kernel
theorem dX7_townOf_44 : decode cX7_townOf 44 = .ok (.invokevirtual 73, 3) := by decide +kernel
theorem dX7_townOf_47 : decode cX7_townOf 47 = .ok (.ireturn, 1) := by decide +kernel
theorem dX7_townOf_48 : decode cX7_townOf 48 = .ok (.aload_n 0, 1) := by decide +kernel
theorem dX7_townOf_49 : decode cX7_townOf 49 = .ok (.getfield 10, 3) := by decide +kernel
theorem dX7_townOf_52 : decode cX7_townOf 52 = .ok (.getfield 79, 3) := by decide +kernel
theorem dX7_townOf_55 : decode cX7_townOf 55 = .ok (.iload_n 1, 1) := by decide +kernel
theorem dX7_townOf_56 : decode cX7_townOf 56 = .ok (.invokevirtual 83, 3) := by decide +kernel
theorem dX7_townOf_59 : decode cX7_townOf 59 = .ok (.ireturn, 1) := by decide +kernel
theorem dX7_townOf_60 : decode cX7_townOf 60 = .ok (.aload_n 0, 1) := by decide +kernel
theorem dX7_townOf_61 : decode cX7_townOf 61 = .ok (.getfield 10, 3) := by decide +kernel
theorem dX7_townOf_64 : decode cX7_townOf 64 = .ok (.getfield 79, 3) := by decide +kernel
theorem dX7_townOf_67 : decode cX7_townOf 67 = .ok (.iload_n 1, 1) := by decide +kernel
theorem dX7_townOf_68 : decode cX7_townOf 68 = .ok (.invokevirtual 88, 3) := by decide +kernel
theorem dX7_townOf_71 : decode cX7_townOf 71 = .ok (.ireturn, 1) := by decide +kernel
theorem dX7_townOf_72 : decode cX7_townOf 72 = .ok (.aload_n 0, 1) := by decide +kernel
theorem dX7_townOf_73 : decode cX7_townOf 73 = .ok (.getfield 10, 3) := by decide +kernel
theorem dX7_townOf_76 : decode cX7_townOf 76 = .ok (.iload_n 1, 1) := by decide +kernel
theorem dX7_townOf_77 : decode cX7_townOf 77 = .ok (.iload_n 2, 1) := by decide +kernel
theorem dX7_townOf_78 : decode cX7_townOf 78 = .ok (.invokevirtual 91, 3) := by decide +kernel
theorem dX7_townOf_81 : decode cX7_townOf 81 = .ok (.ireturn, 1) := by decide +kernel
set_option maxRecDepth 20000 in
theorem ggX7_creditOf_X1_isThere : GoodIn wsX7_creditOf wsX1_isThere := goodIn_r _ [11, 12, 31, 32, 33, 34] (by decide +kernel) (by decide +kernel)
set_option maxRecDepth 20000 in
theorem gX7_creditOf_X1_isThere : GoodIn wsX7_creditOf (wsV RX7 95 RX1 yX1_isThere wsX1_isThere) := goodIn_app (goodIn_of _ (by decide +kernel)) ggX7_creditOf_X1_isThere
theorem dX7_creditOf_0 : decode cX7_creditOf 0 = .ok (.aload_n 0, 1) := by decide +kernel
theorem dX7_creditOf_1 : decode cX7_creditOf 1 = .ok (.getfield 10, 3) := by decide +kernel
theorem dX7_creditOf_4 : decode cX7_creditOf 4 = .ok (.getfield 69, 3) := by decide +kernel
theorem dX7_creditOf_7 : decode cX7_creditOf 7 = .ok (.iload_n 1, 1) := by decide +kernel
theorem dX7_creditOf_8 : decode cX7_creditOf 8 = .ok (.invokevirtual 95, 3) := by decide +kernel
theorem dX7_creditOf_11 : decode cX7_creditOf 11 = .ok (.ifCond .ne 5, 3) := by decide +kernel
theorem dX7_creditOf_14 : decode cX7_creditOf 14 = .ok (.iconst (-1), 1) := by decide +kernel
theorem dX7_creditOf_15 : decode cX7_creditOf 15 = .ok (.ireturn, 1) := by decide +kernel
theorem dX7_creditOf_16 : decode cX7_creditOf 16 = .ok (.iload_n 2, 1) := by decide +kernel
theorem dX7_creditOf_17 : decode cX7_creditOf 17 = .ok (.tableswitch 91 0 3 #[31, 44, 57, 70], 31) := by decide +kernel
theorem dX7_creditOf_48 : decode cX7_creditOf 48 = .ok (.aload_n 0, 1) := by decide +kernel
theorem dX7_creditOf_49 : decode cX7_creditOf 49 = .ok (.getfield 10, 3) := by decide +kernel
theorem dX7_creditOf_52 : decode cX7_creditOf 52 = .ok (.getfield 69, 3) := by decide +kernel
theorem dX7_creditOf_55 : decode cX7_creditOf 55 = .ok (.getfield 98, 3) := by decide +kernel
theorem dX7_creditOf_58 : decode cX7_creditOf 58 = .ok (.iload_n 1, 1) := by decide +kernel
theorem dX7_creditOf_59 : decode cX7_creditOf 59 = .ok (.iaload, 1) := by decide +kernel
theorem dX7_creditOf_60 : decode cX7_creditOf 60 = .ok (.ireturn, 1) := by decide +kernel
theorem dX7_creditOf_61 : decode cX7_creditOf 61 = .ok (.aload_n 0, 1) := by decide +kernel
theorem dX7_creditOf_62 : decode cX7_creditOf 62 = .ok (.getfield 10, 3) := by decide +kernel
theorem dX7_creditOf_65 : decode cX7_creditOf 65 = .ok (.getfield 69, 3) := by decide +kernel
theorem dX7_creditOf_68 : decode cX7_creditOf 68 = .ok (.getfield 102, 3) := by decide +kernel
theorem dX7_creditOf_71 : decode cX7_creditOf 71 = .ok (.iload_n 1, 1) := by decide +kernel
theorem dX7_creditOf_72 : decode cX7_creditOf 72 = .ok (.iaload, 1) := by decide +kernel
theorem dX7_creditOf_73 : decode cX7_creditOf 73 = .ok (.ireturn, 1) := by decide +kernel
theorem dX7_creditOf_74 : decode cX7_creditOf 74 = .ok (.aload_n 0, 1) := by decide +kernel
theorem dX7_creditOf_75 : decode cX7_creditOf 75 = .ok (.getfield 10, 3) := by decide +kernel
theorem dX7_creditOf_78 : decode cX7_creditOf 78 = .ok (.getfield 69, 3) := by decide +kernel
theorem dX7_creditOf_81 : decode cX7_creditOf 81 = .ok (.getfield 105, 3) := by decide +kernel
theorem dX7_creditOf_84 : decode cX7_creditOf 84 = .ok (.iload_n 1, 1) := by decide +kernel
theorem dX7_creditOf_85 : decode cX7_creditOf 85 = .ok (.iaload, 1) := by decide +kernel
theorem dX7_creditOf_86 : decode cX7_creditOf 86 = .ok (.ireturn, 1) := by decide +kernel
theorem dX7_creditOf_87 : decode cX7_creditOf 87 = .ok (.aload_n 0, 1) := by decide +kernel
theorem dX7_creditOf_88 : decode cX7_creditOf 88 = .ok (.getfield 10, 3) := by decide +kernel
theorem dX7_creditOf_91 : decode cX7_creditOf 91 = .ok (.getfield 69, 3) := by decide +kernel
theorem dX7_creditOf_94 : decode cX7_creditOf 94 = .ok (.getfield 105, 3) := by decide +kernel
theorem dX7_creditOf_97 : decode cX7_creditOf 97 = .ok (.iload_n 1, 1) := by decide +kernel
theorem dX7_creditOf_98 : decode cX7_creditOf 98 = .ok (.iaload, 1) := by decide +kernel
theorem dX7_creditOf_99 : decode cX7_creditOf 99 = .ok (.aload_n 0, 1) := by decide +kernel
theorem dX7_creditOf_100 : decode cX7_creditOf 100 = .ok (.getfield 10, 3) := by decide +kernel
theorem dX7_creditOf_103 : decode cX7_creditOf 103 = .ok (.getfield 108, 3) := by decide +kernel
theorem dX7_creditOf_106 : decode cX7_creditOf 106 = .ok (.isub, 1) := by decide +kernel
theorem dX7_creditOf_107 : decode cX7_creditOf 107 = .ok (.ireturn, 1) := by decide +kernel
theorem dX7_creditOf_108 : decode cX7_creditOf 108 = .ok (.bipush (-2), 2) := by decide +kernel
theorem dX7_creditOf_110 : decode cX7_creditOf 110 = .ok (.ireturn, 1) := by decide +kernel
set_option maxRecDepth 20000 in
theorem ggX7_owes_X7_isTown : GoodIn wsX7_owes wsX7_isTown := goodIn_r _ [6] (by decide +kernel) (by decide +kernel)
set_option maxRecDepth 20000 in
theorem gX7_owes_X7_isTown : GoodIn wsX7_owes (va_wsS RX7 65 yX7_isTown wsX7_isTown) := goodIn_app (goodIn_of _ (by decide +kernel)) ggX7_owes_X7_isTown
set_option maxRecDepth 20000 in
theorem ggX7_owes_X1_owedBy : GoodIn wsX7_owes wsX1_owedBy := goodIn_r _ [11, 12, 13, 14, 33, 34, 35, 36] (by decide +kernel) (by decide +kernel)
set_option maxRecDepth 20000 in
theorem gX7_owes_X1_owedBy : GoodIn wsX7_owes (wsV RX7 111 RX1 yX1_owedBy wsX1_owedBy) := goodIn_app (goodIn_of _ (by decide +kernel)) ggX7_owes_X1_owedBy
theorem dX7_owes_0 : decode cX7_owes 0 = .ok (.iload_n 1, 1) := by decide +kernel
theorem dX7_owes_1 : decode cX7_owes 1 = .ok (.invokestatic 65, 3) := by decide +kernel
theorem dX7_owes_4 : decode cX7_owes 4 = .ok (.ifCond .eq 17, 3) := by decide +kernel
theorem dX7_owes_7 : decode cX7_owes 7 = .ok (.aload_n 0, 1) := by decide +kernel
theorem dX7_owes_8 : decode cX7_owes 8 = .ok (.getfield 10, 3) := by decide +kernel
theorem dX7_owes_11 : decode cX7_owes 11 = .ok (.getfield 69, 3) := by decide +kernel
theorem dX7_owes_14 : decode cX7_owes 14 = .ok (.iload_n 1, 1) := by decide +kernel
theorem dX7_owes_15 : decode cX7_owes 15 = .ok (.invokevirtual 111, 3) := by decide +kernel
theorem dX7_owes_18 : decode cX7_owes 18 = .ok (.goto 4, 3) := by decide +kernel
theorem dX7_owes_21 : decode cX7_owes 21 = .ok (.iconst (-1), 1) := by decide +kernel
theorem dX7_owes_22 : decode cX7_owes 22 = .ok (.ireturn, 1) := by decide +kernel
set_option maxRecDepth 20000 in
theorem ggX7_owesAgain_X7_isTown : GoodIn wsX7_owesAgain wsX7_isTown := goodIn_r _ [5] (by decide +kernel) (by decide +kernel)
set_option maxRecDepth 20000 in
theorem gX7_owesAgain_X7_isTown : GoodIn wsX7_owesAgain (va_wsS RX7 65 yX7_isTown wsX7_isTown) := goodIn_app (goodIn_of _ (by decide +kernel)) ggX7_owesAgain_X7_isTown
set_option maxRecDepth 20000 in
theorem ggX7_owesAgain_X3_owedByMonths : GoodIn wsX7_owesAgain wsX3_owedByMonths := goodIn_r _ [10, 11, 12, 13, 14, 15, 16, 17, 18, 19, 20, 21, 32, 33, 34, 35, 36, 37, 38, 39, 40, 41, 42, 43] (by decide +kernel) (by decide +kernel)
set_option maxRecDepth 20000 in
theorem gX7_owesAgain_X3_owedByMonths : GoodIn wsX7_owesAgain (wsV RX7 114 RX3 yX3_owedByMonths wsX3_owedByMonths) := goodIn_app (goodIn_of _ (by decide +kernel)) ggX7_owesAgain_X3_owedByMonths
theorem dX7_owesAgain_0 : decode cX7_owesAgain 0 = .ok (.iload_n 1, 1) := by decide +kernel
theorem dX7_owesAgain_1 : decode cX7_owesAgain 1 = .ok (.invokestatic 65, 3) := by decide +kernel
theorem dX7_owesAgain_4 : decode cX7_owesAgain 4 = .ok (.ifCond .eq 14, 3) := by decide +kernel
theorem dX7_owesAgain_7 : decode cX7_owesAgain 7 = .ok (.aload_n 0, 1) := by decide +kernel
theorem dX7_owesAgain_8 : decode cX7_owesAgain 8 = .ok (.getfield 10, 3) := by decide +kernel
theorem dX7_owesAgain_11 : decode cX7_owesAgain 11 = .ok (.iload_n 1, 1) := by decide +kernel
theorem dX7_owesAgain_12 : decode cX7_owesAgain 12 = .ok (.invokevirtual 114, 3) := by decide +kernel
theorem dX7_owesAgain_15 : decode cX7_owesAgain 15 = .ok (.goto 4, 3) := by decide +kernel
theorem dX7_owesAgain_18 : decode cX7_owesAgain 18 = .ok (.iconst (-1), 1) := by decide +kernel
theorem dX7_owesAgain_19 : decode cX7_owesAgain 19 = .ok (.ireturn, 1) := by decide +kernel
set_option maxRecDepth 20000 in
theorem ggX7_due_X1_owedIn : GoodIn wsX7_due wsX1_owedIn := goodIn_r _ [8, 9, 10, 11, 12, 31, 32, 33, 34] (by decide +kernel) (by decide +kernel)
set_option maxRecDepth 20000 in
theorem gX7_due_X1_owedIn : GoodIn wsX7_due (wsV RX7 117 RX1 yX1_owedIn wsX1_owedIn) := goodIn_app (goodIn_of _ (by decide +kernel)) ggX7_due_X1_owedIn
theorem dX7_due_0 : decode cX7_due 0 = .ok (.iload_n 1, 1) := by decide +kernel
theorem dX7_due_1 : decode cX7_due 1 = .ok (.ifCond .lt 9, 3) := by decide +kernel
theorem dX7_due_4 : decode cX7_due 4 = .ok (.iload_n 1, 1) := by decide +kernel
theorem dX7_due_5 : decode cX7_due 5 = .ok (.bipush 6, 2) := by decide +kernel
theorem dX7_due_7 : decode cX7_due 7 = .ok (.if_icmp .le 6, 3) := by decide +kernel
theorem dX7_due_10 : decode cX7_due 10 = .ok (.bipush (-2), 2) := by decide +kernel
theorem dX7_due_12 : decode cX7_due 12 = .ok (.ireturn, 1) := by decide +kernel
theorem dX7_due_13 : decode cX7_due 13 = .ok (.iconst 0, 1) := by decide +kernel
theorem dX7_due_14 : decode cX7_due 14 = .ok (.istore_n 2, 1) := by decide +kernel
theorem dX7_due_15 : decode cX7_due 15 = .ok (.iconst 0, 1) := by decide +kernel
theorem dX7_due_16 : decode cX7_due 16 = .ok (.istore_n 3, 1) := by decide +kernel
theorem dX7_due_17 : decode cX7_due 17 = .ok (.iload_n 3, 1) := by decide +kernel
theorem dX7_due_18 : decode cX7_due 18 = .ok (.iconst 5, 1) := by decide +kernel
theorem dX7_due_19 : decode cX7_due 19 = .ok (.if_icmp .ge 32, 3) := by decide +kernel
theorem dX7_due_22 : decode cX7_due 22 = .ok (.iload_n 2, 1) := by decide +kernel
theorem dX7_due_23 : decode cX7_due 23 = .ok (.aload_n 0, 1) := by decide +kernel
theorem dX7_due_24 : decode cX7_due 24 = .ok (.getfield 10, 3) := by decide +kernel
theorem dX7_due_27 : decode cX7_due 27 = .ok (.getfield 69, 3) := by decide +kernel
theorem dX7_due_30 : decode cX7_due 30 = .ok (.iload_n 3, 1) := by decide +kernel
theorem dX7_due_31 : decode cX7_due 31 = .ok (.aload_n 0, 1) := by decide +kernel
theorem dX7_due_32 : decode cX7_due 32 = .ok (.getfield 10, 3) := by decide +kernel
theorem dX7_due_35 : decode cX7_due 35 = .ok (.getfield 108, 3) := by decide +kernel
theorem dX7_due_38 : decode cX7_due 38 = .ok (.iload_n 1, 1) := by decide +kernel
theorem dX7_due_39 : decode cX7_due 39 = .ok (.iadd, 1) := by decide +kernel
theorem dX7_due_40 : decode cX7_due 40 = .ok (.invokevirtual 117, 3) := by decide +kernel
theorem dX7_due_43 : decode cX7_due 43 = .ok (.iadd, 1) := by decide +kernel
theorem dX7_due_44 : decode cX7_due 44 = .ok (.istore_n 2, 1) := by decide +kernel
theorem dX7_due_45 : decode cX7_due 45 = .ok (.iinc 3 1, 3) := by decide +kernel
theorem dX7_due_48 : decode cX7_due 48 = .ok (.goto (-31), 3) := by decide +kernel
theorem dX7_due_51 : decode cX7_due 51 = .ok (.iload_n 2, 1) := by decide +kernel
theorem dX7_due_52 : decode cX7_due 52 = .ok (.ireturn, 1) := by decide +kernel
set_option maxRecDepth 20000 in
theorem ggX7_far_X7_isTown : GoodIn wsX7_far wsX7_isTown := goodIn_r _ [6] (by decide +kernel) (by decide +kernel)
set_option maxRecDepth 20000 in
theorem gX7_far_X7_isTown : GoodIn wsX7_far (va_wsS RX7 65 yX7_isTown wsX7_isTown) := goodIn_app (goodIn_of _ (by decide +kernel)) ggX7_far_X7_isTown
set_option maxRecDepth 20000 in
theorem ggX7_far_X6_stepsBetween : GoodIn wsX7_far wsX6_stepsBetween := goodIn_r _ [11, 12, 13, 14, 10, 15, 16, 35, 36] (by decide +kernel) (by decide +kernel)
set_option maxRecDepth 20000 in
theorem gX7_far_X6_stepsBetween : GoodIn wsX7_far (wsV RX7 120 RX6 yX6_stepsBetween wsX6_stepsBetween) := goodIn_app (goodIn_of _ (by decide +kernel)) ggX7_far_X6_stepsBetween
theorem dX7_far_0 : decode cX7_far 0 = .ok (.iload_n 1, 1) := by decide +kernel
theorem dX7_far_1 : decode cX7_far 1 = .ok (.invokestatic 65, 3) := by decide +kernel
theorem dX7_far_4 : decode cX7_far 4 = .ok (.ifCond .eq 25, 3) := by decide +kernel
theorem dX7_far_7 : decode cX7_far 7 = .ok (.iload_n 2, 1) := by decide +kernel
theorem dX7_far_8 : decode cX7_far 8 = .ok (.invokestatic 65, 3) := by decide +kernel
theorem dX7_far_11 : decode cX7_far 11 = .ok (.ifCond .eq 18, 3) := by decide +kernel
theorem dX7_far_14 : decode cX7_far 14 = .ok (.aload_n 0, 1) := by decide +kernel
theorem dX7_far_15 : decode cX7_far 15 = .ok (.getfield 10, 3) := by decide +kernel
theorem dX7_far_18 : decode cX7_far 18 = .ok (.getfield 79, 3) := by decide +kernel
theorem dX7_far_21 : decode cX7_far 21 = .ok (.iload_n 1, 1) := by decide +kernel
theorem dX7_far_22 : decode cX7_far 22 = .ok (.iload_n 2, 1) := by decide +kernel
theorem dX7_far_23 : decode cX7_far 23 = .ok (.invokevirtual 120, 3) := by decide +kernel
theorem dX7_far_26 : decode cX7_far 26 = .ok (.goto 4, 3) := by decide +kernel
theorem dX7_far_29 : decode cX7_far 29 = .ok (.iconst (-1), 1) := by decide +kernel
theorem dX7_far_30 : decode cX7_far 30 = .ok (.ireturn, 1) := by decide +kernel
set_option maxRecDepth 20000 in
theorem ggX7_drizzle_X7_isTown : GoodIn wsX7_drizzle wsX7_isTown := goodIn_r _ [7] (by decide +kernel) (by decide +kernel)
set_option maxRecDepth 20000 in
theorem gX7_drizzle_X7_isTown : GoodIn wsX7_drizzle (va_wsS RX7 65 yX7_isTown wsX7_isTown) := goodIn_app (goodIn_of _ (by decide +kernel)) ggX7_drizzle_X7_isTown
set_option maxRecDepth 20000 in
theorem ggX7_drizzle_X7_isHours : GoodIn wsX7_drizzle wsX7_isHours := goodIn_r _ [10] (by decide +kernel) (by decide +kernel)
set_option maxRecDepth 20000 in
theorem gX7_drizzle_X7_isHours : GoodIn wsX7_drizzle (va_wsS RX7 123 yX7_isHours wsX7_isHours) := goodIn_app (goodIn_of _ (by decide +kernel)) ggX7_drizzle_X7_isHours
set_option maxRecDepth 20000 in
theorem ggX7_drizzle_X6_spread : GoodIn wsX7_drizzle wsX6_spread := goodIn_r _ [15, 16, 17, 36, 37] (by decide +kernel) (by decide +kernel)
set_option maxRecDepth 20000 in
theorem gX7_drizzle_X6_spread : GoodIn wsX7_drizzle (wsV RX7 126 RX6 yX6_spread wsX6_spread) := goodIn_app (goodIn_of _ (by decide +kernel)) ggX7_drizzle_X6_spread
theorem dX7_drizzle_0 : decode cX7_drizzle 0 = .ok (.iload_n 1, 1) := by decide +kernel
theorem dX7_drizzle_1 : decode cX7_drizzle 1 = .ok (.invokestatic 65, 3) := by decide +kernel
theorem dX7_drizzle_4 : decode cX7_drizzle 4 = .ok (.ifCond .eq 10, 3) := by decide +kernel
theorem dX7_drizzle_7 : decode cX7_drizzle 7 = .ok (.iload_n 3, 1) := by decide +kernel
theorem dX7_drizzle_8 : decode cX7_drizzle 8 = .ok (.invokestatic 65, 3) := by decide +kernel
theorem dX7_drizzle_11 : decode cX7_drizzle 11 = .ok (.ifCond .ne 5, 3) := by decide +kernel
theorem dX7_drizzle_14 : decode cX7_drizzle 14 = .ok (.iconst (-1), 1) := by decide +kernel
theorem dX7_drizzle_15 : decode cX7_drizzle 15 = .ok (.ireturn, 1) := by decide +kernel
theorem dX7_drizzle_16 : decode cX7_drizzle 16 = .ok (.iload_n 2, 1) := by decide +kernel
theorem dX7_drizzle_17 : decode cX7_drizzle 17 = .ok (.invokestatic 123, 3) := by decide +kernel
theorem dX7_drizzle_20 : decode cX7_drizzle 20 = .ok (.ifCond .ne 6, 3) := by decide +kernel
theorem dX7_drizzle_23 : decode cX7_drizzle 23 = .ok (.bipush (-2), 2) := by decide +kernel
theorem dX7_drizzle_25 : decode cX7_drizzle 25 = .ok (.ireturn, 1) := by decide +kernel
theorem dX7_drizzle_26 : decode cX7_drizzle 26 = .ok (.aload_n 0, 1) := by decide +kernel
theorem dX7_drizzle_27 : decode cX7_drizzle 27 = .ok (.getfield 10, 3) := by decide +kernel
theorem dX7_drizzle_30 : decode cX7_drizzle 30 = .ok (.getfield 79, 3) := by decide +kernel
theorem dX7_drizzle_33 : decode cX7_drizzle 33 = .ok (.iload_n 1, 1) := by decide +kernel
theorem dX7_drizzle_34 : decode cX7_drizzle 34 = .ok (.iload_n 2, 1) := by decide +kernel
theorem dX7_drizzle_35 : decode cX7_drizzle 35 = .ok (.invokevirtual 126, 3) := by decide +kernel
theorem dX7_drizzle_38 : decode cX7_drizzle 38 = .ok (.aload_n 0, 1) := by decide +kernel
theorem dX7_drizzle_39 : decode cX7_drizzle 39 = .ok (.getfield 10, 3) := by decide +kernel
theorem dX7_drizzle_42 : decode cX7_drizzle 42 = .ok (.getfield 79, 3) := by decide +kernel
theorem dX7_drizzle_45 : decode cX7_drizzle 45 = .ok (.getfield 130, 3) := by decide +kernel
theorem dX7_drizzle_48 : decode cX7_drizzle 48 = .ok (.iload_n 3, 1) := by decide +kernel
theorem dX7_drizzle_49 : decode cX7_drizzle 49 = .ok (.iaload, 1) := by decide +kernel
theorem dX7_drizzle_50 : decode cX7_drizzle 50 = .ok (.ireturn, 1) := by decide +kernel
set_option maxRecDepth 20000 in
theorem ggX7_drizzleAgain_X7_isTown : GoodIn wsX7_drizzleAgain wsX7_isTown := goodIn_r _ [6] (by decide +kernel) (by decide +kernel)
set_option maxRecDepth 20000 in
theorem gX7_drizzleAgain_X7_isTown : GoodIn wsX7_drizzleAgain (va_wsS RX7 65 yX7_isTown wsX7_isTown) := goodIn_app (goodIn_of _ (by decide +kernel)) ggX7_drizzleAgain_X7_isTown
set_option maxRecDepth 20000 in
theorem ggX7_drizzleAgain_X7_isHours : GoodIn wsX7_drizzleAgain wsX7_isHours := goodIn_r _ [9] (by decide +kernel) (by decide +kernel)
set_option maxRecDepth 20000 in
theorem gX7_drizzleAgain_X7_isHours : GoodIn wsX7_drizzleAgain (va_wsS RX7 123 yX7_isHours wsX7_isHours) := goodIn_app (goodIn_of _ (by decide +kernel)) ggX7_drizzleAgain_X7_isHours
set_option maxRecDepth 20000 in
theorem ggX7_drizzleAgain_X6_halvedBySteps : GoodIn wsX7_drizzleAgain wsX6_halvedBySteps := goodIn_r _ [14, 15, 16, 17, 13, 18, 19, 20, 21, 22, 23, 42, 43] (by decide +kernel) (by decide +kernel)
set_option maxRecDepth 20000 in
theorem gX7_drizzleAgain_X6_halvedBySteps : GoodIn wsX7_drizzleAgain (wsV RX7 133 RX6 yX6_halvedBySteps wsX6_halvedBySteps) := goodIn_app (goodIn_of _ (by decide +kernel)) ggX7_drizzleAgain_X6_halvedBySteps
theorem dX7_drizzleAgain_0 : decode cX7_drizzleAgain 0 = .ok (.iload_n 1, 1) := by decide +kernel
theorem dX7_drizzleAgain_1 : decode cX7_drizzleAgain 1 = .ok (.invokestatic 65, 3) := by decide +kernel
theorem dX7_drizzleAgain_4 : decode cX7_drizzleAgain 4 = .ok (.ifCond .eq 10, 3) := by decide +kernel
theorem dX7_drizzleAgain_7 : decode cX7_drizzleAgain 7 = .ok (.iload_n 3, 1) := by decide +kernel
theorem dX7_drizzleAgain_8 : decode cX7_drizzleAgain 8 = .ok (.invokestatic 65, 3) := by decide +kernel
theorem dX7_drizzleAgain_11 : decode cX7_drizzleAgain 11 = .ok (.ifCond .ne 5, 3) := by decide +kernel
theorem dX7_drizzleAgain_14 : decode cX7_drizzleAgain 14 = .ok (.iconst (-1), 1) := by decide +kernel
theorem dX7_drizzleAgain_15 : decode cX7_drizzleAgain 15 = .ok (.ireturn, 1) := by decide +kernel
theorem dX7_drizzleAgain_16 : decode cX7_drizzleAgain 16 = .ok (.iload_n 2, 1) := by decide +kernel
theorem dX7_drizzleAgain_17 : decode cX7_drizzleAgain 17 = .ok (.invokestatic 123, 3) := by decide +kernel
theorem dX7_drizzleAgain_20 : decode cX7_drizzleAgain 20 = .ok (.ifCond .eq 19, 3) := by decide +kernel
theorem dX7_drizzleAgain_23 : decode cX7_drizzleAgain 23 = .ok (.aload_n 0, 1) := by decide +kernel
theorem dX7_drizzleAgain_24 : decode cX7_drizzleAgain 24 = .ok (.getfield 10, 3) := by decide +kernel
theorem dX7_drizzleAgain_27 : decode cX7_drizzleAgain 27 = .ok (.getfield 79, 3) := by decide +kernel
theorem dX7_drizzleAgain_30 : decode cX7_drizzleAgain 30 = .ok (.iload_n 1, 1) := by decide +kernel
theorem dX7_drizzleAgain_31 : decode cX7_drizzleAgain 31 = .ok (.iload_n 2, 1) := by decide +kernel
theorem dX7_drizzleAgain_32 : decode cX7_drizzleAgain 32 = .ok (.iload_n 3, 1) := by decide +kernel
theorem dX7_drizzleAgain_33 : decode cX7_drizzleAgain 33 = .ok (.invokevirtual 133, 3) := by decide +kernel
theorem dX7_drizzleAgain_36 : decode cX7_drizzleAgain 36 = .ok (.goto 5, 3) := by decide +kernel
theorem dX7_drizzleAgain_39 : decode cX7_drizzleAgain 39 = .ok (.bipush (-2), 2) := by decide +kernel
theorem dX7_drizzleAgain_41 : decode cX7_drizzleAgain 41 = .ok (.ireturn, 1) := by decide +kernel
set_option maxRecDepth 20000 in
theorem ggX7_would_X7_isTown : GoodIn wsX7_would wsX7_isTown := goodIn_r _ [6] (by decide +kernel) (by decide +kernel)
set_option maxRecDepth 20000 in
theorem gX7_would_X7_isTown : GoodIn wsX7_would (va_wsS RX7 65 yX7_isTown wsX7_isTown) := goodIn_app (goodIn_of _ (by decide +kernel)) ggX7_would_X7_isTown
set_option maxRecDepth 20000 in
theorem ggX7_would_X3_copyFrom : GoodIn wsX7_would wsX3_copyFrom := goodIn_r _ [11, 12, 13, 14, 15, 16, 17, 18, 19, 20, 21, 22, 23, 24, 25, 26, 27, 28, 29, 30, 31, 32, 33, 34, 35, 36, 37, 38, 39, 40, 41, 42, 43, 44, 45, 46, 47, 48, 49, 50, 51, 52, 53, 124, 125, 126, 127, 128, 129, 130, 131, 132, 133, 134, 135, 136, 137, 138, 139, 140, 141, 142, 143, 144, 145] (by decide +kernel) (by decide +kernel)
set_option maxRecDepth 20000 in
theorem gX7_would_X3_copyFrom : GoodIn wsX7_would (wsV RX7 137 RX3 yX3_copyFrom wsX3_copyFrom) := goodIn_app (goodIn_of _ (by decide +kernel)) ggX7_would_X3_copyFrom
set_option maxRecDepth 20000 in
theorem ggX7_would_X3_pass : GoodIn wsX7_would wsX3_pass := goodIn_r _ [57, 12, 20, 13, 58, 59, 60, 61, 23, 62, 18, 63, 64, 65, 66, 67, 68, 10, 69, 22, 70, 71, 72, 73, 74, 75, 76, 34, 77, 37, 39, 40, 78, 79, 80, 81, 36, 82, 83, 84, 85, 86, 87, 88, 89, 4, 5, 6, 90, 91, 92, 93, 21, 94, 95, 96, 97, 27, 98, 99, 29, 100, 101, 102, 103, 19, 104, 105, 106, 107, 108, 109, 124, 125, 126, 127, 128, 129, 130, 131, 138, 139, 140, 141, 142, 143, 144, 145, 134, 135, 136, 137, 132, 133] (by decide +kernel) (by decide +kernel)
set_option maxRecDepth 20000 in
theorem gX7_would_X3_pass : GoodIn wsX7_would (wsV RX7 141 RX3 yX3_pass wsX3_pass) := goodIn_app (goodIn_of _ (by decide +kernel)) ggX7_would_X3_pass
set_option maxRecDepth 20000 in
theorem ggX7_would_X3_weatherOf : GoodIn wsX7_would wsX3_weatherOf := goodIn_r _ [113, 13, 18, 19, 20, 4, 5, 6, 124, 125, 126, 127, 128, 129, 130, 131] (by decide +kernel) (by decide +kernel)
set_option maxRecDepth 20000 in
theorem gX7_would_X3_weatherOf : GoodIn wsX7_would (wsV RX7 91 RX3 yX3_weatherOf wsX3_weatherOf) := goodIn_app (goodIn_of _ (by decide +kernel)) ggX7_would_X3_weatherOf
theorem dX7_would_0 : decode cX7_would 0 = .ok (.iload_n 1, 1) := by decide +kernel
theorem dX7_would_1 : decode cX7_would 1 = .ok (.invokestatic 65, 3) := by decide +kernel
theorem dX7_would_4 : decode cX7_would 4 = .ok (.ifCond .ne 5, 3) := by decide +kernel
theorem dX7_would_7 : decode cX7_would 7 = .ok (.iconst (-1), 1) := by decide +kernel
theorem dX7_would_8 : decode cX7_would 8 = .ok (.ireturn, 1) := by decide +kernel
theorem dX7_would_9 : decode cX7_would 9 = .ok (.iload_n 2, 1) := by decide +kernel
theorem dX7_would_10 : decode cX7_would 10 = .ok (.ifCond .lt 9, 3) := by decide +kernel
theorem dX7_would_13 : decode cX7_would 13 = .ok (.iload_n 2, 1) := by decide +kernel
theorem dX7_would_14 : decode cX7_would 14 = .ok (.bipush 24, 2) := by decide +kernel
theorem dX7_would_16 : decode cX7_would 16 = .ok (.if_icmp .le 6, 3) := by decide +kernel
theorem dX7_would_19 : decode cX7_would 19 = .ok (.bipush (-2), 2) := by decide +kernel
theorem dX7_would_21 : decode cX7_would 21 = .ok (.ireturn, 1) := by decide +kernel
theorem dX7_would_22 : decode cX7_would 22 = .ok (.aload_n 0, 1) := by decide +kernel
theorem dX7_would_23 : decode cX7_would 23 = .ok (.getfield 19, 3) := by decide +kernel
theorem dX7_would_26 : decode cX7_would 26 = .ok (.aload_n 0, 1) := by decide +kernel
theorem dX7_would_27 : decode cX7_would 27 = .ok (.getfield 10, 3) := by decide +kernel
theorem dX7_would_30 : decode cX7_would 30 = .ok (.invokevirtual 137, 3) := by decide +kernel
theorem dX7_would_33 : decode cX7_would 33 = .ok (.iconst 0, 1) := by decide +kernel
theorem dX7_would_34 : decode cX7_would 34 = .ok (.istore 4, 2) := by decide +kernel
theorem dX7_would_36 : decode cX7_would 36 = .ok (.iload 4, 2) := by decide +kernel
theorem dX7_would_38 : decode cX7_would 38 = .ok (.iload_n 2, 1) := by decide +kernel
theorem dX7_would_39 : decode cX7_would 39 = .ok (.if_icmp .ge 17, 3) := by decide +kernel
theorem dX7_would_42 : decode cX7_would 42 = .ok (.aload_n 0, 1) := by decide +kernel
theorem dX7_would_43 : decode cX7_would 43 = .ok (.getfield 19, 3) := by decide +kernel
theorem dX7_would_46 : decode cX7_would 46 = .ok (.invokevirtual 141, 3) := by decide +kernel
theorem dX7_would_49 : decode cX7_would 49 = .ok (.pop, 1) := by decide +kernel
theorem dX7_would_50 : decode cX7_would 50 = .ok (.iinc 4 1, 3) := by decide +kernel
theorem dX7_would_53 : decode cX7_would 53 = .ok (.goto (-17), 3) := by decide +kernel
theorem dX7_would_56 : decode cX7_would 56 = .ok (.aload_n 0, 1) := by decide +kernel
theorem dX7_would_57 : decode cX7_would 57 = .ok (.getfield 19, 3) := by decide +kernel
theorem dX7_would_60 : decode cX7_would 60 = .ok (.iload_n 1, 1) := by decide +kernel
theorem dX7_would_61 : decode cX7_would 61 = .ok (.iload_n 3, 1) := by decide +kernel
theorem dX7_would_62 : decode cX7_would 62 = .ok (.invokevirtual 91, 3) := by decide +kernel
theorem dX7_would_65 : decode cX7_would 65 = .ok (.ireturn, 1) := by decide +kernel
set_option maxRecDepth 20000 in
theorem ggX7_most_X7_isTown : GoodIn wsX7_most wsX7_isTown := goodIn_r _ [13] (by decide +kernel) (by decide +kernel)
set_option maxRecDepth 20000 in
theorem gX7_most_X7_isTown : GoodIn wsX7_most (va_wsS RX7 65 yX7_isTown wsX7_isTown) := goodIn_app (goodIn_of _ (by decide +kernel)) ggX7_most_X7_isTown
set_option maxRecDepth 20000 in
theorem ggX7_most_X7_isMonths : GoodIn wsX7_most wsX7_isMonths := goodIn_r _ [16] (by decide +kernel) (by decide +kernel)
set_option maxRecDepth 20000 in
theorem gX7_most_X7_isMonths : GoodIn wsX7_most (va_wsS RX7 145 yX7_isMonths wsX7_isMonths) := goodIn_app (goodIn_of _ (by decide +kernel)) ggX7_most_X7_isMonths
set_option maxRecDepth 20000 in
theorem ggX7_most_X7_wouldBePaid : GoodIn wsX7_most wsX7_wouldBePaid := goodIn_r _ [20, 21, 1, 5, 3, 22, 10, 11, 12, 13, 23, 24, 25, 26, 27, 28, 29, 30, 31, 32, 33, 34, 35, 36, 37, 38, 39, 40, 41, 42, 43, 44, 45, 46, 47, 48, 49, 50, 51, 52, 53, 54, 55, 56, 57, 58, 59, 60, 61, 62, 63, 64, 65, 66, 67, 68, 69, 70, 71, 72, 73, 74, 75, 76, 77, 78, 79, 80, 81, 82, 83, 7, 8, 9, 84, 85, 86, 87, 88, 89, 90, 91, 92, 93, 94, 95, 96, 97, 98, 99, 100, 101, 102, 103, 104, 105, 106, 107, 108, 109, 110, 111, 112, 113, 114, 115, 116, 117, 118, 119, 120, 121, 122, 123, 124, 125, 126, 127, 128, 129, 130, 131, 132, 133, 134, 135, 136, 137, 138, 139, 140, 141, 142, 143, 144, 145, 146, 147, 148, 149, 150, 151, 152, 157, 158, 153, 154, 155, 156, 159, 160, 161, 162, 163, 164, 165, 166] (by decide +kernel) (by decide +kernel)
set_option maxRecDepth 20000 in
theorem gX7_most_X7_wouldBePaid : GoodIn wsX7_most (wsV RX7 162 RX7 yX7_wouldBePaid wsX7_wouldBePaid) := goodIn_app (goodIn_of _ (by decide +kernel)) ggX7_most_X7_wouldBePaid
theorem dX7_most_0 : decode cX7_most 0 = .ok (.iload_n 1, 1) := by decide +kernel
theorem dX7_most_1 : decode cX7_most 1 = .ok (.invokestatic 65, 3) := by decide +kernel
theorem dX7_most_4 : decode cX7_most 4 = .ok (.ifCond .ne 5, 3) := by decide +kernel
theorem dX7_most_7 : decode cX7_most 7 = .ok (.iconst (-1), 1) := by decide +kernel
theorem dX7_most_8 : decode cX7_most 8 = .ok (.ireturn, 1) := by decide +kernel
theorem dX7_most_9 : decode cX7_most 9 = .ok (.iload_n 2, 1) := by decide +kernel
theorem dX7_most_10 : decode cX7_most 10 = .ok (.invokestatic 145, 3) := by decide +kernel
theorem dX7_most_13 : decode cX7_most 13 = .ok (.ifCond .ne 6, 3) := by decide +kernel
theorem dX7_most_16 : decode cX7_most 16 = .ok (.bipush (-2), 2) := by decide +kernel
theorem dX7_most_18 : decode cX7_most 18 = .ok (.ireturn, 1) := by decide +kernel
theorem dX7_most_19 : decode cX7_most 19 = .ok (.aload_n 0, 1) := by decide +kernel
theorem dX7_most_20 : decode cX7_most 20 = .ok (.getfield 10, 3) := by decide +kernel
theorem dX7_most_23 : decode cX7_most 23 = .ok (.getfield 148, 3) := by decide +kernel
theorem dX7_most_26 : decode cX7_most 26 = .ok (.iload_n 1, 1) := by decide +kernel
theorem dX7_most_27 : decode cX7_most 27 = .ok (.iaload, 1) := by decide +kernel
theorem dX7_most_28 : decode cX7_most 28 = .ok (.ifCond .gt 18, 3) := by decide +kernel
theorem dX7_most_31 : decode cX7_most 31 = .ok (.aload_n 0, 1) := by decide +kernel
theorem dX7_most_32 : decode cX7_most 32 = .ok (.getfield 10, 3) := by decide +kernel
theorem dX7_most_35 : decode cX7_most 35 = .ok (.getfield 69, 3) := by decide +kernel
theorem dX7_most_38 : decode cX7_most 38 = .ok (.getfield 151, 3) := by decide +kernel
theorem dX7_most_41 : decode cX7_most 41 = .ok (.bipush 8, 2) := by decide +kernel
theorem dX7_most_43 : decode cX7_most 43 = .ok (.if_icmp .lt 5, 3) := by decide +kernel
theorem dX7_most_46 : decode cX7_most 46 = .ok (.iconst 0, 1) := by decide +kernel
theorem dX7_most_47 : decode cX7_most 47 = .ok (.ireturn, 1) := by decide +kernel
theorem dX7_most_48 : decode cX7_most 48 = .ok (.bipush 20, 2) := by decide +kernel
theorem dX7_most_50 : decode cX7_most 50 = .ok (.bipush 60, 2) := by decide +kernel
theorem dX7_most_52 : decode cX7_most 52 = .ok (.aload_n 0, 1) := by decide +kernel
theorem dX7_most_53 : decode cX7_most 53 = .ok (.getfield 10, 3) := by decide +kernel
theorem dX7_most_56 : decode cX7_most 56 = .ok (.getfield 154, 3) := by decide +kernel
theorem dX7_most_59 : decode cX7_most 59 = .ok (.iload_n 1, 1) := by decide +kernel
theorem dX7_most_60 : decode cX7_most 60 = .ok (.iaload, 1) := by decide +kernel
theorem dX7_most_61 : decode cX7_most 61 = .ok (.isub, 1) := by decide +kernel
theorem dX7_most_62 : decode cX7_most 62 = .ok (.invokestatic 157, 3) := by decide +kernel
theorem dX7_most_65 : decode cX7_most 65 = .ok (.istore_n 3, 1) := by decide +kernel
theorem dX7_most_66 : decode cX7_most 66 = .ok (.iload_n 3, 1) := by decide +kernel
theorem dX7_most_67 : decode cX7_most 67 = .ok (.ifCond .le 21, 3) := by decide +kernel
theorem dX7_most_70 : decode cX7_most 70 = .ok (.aload_n 0, 1) := by decide +kernel
theorem dX7_most_71 : decode cX7_most 71 = .ok (.iload_n 1, 1) := by decide +kernel
theorem dX7_most_72 : decode cX7_most 72 = .ok (.iload_n 3, 1) := by decide +kernel
theorem dX7_most_73 : decode cX7_most 73 = .ok (.iload_n 2, 1) := by decide +kernel
theorem dX7_most_74 : decode cX7_most 74 = .ok (.invokevirtual 162, 3) := by decide +kernel
theorem dX7_most_77 : decode cX7_most 77 = .ok (.ifCond .eq 5, 3) := by decide +kernel
theorem dX7_most_80 : decode cX7_most 80 = .ok (.iload_n 3, 1) := by decide +kernel
theorem dX7_most_81 : decode cX7_most 81 = .ok (.ireturn, 1) := by decide +kernel
theorem dX7_most_82 : decode cX7_most 82 = .ok (.iinc 3 (-1), 3) := by decide +kernel
theorem dX7_most_85 : decode cX7_most 85 = .ok (.goto (-19), 3) := by decide +kernel
theorem dX7_most_88 : decode cX7_most 88 = .ok (.iconst 0, 1) := by decide +kernel
theorem dX7_most_89 : decode cX7_most 89 = .ok (.ireturn, 1) := by decide +kernel
set_option maxRecDepth 20000 in
theorem ggX7_ranked_X3_rankOf : GoodIn wsX7_ranked wsX3_rankOf := goodIn_r _ [6, 7, 8, 9, 5, 10, 11, 12, 13, 14, 15, 26, 27, 28, 29, 30, 31, 32, 33] (by decide +kernel) (by decide +kernel)
set_option maxRecDepth 20000 in
theorem gX7_ranked_X3_rankOf : GoodIn wsX7_ranked (wsV RX7 166 RX3 yX3_rankOf wsX3_rankOf) := goodIn_app (goodIn_of _ (by decide +kernel)) ggX7_ranked_X3_rankOf
theorem dX7_ranked_0 : decode cX7_ranked 0 = .ok (.iconst 0, 1) := by decide +kernel
theorem dX7_ranked_1 : decode cX7_ranked 1 = .ok (.istore_n 2, 1) := by decide +kernel
theorem dX7_ranked_2 : decode cX7_ranked 2 = .ok (.iload_n 2, 1) := by decide +kernel
theorem dX7_ranked_3 : decode cX7_ranked 3 = .ok (.iconst 5, 1) := by decide +kernel
theorem dX7_ranked_4 : decode cX7_ranked 4 = .ok (.if_icmp .ge 23, 3) := by decide +kernel
theorem dX7_ranked_7 : decode cX7_ranked 7 = .ok (.aload_n 0, 1) := by decide +kernel
theorem dX7_ranked_8 : decode cX7_ranked 8 = .ok (.getfield 10, 3) := by decide +kernel
theorem dX7_ranked_11 : decode cX7_ranked 11 = .ok (.iload_n 2, 1) := by decide +kernel
theorem dX7_ranked_12 : decode cX7_ranked 12 = .ok (.invokevirtual 166, 3) := by decide +kernel
theorem dX7_ranked_15 : decode cX7_ranked 15 = .ok (.iload_n 1, 1) := by decide +kernel
theorem dX7_ranked_16 : decode cX7_ranked 16 = .ok (.if_icmp .ne 5, 3) := by decide +kernel
theorem dX7_ranked_19 : decode cX7_ranked 19 = .ok (.iload_n 2, 1) := by decide +kernel
theorem dX7_ranked_20 : decode cX7_ranked 20 = .ok (.ireturn, 1) := by decide +kernel
theorem dX7_ranked_21 : decode cX7_ranked 21 = .ok (.iinc 2 1, 3) := by decide +kernel
theorem dX7_ranked_24 : decode cX7_ranked 24 = .ok (.goto (-22), 3) := by decide +kernel
theorem dX7_ranked_27 : decode cX7_ranked 27 = .ok (.iconst (-1), 1) := by decide +kernel
theorem dX7_ranked_28 : decode cX7_ranked 28 = .ok (.ireturn, 1) := by decide +kernel
set_option maxRecDepth 20000 in
theorem ggX7_next_X1_placeOf : GoodIn wsX7_next wsX1_placeOf := goodIn_r _ [8, 9, 10, 11, 12, 7, 13, 14, 15, 16, 17, 18, 19, 38, 39, 40, 41] (by decide +kernel) (by decide +kernel)
set_option maxRecDepth 20000 in
theorem gX7_next_X1_placeOf : GoodIn wsX7_next (wsV RX7 169 RX1 yX1_placeOf wsX1_placeOf) := goodIn_app (goodIn_of _ (by decide +kernel)) ggX7_next_X1_placeOf
theorem dX7_next_0 : decode cX7_next 0 = .ok (.iconst 0, 1) := by decide +kernel
theorem dX7_next_1 : decode cX7_next 1 = .ok (.istore_n 2, 1) := by decide +kernel
theorem dX7_next_2 : decode cX7_next 2 = .ok (.iload_n 2, 1) := by decide +kernel
theorem dX7_next_3 : decode cX7_next 3 = .ok (.aload_n 0, 1) := by decide +kernel
theorem dX7_next_4 : decode cX7_next 4 = .ok (.getfield 10, 3) := by decide +kernel
theorem dX7_next_7 : decode cX7_next 7 = .ok (.getfield 69, 3) := by decide +kernel
theorem dX7_next_10 : decode cX7_next 10 = .ok (.getfield 151, 3) := by decide +kernel
theorem dX7_next_13 : decode cX7_next 13 = .ok (.if_icmp .ge 26, 3) := by decide +kernel
theorem dX7_next_16 : decode cX7_next 16 = .ok (.aload_n 0, 1) := by decide +kernel
theorem dX7_next_17 : decode cX7_next 17 = .ok (.getfield 10, 3) := by decide +kernel
theorem dX7_next_20 : decode cX7_next 20 = .ok (.getfield 69, 3) := by decide +kernel
theorem dX7_next_23 : decode cX7_next 23 = .ok (.iload_n 2, 1) := by decide +kernel
theorem dX7_next_24 : decode cX7_next 24 = .ok (.invokevirtual 169, 3) := by decide +kernel
theorem dX7_next_27 : decode cX7_next 27 = .ok (.iload_n 1, 1) := by decide +kernel
theorem dX7_next_28 : decode cX7_next 28 = .ok (.if_icmp .ne 5, 3) := by decide +kernel
theorem dX7_next_31 : decode cX7_next 31 = .ok (.iload_n 2, 1) := by decide +kernel
theorem dX7_next_32 : decode cX7_next 32 = .ok (.ireturn, 1) := by decide +kernel
theorem dX7_next_33 : decode cX7_next 33 = .ok (.iinc 2 1, 3) := by decide +kernel
theorem dX7_next_36 : decode cX7_next 36 = .ok (.goto (-34), 3) := by decide +kernel
theorem dX7_next_39 : decode cX7_next 39 = .ok (.iconst (-1), 1) := by decide +kernel
theorem dX7_next_40 : decode cX7_next 40 = .ok (.ireturn, 1) := by decide +kernel
set_option maxRecDepth 20000 in
theorem ggX7_isCounted_X7_isOwedAlike : GoodIn wsX7_isCounted wsX7_isOwedAlike := goodIn_r _ [6, 1, 7, 8, 9, 10, 11, 12, 13, 14, 15, 16, 17, 18, 19, 20, 21, 22, 23, 24, 25, 26, 27, 65, 66, 67, 68, 69, 70, 71, 72, 73, 74, 75, 76, 77, 78, 79, 80, 81, 82, 83, 84, 85, 86] (by decide +kernel) (by decide +kernel)
set_option maxRecDepth 20000 in
theorem gX7_isCounted_X7_isOwedAlike : GoodIn wsX7_isCounted (wsV RX7 172 RX7 yX7_isOwedAlike wsX7_isOwedAlike) := goodIn_app (goodIn_of _ (by decide +kernel)) ggX7_isCounted_X7_isOwedAlike
set_option maxRecDepth 20000 in
theorem ggX7_isCounted_X7_isDrizzleAlike : GoodIn wsX7_isCounted wsX7_isDrizzleAlike := goodIn_r _ [31, 1, 32, 33, 34, 35, 36, 37, 38, 39, 40, 41, 42, 43, 44, 45, 46, 47, 48, 49, 50, 51, 52, 65, 66, 67, 68, 69, 70, 71, 72, 73, 74, 75, 76, 77, 78, 79, 80, 81, 82, 87, 88] (by decide +kernel) (by decide +kernel)
set_option maxRecDepth 20000 in
theorem gX7_isCounted_X7_isDrizzleAlike : GoodIn wsX7_isCounted (wsV RX7 176 RX7 yX7_isDrizzleAlike wsX7_isDrizzleAlike) := goodIn_app (goodIn_of _ (by decide +kernel)) ggX7_isCounted_X7_isDrizzleAlike
set_option maxRecDepth 20000 in
theorem ggX7_isCounted_X3_isSunCounted : GoodIn wsX7_isCounted wsX3_isSunCounted := goodIn_r _ [56, 57, 58, 59, 60, 61, 62, 63, 5, 64, 75, 76, 77, 78, 79, 80, 81, 82, 89, 90, 91, 92, 93, 94, 95, 96] (by decide +kernel) (by decide +kernel)
set_option maxRecDepth 20000 in
theorem gX7_isCounted_X3_isSunCounted : GoodIn wsX7_isCounted (wsV RX7 179 RX3 yX3_isSunCounted wsX3_isSunCounted) := goodIn_app (goodIn_of _ (by decide +kernel)) ggX7_isCounted_X3_isSunCounted
theorem dX7_isCounted_0 : decode cX7_isCounted 0 = .ok (.aload_n 0, 1) := by decide +kernel
theorem dX7_isCounted_1 : decode cX7_isCounted 1 = .ok (.invokevirtual 172, 3) := by decide +kernel
theorem dX7_isCounted_4 : decode cX7_isCounted 4 = .ok (.ifCond .eq 24, 3) := by decide +kernel
theorem dX7_isCounted_7 : decode cX7_isCounted 7 = .ok (.aload_n 0, 1) := by decide +kernel
theorem dX7_isCounted_8 : decode cX7_isCounted 8 = .ok (.invokevirtual 176, 3) := by decide +kernel
theorem dX7_isCounted_11 : decode cX7_isCounted 11 = .ok (.ifCond .eq 17, 3) := by decide +kernel
theorem dX7_isCounted_14 : decode cX7_isCounted 14 = .ok (.aload_n 0, 1) := by decide +kernel
theorem dX7_isCounted_15 : decode cX7_isCounted 15 = .ok (.getfield 10, 3) := by decide +kernel
theorem dX7_isCounted_18 : decode cX7_isCounted 18 = .ok (.invokevirtual 179, 3) := by decide +kernel
theorem dX7_isCounted_21 : decode cX7_isCounted 21 = .ok (.ifCond .eq 7, 3) := by decide +kernel
theorem dX7_isCounted_24 : decode cX7_isCounted 24 = .ok (.iconst 1, 1) := by decide +kernel
theorem dX7_isCounted_25 : decode cX7_isCounted 25 = .ok (.goto 4, 3) := by decide +kernel
theorem dX7_isCounted_28 : decode cX7_isCounted 28 = .ok (.iconst 0, 1) := by decide +kernel
theorem dX7_isCounted_29 : decode cX7_isCounted 29 = .ok (.ireturn, 1) := by decide +kernel
set_option maxRecDepth 20000 in
theorem ggX7_meanSun_X7_sumOf : GoodIn wsX7_meanSun wsX7_sumOf := goodIn_r _ [7] (by decide +kernel) (by decide +kernel)
set_option maxRecDepth 20000 in
theorem gX7_meanSun_X7_sumOf : GoodIn wsX7_meanSun (va_wsS RX7 182 yX7_sumOf wsX7_sumOf) := goodIn_app (goodIn_of _ (by decide +kernel)) ggX7_meanSun_X7_sumOf
theorem dX7_meanSun_0 : decode cX7_meanSun 0 = .ok (.aload_n 0, 1) := by decide +kernel
theorem dX7_meanSun_1 : decode cX7_meanSun 1 = .ok (.getfield 10, 3) := by decide +kernel
theorem dX7_meanSun_4 : decode cX7_meanSun 4 = .ok (.getfield 154, 3) := by decide +kernel
theorem dX7_meanSun_7 : decode cX7_meanSun 7 = .ok (.invokestatic 182, 3) := by decide +kernel
theorem dX7_meanSun_10 : decode cX7_meanSun 10 = .ok (.i2d, 1) := by decide +kernel
theorem dX7_meanSun_11 : decode cX7_meanSun 11 = .ok (.ldc2_w 186, 3) := by decide +kernel
theorem dX7_meanSun_14 : decode cX7_meanSun 14 = .ok (.ddiv, 1) := by decide +kernel
theorem dX7_meanSun_15 : decode cX7_meanSun 15 = .ok (.dreturn, 1) := by decide +kernel
theorem dX7_paidShare_0 : decode cX7_paidShare 0 = .ok (.aload_n 0, 1) := by decide +kernel
theorem dX7_paidShare_1 : decode cX7_paidShare 1 = .ok (.getfield 10, 3) := by decide +kernel
theorem dX7_paidShare_4 : decode cX7_paidShare 4 = .ok (.getfield 188, 3) := by decide +kernel
theorem dX7_paidShare_7 : decode cX7_paidShare 7 = .ok (.getfield 192, 3) := by decide +kernel
theorem dX7_paidShare_10 : decode cX7_paidShare 10 = .ok (.ifCond .ne 5, 3) := by decide +kernel
theorem dX7_paidShare_13 : decode cX7_paidShare 13 = .ok (.fconst 0, 1) := by decide +kernel
theorem dX7_paidShare_14 : decode cX7_paidShare 14 = .ok (.freturn, 1) := by decide +kernel
theorem dX7_paidShare_15 : decode cX7_paidShare 15 = .ok (.aload_n 0, 1) := by decide +kernel
theorem dX7_paidShare_16 : decode cX7_paidShare 16 = .ok (.getfield 10, 3) := by decide +kernel
theorem dX7_paidShare_19 : decode cX7_paidShare 19 = .ok (.getfield 188, 3) := by decide +kernel
theorem dX7_paidShare_22 : decode cX7_paidShare 22 = .ok (.getfield 197, 3) := by decide +kernel
theorem dX7_paidShare_25 : decode cX7_paidShare 25 = .ok (.i2f, 1) := by decide +kernel
theorem dX7_paidShare_26 : decode cX7_paidShare 26 = .ok (.aload_n 0, 1) := by decide +kernel
theorem dX7_paidShare_27 : decode cX7_paidShare 27 = .ok (.getfield 10, 3) := by decide +kernel
theorem dX7_paidShare_30 : decode cX7_paidShare 30 = .ok (.getfield 188, 3) := by decide +kernel
theorem dX7_paidShare_33 : decode cX7_paidShare 33 = .ok (.getfield 192, 3) := by decide +kernel
theorem dX7_paidShare_36 : decode cX7_paidShare 36 = .ok (.i2f, 1) := by decide +kernel
theorem dX7_paidShare_37 : decode cX7_paidShare 37 = .ok (.fdiv, 1) := by decide +kernel
theorem dX7_paidShare_38 : decode cX7_paidShare 38 = .ok (.freturn, 1) := by decide +kernel
set_option maxRecDepth 20000 in
theorem ggX7_account_X6_countAll : GoodIn wsX7_account wsX6_countAll := goodIn_r _ [19, 20, 21, 22, 18, 23, 24, 25, 26, 27, 28, 29, 30, 31, 32, 33, 34, 92, 93] (by decide +kernel) (by decide +kernel)
set_option maxRecDepth 20000 in
theorem gX7_account_X6_countAll : GoodIn wsX7_account (wsV RX7 200 RX6 yX6_countAll wsX6_countAll) := goodIn_app (goodIn_of _ (by decide +kernel)) ggX7_account_X6_countAll
set_option maxRecDepth 20000 in
theorem ggX7_account_X7_sumOf : GoodIn wsX7_account wsX7_sumOf := goodIn_r _ [37] (by decide +kernel) (by decide +kernel)
set_option maxRecDepth 20000 in
theorem gX7_account_X7_sumOf : GoodIn wsX7_account (va_wsS RX7 182 yX7_sumOf wsX7_sumOf) := goodIn_app (goodIn_of _ (by decide +kernel)) ggX7_account_X7_sumOf
set_option maxRecDepth 20000 in
theorem ggX7_account_J4_length_8abf5 : GoodIn wsX7_account wsJ4_length_8abf5 := goodIn_r _ [42, 43, 44, 45, 46, 47, 48, 49, 94, 95, 96, 97] (by decide +kernel) (by decide +kernel)
set_option maxRecDepth 20000 in
theorem gX7_account_J4_length_8abf5 : GoodIn wsX7_account (wsV RX7 212 RJ4 yJ4_length_8abf5 wsJ4_length_8abf5) := goodIn_app (goodIn_of _ (by decide +kernel)) ggX7_account_J4_length_8abf5
set_option maxRecDepth 20000 in
theorem ggX7_account_X0_entryOf : GoodIn wsX7_account wsX0_entryOf := goodIn_r _ [54, 55, 56, 57, 58, 59, 60, 61, 98, 99, 100, 101, 102, 103, 104, 105] (by decide +kernel) (by decide +kernel)
set_option maxRecDepth 20000 in
theorem gX7_account_X0_entryOf : GoodIn wsX7_account (wsV RX7 216 RX0 yX0_entryOf wsX0_entryOf) := goodIn_app (goodIn_of _ (by decide +kernel)) ggX7_account_X0_entryOf
theorem dX7_account_0 : decode cX7_account 0 = .ok (.iload_n 1, 1) := by decide +kernel
theorem dX7_account_1 : decode cX7_account 1 = .ok (.tableswitch 172 0 15 #[79, 87, 98, 109, 120, 131, 142, 172, 172, 172, 172, 172, 172, 172, 153, 164], 79) := by decide +kernel
theorem dX7_account_80 : decode cX7_account 80 = .ok (.aload_n 0, 1) := by decide +kernel
theorem dX7_account_81 : decode cX7_account 81 = .ok (.getfield 10, 3) := by decide +kernel
theorem dX7_account_84 : decode cX7_account 84 = .ok (.getfield 108, 3) := by decide +kernel
theorem dX7_account_87 : decode cX7_account 87 = .ok (.ireturn, 1) := by decide +kernel
theorem dX7_account_88 : decode cX7_account 88 = .ok (.aload_n 0, 1) := by decide +kernel
theorem dX7_account_89 : decode cX7_account 89 = .ok (.getfield 10, 3) := by decide +kernel
theorem dX7_account_92 : decode cX7_account 92 = .ok (.getfield 69, 3) := by decide +kernel
theorem dX7_account_95 : decode cX7_account 95 = .ok (.getfield 151, 3) := by decide +kernel
theorem dX7_account_98 : decode cX7_account 98 = .ok (.ireturn, 1) := by decide +kernel
theorem dX7_account_99 : decode cX7_account 99 = .ok (.aload_n 0, 1) := by decide +kernel
theorem dX7_account_100 : decode cX7_account 100 = .ok (.getfield 10, 3) := by decide +kernel
theorem dX7_account_103 : decode cX7_account 103 = .ok (.getfield 79, 3) := by decide +kernel
theorem dX7_account_106 : decode cX7_account 106 = .ok (.invokevirtual 200, 3) := by decide +kernel
theorem dX7_account_109 : decode cX7_account 109 = .ok (.ireturn, 1) := by decide +kernel
theorem dX7_account_110 : decode cX7_account 110 = .ok (.aload_n 0, 1) := by decide +kernel
theorem dX7_account_111 : decode cX7_account 111 = .ok (.getfield 10, 3) := by decide +kernel
theorem dX7_account_114 : decode cX7_account 114 = .ok (.getfield 154, 3) := by decide +kernel
theorem dX7_account_117 : decode cX7_account 117 = .ok (.invokestatic 182, 3) := by decide +kernel
theorem dX7_account_120 : decode cX7_account 120 = .ok (.ireturn, 1) := by decide +kernel
theorem dX7_account_121 : decode cX7_account 121 = .ok (.aload_n 0, 1) := by decide +kernel
theorem dX7_account_122 : decode cX7_account 122 = .ok (.getfield 10, 3) := by decide +kernel
theorem dX7_account_125 : decode cX7_account 125 = .ok (.getfield 203, 3) := by decide +kernel
theorem dX7_account_128 : decode cX7_account 128 = .ok (.invokestatic 182, 3) := by decide +kernel
theorem dX7_account_131 : decode cX7_account 131 = .ok (.ireturn, 1) := by decide +kernel
theorem dX7_account_132 : decode cX7_account 132 = .ok (.aload_n 0, 1) := by decide +kernel
theorem dX7_account_133 : decode cX7_account 133 = .ok (.getfield 10, 3) := by decide +kernel
theorem dX7_account_136 : decode cX7_account 136 = .ok (.getfield 148, 3) := by decide +kernel
theorem dX7_account_139 : decode cX7_account 139 = .ok (.invokestatic 182, 3) := by decide +kernel
theorem dX7_account_142 : decode cX7_account 142 = .ok (.ireturn, 1) := by decide +kernel
theorem dX7_account_143 : decode cX7_account 143 = .ok (.aload_n 0, 1) := by decide +kernel
theorem dX7_account_144 : decode cX7_account 144 = .ok (.getfield 10, 3) := by decide +kernel
theorem dX7_account_147 : decode cX7_account 147 = .ok (.getfield 206, 3) := by decide +kernel
theorem dX7_account_150 : decode cX7_account 150 = .ok (.invokestatic 182, 3) := by decide +kernel
theorem dX7_account_153 : decode cX7_account 153 = .ok (.ireturn, 1) := by decide +kernel
theorem dX7_account_154 : decode cX7_account 154 = .ok (.aload_n 0, 1) := by decide +kernel
theorem dX7_account_155 : decode cX7_account 155 = .ok (.getfield 39, 3) := by decide +kernel
theorem dX7_account_158 : decode cX7_account 158 = .ok (.getfield 209, 3) := by decide +kernel
theorem dX7_account_161 : decode cX7_account 161 = .ok (.invokevirtual 212, 3) := by decide +kernel
theorem dX7_account_164 : decode cX7_account 164 = .ok (.ireturn, 1) := by decide +kernel
theorem dX7_account_165 : decode cX7_account 165 = .ok (.aload_n 0, 1) := by decide +kernel
theorem dX7_account_166 : decode cX7_account 166 = .ok (.getfield 32, 3) := by decide +kernel
theorem dX7_account_169 : decode cX7_account 169 = .ok (.getfield 215, 3) := by decide +kernel
theorem dX7_account_172 : decode cX7_account 172 = .ok (.ireturn, 1) := by decide +kernel
theorem dX7_account_173 : decode cX7_account 173 = .ok (.aload_n 0, 1) := by decide +kernel
theorem dX7_account_174 : decode cX7_account 174 = .ok (.getfield 10, 3) := by decide +kernel
theorem dX7_account_177 : decode cX7_account 177 = .ok (.getfield 188, 3) := by decide +kernel
theorem dX7_account_180 : decode cX7_account 180 = .ok (.iload_n 1, 1) := by decide +kernel
theorem dX7_account_181 : decode cX7_account 181 = .ok (.invokevirtual 216, 3) := by decide +kernel
theorem dX7_account_184 : decode cX7_account 184 = .ok (.ireturn, 1) := by decide +kernel
set_option maxRecDepth 20000 in
theorem ggX7_write_X7_isTown : GoodIn wsX7_write wsX7_isTown := goodIn_r _ [10] (by decide +kernel) (by decide +kernel)
set_option maxRecDepth 20000 in
theorem gX7_write_X7_isTown : GoodIn wsX7_write (va_wsS RX7 65 yX7_isTown wsX7_isTown) := goodIn_app (goodIn_of _ (by decide +kernel)) ggX7_write_X7_isTown
set_option maxRecDepth 20000 in
theorem ggX7_write_J4_setLength_d00df : GoodIn wsX7_write wsJ4_setLength_d00df := goodIn_r _ [15, 16, 17, 18, 19, 20, 21, 22, 23, 24, 25, 26, 27, 28, 29, 30, 31, 32, 33, 34, 35, 36, 37, 38, 39, 40, 41, 42, 43, 44, 45, 46, 47, 48, 49, 50, 51, 52, 53, 54, 55, 56, 57, 58, 59, 60, 61, 62, 63, 64, 65, 66, 67, 68, 69, 70, 71, 72, 73, 74, 75, 76, 77, 78, 79, 80, 81, 82, 83, 84, 85, 86, 87, 210, 211, 212, 213] (by decide +kernel) (by decide +kernel)
set_option maxRecDepth 20000 in
theorem gX7_write_J4_setLength_d00df : GoodIn wsX7_write (wsV RX7 219 RJ4 yJ4_setLength_d00df wsJ4_setLength_d00df) := goodIn_app (goodIn_of _ (by decide +kernel)) ggX7_write_J4_setLength_d00df
set_option maxRecDepth 20000 in
theorem ggX7_write_J4_append_bf812 : GoodIn wsX7_write wsJ4_append_bf812 := goodIn_r _ [91, 92, 93, 18, 94, 20, 95, 22, 23, 96, 97, 98, 99, 25, 26, 27, 28, 29, 30, 31, 32, 33, 34, 35, 36, 37, 38, 39, 40, 41, 42, 43, 44, 45, 46, 47, 48, 49, 50, 51, 52, 53, 54, 55, 56, 57, 58, 59, 60, 61, 62, 63, 64, 65, 66, 67, 68, 69, 70, 71, 72, 100, 101, 102, 103, 104, 105, 106, 85, 107, 108, 109, 110, 111, 112, 113, 114, 115, 116, 117, 118, 119, 120, 121, 122, 123, 124, 125, 126, 127, 128, 129, 130, 131, 132, 133, 210, 211, 212, 213] (by decide +kernel) (by decide +kernel)
set_option maxRecDepth 20000 in
theorem gX7_write_J4_append_bf812 : GoodIn wsX7_write (wsV RX7 223 RJ4 yJ4_append_bf812 wsJ4_append_bf812) := goodIn_app (goodIn_of _ (by decide +kernel)) ggX7_write_J4_append_bf812
set_option maxRecDepth 20000 in
theorem ggX7_write_J4_append_cf468 : GoodIn wsX7_write wsJ4_append_cf468 := goodIn_r _ [137, 138, 139, 18, 140, 20, 141, 22, 23, 25, 26, 27, 28, 29, 30, 31, 32, 33, 34, 35, 36, 37, 38, 39, 40, 41, 42, 43, 44, 45, 46, 47, 48, 49, 50, 51, 52, 53, 54, 55, 56, 57, 58, 59, 60, 61, 62, 63, 64, 65, 66, 67, 68, 69, 70, 71, 72, 142, 143, 75, 144, 145, 146, 147, 148, 149, 150, 151, 85, 152, 153, 154, 155, 156, 157, 158, 159, 160, 161, 162, 163, 164, 165, 112, 113, 114, 166, 167, 117, 168, 119, 169, 170, 122, 171, 129, 130, 131, 108, 132, 133, 172, 173, 174, 175, 176, 177, 178, 179, 180, 181, 182, 183, 210, 211, 212, 213] (by decide +kernel) (by decide +kernel)
set_option maxRecDepth 20000 in
theorem gX7_write_J4_append_cf468 : GoodIn wsX7_write (wsV RX7 227 RJ4 yJ4_append_cf468 wsJ4_append_cf468) := goodIn_app (goodIn_of _ (by decide +kernel)) ggX7_write_J4_append_cf468
set_option maxRecDepth 20000 in
theorem ggX7_write_J4_length_8abf5 : GoodIn wsX7_write wsJ4_length_8abf5 := goodIn_r _ [187, 188, 189, 18, 190, 20, 191, 22, 210, 211, 212, 213] (by decide +kernel) (by decide +kernel)
set_option maxRecDepth 20000 in
theorem gX7_write_J4_length_8abf5 : GoodIn wsX7_write (wsV RX7 212 RJ4 yJ4_length_8abf5 wsJ4_length_8abf5) := goodIn_app (goodIn_of _ (by decide +kernel)) ggX7_write_J4_length_8abf5
theorem dX7_write_0 : decode cX7_write 0 = .ok (.iload_n 1, 1) := by decide +kernel
theorem dX7_write_1 : decode cX7_write 1 = .ok (.invokestatic 65, 3) := by decide +kernel
theorem dX7_write_4 : decode cX7_write 4 = .ok (.ifCond .ne 5, 3) := by decide +kernel
theorem dX7_write_7 : decode cX7_write 7 = .ok (.iconst (-1), 1) := by decide +kernel
theorem dX7_write_8 : decode cX7_write 8 = .ok (.ireturn, 1) := by decide +kernel
theorem dX7_write_9 : decode cX7_write 9 = .ok (.aload_n 0, 1) := by decide +kernel
theorem dX7_write_10 : decode cX7_write 10 = .ok (.getfield 46, 3) := by decide +kernel
theorem dX7_write_13 : decode cX7_write 13 = .ok (.iconst 0, 1) := by decide +kernel
theorem dX7_write_14 : decode cX7_write 14 = .ok (.invokevirtual 219, 3) := by decide +kernel
theorem dX7_write_17 : decode cX7_write 17 = .ok (.aload_n 0, 1) := by decide +kernel
theorem dX7_write_18 : decode cX7_write 18 = .ok (.getfield 46, 3) := by decide +kernel
theorem dX7_write_21 : decode cX7_write 21 = .ok (.iload_n 1, 1) := by decide +kernel
theorem dX7_write_22 : decode cX7_write 22 = .ok (.invokevirtual 223, 3) := by decide +kernel
theorem dX7_write_25 : decode cX7_write 25 = .ok (.bipush 58, 2) := by decide +kernel
theorem dX7_write_27 : decode cX7_write 27 = .ok (.invokevirtual 227, 3) := by decide +kernel
theorem dX7_write_30 : decode cX7_write 30 = .ok (.pop, 1) := by decide +kernel
theorem dX7_write_31 : decode cX7_write 31 = .ok (.aload_n 0, 1) := by decide +kernel
theorem dX7_write_32 : decode cX7_write 32 = .ok (.getfield 46, 3) := by decide +kernel
theorem dX7_write_35 : decode cX7_write 35 = .ok (.aload_n 0, 1) := by decide +kernel
theorem dX7_write_36 : decode cX7_write 36 = .ok (.getfield 10, 3) := by decide +kernel
theorem dX7_write_39 : decode cX7_write 39 = .ok (.getfield 154, 3) := by decide +kernel
theorem dX7_write_42 : decode cX7_write 42 = .ok (.iload_n 1, 1) := by decide +kernel
theorem dX7_write_43 : decode cX7_write 43 = .ok (.iaload, 1) := by decide +kernel
theorem dX7_write_44 : decode cX7_write 44 = .ok (.invokevirtual 223, 3) := by decide +kernel
theorem dX7_write_47 : decode cX7_write 47 = .ok (.bipush 115, 2) := by decide +kernel
theorem dX7_write_49 : decode cX7_write 49 = .ok (.invokevirtual 227, 3) := by decide +kernel
theorem dX7_write_52 : decode cX7_write 52 = .ok (.pop, 1) := by decide +kernel
theorem dX7_write_53 : decode cX7_write 53 = .ok (.aload_n 0, 1) := by decide +kernel
theorem dX7_write_54 : decode cX7_write 54 = .ok (.getfield 46, 3) := by decide +kernel
theorem dX7_write_57 : decode cX7_write 57 = .ok (.aload_n 0, 1) := by decide +kernel
theorem dX7_write_58 : decode cX7_write 58 = .ok (.getfield 10, 3) := by decide +kernel
theorem dX7_write_61 : decode cX7_write 61 = .ok (.getfield 203, 3) := by decide +kernel
theorem dX7_write_64 : decode cX7_write 64 = .ok (.iload_n 1, 1) := by decide +kernel
theorem dX7_write_65 : decode cX7_write 65 = .ok (.iaload, 1) := by decide +kernel
theorem dX7_write_66 : decode cX7_write 66 = .ok (.invokevirtual 223, 3) := by decide +kernel
theorem dX7_write_69 : decode cX7_write 69 = .ok (.bipush 114, 2) := by decide +kernel
theorem dX7_write_71 : decode cX7_write 71 = .ok (.invokevirtual 227, 3) := by decide +kernel
theorem dX7_write_74 : decode cX7_write 74 = .ok (.pop, 1) := by decide +kernel
theorem dX7_write_75 : decode cX7_write 75 = .ok (.aload_n 0, 1) := by decide +kernel
theorem dX7_write_76 : decode cX7_write 76 = .ok (.getfield 46, 3) := by decide +kernel
theorem dX7_write_79 : decode cX7_write 79 = .ok (.aload_n 0, 1) := by decide +kernel
theorem dX7_write_80 : decode cX7_write 80 = .ok (.getfield 10, 3) := by decide +kernel
theorem dX7_write_83 : decode cX7_write 83 = .ok (.getfield 206, 3) := by decide +kernel
theorem dX7_write_86 : decode cX7_write 86 = .ok (.iload_n 1, 1) := by decide +kernel
theorem dX7_write_87 : decode cX7_write 87 = .ok (.iaload, 1) := by decide +kernel
theorem dX7_write_88 : decode cX7_write 88 = .ok (.invokevirtual 223, 3) := by decide +kernel
theorem dX7_write_91 : decode cX7_write 91 = .ok (.bipush 117, 2) := by decide +kernel
theorem dX7_write_93 : decode cX7_write 93 = .ok (.invokevirtual 227, 3) := by decide +kernel
theorem dX7_write_96 : decode cX7_write 96 = .ok (.pop, 1) := by decide +kernel
theorem dX7_write_97 : decode cX7_write 97 = .ok (.aload_n 0, 1) := by decide +kernel
theorem dX7_write_98 : decode cX7_write 98 = .ok (.getfield 10, 3) := by decide +kernel
theorem dX7_write_101 : decode cX7_write 101 = .ok (.getfield 148, 3) := by decide +kernel
theorem dX7_write_104 : decode cX7_write 104 = .ok (.iload_n 1, 1) := by decide +kernel
theorem dX7_write_105 : decode cX7_write 105 = .ok (.iaload, 1) := by decide +kernel
theorem dX7_write_106 : decode cX7_write 106 = .ok (.ifCond .le 25, 3) := by decide +kernel
theorem dX7_write_109 : decode cX7_write 109 = .ok (.aload_n 0, 1) := by decide +kernel
theorem dX7_write_110 : decode cX7_write 110 = .ok (.getfield 46, 3) := by decide +kernel
theorem dX7_write_113 : decode cX7_write 113 = .ok (.aload_n 0, 1) := by decide +kernel
theorem dX7_write_114 : decode cX7_write 114 = .ok (.getfield 10, 3) := by decide +kernel
theorem dX7_write_117 : decode cX7_write 117 = .ok (.getfield 148, 3) := by decide +kernel
theorem dX7_write_120 : decode cX7_write 120 = .ok (.iload_n 1, 1) := by decide +kernel
theorem dX7_write_121 : decode cX7_write 121 = .ok (.iaload, 1) := by decide +kernel
theorem dX7_write_122 : decode cX7_write 122 = .ok (.invokevirtual 223, 3) := by decide +kernel
theorem dX7_write_125 : decode cX7_write 125 = .ok (.bipush 97, 2) := by decide +kernel
theorem dX7_write_127 : decode cX7_write 127 = .ok (.invokevirtual 227, 3) := by decide +kernel
theorem dX7_write_130 : decode cX7_write 130 = .ok (.pop, 1) := by decide +kernel
theorem dX7_write_131 : decode cX7_write 131 = .ok (.aload_n 0, 1) := by decide +kernel
theorem dX7_write_132 : decode cX7_write 132 = .ok (.getfield 46, 3) := by decide +kernel
theorem dX7_write_135 : decode cX7_write 135 = .ok (.invokevirtual 212, 3) := by decide +kernel
theorem dX7_write_138 : decode cX7_write 138 = .ok (.ireturn, 1) := by decide +kernel
set_option maxRecDepth 20000 in
theorem ggX7_writeCredits_J4_setLength_d00df : GoodIn wsX7_writeCredits wsJ4_setLength_d00df := goodIn_r _ [12, 13, 14, 15, 16, 17, 18, 19, 20, 21, 22, 23, 24, 25, 26, 27, 28, 29, 30, 31, 32, 33, 34, 35, 36, 37, 38, 39, 40, 41, 42, 43, 44, 45, 46, 47, 48, 49, 50, 51, 52, 53, 54, 55, 56, 57, 58, 59, 60, 61, 62, 63, 64, 65, 66, 67, 68, 69, 70, 71, 72, 73, 74, 75, 76, 77, 78, 79, 80, 81, 82, 83, 84, 211, 212, 213, 214] (by decide +kernel) (by decide +kernel)
set_option maxRecDepth 20000 in
theorem gX7_writeCredits_J4_setLength_d00df : GoodIn wsX7_writeCredits (wsV RX7 219 RJ4 yJ4_setLength_d00df wsJ4_setLength_d00df) := goodIn_app (goodIn_of _ (by decide +kernel)) ggX7_writeCredits_J4_setLength_d00df
set_option maxRecDepth 20000 in
theorem ggX7_writeCredits_J4_append_cf468 : GoodIn wsX7_writeCredits wsJ4_append_cf468 := goodIn_r _ [88, 89, 90, 15, 91, 17, 92, 19, 20, 22, 23, 24, 25, 26, 27, 28, 29, 30, 31, 32, 33, 34, 35, 36, 37, 38, 39, 40, 41, 42, 43, 44, 45, 46, 47, 48, 49, 50, 51, 52, 53, 54, 55, 56, 57, 58, 59, 60, 61, 62, 63, 64, 65, 66, 67, 68, 69, 93, 94, 72, 95, 96, 97, 98, 99, 100, 101, 102, 82, 103, 104, 105, 106, 107, 108, 109, 110, 111, 112, 113, 114, 115, 116, 117, 118, 119, 120, 121, 122, 123, 124, 125, 126, 127, 128, 129, 130, 131, 132, 133, 134, 135, 136, 137, 138, 139, 140, 141, 142, 143, 144, 145, 146, 211, 212, 213, 214] (by decide +kernel) (by decide +kernel)
set_option maxRecDepth 20000 in
theorem gX7_writeCredits_J4_append_cf468 : GoodIn wsX7_writeCredits (wsV RX7 227 RJ4 yJ4_append_cf468 wsJ4_append_cf468) := goodIn_app (goodIn_of _ (by decide +kernel)) ggX7_writeCredits_J4_append_cf468
set_option maxRecDepth 20000 in
theorem ggX7_writeCredits_J4_append_bf812 : GoodIn wsX7_writeCredits wsJ4_append_bf812 := goodIn_r _ [150, 151, 152, 15, 153, 17, 154, 19, 20, 155, 156, 157, 158, 22, 23, 24, 25, 26, 27, 28, 29, 30, 31, 32, 33, 34, 35, 36, 37, 38, 39, 40, 41, 42, 43, 44, 45, 46, 47, 48, 49, 50, 51, 52, 53, 54, 55, 56, 57, 58, 59, 60, 61, 62, 63, 64, 65, 66, 67, 68, 69, 159, 160, 161, 162, 163, 164, 165, 82, 166, 132, 167, 168, 169, 117, 118, 119, 170, 171, 122, 172, 124, 173, 174, 127, 175, 176, 177, 178, 179, 180, 129, 130, 131, 133, 134, 211, 212, 213, 214] (by decide +kernel) (by decide +kernel)
set_option maxRecDepth 20000 in
theorem gX7_writeCredits_J4_append_bf812 : GoodIn wsX7_writeCredits (wsV RX7 223 RJ4 yJ4_append_bf812 wsJ4_append_bf812) := goodIn_app (goodIn_of _ (by decide +kernel)) ggX7_writeCredits_J4_append_bf812
set_option maxRecDepth 20000 in
theorem ggX7_writeCredits_J4_length_8abf5 : GoodIn wsX7_writeCredits wsJ4_length_8abf5 := goodIn_r _ [184, 185, 186, 15, 187, 17, 188, 19, 211, 212, 213, 214] (by decide +kernel) (by decide +kernel)
set_option maxRecDepth 20000 in
theorem gX7_writeCredits_J4_length_8abf5 : GoodIn wsX7_writeCredits (wsV RX7 212 RJ4 yJ4_length_8abf5 wsJ4_length_8abf5) := goodIn_app (goodIn_of _ (by decide +kernel)) ggX7_writeCredits_J4_length_8abf5
theorem dX7_writeCredits_0 : decode cX7_writeCredits 0 = .ok (.aload_n 0, 1) := by decide +kernel
theorem dX7_writeCredits_1 : decode cX7_writeCredits 1 = .ok (.getfield 46, 3) := by decide +kernel
theorem dX7_writeCredits_4 : decode cX7_writeCredits 4 = .ok (.iconst 0, 1) := by decide +kernel
theorem dX7_writeCredits_5 : decode cX7_writeCredits 5 = .ok (.invokevirtual 219, 3) := by decide +kernel
theorem dX7_writeCredits_8 : decode cX7_writeCredits 8 = .ok (.iconst 0, 1) := by decide +kernel
theorem dX7_writeCredits_9 : decode cX7_writeCredits 9 = .ok (.istore_n 1, 1) := by decide +kernel
theorem dX7_writeCredits_10 : decode cX7_writeCredits 10 = .ok (.iload_n 1, 1) := by decide +kernel
theorem dX7_writeCredits_11 : decode cX7_writeCredits 11 = .ok (.aload_n 0, 1) := by decide +kernel
theorem dX7_writeCredits_12 : decode cX7_writeCredits 12 = .ok (.getfield 10, 3) := by decide +kernel
theorem dX7_writeCredits_15 : decode cX7_writeCredits 15 = .ok (.getfield 69, 3) := by decide +kernel
theorem dX7_writeCredits_18 : decode cX7_writeCredits 18 = .ok (.getfield 151, 3) := by decide +kernel
theorem dX7_writeCredits_21 : decode cX7_writeCredits 21 = .ok (.if_icmp .ge 93, 3) := by decide +kernel
theorem dX7_writeCredits_24 : decode cX7_writeCredits 24 = .ok (.iload_n 1, 1) := by decide +kernel
theorem dX7_writeCredits_25 : decode cX7_writeCredits 25 = .ok (.ifCond .le 13, 3) := by decide +kernel
theorem dX7_writeCredits_28 : decode cX7_writeCredits 28 = .ok (.aload_n 0, 1) := by decide +kernel
theorem dX7_writeCredits_29 : decode cX7_writeCredits 29 = .ok (.getfield 46, 3) := by decide +kernel
theorem dX7_writeCredits_32 : decode cX7_writeCredits 32 = .ok (.bipush 32, 2) := by decide +kernel
theorem dX7_writeCredits_34 : decode cX7_writeCredits 34 = .ok (.invokevirtual 227, 3) := by decide +kernel
theorem dX7_writeCredits_37 : decode cX7_writeCredits 37 = .ok (.pop, 1) := by decide +kernel
theorem dX7_writeCredits_38 : decode cX7_writeCredits 38 = .ok (.aload_n 0, 1) := by decide +kernel
theorem dX7_writeCredits_39 : decode cX7_writeCredits 39 = .ok (.getfield 46, 3) := by decide +kernel
theorem dX7_writeCredits_42 : decode cX7_writeCredits 42 = .ok (.aload_n 0, 1) := by decide +kernel
theorem dX7_writeCredits_43 : decode cX7_writeCredits 43 = .ok (.getfield 10, 3) := by decide +kernel
theorem dX7_writeCredits_46 : decode cX7_writeCredits 46 = .ok (.getfield 69, 3) := by decide +kernel
theorem dX7_writeCredits_49 : decode cX7_writeCredits 49 = .ok (.getfield 98, 3) := by decide +kernel
theorem dX7_writeCredits_52 : decode cX7_writeCredits 52 = .ok (.iload_n 1, 1) := by decide +kernel
theorem dX7_writeCredits_53 : decode cX7_writeCredits 53 = .ok (.iaload, 1) := by decide +kernel
theorem dX7_writeCredits_54 : decode cX7_writeCredits 54 = .ok (.invokevirtual 223, 3) := by decide +kernel
theorem dX7_writeCredits_57 : decode cX7_writeCredits 57 = .ok (.bipush 42, 2) := by decide +kernel
theorem dX7_writeCredits_59 : decode cX7_writeCredits 59 = .ok (.invokevirtual 227, 3) := by decide +kernel
theorem dX7_writeCredits_62 : decode cX7_writeCredits 62 = .ok (.pop, 1) := by decide +kernel
theorem dX7_writeCredits_63 : decode cX7_writeCredits 63 = .ok (.aload_n 0, 1) := by decide +kernel
theorem dX7_writeCredits_64 : decode cX7_writeCredits 64 = .ok (.getfield 46, 3) := by decide +kernel
theorem dX7_writeCredits_67 : decode cX7_writeCredits 67 = .ok (.aload_n 0, 1) := by decide +kernel
theorem dX7_writeCredits_68 : decode cX7_writeCredits 68 = .ok (.getfield 10, 3) := by decide +kernel
theorem dX7_writeCredits_71 : decode cX7_writeCredits 71 = .ok (.getfield 69, 3) := by decide +kernel
theorem dX7_writeCredits_74 : decode cX7_writeCredits 74 = .ok (.getfield 102, 3) := by decide +kernel
theorem dX7_writeCredits_77 : decode cX7_writeCredits 77 = .ok (.iload_n 1, 1) := by decide +kernel
theorem dX7_writeCredits_78 : decode cX7_writeCredits 78 = .ok (.iaload, 1) := by decide +kernel
theorem dX7_writeCredits_79 : decode cX7_writeCredits 79 = .ok (.invokevirtual 223, 3) := by decide +kernel
theorem dX7_writeCredits_82 : decode cX7_writeCredits 82 = .ok (.bipush 64, 2) := by decide +kernel
theorem dX7_writeCredits_84 : decode cX7_writeCredits 84 = .ok (.invokevirtual 227, 3) := by decide +kernel
theorem dX7_writeCredits_87 : decode cX7_writeCredits 87 = .ok (.pop, 1) := by decide +kernel
theorem dX7_writeCredits_88 : decode cX7_writeCredits 88 = .ok (.aload_n 0, 1) := by decide +kernel
theorem dX7_writeCredits_89 : decode cX7_writeCredits 89 = .ok (.getfield 46, 3) := by decide +kernel
theorem dX7_writeCredits_92 : decode cX7_writeCredits 92 = .ok (.aload_n 0, 1) := by decide +kernel
theorem dX7_writeCredits_93 : decode cX7_writeCredits 93 = .ok (.getfield 10, 3) := by decide +kernel
theorem dX7_writeCredits_96 : decode cX7_writeCredits 96 = .ok (.getfield 69, 3) := by decide +kernel
theorem dX7_writeCredits_99 : decode cX7_writeCredits 99 = .ok (.getfield 105, 3) := by decide +kernel
theorem dX7_writeCredits_102 : decode cX7_writeCredits 102 = .ok (.iload_n 1, 1) := by decide +kernel
theorem dX7_writeCredits_103 : decode cX7_writeCredits 103 = .ok (.iaload, 1) := by decide +kernel
theorem dX7_writeCredits_104 : decode cX7_writeCredits 104 = .ok (.invokevirtual 223, 3) := by decide +kernel
theorem dX7_writeCredits_107 : decode cX7_writeCredits 107 = .ok (.pop, 1) := by decide +kernel
theorem dX7_writeCredits_108 : decode cX7_writeCredits 108 = .ok (.iinc 1 1, 3) := by decide +kernel
theorem dX7_writeCredits_111 : decode cX7_writeCredits 111 = .ok (.goto (-101), 3) := by decide +kernel
theorem dX7_writeCredits_114 : decode cX7_writeCredits 114 = .ok (.aload_n 0, 1) := by decide +kernel
theorem dX7_writeCredits_115 : decode cX7_writeCredits 115 = .ok (.getfield 46, 3) := by decide +kernel
theorem dX7_writeCredits_118 : decode cX7_writeCredits 118 = .ok (.invokevirtual 212, 3) := by decide +kernel
theorem dX7_writeCredits_121 : decode cX7_writeCredits 121 = .ok (.ireturn, 1) := by decide +kernel
set_option maxRecDepth 20000 in
theorem ggX7_written_J4_length_8abf5 : GoodIn wsX7_written wsJ4_length_8abf5 := goodIn_r _ [6, 7, 8, 9, 10, 11, 12, 13, 57, 58, 59, 60] (by decide +kernel) (by decide +kernel)
set_option maxRecDepth 20000 in
theorem gX7_written_J4_length_8abf5 : GoodIn wsX7_written (wsV RX7 212 RJ4 yJ4_length_8abf5 wsJ4_length_8abf5) := goodIn_app (goodIn_of _ (by decide +kernel)) ggX7_written_J4_length_8abf5
set_option maxRecDepth 20000 in
theorem ggX7_written_J4_charAt_5068e : GoodIn wsX7_written wsJ4_charAt_5068e := goodIn_r _ [17, 18, 19, 9, 20, 11, 21, 22, 23, 13, 24, 25, 26, 27, 28, 29, 30, 31, 32, 33, 34, 35, 36, 37, 38, 39, 40, 41, 42, 43, 44, 45, 46, 57, 58, 59, 60] (by decide +kernel) (by decide +kernel)
set_option maxRecDepth 20000 in
theorem gX7_written_J4_charAt_5068e : GoodIn wsX7_written (wsV RX7 230 RJ4 yJ4_charAt_5068e wsJ4_charAt_5068e) := goodIn_app (goodIn_of _ (by decide +kernel)) ggX7_written_J4_charAt_5068e
theorem dX7_written_0 : decode cX7_written 0 = .ok (.iload_n 1, 1) := by decide +kernel
theorem dX7_written_1 : decode cX7_written 1 = .ok (.ifCond .lt 25, 3) := by decide +kernel
theorem dX7_written_4 : decode cX7_written 4 = .ok (.iload_n 1, 1) := by decide +kernel
theorem dX7_written_5 : decode cX7_written 5 = .ok (.aload_n 0, 1) := by decide +kernel
theorem dX7_written_6 : decode cX7_written 6 = .ok (.getfield 46, 3) := by decide +kernel
theorem dX7_written_9 : decode cX7_written 9 = .ok (.invokevirtual 212, 3) := by decide +kernel
theorem dX7_written_12 : decode cX7_written 12 = .ok (.if_icmp .ge 14, 3) := by decide +kernel
theorem dX7_written_15 : decode cX7_written 15 = .ok (.aload_n 0, 1) := by decide +kernel
theorem dX7_written_16 : decode cX7_written 16 = .ok (.getfield 46, 3) := by decide +kernel
theorem dX7_written_19 : decode cX7_written 19 = .ok (.iload_n 1, 1) := by decide +kernel
theorem dX7_written_20 : decode cX7_written 20 = .ok (.invokevirtual 230, 3) := by decide +kernel
theorem dX7_written_23 : decode cX7_written 23 = .ok (.goto 4, 3) := by decide +kernel
theorem dX7_written_26 : decode cX7_written 26 = .ok (.iconst (-1), 1) := by decide +kernel
theorem dX7_written_27 : decode cX7_written 27 = .ok (.ireturn, 1) := by decide +kernel
set_option maxRecDepth 20000 in
theorem ggX7_read_X5_isWellFormed : GoodIn wsX7_read wsX5_isWellFormed := goodIn_r _ [16, 17, 18, 19, 20, 21, 22, 15, 23, 24, 25, 26, 27, 28, 29, 30, 31, 32, 33, 34, 35, 36, 37, 38, 39, 40, 41, 42, 43, 44, 45, 46, 47, 48, 49, 50, 51, 52, 53, 54, 55, 56, 57, 58, 59, 60, 61, 62, 63, 64, 65, 66, 67, 68, 69, 70, 71, 72, 73, 74, 75, 76, 77, 78, 79, 80, 81, 82, 83, 84, 85, 86, 87, 88, 89, 90, 91, 92, 93, 94, 95, 96, 97, 98, 99, 100, 101, 102, 103, 104, 105, 106, 107, 108, 109, 110, 111, 112, 113, 114, 115, 116, 117, 118, 119, 120, 121, 122, 123, 124, 406, 407, 408, 409, 410, 411, 412, 413, 414, 415, 416, 417, 418] (by decide +kernel) (by decide +kernel)
set_option maxRecDepth 20000 in
theorem gX7_read_X5_isWellFormed : GoodIn wsX7_read (wsV RX7 234 RX5 yX5_isWellFormed wsX5_isWellFormed) := goodIn_app (goodIn_of _ (by decide +kernel)) ggX7_read_X5_isWellFormed
set_option maxRecDepth 20000 in
theorem ggX7_read_J4_setLength_d00df : GoodIn wsX7_read wsJ4_setLength_d00df := goodIn_r _ [128, 129, 130, 31, 131, 33, 132, 35, 45, 133, 134, 135, 136, 137, 138, 44, 139, 140, 141, 142, 143, 144, 145, 146, 147, 148, 149, 75, 48, 76, 150, 151, 152, 153, 154, 155, 156, 157, 158, 159, 160, 161, 162, 163, 164, 165, 47, 49, 166, 167, 168, 169, 170, 171, 172, 173, 174, 175, 176, 177, 105, 178, 179, 180, 181, 182, 183, 184, 185, 186, 61, 187, 188, 411, 412, 413, 414] (by decide +kernel) (by decide +kernel)
set_option maxRecDepth 20000 in
theorem gX7_read_J4_setLength_d00df : GoodIn wsX7_read (wsV RX7 219 RJ4 yJ4_setLength_d00df wsJ4_setLength_d00df) := goodIn_app (goodIn_of _ (by decide +kernel)) ggX7_read_J4_setLength_d00df
set_option maxRecDepth 20000 in
theorem ggX7_read_X3_copyFrom : GoodIn wsX7_read wsX3_copyFrom := goodIn_r _ [193, 194, 195, 196, 167, 168, 169, 197, 198, 199, 200, 201, 202, 203, 204, 205, 206, 207, 208, 209, 210, 211, 212, 213, 214, 215, 216, 217, 218, 219, 220, 221, 222, 223, 224, 225, 226, 227, 228, 229, 230, 231, 232, 419, 420, 421, 422, 423, 424, 425, 426, 427, 428, 429, 430, 431, 432, 433, 434, 435, 436, 437, 438, 439, 440] (by decide +kernel) (by decide +kernel)
set_option maxRecDepth 20000 in
theorem gX7_read_X3_copyFrom : GoodIn wsX7_read (wsV RX7 137 RX3 yX3_copyFrom wsX3_copyFrom) := goodIn_app (goodIn_of _ (by decide +kernel)) ggX7_read_X3_copyFrom
set_option maxRecDepth 20000 in
theorem ggX7_read_X7_perform : GoodIn wsX7_read wsX7_perform := goodIn_r _ [237, 6, 238, 239, 240, 236, 241, 10, 242, 243, 244, 245, 246, 247, 248, 249, 250, 251, 252, 253, 254, 255, 256, 257, 206, 258, 208, 259, 260, 261, 262, 263, 264, 265, 266, 267, 268, 269, 270, 271, 272, 273, 274, 275, 276, 277, 278, 279, 280, 281, 282, 283, 284, 285, 286, 287, 288, 289, 290, 291, 292, 293, 294, 192, 295, 195, 202, 296, 201, 194, 297, 298, 299, 213, 300, 215, 216, 218, 219, 301, 302, 303, 304, 305, 306, 307, 308, 309, 310, 311, 312, 313, 314, 315, 316, 317, 318, 319, 320, 321, 322, 323, 324, 325, 326, 327, 328, 329, 200, 197, 330, 331, 47, 48, 49, 332, 333, 334, 335, 336, 337, 338, 339, 340, 341, 342, 75, 76, 343, 344, 345, 346, 347, 348, 349, 350, 351, 199, 352, 353, 354, 355, 356, 357, 358, 359, 360, 361, 362, 363, 364, 365, 366, 367, 368, 369, 370, 371, 372, 373, 374, 198, 375, 376, 377, 378, 379, 380, 396, 397, 398, 399, 400, 401, 402, 403, 404, 405, 419, 420, 421, 422, 423, 424, 425, 426, 441, 442, 443, 444, 427, 428, 429, 430, 431, 432, 433, 434, 435, 436, 437, 438, 439, 440] (by decide +kernel) (by decide +kernel)
set_option maxRecDepth 20000 in
theorem gX7_read_X7_perform : GoodIn wsX7_read (wsV RX7 248 RX7 yX7_perform wsX7_perform) := goodIn_app (goodIn_of _ (by decide +kernel)) ggX7_read_X7_perform
set_option maxRecDepth 20000 in
theorem ggX7_read_X4_keepOfCommand : GoodIn wsX7_read wsX4_keepOfCommand := goodIn_r _ [384, 251, 253, 252, 254, 441, 442, 443, 444] (by decide +kernel) (by decide +kernel)
set_option maxRecDepth 20000 in
theorem gX7_read_X4_keepOfCommand : GoodIn wsX7_read (wsV RX7 251 RX4 yX4_keepOfCommand wsX4_keepOfCommand) := goodIn_app (goodIn_of _ (by decide +kernel)) ggX7_read_X4_keepOfCommand
set_option maxRecDepth 20000 in
theorem ggX7_read_X2_keep : GoodIn wsX7_read wsX2_keep := goodIn_r _ [389, 390, 391, 392, 393, 47, 48, 49, 394, 190, 191, 192, 193, 194, 195, 196, 167, 168, 169, 197, 198, 199, 200, 201, 202, 203, 204, 205, 206, 207, 208, 209, 210, 211, 212, 213, 214, 215, 216, 217, 218, 219, 220, 221, 222, 223, 224, 225, 226, 227, 228, 229, 230, 231, 232, 395, 378, 379, 380, 445, 446, 447, 419, 420, 421, 422, 423, 424, 425, 426, 427, 428, 429, 430, 431, 432, 433, 434, 435, 436, 437, 438, 439, 440] (by decide +kernel) (by decide +kernel)
set_option maxRecDepth 20000 in
theorem gX7_read_X2_keep : GoodIn wsX7_read (wsV RX7 255 RX2 yX2_keep wsX2_keep) := goodIn_app (goodIn_of _ (by decide +kernel)) ggX7_read_X2_keep
theorem dX7_read_0 : decode cX7_read 0 = .ok (.aload_n 0, 1) := by decide +kernel
theorem dX7_read_1 : decode cX7_read 1 = .ok (.getfield 39, 3) := by decide +kernel
theorem dX7_read_4 : decode cX7_read 4 = .ok (.invokevirtual 234, 3) := by decide +kernel
theorem dX7_read_7 : decode cX7_read 7 = .ok (.istore_n 1, 1) := by decide +kernel
theorem dX7_read_8 : decode cX7_read 8 = .ok (.aload_n 0, 1) := by decide +kernel
theorem dX7_read_9 : decode cX7_read 9 = .ok (.getfield 39, 3) := by decide +kernel
theorem dX7_read_12 : decode cX7_read 12 = .ok (.getfield 209, 3) := by decide +kernel
theorem dX7_read_15 : decode cX7_read 15 = .ok (.iconst 0, 1) := by decide +kernel
theorem dX7_read_16 : decode cX7_read 16 = .ok (.invokevirtual 219, 3) := by decide +kernel
theorem dX7_read_19 : decode cX7_read 19 = .ok (.iload_n 1, 1) := by decide +kernel
theorem dX7_read_20 : decode cX7_read 20 = .ok (.ifCond .ne 17, 3) := by decide +kernel
theorem dX7_read_23 : decode cX7_read 23 = .ok (.aload_n 0, 1) := by decide +kernel
theorem dX7_read_24 : decode cX7_read 24 = .ok (.aload_n 0, 1) := by decide +kernel
theorem dX7_read_25 : decode cX7_read 25 = .ok (.getfield 39, 3) := by decide +kernel
theorem dX7_read_28 : decode cX7_read 28 = .ok (.getfield 237, 3) := by decide +kernel
theorem dX7_read_31 : decode cX7_read 31 = .ok (.putfield 57, 3) := by decide +kernel
theorem dX7_read_34 : decode cX7_read 34 = .ok (.bipush (-2), 2) := by decide +kernel
theorem dX7_read_36 : decode cX7_read 36 = .ok (.ireturn, 1) := by decide +kernel
theorem dX7_read_37 : decode cX7_read 37 = .ok (.aload_n 0, 1) := by decide +kernel
theorem dX7_read_38 : decode cX7_read 38 = .ok (.getfield 16, 3) := by decide +kernel
theorem dX7_read_41 : decode cX7_read 41 = .ok (.aload_n 0, 1) := by decide +kernel
theorem dX7_read_42 : decode cX7_read 42 = .ok (.getfield 10, 3) := by decide +kernel
theorem dX7_read_45 : decode cX7_read 45 = .ok (.invokevirtual 137, 3) := by decide +kernel
theorem dX7_read_48 : decode cX7_read 48 = .ok (.iconst 0, 1) := by decide +kernel
theorem dX7_read_49 : decode cX7_read 49 = .ok (.istore_n 2, 1) := by decide +kernel
theorem dX7_read_50 : decode cX7_read 50 = .ok (.iload_n 2, 1) := by decide +kernel
theorem dX7_read_51 : decode cX7_read 51 = .ok (.aload_n 0, 1) := by decide +kernel
theorem dX7_read_52 : decode cX7_read 52 = .ok (.getfield 39, 3) := by decide +kernel
theorem dX7_read_55 : decode cX7_read 55 = .ok (.getfield 240, 3) := by decide +kernel
theorem dX7_read_58 : decode cX7_read 58 = .ok (.if_icmp .ge 80, 3) := by decide +kernel
theorem dX7_read_61 : decode cX7_read 61 = .ok (.aload_n 0, 1) := by decide +kernel
theorem dX7_read_62 : decode cX7_read 62 = .ok (.getfield 39, 3) := by decide +kernel
theorem dX7_read_65 : decode cX7_read 65 = .ok (.getfield 241, 3) := by decide +kernel
theorem dX7_read_68 : decode cX7_read 68 = .ok (.iload_n 2, 1) := by decide +kernel
theorem dX7_read_69 : decode cX7_read 69 = .ok (.aaload, 1) := by decide +kernel
theorem dX7_read_70 : decode cX7_read 70 = .ok (.astore_n 3, 1) := by decide +kernel
theorem dX7_read_71 : decode cX7_read 71 = .ok (.aload_n 0, 1) := by decide +kernel
theorem dX7_read_72 : decode cX7_read 72 = .ok (.aload_n 0, 1) := by decide +kernel
theorem dX7_read_73 : decode cX7_read 73 = .ok (.getfield 39, 3) := by decide +kernel
theorem dX7_read_76 : decode cX7_read 76 = .ok (.getfield 245, 3) := by decide +kernel
theorem dX7_read_79 : decode cX7_read 79 = .ok (.iload_n 2, 1) := by decide +kernel
theorem dX7_read_80 : decode cX7_read 80 = .ok (.iaload, 1) := by decide +kernel
theorem dX7_read_81 : decode cX7_read 81 = .ok (.aload_n 3, 1) := by decide +kernel
theorem dX7_read_82 : decode cX7_read 82 = .ok (.iconst 0, 1) := by decide +kernel
theorem dX7_read_83 : decode cX7_read 83 = .ok (.iaload, 1) := by decide +kernel
theorem dX7_read_84 : decode cX7_read 84 = .ok (.aload_n 3, 1) := by decide +kernel
theorem dX7_read_85 : decode cX7_read 85 = .ok (.iconst 1, 1) := by decide +kernel
theorem dX7_read_86 : decode cX7_read 86 = .ok (.iaload, 1) := by decide +kernel
theorem dX7_read_87 : decode cX7_read 87 = .ok (.aload_n 3, 1) := by decide +kernel
theorem dX7_read_88 : decode cX7_read 88 = .ok (.iconst 2, 1) := by decide +kernel
theorem dX7_read_89 : decode cX7_read 89 = .ok (.iaload, 1) := by decide +kernel
theorem dX7_read_90 : decode cX7_read 90 = .ok (.invokevirtual 248, 3) := by decide +kernel
theorem dX7_read_93 : decode cX7_read 93 = .ok (.istore 4, 2) := by decide +kernel
theorem dX7_read_95 : decode cX7_read 95 = .ok (.iload 4, 2) := by decide +kernel
theorem dX7_read_97 : decode cX7_read 97 = .ok (.ifCond .ge 35, 3) := by decide +kernel
theorem dX7_read_100 : decode cX7_read 100 = .ok (.aload_n 0, 1) := by decide +kernel
theorem dX7_read_101 : decode cX7_read 101 = .ok (.getfield 10, 3) := by decide +kernel
theorem dX7_read_104 : decode cX7_read 104 = .ok (.aload_n 0, 1) := by decide +kernel
theorem dX7_read_105 : decode cX7_read 105 = .ok (.getfield 16, 3) := by decide +kernel
theorem dX7_read_108 : decode cX7_read 108 = .ok (.invokevirtual 137, 3) := by decide +kernel
theorem dX7_read_111 : decode cX7_read 111 = .ok (.aload_n 0, 1) := by decide +kernel
theorem dX7_read_112 : decode cX7_read 112 = .ok (.getfield 53, 3) := by decide +kernel
theorem dX7_read_115 : decode cX7_read 115 = .ok (.iload_n 2, 1) := by decide +kernel
theorem dX7_read_116 : decode cX7_read 116 = .ok (.iload 4, 2) := by decide +kernel
theorem dX7_read_118 : decode cX7_read 118 = .ok (.bipush (-5), 2) := by decide +kernel
theorem dX7_read_120 : decode cX7_read 120 = .ok (.if_icmp .ne 7, 3) := by decide +kernel
theorem dX7_read_123 : decode cX7_read 123 = .ok (.iconst 1, 1) := by decide +kernel
theorem dX7_read_124 : decode cX7_read 124 = .ok (.goto 4, 3) := by decide +kernel
theorem dX7_read_127 : decode cX7_read 127 = .ok (.iconst 0, 1) := by decide +kernel
theorem dX7_read_128 : decode cX7_read 128 = .ok (.invokevirtual 251, 3) := by decide +kernel
theorem dX7_read_131 : decode cX7_read 131 = .ok (.ireturn, 1) := by decide +kernel
theorem dX7_read_132 : decode cX7_read 132 = .ok (.iinc 2 1, 3) := by decide +kernel
theorem dX7_read_135 : decode cX7_read 135 = .ok (.goto (-85), 3) := by decide +kernel
theorem dX7_read_138 : decode cX7_read 138 = .ok (.aload_n 0, 1) := by decide +kernel
theorem dX7_read_139 : decode cX7_read 139 = .ok (.getfield 32, 3) := by decide +kernel
theorem dX7_read_142 : decode cX7_read 142 = .ok (.aload_n 0, 1) := by decide +kernel
theorem dX7_read_143 : decode cX7_read 143 = .ok (.getfield 16, 3) := by decide +kernel
theorem dX7_read_146 : decode cX7_read 146 = .ok (.invokevirtual 255, 3) := by decide +kernel
theorem dX7_read_149 : decode cX7_read 149 = .ok (.aload_n 0, 1) := by decide +kernel
theorem dX7_read_150 : decode cX7_read 150 = .ok (.getfield 39, 3) := by decide +kernel
theorem dX7_read_153 : decode cX7_read 153 = .ok (.getfield 240, 3) := by decide +kernel
theorem dX7_read_156 : decode cX7_read 156 = .ok (.ireturn, 1) := by decide +kernel
theorem dX7_fault_0 : decode cX7_fault 0 = .ok (.aload_n 0, 1) := by decide +kernel
theorem dX7_fault_1 : decode cX7_fault 1 = .ok (.getfield 57, 3) := by decide +kernel
theorem dX7_fault_4 : decode cX7_fault 4 = .ok (.ireturn, 1) := by decide +kernel
theorem dX7_reason_0 : decode cX7_reason 0 = .ok (.iload_n 1, 1) := by decide +kernel
theorem dX7_reason_1 : decode cX7_reason 1 = .ok (.ifCond .lt 8, 3) := by decide +kernel
theorem dX7_reason_4 : decode cX7_reason 4 = .ok (.iload_n 1, 1) := by decide +kernel
theorem dX7_reason_5 : decode cX7_reason 5 = .ok (.iconst 1, 1) := by decide +kernel
theorem dX7_reason_6 : decode cX7_reason 6 = .ok (.if_icmp .le 6, 3) := by decide +kernel
theorem dX7_reason_9 : decode cX7_reason 9 = .ok (.bipush (-2), 2) := by decide +kernel
theorem dX7_reason_11 : decode cX7_reason 11 = .ok (.ireturn, 1) := by decide +kernel
theorem dX7_reason_12 : decode cX7_reason 12 = .ok (.aload_n 0, 1) := by decide +kernel
theorem dX7_reason_13 : decode cX7_reason 13 = .ok (.getfield 53, 3) := by decide +kernel
theorem dX7_reason_16 : decode cX7_reason 16 = .ok (.getfield 258, 3) := by decide +kernel
theorem dX7_reason_19 : decode cX7_reason 19 = .ok (.ifCond .ne 6, 3) := by decide +kernel
theorem dX7_reason_22 : decode cX7_reason 22 = .ok (.bipush (-3), 2) := by decide +kernel
theorem dX7_reason_24 : decode cX7_reason 24 = .ok (.ireturn, 1) := by decide +kernel
theorem dX7_reason_25 : decode cX7_reason 25 = .ok (.iload_n 1, 1) := by decide +kernel
theorem dX7_reason_26 : decode cX7_reason 26 = .ok (.ifCond .ne 25, 3) := by decide +kernel
theorem dX7_reason_29 : decode cX7_reason 29 = .ok (.iload_n 2, 1) := by decide +kernel
theorem dX7_reason_30 : decode cX7_reason 30 = .ok (.ifCond .eq 13, 3) := by decide +kernel
theorem dX7_reason_33 : decode cX7_reason 33 = .ok (.aload_n 0, 1) := by decide +kernel
theorem dX7_reason_34 : decode cX7_reason 34 = .ok (.getfield 53, 3) := by decide +kernel
theorem dX7_reason_37 : decode cX7_reason 37 = .ok (.getfield 261, 3) := by decide +kernel
theorem dX7_reason_40 : decode cX7_reason 40 = .ok (.goto 10, 3) := by decide +kernel
theorem dX7_reason_43 : decode cX7_reason 43 = .ok (.aload_n 0, 1) := by decide +kernel
theorem dX7_reason_44 : decode cX7_reason 44 = .ok (.getfield 53, 3) := by decide +kernel
theorem dX7_reason_47 : decode cX7_reason 47 = .ok (.getfield 258, 3) := by decide +kernel
theorem dX7_reason_50 : decode cX7_reason 50 = .ok (.ireturn, 1) := by decide +kernel
theorem dX7_reason_51 : decode cX7_reason 51 = .ok (.aload_n 0, 1) := by decide +kernel
theorem dX7_reason_52 : decode cX7_reason 52 = .ok (.getfield 53, 3) := by decide +kernel
theorem dX7_reason_55 : decode cX7_reason 55 = .ok (.getfield 264, 3) := by decide +kernel
theorem dX7_reason_58 : decode cX7_reason 58 = .ok (.ifCond .ne 6, 3) := by decide +kernel
theorem dX7_reason_61 : decode cX7_reason 61 = .ok (.bipush (-6), 2) := by decide +kernel
theorem dX7_reason_63 : decode cX7_reason 63 = .ok (.ireturn, 1) := by decide +kernel
theorem dX7_reason_64 : decode cX7_reason 64 = .ok (.iload_n 2, 1) := by decide +kernel
theorem dX7_reason_65 : decode cX7_reason 65 = .ok (.ifCond .eq 13, 3) := by decide +kernel
theorem dX7_reason_68 : decode cX7_reason 68 = .ok (.aload_n 0, 1) := by decide +kernel
theorem dX7_reason_69 : decode cX7_reason 69 = .ok (.getfield 53, 3) := by decide +kernel
theorem dX7_reason_72 : decode cX7_reason 72 = .ok (.getfield 267, 3) := by decide +kernel
theorem dX7_reason_75 : decode cX7_reason 75 = .ok (.goto 10, 3) := by decide +kernel
theorem dX7_reason_78 : decode cX7_reason 78 = .ok (.aload_n 0, 1) := by decide +kernel
theorem dX7_reason_79 : decode cX7_reason 79 = .ok (.getfield 53, 3) := by decide +kernel
theorem dX7_reason_82 : decode cX7_reason 82 = .ok (.getfield 264, 3) := by decide +kernel
theorem dX7_reason_85 : decode cX7_reason 85 = .ok (.ireturn, 1) := by decide +kernel
set_option maxRecDepth 20000 in
theorem ggX7_undo_X2_takeBack : GoodIn wsX7_undo wsX2_takeBack := goodIn_r _ [8, 9, 10, 11, 12, 13, 14, 15, 16, 17, 18, 19, 20, 21, 22, 23, 24, 25, 26, 27, 28, 29, 30, 31, 32, 33, 34, 35, 36, 37, 38, 39, 40, 41, 42, 43, 44, 45, 46, 47, 48, 49, 50, 51, 52, 53, 54, 55, 56, 57, 58, 59, 60, 61, 62, 73, 74, 75, 76, 77, 78, 79, 80, 81, 82, 83, 84, 85, 86, 87, 88, 89, 90, 91, 92, 93, 94, 95, 96, 97] (by decide +kernel) (by decide +kernel)
set_option maxRecDepth 20000 in
theorem gX7_undo_X2_takeBack : GoodIn wsX7_undo (wsV RX7 270 RX2 yX2_takeBack wsX2_takeBack) := goodIn_app (goodIn_of _ (by decide +kernel)) ggX7_undo_X2_takeBack
theorem dX7_undo_0 : decode cX7_undo 0 = .ok (.aload_n 0, 1) := by decide +kernel
theorem dX7_undo_1 : decode cX7_undo 1 = .ok (.getfield 32, 3) := by decide +kernel
theorem dX7_undo_4 : decode cX7_undo 4 = .ok (.getfield 215, 3) := by decide +kernel
theorem dX7_undo_7 : decode cX7_undo 7 = .ok (.ifCond .ne 6, 3) := by decide +kernel
theorem dX7_undo_10 : decode cX7_undo 10 = .ok (.bipush (-3), 2) := by decide +kernel
theorem dX7_undo_12 : decode cX7_undo 12 = .ok (.ireturn, 1) := by decide +kernel
theorem dX7_undo_13 : decode cX7_undo 13 = .ok (.aload_n 0, 1) := by decide +kernel
theorem dX7_undo_14 : decode cX7_undo 14 = .ok (.getfield 32, 3) := by decide +kernel
theorem dX7_undo_17 : decode cX7_undo 17 = .ok (.aload_n 0, 1) := by decide +kernel
theorem dX7_undo_18 : decode cX7_undo 18 = .ok (.getfield 10, 3) := by decide +kernel
theorem dX7_undo_21 : decode cX7_undo 21 = .ok (.invokevirtual 270, 3) := by decide +kernel
theorem dX7_undo_24 : decode cX7_undo 24 = .ok (.aload_n 0, 1) := by decide +kernel
theorem dX7_undo_25 : decode cX7_undo 25 = .ok (.getfield 32, 3) := by decide +kernel
theorem dX7_undo_28 : decode cX7_undo 28 = .ok (.getfield 215, 3) := by decide +kernel
theorem dX7_undo_31 : decode cX7_undo 31 = .ok (.ireturn, 1) := by decide +kernel
set_option maxRecDepth 20000 in
theorem ggX7_save_X3_copyFrom : GoodIn wsX7_save wsX3_copyFrom := goodIn_r _ [9, 10, 11, 12, 13, 14, 15, 16, 17, 18, 19, 20, 21, 22, 23, 24, 25, 26, 27, 28, 29, 30, 31, 32, 33, 34, 35, 36, 37, 38, 39, 40, 41, 42, 43, 44, 45, 46, 47, 48, 49, 50, 51, 62, 63, 64, 65, 66, 67, 68, 69, 70, 71, 72, 73, 74, 75, 76, 77, 78, 79, 80, 81, 82, 83] (by decide +kernel) (by decide +kernel)
set_option maxRecDepth 20000 in
theorem gX7_save_X3_copyFrom : GoodIn wsX7_save (wsV RX7 137 RX3 yX3_copyFrom wsX3_copyFrom) := goodIn_app (goodIn_of _ (by decide +kernel)) ggX7_save_X3_copyFrom
theorem dX7_save_0 : decode cX7_save 0 = .ok (.aload_n 0, 1) := by decide +kernel
theorem dX7_save_1 : decode cX7_save 1 = .ok (.getfield 22, 3) := by decide +kernel
theorem dX7_save_4 : decode cX7_save 4 = .ok (.aload_n 0, 1) := by decide +kernel
theorem dX7_save_5 : decode cX7_save 5 = .ok (.getfield 10, 3) := by decide +kernel
theorem dX7_save_8 : decode cX7_save 8 = .ok (.invokevirtual 137, 3) := by decide +kernel
theorem dX7_save_11 : decode cX7_save 11 = .ok (.aload_n 0, 1) := by decide +kernel
theorem dX7_save_12 : decode cX7_save 12 = .ok (.iconst 1, 1) := by decide +kernel
theorem dX7_save_13 : decode cX7_save 13 = .ok (.putfield 25, 3) := by decide +kernel
theorem dX7_save_16 : decode cX7_save 16 = .ok (.aload_n 0, 1) := by decide +kernel
theorem dX7_save_17 : decode cX7_save 17 = .ok (.getfield 10, 3) := by decide +kernel
theorem dX7_save_20 : decode cX7_save 20 = .ok (.getfield 108, 3) := by decide +kernel
theorem dX7_save_23 : decode cX7_save 23 = .ok (.ireturn, 1) := by decide +kernel
set_option maxRecDepth 20000 in
theorem ggX7_restore_X3_copyFrom : GoodIn wsX7_restore wsX3_copyFrom := goodIn_r _ [11, 12, 13, 14, 15, 16, 17, 18, 19, 20, 21, 22, 23, 24, 25, 26, 27, 28, 29, 30, 31, 32, 33, 34, 35, 36, 37, 38, 39, 40, 41, 42, 43, 44, 45, 46, 47, 48, 49, 50, 51, 52, 53, 67, 68, 69, 70, 71, 72, 73, 74, 75, 76, 77, 78, 79, 80, 81, 82, 83, 84, 85, 86, 87, 88] (by decide +kernel) (by decide +kernel)
set_option maxRecDepth 20000 in
theorem gX7_restore_X3_copyFrom : GoodIn wsX7_restore (wsV RX7 137 RX3 yX3_copyFrom wsX3_copyFrom) := goodIn_app (goodIn_of _ (by decide +kernel)) ggX7_restore_X3_copyFrom
theorem dX7_restore_0 : decode cX7_restore 0 = .ok (.aload_n 0, 1) := by decide +kernel
theorem dX7_restore_1 : decode cX7_restore 1 = .ok (.getfield 25, 3) := by decide +kernel
theorem dX7_restore_4 : decode cX7_restore 4 = .ok (.ifCond .ne 6, 3) := by decide +kernel
theorem dX7_restore_7 : decode cX7_restore 7 = .ok (.bipush (-3), 2) := by decide +kernel
theorem dX7_restore_9 : decode cX7_restore 9 = .ok (.ireturn, 1) := by decide +kernel
theorem dX7_restore_10 : decode cX7_restore 10 = .ok (.aload_n 0, 1) := by decide +kernel
theorem dX7_restore_11 : decode cX7_restore 11 = .ok (.getfield 10, 3) := by decide +kernel
theorem dX7_restore_14 : decode cX7_restore 14 = .ok (.aload_n 0, 1) := by decide +kernel
theorem dX7_restore_15 : decode cX7_restore 15 = .ok (.getfield 22, 3) := by decide +kernel
theorem dX7_restore_18 : decode cX7_restore 18 = .ok (.invokevirtual 137, 3) := by decide +kernel
theorem dX7_restore_21 : decode cX7_restore 21 = .ok (.aload_n 0, 1) := by decide +kernel
theorem dX7_restore_22 : decode cX7_restore 22 = .ok (.getfield 32, 3) := by decide +kernel
theorem dX7_restore_25 : decode cX7_restore 25 = .ok (.iconst 0, 1) := by decide +kernel
theorem dX7_restore_26 : decode cX7_restore 26 = .ok (.putfield 215, 3) := by decide +kernel
theorem dX7_restore_29 : decode cX7_restore 29 = .ok (.aload_n 0, 1) := by decide +kernel
theorem dX7_restore_30 : decode cX7_restore 30 = .ok (.getfield 10, 3) := by decide +kernel
theorem dX7_restore_33 : decode cX7_restore 33 = .ok (.getfield 108, 3) := by decide +kernel
theorem dX7_restore_36 : decode cX7_restore 36 = .ok (.ireturn, 1) := by decide +kernel
set_option maxRecDepth 20000 in
theorem ggX7_change_X3_copyFrom : GoodIn wsX7_change wsX3_copyFrom := goodIn_r _ [8, 9, 10, 11, 12, 13, 14, 15, 16, 17, 18, 19, 20, 21, 22, 23, 24, 25, 26, 27, 28, 29, 30, 31, 32, 33, 34, 35, 36, 37, 38, 39, 40, 41, 42, 43, 44, 45, 46, 47, 48, 49, 50, 226, 227, 228, 229, 230, 231, 232, 233, 234, 235, 236, 237, 238, 239, 240, 241, 242, 243, 244, 245, 246, 247] (by decide +kernel) (by decide +kernel)
set_option maxRecDepth 20000 in
theorem gX7_change_X3_copyFrom : GoodIn wsX7_change (wsV RX7 137 RX3 yX3_copyFrom wsX3_copyFrom) := goodIn_app (goodIn_of _ (by decide +kernel)) ggX7_change_X3_copyFrom
set_option maxRecDepth 20000 in
theorem ggX7_change_X7_perform : GoodIn wsX7_change wsX7_perform := goodIn_r _ [55, 2, 56, 57, 58, 54, 59, 60, 61, 62, 63, 64, 65, 66, 67, 68, 69, 70, 71, 72, 73, 74, 75, 76, 24, 77, 26, 78, 79, 80, 81, 82, 83, 84, 85, 86, 87, 88, 89, 90, 91, 92, 93, 94, 95, 96, 97, 98, 99, 100, 101, 102, 103, 104, 105, 106, 107, 108, 109, 110, 111, 112, 113, 7, 114, 10, 20, 115, 19, 9, 116, 117, 118, 31, 119, 33, 34, 36, 37, 120, 121, 122, 123, 124, 125, 126, 127, 128, 129, 130, 131, 132, 133, 134, 135, 136, 137, 138, 139, 140, 141, 142, 143, 144, 145, 146, 147, 148, 18, 15, 149, 150, 151, 152, 153, 154, 155, 156, 157, 158, 159, 160, 161, 162, 163, 164, 165, 166, 167, 168, 169, 170, 171, 172, 173, 174, 175, 17, 176, 177, 178, 179, 180, 181, 182, 183, 184, 185, 186, 187, 188, 189, 190, 191, 192, 193, 194, 195, 196, 197, 198, 16, 199, 200, 201, 202, 203, 204, 216, 217, 218, 219, 220, 221, 222, 223, 224, 225, 226, 227, 228, 229, 230, 231, 232, 233, 248, 249, 250, 251, 234, 235, 236, 237, 238, 239, 240, 241, 242, 243, 244, 245, 246, 247] (by decide +kernel) (by decide +kernel)
set_option maxRecDepth 20000 in
theorem gX7_change_X7_perform : GoodIn wsX7_change (wsV RX7 248 RX7 yX7_perform wsX7_perform) := goodIn_app (goodIn_of _ (by decide +kernel)) ggX7_change_X7_perform
set_option maxRecDepth 20000 in
theorem ggX7_change_X2_keep : GoodIn wsX7_change wsX2_keep := goodIn_r _ [209, 210, 211, 212, 213, 151, 152, 153, 214, 5, 6, 7, 8, 9, 10, 11, 12, 13, 14, 15, 16, 17, 18, 19, 20, 21, 22, 23, 24, 25, 26, 27, 28, 29, 30, 31, 32, 33, 34, 35, 36, 37, 38, 39, 40, 41, 42, 43, 44, 45, 46, 47, 48, 49, 50, 215, 202, 203, 204, 252, 253, 254, 226, 227, 228, 229, 230, 231, 232, 233, 234, 235, 236, 237, 238, 239, 240, 241, 242, 243, 244, 245, 246, 247] (by decide +kernel) (by decide +kernel)
set_option maxRecDepth 20000 in
theorem gX7_change_X2_keep : GoodIn wsX7_change (wsV RX7 255 RX2 yX2_keep wsX2_keep) := goodIn_app (goodIn_of _ (by decide +kernel)) ggX7_change_X2_keep
theorem dX7_change_0 : decode cX7_change 0 = .ok (.aload_n 0, 1) := by decide +kernel
theorem dX7_change_1 : decode cX7_change 1 = .ok (.getfield 16, 3) := by decide +kernel
theorem dX7_change_4 : decode cX7_change 4 = .ok (.aload_n 0, 1) := by decide +kernel
theorem dX7_change_5 : decode cX7_change 5 = .ok (.getfield 10, 3) := by decide +kernel
theorem dX7_change_8 : decode cX7_change 8 = .ok (.invokevirtual 137, 3) := by decide +kernel
theorem dX7_change_11 : decode cX7_change 11 = .ok (.aload_n 0, 1) := by decide +kernel
theorem dX7_change_12 : decode cX7_change 12 = .ok (.iload_n 1, 1) := by decide +kernel
theorem dX7_change_13 : decode cX7_change 13 = .ok (.iload_n 2, 1) := by decide +kernel
theorem dX7_change_14 : decode cX7_change 14 = .ok (.iload_n 3, 1) := by decide +kernel
theorem dX7_change_15 : decode cX7_change 15 = .ok (.iload 4, 2) := by decide +kernel
theorem dX7_change_17 : decode cX7_change 17 = .ok (.invokevirtual 248, 3) := by decide +kernel
theorem dX7_change_20 : decode cX7_change 20 = .ok (.istore 5, 2) := by decide +kernel
theorem dX7_change_22 : decode cX7_change 22 = .ok (.iload 5, 2) := by decide +kernel
theorem dX7_change_24 : decode cX7_change 24 = .ok (.ifCond .lt 14, 3) := by decide +kernel
theorem dX7_change_27 : decode cX7_change 27 = .ok (.aload_n 0, 1) := by decide +kernel
theorem dX7_change_28 : decode cX7_change 28 = .ok (.getfield 32, 3) := by decide +kernel
theorem dX7_change_31 : decode cX7_change 31 = .ok (.aload_n 0, 1) := by decide +kernel
theorem dX7_change_32 : decode cX7_change 32 = .ok (.getfield 16, 3) := by decide +kernel
theorem dX7_change_35 : decode cX7_change 35 = .ok (.invokevirtual 255, 3) := by decide +kernel
theorem dX7_change_38 : decode cX7_change 38 = .ok (.iload 5, 2) := by decide +kernel
theorem dX7_change_40 : decode cX7_change 40 = .ok (.ireturn, 1) := by decide +kernel
set_option maxRecDepth 20000 in
theorem ggX7_perform_X7_agree : GoodIn wsX7_perform wsX7_agree := goodIn_r _ [6, 7, 1, 8, 9, 10, 5, 11, 12, 13, 14, 15, 16, 17, 18, 19, 20, 21, 22, 23, 24, 25, 26, 27, 28, 29, 30, 31, 32, 33, 34, 35, 36, 37, 38, 39, 40, 41, 42, 43, 44, 45, 168, 169, 170, 171, 172, 173, 174, 175, 176, 177, 178, 179, 180, 181, 182, 183, 184, 185, 186, 187, 188, 189, 190, 191] (by decide +kernel) (by decide +kernel)
set_option maxRecDepth 20000 in
theorem gX7_perform_X7_agree : GoodIn wsX7_perform (wsV RX7 273 RX7 yX7_agree wsX7_agree) := goodIn_app (goodIn_of _ (by decide +kernel)) ggX7_perform_X7_agree
set_option maxRecDepth 20000 in
theorem ggX7_perform_X7_lend : GoodIn wsX7_perform wsX7_lend := goodIn_r _ [49, 1, 50, 7, 51, 52, 53, 9, 10, 5, 11, 54, 55, 56, 57, 58, 59, 12, 13, 14, 15, 16, 17, 18, 19, 20, 60, 61, 62, 63, 64, 65, 66, 67, 68, 69, 70, 71, 72, 73, 74, 75, 76, 77, 78, 168, 169, 170, 171, 172, 173, 174, 175, 176, 177, 178, 179, 180, 181, 182, 183, 184, 185, 192, 193, 194, 195, 186, 187, 188, 189, 196, 197, 198, 199, 200, 201, 202, 203] (by decide +kernel) (by decide +kernel)
set_option maxRecDepth 20000 in
theorem gX7_perform_X7_lend : GoodIn wsX7_perform (wsV RX7 277 RX7 yX7_lend wsX7_lend) := goodIn_app (goodIn_of _ (by decide +kernel)) ggX7_perform_X7_lend
set_option maxRecDepth 20000 in
theorem ggX7_perform_X7_takeBack : GoodIn wsX7_perform wsX7_takeBack := goodIn_r _ [82, 1, 51, 83, 84, 53, 7, 85, 86, 87, 88, 89, 73, 90, 75, 9, 10, 5, 11, 12, 13, 14, 15, 16, 17, 18, 19, 20, 91, 92, 93, 94, 95, 96, 97, 98, 99, 76, 77, 78, 168, 169, 170, 171, 172, 173, 174, 175, 176, 177, 178, 179, 180, 181, 182, 183, 184, 185, 192, 193, 194, 195, 196, 197, 198, 199, 200, 201, 202, 203, 186, 187, 188, 189] (by decide +kernel) (by decide +kernel)
set_option maxRecDepth 20000 in
theorem gX7_perform_X7_takeBack : GoodIn wsX7_perform (wsV RX7 280 RX7 yX7_takeBack wsX7_takeBack) := goodIn_app (goodIn_of _ (by decide +kernel)) ggX7_perform_X7_takeBack
set_option maxRecDepth 20000 in
theorem ggX7_perform_X7_pour : GoodIn wsX7_perform wsX7_pour := goodIn_r _ [103, 1, 9, 10, 5, 11, 54, 55, 56, 104, 105, 106, 63, 107, 108, 109, 110, 111, 112, 113, 114, 115, 116, 117, 24, 118, 119, 26, 168, 169, 170, 171, 172, 173, 174, 175, 176, 177, 178, 179, 180, 181, 182, 183, 184, 185, 190, 191] (by decide +kernel) (by decide +kernel)
set_option maxRecDepth 20000 in
theorem gX7_perform_X7_pour : GoodIn wsX7_perform (wsV RX7 282 RX7 yX7_pour wsX7_pour) := goodIn_app (goodIn_of _ (by decide +kernel)) ggX7_perform_X7_pour
set_option maxRecDepth 20000 in
theorem ggX7_perform_X7_pledge : GoodIn wsX7_perform wsX7_pledge := goodIn_r _ [123, 1, 50, 7, 124, 125, 126, 113, 127, 9, 10, 5, 11, 12, 13, 14, 15, 16, 17, 18, 19, 20, 168, 169, 170, 171, 172, 173, 174, 175, 176, 177, 178, 179, 180, 181, 182, 183, 184, 185, 186, 187, 188, 189] (by decide +kernel) (by decide +kernel)
set_option maxRecDepth 20000 in
theorem gX7_perform_X7_pledge : GoodIn wsX7_perform (wsV RX7 285 RX7 yX7_pledge wsX7_pledge) := goodIn_app (goodIn_of _ (by decide +kernel)) ggX7_perform_X7_pledge
set_option maxRecDepth 20000 in
theorem ggX7_perform_X7_sell : GoodIn wsX7_perform wsX7_sell := goodIn_r _ [131, 1, 124, 7, 53, 85, 132, 9, 10, 5, 11, 12, 13, 14, 15, 16, 17, 18, 19, 20, 168, 169, 170, 171, 172, 173, 174, 175, 176, 177, 178, 179, 180, 181, 182, 183, 184, 185, 196, 197, 198, 199, 200, 201, 202, 203, 186, 187, 188, 189] (by decide +kernel) (by decide +kernel)
set_option maxRecDepth 20000 in
theorem gX7_perform_X7_sell : GoodIn wsX7_perform (wsV RX7 288 RX7 yX7_sell wsX7_sell) := goodIn_app (goodIn_of _ (by decide +kernel)) ggX7_perform_X7_sell
set_option maxRecDepth 20000 in
theorem ggX7_perform_X3_pass : GoodIn wsX7_perform wsX3_pass := goodIn_r _ [136, 69, 137, 65, 111, 112, 113, 114, 66, 67, 109, 138, 126, 127, 139, 140, 141, 63, 142, 68, 143, 144, 145, 146, 147, 97, 98, 73, 99, 76, 77, 78, 95, 88, 89, 90, 75, 148, 149, 150, 151, 152, 153, 154, 155, 10, 5, 11, 156, 105, 106, 107, 108, 110, 115, 116, 117, 24, 118, 119, 26, 157, 158, 159, 160, 161, 162, 163, 164, 165, 166, 167, 178, 179, 180, 181, 182, 183, 184, 185, 196, 197, 198, 199, 200, 201, 202, 203, 192, 193, 194, 195, 190, 191] (by decide +kernel) (by decide +kernel)
set_option maxRecDepth 20000 in
theorem gX7_perform_X3_pass : GoodIn wsX7_perform (wsV RX7 141 RX3 yX3_pass wsX3_pass) := goodIn_app (goodIn_of _ (by decide +kernel)) ggX7_perform_X3_pass
theorem dX7_perform_0 : decode cX7_perform 0 = .ok (.iload_n 1, 1) := by decide +kernel
theorem dX7_perform_1 : decode cX7_perform 1 = .ok (.tableswitch 94 0 6 #[43, 51, 59, 68, 74, 81, 88], 43) := by decide +kernel
theorem dX7_perform_44 : decode cX7_perform 44 = .ok (.aload_n 0, 1) := by decide +kernel
theorem dX7_perform_45 : decode cX7_perform 45 = .ok (.iload_n 2, 1) := by decide +kernel
theorem dX7_perform_46 : decode cX7_perform 46 = .ok (.iload_n 3, 1) := by decide +kernel
theorem dX7_perform_47 : decode cX7_perform 47 = .ok (.iconst 1, 1) := by decide +kernel
theorem dX7_perform_48 : decode cX7_perform 48 = .ok (.invokevirtual 273, 3) := by decide +kernel
theorem dX7_perform_51 : decode cX7_perform 51 = .ok (.ireturn, 1) := by decide +kernel
theorem dX7_perform_52 : decode cX7_perform 52 = .ok (.aload_n 0, 1) := by decide +kernel
theorem dX7_perform_53 : decode cX7_perform 53 = .ok (.iload_n 2, 1) := by decide +kernel
theorem dX7_perform_54 : decode cX7_perform 54 = .ok (.iload_n 3, 1) := by decide +kernel
theorem dX7_perform_55 : decode cX7_perform 55 = .ok (.iconst 0, 1) := by decide +kernel
theorem dX7_perform_56 : decode cX7_perform 56 = .ok (.invokevirtual 273, 3) := by decide +kernel
theorem dX7_perform_59 : decode cX7_perform 59 = .ok (.ireturn, 1) := by decide +kernel
theorem dX7_perform_60 : decode cX7_perform 60 = .ok (.aload_n 0, 1) := by decide +kernel
theorem dX7_perform_61 : decode cX7_perform 61 = .ok (.iload_n 2, 1) := by decide +kernel
theorem dX7_perform_62 : decode cX7_perform 62 = .ok (.iload_n 3, 1) := by decide +kernel
theorem dX7_perform_63 : decode cX7_perform 63 = .ok (.iload 4, 2) := by decide +kernel
theorem dX7_perform_65 : decode cX7_perform 65 = .ok (.invokevirtual 277, 3) := by decide +kernel
theorem dX7_perform_68 : decode cX7_perform 68 = .ok (.ireturn, 1) := by decide +kernel
theorem dX7_perform_69 : decode cX7_perform 69 = .ok (.aload_n 0, 1) := by decide +kernel
theorem dX7_perform_70 : decode cX7_perform 70 = .ok (.iload_n 2, 1) := by decide +kernel
theorem dX7_perform_71 : decode cX7_perform 71 = .ok (.invokevirtual 280, 3) := by decide +kernel
theorem dX7_perform_74 : decode cX7_perform 74 = .ok (.ireturn, 1) := by decide +kernel
theorem dX7_perform_75 : decode cX7_perform 75 = .ok (.aload_n 0, 1) := by decide +kernel
theorem dX7_perform_76 : decode cX7_perform 76 = .ok (.iload_n 2, 1) := by decide +kernel
theorem dX7_perform_77 : decode cX7_perform 77 = .ok (.iload_n 3, 1) := by decide +kernel
theorem dX7_perform_78 : decode cX7_perform 78 = .ok (.invokevirtual 282, 3) := by decide +kernel
theorem dX7_perform_81 : decode cX7_perform 81 = .ok (.ireturn, 1) := by decide +kernel
theorem dX7_perform_82 : decode cX7_perform 82 = .ok (.aload_n 0, 1) := by decide +kernel
theorem dX7_perform_83 : decode cX7_perform 83 = .ok (.iload_n 2, 1) := by decide +kernel
theorem dX7_perform_84 : decode cX7_perform 84 = .ok (.iload_n 3, 1) := by decide +kernel
theorem dX7_perform_85 : decode cX7_perform 85 = .ok (.invokevirtual 285, 3) := by decide +kernel
theorem dX7_perform_88 : decode cX7_perform 88 = .ok (.ireturn, 1) := by decide +kernel
theorem dX7_perform_89 : decode cX7_perform 89 = .ok (.aload_n 0, 1) := by decide +kernel
theorem dX7_perform_90 : decode cX7_perform 90 = .ok (.iload_n 2, 1) := by decide +kernel
theorem dX7_perform_91 : decode cX7_perform 91 = .ok (.invokevirtual 288, 3) := by decide +kernel
theorem dX7_perform_94 : decode cX7_perform 94 = .ok (.ireturn, 1) := by decide +kernel
theorem dX7_perform_95 : decode cX7_perform 95 = .ok (.aload_n 0, 1) := by decide +kernel
theorem dX7_perform_96 : decode cX7_perform 96 = .ok (.getfield 10, 3) := by decide +kernel
theorem dX7_perform_99 : decode cX7_perform 99 = .ok (.invokevirtual 141, 3) := by decide +kernel
theorem dX7_perform_102 : decode cX7_perform 102 = .ok (.ireturn, 1) := by decide +kernel
set_option maxRecDepth 20000 in
theorem ggX7_agree_X7_isTown : GoodIn wsX7_agree wsX7_isTown := goodIn_r _ [7] (by decide +kernel) (by decide +kernel)
set_option maxRecDepth 20000 in
theorem gX7_agree_X7_isTown : GoodIn wsX7_agree (va_wsS RX7 65 yX7_isTown wsX7_isTown) := goodIn_app (goodIn_of _ (by decide +kernel)) ggX7_agree_X7_isTown
set_option maxRecDepth 20000 in
theorem ggX7_agree_X4_keep : GoodIn wsX7_agree wsX4_keep := goodIn_r _ [12, 13, 14, 15, 16, 60, 61, 62, 63] (by decide +kernel) (by decide +kernel)
set_option maxRecDepth 20000 in
theorem gX7_agree_X4_keep : GoodIn wsX7_agree (wsV RX7 291 RX4 yX4_keep wsX4_keep) := goodIn_app (goodIn_of _ (by decide +kernel)) ggX7_agree_X4_keep
set_option maxRecDepth 20000 in
theorem ggX7_agree_X6_isBetween : GoodIn wsX7_agree wsX6_isBetween := goodIn_r _ [21, 22, 5, 6, 7, 64, 65] (by decide +kernel) (by decide +kernel)
set_option maxRecDepth 20000 in
theorem gX7_agree_X6_isBetween : GoodIn wsX7_agree (wsV RX7 293 RX6 yX6_isBetween wsX6_isBetween) := goodIn_app (goodIn_of _ (by decide +kernel)) ggX7_agree_X6_isBetween
set_option maxRecDepth 20000 in
theorem ggX7_agree_X6_turn : GoodIn wsX7_agree wsX6_turn := goodIn_r _ [26, 22, 5, 6, 7, 64, 65] (by decide +kernel) (by decide +kernel)
set_option maxRecDepth 20000 in
theorem gX7_agree_X6_turn : GoodIn wsX7_agree (wsV RX7 297 RX6 yX6_turn wsX6_turn) := goodIn_app (goodIn_of _ (by decide +kernel)) ggX7_agree_X6_turn
set_option maxRecDepth 20000 in
theorem ggX7_agree_X6_countAll : GoodIn wsX7_agree wsX6_countAll := goodIn_r _ [30, 31, 32, 33, 20, 34, 22, 5, 6, 7, 35, 36, 37, 38, 39, 40, 41, 64, 65] (by decide +kernel) (by decide +kernel)
set_option maxRecDepth 20000 in
theorem gX7_agree_X6_countAll : GoodIn wsX7_agree (wsV RX7 200 RX6 yX6_countAll wsX6_countAll) := goodIn_app (goodIn_of _ (by decide +kernel)) ggX7_agree_X6_countAll
theorem dX7_agree_0 : decode cX7_agree 0 = .ok (.iload_n 1, 1) := by decide +kernel
theorem dX7_agree_1 : decode cX7_agree 1 = .ok (.invokestatic 65, 3) := by decide +kernel
theorem dX7_agree_4 : decode cX7_agree 4 = .ok (.ifCond .eq 10, 3) := by decide +kernel
theorem dX7_agree_7 : decode cX7_agree 7 = .ok (.iload_n 2, 1) := by decide +kernel
theorem dX7_agree_8 : decode cX7_agree 8 = .ok (.invokestatic 65, 3) := by decide +kernel
theorem dX7_agree_11 : decode cX7_agree 11 = .ok (.ifCond .ne 5, 3) := by decide +kernel
theorem dX7_agree_14 : decode cX7_agree 14 = .ok (.iconst (-1), 1) := by decide +kernel
theorem dX7_agree_15 : decode cX7_agree 15 = .ok (.ireturn, 1) := by decide +kernel
theorem dX7_agree_16 : decode cX7_agree 16 = .ok (.iload_n 1, 1) := by decide +kernel
theorem dX7_agree_17 : decode cX7_agree 17 = .ok (.iload_n 2, 1) := by decide +kernel
theorem dX7_agree_18 : decode cX7_agree 18 = .ok (.if_icmp .ne 14, 3) := by decide +kernel
theorem dX7_agree_21 : decode cX7_agree 21 = .ok (.aload_n 0, 1) := by decide +kernel
theorem dX7_agree_22 : decode cX7_agree 22 = .ok (.getfield 53, 3) := by decide +kernel
theorem dX7_agree_25 : decode cX7_agree 25 = .ok (.bipush 8, 2) := by decide +kernel
theorem dX7_agree_27 : decode cX7_agree 27 = .ok (.iload_n 1, 1) := by decide +kernel
theorem dX7_agree_28 : decode cX7_agree 28 = .ok (.invokevirtual 291, 3) := by decide +kernel
theorem dX7_agree_31 : decode cX7_agree 31 = .ok (.ireturn, 1) := by decide +kernel
theorem dX7_agree_32 : decode cX7_agree 32 = .ok (.aload_n 0, 1) := by decide +kernel
theorem dX7_agree_33 : decode cX7_agree 33 = .ok (.getfield 10, 3) := by decide +kernel
theorem dX7_agree_36 : decode cX7_agree 36 = .ok (.getfield 79, 3) := by decide +kernel
theorem dX7_agree_39 : decode cX7_agree 39 = .ok (.iload_n 1, 1) := by decide +kernel
theorem dX7_agree_40 : decode cX7_agree 40 = .ok (.iload_n 2, 1) := by decide +kernel
theorem dX7_agree_41 : decode cX7_agree 41 = .ok (.invokevirtual 293, 3) := by decide +kernel
theorem dX7_agree_44 : decode cX7_agree 44 = .ok (.iload_n 3, 1) := by decide +kernel
theorem dX7_agree_45 : decode cX7_agree 45 = .ok (.if_icmp .ne 22, 3) := by decide +kernel
theorem dX7_agree_48 : decode cX7_agree 48 = .ok (.aload_n 0, 1) := by decide +kernel
theorem dX7_agree_49 : decode cX7_agree 49 = .ok (.getfield 53, 3) := by decide +kernel
theorem dX7_agree_52 : decode cX7_agree 52 = .ok (.bipush 7, 2) := by decide +kernel
theorem dX7_agree_54 : decode cX7_agree 54 = .ok (.iload_n 3, 1) := by decide +kernel
theorem dX7_agree_55 : decode cX7_agree 55 = .ok (.ifCond .eq 7, 3) := by decide +kernel
theorem dX7_agree_58 : decode cX7_agree 58 = .ok (.iconst 1, 1) := by decide +kernel
theorem dX7_agree_59 : decode cX7_agree 59 = .ok (.goto 4, 3) := by decide +kernel
theorem dX7_agree_62 : decode cX7_agree 62 = .ok (.iconst 0, 1) := by decide +kernel
theorem dX7_agree_63 : decode cX7_agree 63 = .ok (.invokevirtual 291, 3) := by decide +kernel
theorem dX7_agree_66 : decode cX7_agree 66 = .ok (.ireturn, 1) := by decide +kernel
theorem dX7_agree_67 : decode cX7_agree 67 = .ok (.aload_n 0, 1) := by decide +kernel
theorem dX7_agree_68 : decode cX7_agree 68 = .ok (.getfield 10, 3) := by decide +kernel
theorem dX7_agree_71 : decode cX7_agree 71 = .ok (.getfield 79, 3) := by decide +kernel
theorem dX7_agree_74 : decode cX7_agree 74 = .ok (.iload_n 1, 1) := by decide +kernel
theorem dX7_agree_75 : decode cX7_agree 75 = .ok (.iload_n 2, 1) := by decide +kernel
theorem dX7_agree_76 : decode cX7_agree 76 = .ok (.invokevirtual 297, 3) := by decide +kernel
theorem dX7_agree_79 : decode cX7_agree 79 = .ok (.aload_n 0, 1) := by decide +kernel
theorem dX7_agree_80 : decode cX7_agree 80 = .ok (.getfield 10, 3) := by decide +kernel
theorem dX7_agree_83 : decode cX7_agree 83 = .ok (.getfield 79, 3) := by decide +kernel
theorem dX7_agree_86 : decode cX7_agree 86 = .ok (.invokevirtual 200, 3) := by decide +kernel
theorem dX7_agree_89 : decode cX7_agree 89 = .ok (.ireturn, 1) := by decide +kernel
set_option maxRecDepth 20000 in
theorem ggX7_lend_X7_isTown : GoodIn wsX7_lend wsX7_isTown := goodIn_r _ [10] (by decide +kernel) (by decide +kernel)
set_option maxRecDepth 20000 in
theorem gX7_lend_X7_isTown : GoodIn wsX7_lend (va_wsS RX7 65 yX7_isTown wsX7_isTown) := goodIn_app (goodIn_of _ (by decide +kernel)) ggX7_lend_X7_isTown
set_option maxRecDepth 20000 in
theorem ggX7_lend_X7_isHours : GoodIn wsX7_lend wsX7_isHours := goodIn_r _ [13] (by decide +kernel) (by decide +kernel)
set_option maxRecDepth 20000 in
theorem gX7_lend_X7_isHours : GoodIn wsX7_lend (va_wsS RX7 123 yX7_isHours wsX7_isHours) := goodIn_app (goodIn_of _ (by decide +kernel)) ggX7_lend_X7_isHours
set_option maxRecDepth 20000 in
theorem ggX7_lend_X7_isMonths : GoodIn wsX7_lend wsX7_isMonths := goodIn_r _ [16] (by decide +kernel) (by decide +kernel)
set_option maxRecDepth 20000 in
theorem gX7_lend_X7_isMonths : GoodIn wsX7_lend (va_wsS RX7 145 yX7_isMonths wsX7_isMonths) := goodIn_app (goodIn_of _ (by decide +kernel)) ggX7_lend_X7_isMonths
set_option maxRecDepth 20000 in
theorem ggX7_lend_X4_keep : GoodIn wsX7_lend wsX4_keep := goodIn_r _ [21, 22, 23, 24, 25, 67, 68, 69, 70] (by decide +kernel) (by decide +kernel)
set_option maxRecDepth 20000 in
theorem gX7_lend_X4_keep : GoodIn wsX7_lend (wsV RX7 291 RX4 yX4_keep wsX4_keep) := goodIn_app (goodIn_of _ (by decide +kernel)) ggX7_lend_X4_keep
set_option maxRecDepth 20000 in
theorem ggX7_lend_X3_giveCredit : GoodIn wsX7_lend wsX3_giveCredit := goodIn_r _ [30, 31, 32, 33, 34, 35, 8, 9, 10, 36, 37, 38, 39, 40, 41, 42, 43, 44, 55, 56, 57, 58, 59, 60, 61, 62, 71, 72, 73, 74, 75, 76, 77, 78, 63, 64, 65, 66] (by decide +kernel) (by decide +kernel)
set_option maxRecDepth 20000 in
theorem gX7_lend_X3_giveCredit : GoodIn wsX7_lend (wsV RX7 300 RX3 yX3_giveCredit wsX3_giveCredit) := goodIn_app (goodIn_of _ (by decide +kernel)) ggX7_lend_X3_giveCredit
theorem dX7_lend_0 : decode cX7_lend 0 = .ok (.iload_n 1, 1) := by decide +kernel
theorem dX7_lend_1 : decode cX7_lend 1 = .ok (.invokestatic 65, 3) := by decide +kernel
theorem dX7_lend_4 : decode cX7_lend 4 = .ok (.ifCond .ne 5, 3) := by decide +kernel
theorem dX7_lend_7 : decode cX7_lend 7 = .ok (.iconst (-1), 1) := by decide +kernel
theorem dX7_lend_8 : decode cX7_lend 8 = .ok (.ireturn, 1) := by decide +kernel
theorem dX7_lend_9 : decode cX7_lend 9 = .ok (.iload_n 2, 1) := by decide +kernel
theorem dX7_lend_10 : decode cX7_lend 10 = .ok (.invokestatic 123, 3) := by decide +kernel
theorem dX7_lend_13 : decode cX7_lend 13 = .ok (.ifCond .eq 10, 3) := by decide +kernel
theorem dX7_lend_16 : decode cX7_lend 16 = .ok (.iload_n 3, 1) := by decide +kernel
theorem dX7_lend_17 : decode cX7_lend 17 = .ok (.invokestatic 145, 3) := by decide +kernel
theorem dX7_lend_20 : decode cX7_lend 20 = .ok (.ifCond .ne 6, 3) := by decide +kernel
theorem dX7_lend_23 : decode cX7_lend 23 = .ok (.bipush (-2), 2) := by decide +kernel
theorem dX7_lend_25 : decode cX7_lend 25 = .ok (.ireturn, 1) := by decide +kernel
theorem dX7_lend_26 : decode cX7_lend 26 = .ok (.aload_n 0, 1) := by decide +kernel
theorem dX7_lend_27 : decode cX7_lend 27 = .ok (.getfield 10, 3) := by decide +kernel
theorem dX7_lend_30 : decode cX7_lend 30 = .ok (.getfield 148, 3) := by decide +kernel
theorem dX7_lend_33 : decode cX7_lend 33 = .ok (.iload_n 1, 1) := by decide +kernel
theorem dX7_lend_34 : decode cX7_lend 34 = .ok (.iaload, 1) := by decide +kernel
theorem dX7_lend_35 : decode cX7_lend 35 = .ok (.ifCond .le 21, 3) := by decide +kernel
theorem dX7_lend_38 : decode cX7_lend 38 = .ok (.aload_n 0, 1) := by decide +kernel
theorem dX7_lend_39 : decode cX7_lend 39 = .ok (.getfield 53, 3) := by decide +kernel
theorem dX7_lend_42 : decode cX7_lend 42 = .ok (.iconst 2, 1) := by decide +kernel
theorem dX7_lend_43 : decode cX7_lend 43 = .ok (.aload_n 0, 1) := by decide +kernel
theorem dX7_lend_44 : decode cX7_lend 44 = .ok (.getfield 10, 3) := by decide +kernel
theorem dX7_lend_47 : decode cX7_lend 47 = .ok (.getfield 148, 3) := by decide +kernel
theorem dX7_lend_50 : decode cX7_lend 50 = .ok (.iload_n 1, 1) := by decide +kernel
theorem dX7_lend_51 : decode cX7_lend 51 = .ok (.iaload, 1) := by decide +kernel
theorem dX7_lend_52 : decode cX7_lend 52 = .ok (.invokevirtual 291, 3) := by decide +kernel
theorem dX7_lend_55 : decode cX7_lend 55 = .ok (.ireturn, 1) := by decide +kernel
theorem dX7_lend_56 : decode cX7_lend 56 = .ok (.aload_n 0, 1) := by decide +kernel
theorem dX7_lend_57 : decode cX7_lend 57 = .ok (.getfield 10, 3) := by decide +kernel
theorem dX7_lend_60 : decode cX7_lend 60 = .ok (.getfield 69, 3) := by decide +kernel
theorem dX7_lend_63 : decode cX7_lend 63 = .ok (.getfield 151, 3) := by decide +kernel
theorem dX7_lend_66 : decode cX7_lend 66 = .ok (.bipush 8, 2) := by decide +kernel
theorem dX7_lend_68 : decode cX7_lend 68 = .ok (.if_icmp .lt 22, 3) := by decide +kernel
theorem dX7_lend_71 : decode cX7_lend 71 = .ok (.aload_n 0, 1) := by decide +kernel
theorem dX7_lend_72 : decode cX7_lend 72 = .ok (.getfield 53, 3) := by decide +kernel
theorem dX7_lend_75 : decode cX7_lend 75 = .ok (.iconst 1, 1) := by decide +kernel
theorem dX7_lend_76 : decode cX7_lend 76 = .ok (.aload_n 0, 1) := by decide +kernel
theorem dX7_lend_77 : decode cX7_lend 77 = .ok (.getfield 10, 3) := by decide +kernel
theorem dX7_lend_80 : decode cX7_lend 80 = .ok (.getfield 69, 3) := by decide +kernel
theorem dX7_lend_83 : decode cX7_lend 83 = .ok (.getfield 151, 3) := by decide +kernel
theorem dX7_lend_86 : decode cX7_lend 86 = .ok (.invokevirtual 291, 3) := by decide +kernel
theorem dX7_lend_89 : decode cX7_lend 89 = .ok (.ireturn, 1) := by decide +kernel
theorem dX7_lend_90 : decode cX7_lend 90 = .ok (.aload_n 0, 1) := by decide +kernel
theorem dX7_lend_91 : decode cX7_lend 91 = .ok (.getfield 10, 3) := by decide +kernel
theorem dX7_lend_94 : decode cX7_lend 94 = .ok (.getfield 154, 3) := by decide +kernel
theorem dX7_lend_97 : decode cX7_lend 97 = .ok (.iload_n 1, 1) := by decide +kernel
theorem dX7_lend_98 : decode cX7_lend 98 = .ok (.iaload, 1) := by decide +kernel
theorem dX7_lend_99 : decode cX7_lend 99 = .ok (.iload_n 2, 1) := by decide +kernel
theorem dX7_lend_100 : decode cX7_lend 100 = .ok (.iadd, 1) := by decide +kernel
theorem dX7_lend_101 : decode cX7_lend 101 = .ok (.bipush 60, 2) := by decide +kernel
theorem dX7_lend_103 : decode cX7_lend 103 = .ok (.if_icmp .le 24, 3) := by decide +kernel
theorem dX7_lend_106 : decode cX7_lend 106 = .ok (.aload_n 0, 1) := by decide +kernel
theorem dX7_lend_107 : decode cX7_lend 107 = .ok (.getfield 53, 3) := by decide +kernel
theorem dX7_lend_110 : decode cX7_lend 110 = .ok (.iconst 3, 1) := by decide +kernel
theorem dX7_lend_111 : decode cX7_lend 111 = .ok (.bipush 60, 2) := by decide +kernel
theorem dX7_lend_113 : decode cX7_lend 113 = .ok (.aload_n 0, 1) := by decide +kernel
theorem dX7_lend_114 : decode cX7_lend 114 = .ok (.getfield 10, 3) := by decide +kernel
theorem dX7_lend_117 : decode cX7_lend 117 = .ok (.getfield 154, 3) := by decide +kernel
theorem dX7_lend_120 : decode cX7_lend 120 = .ok (.iload_n 1, 1) := by decide +kernel
theorem dX7_lend_121 : decode cX7_lend 121 = .ok (.iaload, 1) := by decide +kernel
theorem dX7_lend_122 : decode cX7_lend 122 = .ok (.isub, 1) := by decide +kernel
theorem dX7_lend_123 : decode cX7_lend 123 = .ok (.invokevirtual 291, 3) := by decide +kernel
theorem dX7_lend_126 : decode cX7_lend 126 = .ok (.ireturn, 1) := by decide +kernel
theorem dX7_lend_127 : decode cX7_lend 127 = .ok (.aload_n 0, 1) := by decide +kernel
theorem dX7_lend_128 : decode cX7_lend 128 = .ok (.getfield 10, 3) := by decide +kernel
theorem dX7_lend_131 : decode cX7_lend 131 = .ok (.iload_n 1, 1) := by decide +kernel
theorem dX7_lend_132 : decode cX7_lend 132 = .ok (.iload_n 2, 1) := by decide +kernel
theorem dX7_lend_133 : decode cX7_lend 133 = .ok (.iload_n 3, 1) := by decide +kernel
theorem dX7_lend_134 : decode cX7_lend 134 = .ok (.invokevirtual 300, 3) := by decide +kernel
theorem dX7_lend_137 : decode cX7_lend 137 = .ok (.aload_n 0, 1) := by decide +kernel
theorem dX7_lend_138 : decode cX7_lend 138 = .ok (.getfield 10, 3) := by decide +kernel
theorem dX7_lend_141 : decode cX7_lend 141 = .ok (.getfield 69, 3) := by decide +kernel
theorem dX7_lend_144 : decode cX7_lend 144 = .ok (.getfield 151, 3) := by decide +kernel
theorem dX7_lend_147 : decode cX7_lend 147 = .ok (.iconst 1, 1) := by decide +kernel
theorem dX7_lend_148 : decode cX7_lend 148 = .ok (.isub, 1) := by decide +kernel
theorem dX7_lend_149 : decode cX7_lend 149 = .ok (.ireturn, 1) := by decide +kernel
set_option maxRecDepth 20000 in
theorem ggX7_takeBack_X1_isThere : GoodIn wsX7_takeBack wsX1_isThere := goodIn_r _ [13, 14, 58, 59, 60, 61] (by decide +kernel) (by decide +kernel)
set_option maxRecDepth 20000 in
theorem gX7_takeBack_X1_isThere : GoodIn wsX7_takeBack (wsV RX7 95 RX1 yX1_isThere wsX1_isThere) := goodIn_app (goodIn_of _ (by decide +kernel)) ggX7_takeBack_X1_isThere
set_option maxRecDepth 20000 in
theorem ggX7_takeBack_X7_isTown : GoodIn wsX7_takeBack wsX7_isTown := goodIn_r _ [18] (by decide +kernel) (by decide +kernel)
set_option maxRecDepth 20000 in
theorem gX7_takeBack_X7_isTown : GoodIn wsX7_takeBack (va_wsS RX7 65 yX7_isTown wsX7_isTown) := goodIn_app (goodIn_of _ (by decide +kernel)) ggX7_takeBack_X7_isTown
set_option maxRecDepth 20000 in
theorem ggX7_takeBack_X4_keep : GoodIn wsX7_takeBack wsX4_keep := goodIn_r _ [23, 24, 25, 26, 27, 70, 71, 72, 73] (by decide +kernel) (by decide +kernel)
set_option maxRecDepth 20000 in
theorem gX7_takeBack_X4_keep : GoodIn wsX7_takeBack (wsV RX7 291 RX4 yX4_keep wsX4_keep) := goodIn_app (goodIn_of _ (by decide +kernel)) ggX7_takeBack_X4_keep
set_option maxRecDepth 20000 in
theorem ggX7_takeBack_X1_remove : GoodIn wsX7_takeBack wsX1_remove := goodIn_r _ [31, 14, 32, 10, 11, 12, 13, 33, 34, 35, 36, 37, 38, 39, 58, 59, 60, 61] (by decide +kernel) (by decide +kernel)
set_option maxRecDepth 20000 in
theorem gX7_takeBack_X1_remove : GoodIn wsX7_takeBack (wsV RX7 307 RX1 yX1_remove wsX1_remove) := goodIn_app (goodIn_of _ (by decide +kernel)) ggX7_takeBack_X1_remove
theorem dX7_takeBack_0 : decode cX7_takeBack 0 = .ok (.aload_n 0, 1) := by decide +kernel
theorem dX7_takeBack_1 : decode cX7_takeBack 1 = .ok (.getfield 10, 3) := by decide +kernel
theorem dX7_takeBack_4 : decode cX7_takeBack 4 = .ok (.getfield 69, 3) := by decide +kernel
theorem dX7_takeBack_7 : decode cX7_takeBack 7 = .ok (.iload_n 1, 1) := by decide +kernel
theorem dX7_takeBack_8 : decode cX7_takeBack 8 = .ok (.invokevirtual 95, 3) := by decide +kernel
theorem dX7_takeBack_11 : decode cX7_takeBack 11 = .ok (.ifCond .ne 5, 3) := by decide +kernel
theorem dX7_takeBack_14 : decode cX7_takeBack 14 = .ok (.iconst (-1), 1) := by decide +kernel
theorem dX7_takeBack_15 : decode cX7_takeBack 15 = .ok (.ireturn, 1) := by decide +kernel
theorem dX7_takeBack_16 : decode cX7_takeBack 16 = .ok (.aload_n 0, 1) := by decide +kernel
theorem dX7_takeBack_17 : decode cX7_takeBack 17 = .ok (.getfield 10, 3) := by decide +kernel
theorem dX7_takeBack_20 : decode cX7_takeBack 20 = .ok (.getfield 69, 3) := by decide +kernel
theorem dX7_takeBack_23 : decode cX7_takeBack 23 = .ok (.getfield 98, 3) := by decide +kernel
theorem dX7_takeBack_26 : decode cX7_takeBack 26 = .ok (.iload_n 1, 1) := by decide +kernel
theorem dX7_takeBack_27 : decode cX7_takeBack 27 = .ok (.iaload, 1) := by decide +kernel
theorem dX7_takeBack_28 : decode cX7_takeBack 28 = .ok (.istore_n 2, 1) := by decide +kernel
theorem dX7_takeBack_29 : decode cX7_takeBack 29 = .ok (.aload_n 0, 1) := by decide +kernel
theorem dX7_takeBack_30 : decode cX7_takeBack 30 = .ok (.getfield 10, 3) := by decide +kernel
theorem dX7_takeBack_33 : decode cX7_takeBack 33 = .ok (.getfield 69, 3) := by decide +kernel
theorem dX7_takeBack_36 : decode cX7_takeBack 36 = .ok (.getfield 102, 3) := by decide +kernel
theorem dX7_takeBack_39 : decode cX7_takeBack 39 = .ok (.iload_n 1, 1) := by decide +kernel
theorem dX7_takeBack_40 : decode cX7_takeBack 40 = .ok (.iaload, 1) := by decide +kernel
theorem dX7_takeBack_41 : decode cX7_takeBack 41 = .ok (.istore_n 3, 1) := by decide +kernel
theorem dX7_takeBack_42 : decode cX7_takeBack 42 = .ok (.iload_n 2, 1) := by decide +kernel
theorem dX7_takeBack_43 : decode cX7_takeBack 43 = .ok (.invokestatic 65, 3) := by decide +kernel
theorem dX7_takeBack_46 : decode cX7_takeBack 46 = .ok (.ifCond .ne 5, 3) := by decide +kernel
theorem dX7_takeBack_49 : decode cX7_takeBack 49 = .ok (.iconst (-1), 1) := by decide +kernel
theorem dX7_takeBack_50 : decode cX7_takeBack 50 = .ok (.ireturn, 1) := by decide +kernel
theorem dX7_takeBack_51 : decode cX7_takeBack 51 = .ok (.aload_n 0, 1) := by decide +kernel
theorem dX7_takeBack_52 : decode cX7_takeBack 52 = .ok (.getfield 10, 3) := by decide +kernel
theorem dX7_takeBack_55 : decode cX7_takeBack 55 = .ok (.getfield 154, 3) := by decide +kernel
theorem dX7_takeBack_58 : decode cX7_takeBack 58 = .ok (.iload_n 2, 1) := by decide +kernel
theorem dX7_takeBack_59 : decode cX7_takeBack 59 = .ok (.iaload, 1) := by decide +kernel
theorem dX7_takeBack_60 : decode cX7_takeBack 60 = .ok (.iload_n 3, 1) := by decide +kernel
theorem dX7_takeBack_61 : decode cX7_takeBack 61 = .ok (.if_icmp .ge 21, 3) := by decide +kernel
theorem dX7_takeBack_64 : decode cX7_takeBack 64 = .ok (.aload_n 0, 1) := by decide +kernel
theorem dX7_takeBack_65 : decode cX7_takeBack 65 = .ok (.getfield 53, 3) := by decide +kernel
theorem dX7_takeBack_68 : decode cX7_takeBack 68 = .ok (.iconst 4, 1) := by decide +kernel
theorem dX7_takeBack_69 : decode cX7_takeBack 69 = .ok (.aload_n 0, 1) := by decide +kernel
theorem dX7_takeBack_70 : decode cX7_takeBack 70 = .ok (.getfield 10, 3) := by decide +kernel
theorem dX7_takeBack_73 : decode cX7_takeBack 73 = .ok (.getfield 154, 3) := by decide +kernel
theorem dX7_takeBack_76 : decode cX7_takeBack 76 = .ok (.iload_n 2, 1) := by decide +kernel
theorem dX7_takeBack_77 : decode cX7_takeBack 77 = .ok (.iaload, 1) := by decide +kernel
theorem dX7_takeBack_78 : decode cX7_takeBack 78 = .ok (.invokevirtual 291, 3) := by decide +kernel
theorem dX7_takeBack_81 : decode cX7_takeBack 81 = .ok (.ireturn, 1) := by decide +kernel
theorem dX7_takeBack_82 : decode cX7_takeBack 82 = .ok (.aload_n 0, 1) := by decide +kernel
theorem dX7_takeBack_83 : decode cX7_takeBack 83 = .ok (.getfield 10, 3) := by decide +kernel
theorem dX7_takeBack_86 : decode cX7_takeBack 86 = .ok (.getfield 154, 3) := by decide +kernel
theorem dX7_takeBack_89 : decode cX7_takeBack 89 = .ok (.iload_n 2, 1) := by decide +kernel
theorem dX7_takeBack_90 : decode cX7_takeBack 90 = .ok (.dup2, 1) := by decide +kernel
theorem dX7_takeBack_91 : decode cX7_takeBack 91 = .ok (.iaload, 1) := by decide +kernel
theorem dX7_takeBack_92 : decode cX7_takeBack 92 = .ok (.iload_n 3, 1) := by decide +kernel
theorem dX7_takeBack_93 : decode cX7_takeBack 93 = .ok (.isub, 1) := by decide +kernel
theorem dX7_takeBack_94 : decode cX7_takeBack 94 = .ok (.iastore, 1) := by decide +kernel
theorem dX7_takeBack_95 : decode cX7_takeBack 95 = .ok (.aload_n 0, 1) := by decide +kernel
theorem dX7_takeBack_96 : decode cX7_takeBack 96 = .ok (.getfield 10, 3) := by decide +kernel
theorem dX7_takeBack_99 : decode cX7_takeBack 99 = .ok (.getfield 188, 3) := by decide +kernel
theorem dX7_takeBack_102 : decode cX7_takeBack 102 = .ok (.dup, 1) := by decide +kernel
theorem dX7_takeBack_103 : decode cX7_takeBack 103 = .ok (.getfield 304, 3) := by decide +kernel
theorem dX7_takeBack_106 : decode cX7_takeBack 106 = .ok (.iload_n 3, 1) := by decide +kernel
theorem dX7_takeBack_107 : decode cX7_takeBack 107 = .ok (.iadd, 1) := by decide +kernel
theorem dX7_takeBack_108 : decode cX7_takeBack 108 = .ok (.putfield 304, 3) := by decide +kernel
theorem dX7_takeBack_111 : decode cX7_takeBack 111 = .ok (.aload_n 0, 1) := by decide +kernel
theorem dX7_takeBack_112 : decode cX7_takeBack 112 = .ok (.getfield 10, 3) := by decide +kernel
theorem dX7_takeBack_115 : decode cX7_takeBack 115 = .ok (.getfield 69, 3) := by decide +kernel
theorem dX7_takeBack_118 : decode cX7_takeBack 118 = .ok (.iload_n 1, 1) := by decide +kernel
theorem dX7_takeBack_119 : decode cX7_takeBack 119 = .ok (.invokevirtual 307, 3) := by decide +kernel
theorem dX7_takeBack_122 : decode cX7_takeBack 122 = .ok (.aload_n 0, 1) := by decide +kernel
theorem dX7_takeBack_123 : decode cX7_takeBack 123 = .ok (.getfield 10, 3) := by decide +kernel
theorem dX7_takeBack_126 : decode cX7_takeBack 126 = .ok (.getfield 154, 3) := by decide +kernel
theorem dX7_takeBack_129 : decode cX7_takeBack 129 = .ok (.iload_n 2, 1) := by decide +kernel
theorem dX7_takeBack_130 : decode cX7_takeBack 130 = .ok (.iaload, 1) := by decide +kernel
theorem dX7_takeBack_131 : decode cX7_takeBack 131 = .ok (.ireturn, 1) := by decide +kernel
set_option maxRecDepth 20000 in
theorem ggX7_pour_X7_isTown : GoodIn wsX7_pour wsX7_isTown := goodIn_r _ [5] (by decide +kernel) (by decide +kernel)
set_option maxRecDepth 20000 in
theorem gX7_pour_X7_isTown : GoodIn wsX7_pour (va_wsS RX7 65 yX7_isTown wsX7_isTown) := goodIn_app (goodIn_of _ (by decide +kernel)) ggX7_pour_X7_isTown
set_option maxRecDepth 20000 in
theorem ggX7_pour_X7_isHours : GoodIn wsX7_pour wsX7_isHours := goodIn_r _ [8] (by decide +kernel) (by decide +kernel)
set_option maxRecDepth 20000 in
theorem gX7_pour_X7_isHours : GoodIn wsX7_pour (va_wsS RX7 123 yX7_isHours wsX7_isHours) := goodIn_app (goodIn_of _ (by decide +kernel)) ggX7_pour_X7_isHours
set_option maxRecDepth 20000 in
theorem ggX7_pour_X3_letRain : GoodIn wsX7_pour wsX3_letRain := goodIn_r _ [13, 14, 15, 16, 17, 18, 19, 20, 21, 22, 23, 24, 25, 26, 27, 38, 39, 40, 41, 42, 43, 44, 45, 46, 47] (by decide +kernel) (by decide +kernel)
set_option maxRecDepth 20000 in
theorem gX7_pour_X3_letRain : GoodIn wsX7_pour (wsV RX7 310 RX3 yX3_letRain wsX3_letRain) := goodIn_app (goodIn_of _ (by decide +kernel)) ggX7_pour_X3_letRain
theorem dX7_pour_0 : decode cX7_pour 0 = .ok (.iload_n 1, 1) := by decide +kernel
theorem dX7_pour_1 : decode cX7_pour 1 = .ok (.invokestatic 65, 3) := by decide +kernel
theorem dX7_pour_4 : decode cX7_pour 4 = .ok (.ifCond .ne 5, 3) := by decide +kernel
theorem dX7_pour_7 : decode cX7_pour 7 = .ok (.iconst (-1), 1) := by decide +kernel
theorem dX7_pour_8 : decode cX7_pour 8 = .ok (.ireturn, 1) := by decide +kernel
theorem dX7_pour_9 : decode cX7_pour 9 = .ok (.iload_n 2, 1) := by decide +kernel
theorem dX7_pour_10 : decode cX7_pour 10 = .ok (.invokestatic 123, 3) := by decide +kernel
theorem dX7_pour_13 : decode cX7_pour 13 = .ok (.ifCond .eq 15, 3) := by decide +kernel
theorem dX7_pour_16 : decode cX7_pour 16 = .ok (.aload_n 0, 1) := by decide +kernel
theorem dX7_pour_17 : decode cX7_pour 17 = .ok (.getfield 10, 3) := by decide +kernel
theorem dX7_pour_20 : decode cX7_pour 20 = .ok (.iload_n 1, 1) := by decide +kernel
theorem dX7_pour_21 : decode cX7_pour 21 = .ok (.iload_n 2, 1) := by decide +kernel
theorem dX7_pour_22 : decode cX7_pour 22 = .ok (.invokevirtual 310, 3) := by decide +kernel
theorem dX7_pour_25 : decode cX7_pour 25 = .ok (.goto 5, 3) := by decide +kernel
theorem dX7_pour_28 : decode cX7_pour 28 = .ok (.bipush (-2), 2) := by decide +kernel
theorem dX7_pour_30 : decode cX7_pour 30 = .ok (.ireturn, 1) := by decide +kernel
set_option maxRecDepth 20000 in
theorem ggX7_pledge_X7_isTown : GoodIn wsX7_pledge wsX7_isTown := goodIn_r _ [12] (by decide +kernel) (by decide +kernel)
set_option maxRecDepth 20000 in
theorem gX7_pledge_X7_isTown : GoodIn wsX7_pledge (va_wsS RX7 65 yX7_isTown wsX7_isTown) := goodIn_app (goodIn_of _ (by decide +kernel)) ggX7_pledge_X7_isTown
set_option maxRecDepth 20000 in
theorem ggX7_pledge_X4_keep : GoodIn wsX7_pledge wsX4_keep := goodIn_r _ [17, 18, 19, 20, 21, 40, 41, 42, 43] (by decide +kernel) (by decide +kernel)
set_option maxRecDepth 20000 in
theorem gX7_pledge_X4_keep : GoodIn wsX7_pledge (wsV RX7 291 RX4 yX4_keep wsX4_keep) := goodIn_app (goodIn_of _ (by decide +kernel)) ggX7_pledge_X4_keep
theorem dX7_pledge_0 : decode cX7_pledge 0 = .ok (.iload_n 1, 1) := by decide +kernel
theorem dX7_pledge_1 : decode cX7_pledge 1 = .ok (.invokestatic 65, 3) := by decide +kernel
theorem dX7_pledge_4 : decode cX7_pledge 4 = .ok (.ifCond .ne 5, 3) := by decide +kernel
theorem dX7_pledge_7 : decode cX7_pledge 7 = .ok (.iconst (-1), 1) := by decide +kernel
theorem dX7_pledge_8 : decode cX7_pledge 8 = .ok (.ireturn, 1) := by decide +kernel
theorem dX7_pledge_9 : decode cX7_pledge 9 = .ok (.iload_n 2, 1) := by decide +kernel
theorem dX7_pledge_10 : decode cX7_pledge 10 = .ok (.iconst 1, 1) := by decide +kernel
theorem dX7_pledge_11 : decode cX7_pledge 11 = .ok (.if_icmp .lt 9, 3) := by decide +kernel
theorem dX7_pledge_14 : decode cX7_pledge 14 = .ok (.iload_n 2, 1) := by decide +kernel
theorem dX7_pledge_15 : decode cX7_pledge 15 = .ok (.bipush 9, 2) := by decide +kernel
theorem dX7_pledge_17 : decode cX7_pledge 17 = .ok (.if_icmp .le 6, 3) := by decide +kernel
theorem dX7_pledge_20 : decode cX7_pledge 20 = .ok (.bipush (-2), 2) := by decide +kernel
theorem dX7_pledge_22 : decode cX7_pledge 22 = .ok (.ireturn, 1) := by decide +kernel
theorem dX7_pledge_23 : decode cX7_pledge 23 = .ok (.aload_n 0, 1) := by decide +kernel
theorem dX7_pledge_24 : decode cX7_pledge 24 = .ok (.getfield 10, 3) := by decide +kernel
theorem dX7_pledge_27 : decode cX7_pledge 27 = .ok (.getfield 148, 3) := by decide +kernel
theorem dX7_pledge_30 : decode cX7_pledge 30 = .ok (.iload_n 1, 1) := by decide +kernel
theorem dX7_pledge_31 : decode cX7_pledge 31 = .ok (.iaload, 1) := by decide +kernel
theorem dX7_pledge_32 : decode cX7_pledge 32 = .ok (.ifCond .ne 21, 3) := by decide +kernel
theorem dX7_pledge_35 : decode cX7_pledge 35 = .ok (.aload_n 0, 1) := by decide +kernel
theorem dX7_pledge_36 : decode cX7_pledge 36 = .ok (.getfield 53, 3) := by decide +kernel
theorem dX7_pledge_39 : decode cX7_pledge 39 = .ok (.iconst 5, 1) := by decide +kernel
theorem dX7_pledge_40 : decode cX7_pledge 40 = .ok (.aload_n 0, 1) := by decide +kernel
theorem dX7_pledge_41 : decode cX7_pledge 41 = .ok (.getfield 10, 3) := by decide +kernel
theorem dX7_pledge_44 : decode cX7_pledge 44 = .ok (.getfield 206, 3) := by decide +kernel
theorem dX7_pledge_47 : decode cX7_pledge 47 = .ok (.iload_n 1, 1) := by decide +kernel
theorem dX7_pledge_48 : decode cX7_pledge 48 = .ok (.iaload, 1) := by decide +kernel
theorem dX7_pledge_49 : decode cX7_pledge 49 = .ok (.invokevirtual 291, 3) := by decide +kernel
theorem dX7_pledge_52 : decode cX7_pledge 52 = .ok (.ireturn, 1) := by decide +kernel
theorem dX7_pledge_53 : decode cX7_pledge 53 = .ok (.aload_n 0, 1) := by decide +kernel
theorem dX7_pledge_54 : decode cX7_pledge 54 = .ok (.getfield 10, 3) := by decide +kernel
theorem dX7_pledge_57 : decode cX7_pledge 57 = .ok (.getfield 206, 3) := by decide +kernel
theorem dX7_pledge_60 : decode cX7_pledge 60 = .ok (.iload_n 1, 1) := by decide +kernel
theorem dX7_pledge_61 : decode cX7_pledge 61 = .ok (.iaload, 1) := by decide +kernel
theorem dX7_pledge_62 : decode cX7_pledge 62 = .ok (.iload_n 2, 1) := by decide +kernel
theorem dX7_pledge_63 : decode cX7_pledge 63 = .ok (.if_icmp .ge 22, 3) := by decide +kernel
theorem dX7_pledge_66 : decode cX7_pledge 66 = .ok (.aload_n 0, 1) := by decide +kernel
theorem dX7_pledge_67 : decode cX7_pledge 67 = .ok (.getfield 53, 3) := by decide +kernel
theorem dX7_pledge_70 : decode cX7_pledge 70 = .ok (.bipush 6, 2) := by decide +kernel
theorem dX7_pledge_72 : decode cX7_pledge 72 = .ok (.aload_n 0, 1) := by decide +kernel
theorem dX7_pledge_73 : decode cX7_pledge 73 = .ok (.getfield 10, 3) := by decide +kernel
theorem dX7_pledge_76 : decode cX7_pledge 76 = .ok (.getfield 206, 3) := by decide +kernel
theorem dX7_pledge_79 : decode cX7_pledge 79 = .ok (.iload_n 1, 1) := by decide +kernel
theorem dX7_pledge_80 : decode cX7_pledge 80 = .ok (.iaload, 1) := by decide +kernel
theorem dX7_pledge_81 : decode cX7_pledge 81 = .ok (.invokevirtual 291, 3) := by decide +kernel
theorem dX7_pledge_84 : decode cX7_pledge 84 = .ok (.ireturn, 1) := by decide +kernel
theorem dX7_pledge_85 : decode cX7_pledge 85 = .ok (.aload_n 0, 1) := by decide +kernel
theorem dX7_pledge_86 : decode cX7_pledge 86 = .ok (.getfield 10, 3) := by decide +kernel
theorem dX7_pledge_89 : decode cX7_pledge 89 = .ok (.getfield 206, 3) := by decide +kernel
theorem dX7_pledge_92 : decode cX7_pledge 92 = .ok (.iload_n 1, 1) := by decide +kernel
theorem dX7_pledge_93 : decode cX7_pledge 93 = .ok (.dup2, 1) := by decide +kernel
theorem dX7_pledge_94 : decode cX7_pledge 94 = .ok (.iaload, 1) := by decide +kernel
theorem dX7_pledge_95 : decode cX7_pledge 95 = .ok (.iload_n 2, 1) := by decide +kernel
theorem dX7_pledge_96 : decode cX7_pledge 96 = .ok (.isub, 1) := by decide +kernel
theorem dX7_pledge_97 : decode cX7_pledge 97 = .ok (.iastore, 1) := by decide +kernel
theorem dX7_pledge_98 : decode cX7_pledge 98 = .ok (.aload_n 0, 1) := by decide +kernel
theorem dX7_pledge_99 : decode cX7_pledge 99 = .ok (.getfield 10, 3) := by decide +kernel
theorem dX7_pledge_102 : decode cX7_pledge 102 = .ok (.getfield 148, 3) := by decide +kernel
theorem dX7_pledge_105 : decode cX7_pledge 105 = .ok (.iload_n 1, 1) := by decide +kernel
theorem dX7_pledge_106 : decode cX7_pledge 106 = .ok (.iconst 0, 1) := by decide +kernel
theorem dX7_pledge_107 : decode cX7_pledge 107 = .ok (.aload_n 0, 1) := by decide +kernel
theorem dX7_pledge_108 : decode cX7_pledge 108 = .ok (.getfield 10, 3) := by decide +kernel
theorem dX7_pledge_111 : decode cX7_pledge 111 = .ok (.getfield 148, 3) := by decide +kernel
theorem dX7_pledge_114 : decode cX7_pledge 114 = .ok (.iload_n 1, 1) := by decide +kernel
theorem dX7_pledge_115 : decode cX7_pledge 115 = .ok (.iaload, 1) := by decide +kernel
theorem dX7_pledge_116 : decode cX7_pledge 116 = .ok (.iconst 3, 1) := by decide +kernel
theorem dX7_pledge_117 : decode cX7_pledge 117 = .ok (.iload_n 2, 1) := by decide +kernel
theorem dX7_pledge_118 : decode cX7_pledge 118 = .ok (.imul, 1) := by decide +kernel
theorem dX7_pledge_119 : decode cX7_pledge 119 = .ok (.isub, 1) := by decide +kernel
theorem dX7_pledge_120 : decode cX7_pledge 120 = .ok (.invokestatic 313, 3) := by decide +kernel
theorem dX7_pledge_123 : decode cX7_pledge 123 = .ok (.iastore, 1) := by decide +kernel
theorem dX7_pledge_124 : decode cX7_pledge 124 = .ok (.aload_n 0, 1) := by decide +kernel
theorem dX7_pledge_125 : decode cX7_pledge 125 = .ok (.getfield 10, 3) := by decide +kernel
theorem dX7_pledge_128 : decode cX7_pledge 128 = .ok (.getfield 148, 3) := by decide +kernel
theorem dX7_pledge_131 : decode cX7_pledge 131 = .ok (.iload_n 1, 1) := by decide +kernel
theorem dX7_pledge_132 : decode cX7_pledge 132 = .ok (.iaload, 1) := by decide +kernel
theorem dX7_pledge_133 : decode cX7_pledge 133 = .ok (.ireturn, 1) := by decide +kernel
set_option maxRecDepth 20000 in
theorem ggX7_sell_X7_isTown : GoodIn wsX7_sell wsX7_isTown := goodIn_r _ [10] (by decide +kernel) (by decide +kernel)
set_option maxRecDepth 20000 in
theorem gX7_sell_X7_isTown : GoodIn wsX7_sell (va_wsS RX7 65 yX7_isTown wsX7_isTown) := goodIn_app (goodIn_of _ (by decide +kernel)) ggX7_sell_X7_isTown
set_option maxRecDepth 20000 in
theorem ggX7_sell_X4_keep : GoodIn wsX7_sell wsX4_keep := goodIn_r _ [15, 16, 17, 18, 19, 46, 47, 48, 49] (by decide +kernel) (by decide +kernel)
set_option maxRecDepth 20000 in
theorem gX7_sell_X4_keep : GoodIn wsX7_sell (wsV RX7 291 RX4 yX4_keep wsX4_keep) := goodIn_app (goodIn_of _ (by decide +kernel)) ggX7_sell_X4_keep
theorem dX7_sell_0 : decode cX7_sell 0 = .ok (.iload_n 1, 1) := by decide +kernel
theorem dX7_sell_1 : decode cX7_sell 1 = .ok (.invokestatic 65, 3) := by decide +kernel
theorem dX7_sell_4 : decode cX7_sell 4 = .ok (.ifCond .ne 5, 3) := by decide +kernel
theorem dX7_sell_7 : decode cX7_sell 7 = .ok (.iconst (-1), 1) := by decide +kernel
theorem dX7_sell_8 : decode cX7_sell 8 = .ok (.ireturn, 1) := by decide +kernel
theorem dX7_sell_9 : decode cX7_sell 9 = .ok (.aload_n 0, 1) := by decide +kernel
theorem dX7_sell_10 : decode cX7_sell 10 = .ok (.getfield 10, 3) := by decide +kernel
theorem dX7_sell_13 : decode cX7_sell 13 = .ok (.getfield 206, 3) := by decide +kernel
theorem dX7_sell_16 : decode cX7_sell 16 = .ok (.iload_n 1, 1) := by decide +kernel
theorem dX7_sell_17 : decode cX7_sell 17 = .ok (.iaload, 1) := by decide +kernel
theorem dX7_sell_18 : decode cX7_sell 18 = .ok (.bipush 9, 2) := by decide +kernel
theorem dX7_sell_20 : decode cX7_sell 20 = .ok (.if_icmp .lt 21, 3) := by decide +kernel
theorem dX7_sell_23 : decode cX7_sell 23 = .ok (.aload_n 0, 1) := by decide +kernel
theorem dX7_sell_24 : decode cX7_sell 24 = .ok (.getfield 53, 3) := by decide +kernel
theorem dX7_sell_27 : decode cX7_sell 27 = .ok (.iconst 1, 1) := by decide +kernel
theorem dX7_sell_28 : decode cX7_sell 28 = .ok (.aload_n 0, 1) := by decide +kernel
theorem dX7_sell_29 : decode cX7_sell 29 = .ok (.getfield 10, 3) := by decide +kernel
theorem dX7_sell_32 : decode cX7_sell 32 = .ok (.getfield 206, 3) := by decide +kernel
theorem dX7_sell_35 : decode cX7_sell 35 = .ok (.iload_n 1, 1) := by decide +kernel
theorem dX7_sell_36 : decode cX7_sell 36 = .ok (.iaload, 1) := by decide +kernel
theorem dX7_sell_37 : decode cX7_sell 37 = .ok (.invokevirtual 291, 3) := by decide +kernel
theorem dX7_sell_40 : decode cX7_sell 40 = .ok (.ireturn, 1) := by decide +kernel
theorem dX7_sell_41 : decode cX7_sell 41 = .ok (.aload_n 0, 1) := by decide +kernel
theorem dX7_sell_42 : decode cX7_sell 42 = .ok (.getfield 10, 3) := by decide +kernel
theorem dX7_sell_45 : decode cX7_sell 45 = .ok (.getfield 154, 3) := by decide +kernel
theorem dX7_sell_48 : decode cX7_sell 48 = .ok (.iload_n 1, 1) := by decide +kernel
theorem dX7_sell_49 : decode cX7_sell 49 = .ok (.iaload, 1) := by decide +kernel
theorem dX7_sell_50 : decode cX7_sell 50 = .ok (.iconst 4, 1) := by decide +kernel
theorem dX7_sell_51 : decode cX7_sell 51 = .ok (.if_icmp .ge 21, 3) := by decide +kernel
theorem dX7_sell_54 : decode cX7_sell 54 = .ok (.aload_n 0, 1) := by decide +kernel
theorem dX7_sell_55 : decode cX7_sell 55 = .ok (.getfield 53, 3) := by decide +kernel
theorem dX7_sell_58 : decode cX7_sell 58 = .ok (.iconst 4, 1) := by decide +kernel
theorem dX7_sell_59 : decode cX7_sell 59 = .ok (.aload_n 0, 1) := by decide +kernel
theorem dX7_sell_60 : decode cX7_sell 60 = .ok (.getfield 10, 3) := by decide +kernel
theorem dX7_sell_63 : decode cX7_sell 63 = .ok (.getfield 154, 3) := by decide +kernel
theorem dX7_sell_66 : decode cX7_sell 66 = .ok (.iload_n 1, 1) := by decide +kernel
theorem dX7_sell_67 : decode cX7_sell 67 = .ok (.iaload, 1) := by decide +kernel
theorem dX7_sell_68 : decode cX7_sell 68 = .ok (.invokevirtual 291, 3) := by decide +kernel
theorem dX7_sell_71 : decode cX7_sell 71 = .ok (.ireturn, 1) := by decide +kernel
theorem dX7_sell_72 : decode cX7_sell 72 = .ok (.aload_n 0, 1) := by decide +kernel
theorem dX7_sell_73 : decode cX7_sell 73 = .ok (.getfield 10, 3) := by decide +kernel
theorem dX7_sell_76 : decode cX7_sell 76 = .ok (.getfield 154, 3) := by decide +kernel
theorem dX7_sell_79 : decode cX7_sell 79 = .ok (.iload_n 1, 1) := by decide +kernel
theorem dX7_sell_80 : decode cX7_sell 80 = .ok (.dup2, 1) := by decide +kernel
theorem dX7_sell_81 : decode cX7_sell 81 = .ok (.iaload, 1) := by decide +kernel
theorem dX7_sell_82 : decode cX7_sell 82 = .ok (.iconst 4, 1) := by decide +kernel
theorem dX7_sell_83 : decode cX7_sell 83 = .ok (.isub, 1) := by decide +kernel
theorem dX7_sell_84 : decode cX7_sell 84 = .ok (.iastore, 1) := by decide +kernel
theorem dX7_sell_85 : decode cX7_sell 85 = .ok (.aload_n 0, 1) := by decide +kernel
theorem dX7_sell_86 : decode cX7_sell 86 = .ok (.getfield 10, 3) := by decide +kernel
theorem dX7_sell_89 : decode cX7_sell 89 = .ok (.getfield 188, 3) := by decide +kernel
theorem dX7_sell_92 : decode cX7_sell 92 = .ok (.dup, 1) := by decide +kernel
theorem dX7_sell_93 : decode cX7_sell 93 = .ok (.getfield 316, 3) := by decide +kernel
theorem dX7_sell_96 : decode cX7_sell 96 = .ok (.iconst 4, 1) := by decide +kernel
theorem dX7_sell_97 : decode cX7_sell 97 = .ok (.iadd, 1) := by decide +kernel
theorem dX7_sell_98 : decode cX7_sell 98 = .ok (.putfield 316, 3) := by decide +kernel
theorem dX7_sell_101 : decode cX7_sell 101 = .ok (.aload_n 0, 1) := by decide +kernel
theorem dX7_sell_102 : decode cX7_sell 102 = .ok (.getfield 10, 3) := by decide +kernel
theorem dX7_sell_105 : decode cX7_sell 105 = .ok (.getfield 206, 3) := by decide +kernel
theorem dX7_sell_108 : decode cX7_sell 108 = .ok (.iload_n 1, 1) := by decide +kernel
theorem dX7_sell_109 : decode cX7_sell 109 = .ok (.dup2, 1) := by decide +kernel
theorem dX7_sell_110 : decode cX7_sell 110 = .ok (.iaload, 1) := by decide +kernel
theorem dX7_sell_111 : decode cX7_sell 111 = .ok (.iconst 1, 1) := by decide +kernel
theorem dX7_sell_112 : decode cX7_sell 112 = .ok (.iadd, 1) := by decide +kernel
theorem dX7_sell_113 : decode cX7_sell 113 = .ok (.iastore, 1) := by decide +kernel
theorem dX7_sell_114 : decode cX7_sell 114 = .ok (.aload_n 0, 1) := by decide +kernel
theorem dX7_sell_115 : decode cX7_sell 115 = .ok (.getfield 10, 3) := by decide +kernel
theorem dX7_sell_118 : decode cX7_sell 118 = .ok (.getfield 206, 3) := by decide +kernel
theorem dX7_sell_121 : decode cX7_sell 121 = .ok (.iload_n 1, 1) := by decide +kernel
theorem dX7_sell_122 : decode cX7_sell 122 = .ok (.iaload, 1) := by decide +kernel
theorem dX7_sell_123 : decode cX7_sell 123 = .ok (.ireturn, 1) := by decide +kernel
set_option maxRecDepth 20000 in
theorem ggX7_wouldBePaid_X7_isTown : GoodIn wsX7_wouldBePaid wsX7_isTown := goodIn_r _ [9] (by decide +kernel) (by decide +kernel)
set_option maxRecDepth 20000 in
theorem gX7_wouldBePaid_X7_isTown : GoodIn wsX7_wouldBePaid (va_wsS RX7 65 yX7_isTown wsX7_isTown) := goodIn_app (goodIn_of _ (by decide +kernel)) ggX7_wouldBePaid_X7_isTown
set_option maxRecDepth 20000 in
theorem ggX7_wouldBePaid_X3_copyFrom : GoodIn wsX7_wouldBePaid wsX3_copyFrom := goodIn_r _ [14, 15, 16, 17, 18, 19, 20, 21, 22, 23, 24, 25, 26, 27, 28, 29, 30, 31, 32, 33, 34, 35, 36, 37, 38, 39, 40, 41, 42, 43, 44, 45, 46, 47, 48, 49, 50, 51, 52, 53, 54, 55, 56, 135, 136, 137, 138, 139, 140, 141, 142, 143, 144, 145, 146, 147, 148, 149, 150, 151, 152, 153, 154, 155, 156] (by decide +kernel) (by decide +kernel)
set_option maxRecDepth 20000 in
theorem gX7_wouldBePaid_X3_copyFrom : GoodIn wsX7_wouldBePaid (wsV RX7 137 RX3 yX3_copyFrom wsX3_copyFrom) := goodIn_app (goodIn_of _ (by decide +kernel)) ggX7_wouldBePaid_X3_copyFrom
set_option maxRecDepth 20000 in
theorem ggX7_wouldBePaid_X3_giveCredit : GoodIn wsX7_wouldBePaid wsX3_giveCredit := goodIn_r _ [60, 16, 26, 61, 25, 15, 7, 8, 9, 62, 63, 64, 37, 65, 39, 40, 42, 43, 135, 136, 137, 138, 139, 140, 141, 142, 149, 150, 151, 152, 153, 154, 155, 156, 145, 146, 147, 148] (by decide +kernel) (by decide +kernel)
set_option maxRecDepth 20000 in
theorem gX7_wouldBePaid_X3_giveCredit : GoodIn wsX7_wouldBePaid (wsV RX7 300 RX3 yX3_giveCredit wsX3_giveCredit) := goodIn_app (goodIn_of _ (by decide +kernel)) ggX7_wouldBePaid_X3_giveCredit
set_option maxRecDepth 20000 in
theorem ggX7_wouldBePaid_X3_pass : GoodIn wsX7_wouldBePaid wsX3_pass := goodIn_r _ [69, 15, 23, 16, 70, 71, 72, 73, 26, 61, 21, 74, 75, 76, 77, 78, 79, 13, 80, 25, 81, 82, 83, 84, 85, 86, 87, 37, 88, 40, 42, 43, 89, 90, 91, 92, 39, 93, 94, 95, 96, 97, 98, 99, 100, 7, 8, 9, 101, 102, 103, 104, 24, 105, 106, 107, 108, 30, 109, 110, 32, 111, 112, 113, 114, 22, 115, 116, 117, 118, 119, 120, 135, 136, 137, 138, 139, 140, 141, 142, 149, 150, 151, 152, 153, 154, 155, 156, 145, 146, 147, 148, 143, 144] (by decide +kernel) (by decide +kernel)
set_option maxRecDepth 20000 in
theorem gX7_wouldBePaid_X3_pass : GoodIn wsX7_wouldBePaid (wsV RX7 141 RX3 yX3_pass wsX3_pass) := goodIn_app (goodIn_of _ (by decide +kernel)) ggX7_wouldBePaid_X3_pass
set_option maxRecDepth 20000 in
theorem ggX7_wouldBePaid_X1_owedIn : GoodIn wsX7_wouldBePaid wsX1_owedIn := goodIn_r _ [124, 39, 40, 43, 42, 145, 146, 147, 148] (by decide +kernel) (by decide +kernel)
set_option maxRecDepth 20000 in
theorem gX7_wouldBePaid_X1_owedIn : GoodIn wsX7_wouldBePaid (wsV RX7 117 RX1 yX1_owedIn wsX1_owedIn) := goodIn_app (goodIn_of _ (by decide +kernel)) ggX7_wouldBePaid_X1_owedIn
theorem dX7_wouldBePaid_0 : decode cX7_wouldBePaid 0 = .ok (.iload_n 1, 1) := by decide +kernel
theorem dX7_wouldBePaid_1 : decode cX7_wouldBePaid 1 = .ok (.invokestatic 65, 3) := by decide +kernel
theorem dX7_wouldBePaid_4 : decode cX7_wouldBePaid 4 = .ok (.ifCond .ne 5, 3) := by decide +kernel
theorem dX7_wouldBePaid_7 : decode cX7_wouldBePaid 7 = .ok (.iconst 0, 1) := by decide +kernel
theorem dX7_wouldBePaid_8 : decode cX7_wouldBePaid 8 = .ok (.ireturn, 1) := by decide +kernel
theorem dX7_wouldBePaid_9 : decode cX7_wouldBePaid 9 = .ok (.aload_n 0, 1) := by decide +kernel
theorem dX7_wouldBePaid_10 : decode cX7_wouldBePaid 10 = .ok (.getfield 19, 3) := by decide +kernel
theorem dX7_wouldBePaid_13 : decode cX7_wouldBePaid 13 = .ok (.aload_n 0, 1) := by decide +kernel
theorem dX7_wouldBePaid_14 : decode cX7_wouldBePaid 14 = .ok (.getfield 10, 3) := by decide +kernel
theorem dX7_wouldBePaid_17 : decode cX7_wouldBePaid 17 = .ok (.invokevirtual 137, 3) := by decide +kernel
theorem dX7_wouldBePaid_20 : decode cX7_wouldBePaid 20 = .ok (.aload_n 0, 1) := by decide +kernel
theorem dX7_wouldBePaid_21 : decode cX7_wouldBePaid 21 = .ok (.getfield 19, 3) := by decide +kernel
theorem dX7_wouldBePaid_24 : decode cX7_wouldBePaid 24 = .ok (.iload_n 1, 1) := by decide +kernel
theorem dX7_wouldBePaid_25 : decode cX7_wouldBePaid 25 = .ok (.iload_n 2, 1) := by decide +kernel
theorem dX7_wouldBePaid_26 : decode cX7_wouldBePaid 26 = .ok (.iload_n 3, 1) := by decide +kernel
theorem dX7_wouldBePaid_27 : decode cX7_wouldBePaid 27 = .ok (.invokevirtual 300, 3) := by decide +kernel
theorem dX7_wouldBePaid_30 : decode cX7_wouldBePaid 30 = .ok (.iconst 1, 1) := by decide +kernel
theorem dX7_wouldBePaid_31 : decode cX7_wouldBePaid 31 = .ok (.istore 4, 2) := by decide +kernel
theorem dX7_wouldBePaid_33 : decode cX7_wouldBePaid 33 = .ok (.iload 4, 2) := by decide +kernel
theorem dX7_wouldBePaid_35 : decode cX7_wouldBePaid 35 = .ok (.iload_n 3, 1) := by decide +kernel
theorem dX7_wouldBePaid_36 : decode cX7_wouldBePaid 36 = .ok (.if_icmp .ge 17, 3) := by decide +kernel
theorem dX7_wouldBePaid_39 : decode cX7_wouldBePaid 39 = .ok (.aload_n 0, 1) := by decide +kernel
theorem dX7_wouldBePaid_40 : decode cX7_wouldBePaid 40 = .ok (.getfield 19, 3) := by decide +kernel
theorem dX7_wouldBePaid_43 : decode cX7_wouldBePaid 43 = .ok (.invokevirtual 141, 3) := by decide +kernel
theorem dX7_wouldBePaid_46 : decode cX7_wouldBePaid 46 = .ok (.pop, 1) := by decide +kernel
theorem dX7_wouldBePaid_47 : decode cX7_wouldBePaid 47 = .ok (.iinc 4 1, 3) := by decide +kernel
theorem dX7_wouldBePaid_50 : decode cX7_wouldBePaid 50 = .ok (.goto (-17), 3) := by decide +kernel
theorem dX7_wouldBePaid_53 : decode cX7_wouldBePaid 53 = .ok (.aload_n 0, 1) := by decide +kernel
theorem dX7_wouldBePaid_54 : decode cX7_wouldBePaid 54 = .ok (.getfield 19, 3) := by decide +kernel
theorem dX7_wouldBePaid_57 : decode cX7_wouldBePaid 57 = .ok (.getfield 154, 3) := by decide +kernel
theorem dX7_wouldBePaid_60 : decode cX7_wouldBePaid 60 = .ok (.iload_n 1, 1) := by decide +kernel
theorem dX7_wouldBePaid_61 : decode cX7_wouldBePaid 61 = .ok (.iaload, 1) := by decide +kernel
theorem dX7_wouldBePaid_62 : decode cX7_wouldBePaid 62 = .ok (.aload_n 0, 1) := by decide +kernel
theorem dX7_wouldBePaid_63 : decode cX7_wouldBePaid 63 = .ok (.getfield 19, 3) := by decide +kernel
theorem dX7_wouldBePaid_66 : decode cX7_wouldBePaid 66 = .ok (.getfield 69, 3) := by decide +kernel
theorem dX7_wouldBePaid_69 : decode cX7_wouldBePaid 69 = .ok (.iload_n 1, 1) := by decide +kernel
theorem dX7_wouldBePaid_70 : decode cX7_wouldBePaid 70 = .ok (.aload_n 0, 1) := by decide +kernel
theorem dX7_wouldBePaid_71 : decode cX7_wouldBePaid 71 = .ok (.getfield 19, 3) := by decide +kernel
theorem dX7_wouldBePaid_74 : decode cX7_wouldBePaid 74 = .ok (.getfield 108, 3) := by decide +kernel
theorem dX7_wouldBePaid_77 : decode cX7_wouldBePaid 77 = .ok (.iconst 1, 1) := by decide +kernel
theorem dX7_wouldBePaid_78 : decode cX7_wouldBePaid 78 = .ok (.iadd, 1) := by decide +kernel
theorem dX7_wouldBePaid_79 : decode cX7_wouldBePaid 79 = .ok (.invokevirtual 117, 3) := by decide +kernel
theorem dX7_wouldBePaid_82 : decode cX7_wouldBePaid 82 = .ok (.if_icmp .lt 7, 3) := by decide +kernel
theorem dX7_wouldBePaid_85 : decode cX7_wouldBePaid 85 = .ok (.iconst 1, 1) := by decide +kernel
theorem dX7_wouldBePaid_86 : decode cX7_wouldBePaid 86 = .ok (.goto 4, 3) := by decide +kernel
theorem dX7_wouldBePaid_89 : decode cX7_wouldBePaid 89 = .ok (.iconst 0, 1) := by decide +kernel
theorem dX7_wouldBePaid_90 : decode cX7_wouldBePaid 90 = .ok (.ireturn, 1) := by decide +kernel
set_option maxRecDepth 20000 in
theorem ggX7_isOwedAlike_X1_owedBy : GoodIn wsX7_isOwedAlike wsX1_owedBy := goodIn_r _ [7, 8, 9, 10, 41, 42, 43, 44] (by decide +kernel) (by decide +kernel)
set_option maxRecDepth 20000 in
theorem gX7_isOwedAlike_X1_owedBy : GoodIn wsX7_isOwedAlike (wsV RX7 111 RX1 yX1_owedBy wsX1_owedBy) := goodIn_app (goodIn_of _ (by decide +kernel)) ggX7_isOwedAlike_X1_owedBy
set_option maxRecDepth 20000 in
theorem ggX7_isOwedAlike_X3_owedByMonths : GoodIn wsX7_isOwedAlike wsX3_owedByMonths := goodIn_r _ [15, 16, 17, 18, 19, 20, 6, 21, 8, 9, 22, 10, 33, 34, 35, 36, 37, 38, 39, 40, 41, 42, 43, 44] (by decide +kernel) (by decide +kernel)
set_option maxRecDepth 20000 in
theorem gX7_isOwedAlike_X3_owedByMonths : GoodIn wsX7_isOwedAlike (wsV RX7 114 RX3 yX3_owedByMonths wsX3_owedByMonths) := goodIn_app (goodIn_of _ (by decide +kernel)) ggX7_isOwedAlike_X3_owedByMonths
theorem dX7_isOwedAlike_0 : decode cX7_isOwedAlike 0 = .ok (.iconst 0, 1) := by decide +kernel
theorem dX7_isOwedAlike_1 : decode cX7_isOwedAlike 1 = .ok (.istore_n 1, 1) := by decide +kernel
theorem dX7_isOwedAlike_2 : decode cX7_isOwedAlike 2 = .ok (.iload_n 1, 1) := by decide +kernel
theorem dX7_isOwedAlike_3 : decode cX7_isOwedAlike 3 = .ok (.iconst 5, 1) := by decide +kernel
theorem dX7_isOwedAlike_4 : decode cX7_isOwedAlike 4 = .ok (.if_icmp .ge 33, 3) := by decide +kernel
theorem dX7_isOwedAlike_7 : decode cX7_isOwedAlike 7 = .ok (.aload_n 0, 1) := by decide +kernel
theorem dX7_isOwedAlike_8 : decode cX7_isOwedAlike 8 = .ok (.getfield 10, 3) := by decide +kernel
theorem dX7_isOwedAlike_11 : decode cX7_isOwedAlike 11 = .ok (.getfield 69, 3) := by decide +kernel
theorem dX7_isOwedAlike_14 : decode cX7_isOwedAlike 14 = .ok (.iload_n 1, 1) := by decide +kernel
theorem dX7_isOwedAlike_15 : decode cX7_isOwedAlike 15 = .ok (.invokevirtual 111, 3) := by decide +kernel
theorem dX7_isOwedAlike_18 : decode cX7_isOwedAlike 18 = .ok (.aload_n 0, 1) := by decide +kernel
theorem dX7_isOwedAlike_19 : decode cX7_isOwedAlike 19 = .ok (.getfield 10, 3) := by decide +kernel
theorem dX7_isOwedAlike_22 : decode cX7_isOwedAlike 22 = .ok (.iload_n 1, 1) := by decide +kernel
theorem dX7_isOwedAlike_23 : decode cX7_isOwedAlike 23 = .ok (.invokevirtual 114, 3) := by decide +kernel
theorem dX7_isOwedAlike_26 : decode cX7_isOwedAlike 26 = .ok (.if_icmp .eq 5, 3) := by decide +kernel
theorem dX7_isOwedAlike_29 : decode cX7_isOwedAlike 29 = .ok (.iconst 0, 1) := by decide +kernel
theorem dX7_isOwedAlike_30 : decode cX7_isOwedAlike 30 = .ok (.ireturn, 1) := by decide +kernel
theorem dX7_isOwedAlike_31 : decode cX7_isOwedAlike 31 = .ok (.iinc 1 1, 3) := by decide +kernel
theorem dX7_isOwedAlike_34 : decode cX7_isOwedAlike 34 = .ok (.goto (-32), 3) := by decide +kernel
theorem dX7_isOwedAlike_37 : decode cX7_isOwedAlike 37 = .ok (.iconst 1, 1) := by decide +kernel
theorem dX7_isOwedAlike_38 : decode cX7_isOwedAlike 38 = .ok (.ireturn, 1) := by decide +kernel
set_option maxRecDepth 20000 in
theorem ggX7_isDrizzleAlike_X6_spread : GoodIn wsX7_isDrizzleAlike wsX6_spread := goodIn_r _ [8, 9, 10, 41, 42] (by decide +kernel) (by decide +kernel)
set_option maxRecDepth 20000 in
theorem gX7_isDrizzleAlike_X6_spread : GoodIn wsX7_isDrizzleAlike (wsV RX7 126 RX6 yX6_spread wsX6_spread) := goodIn_app (goodIn_of _ (by decide +kernel)) ggX7_isDrizzleAlike_X6_spread
set_option maxRecDepth 20000 in
theorem ggX7_isDrizzleAlike_X6_halvedBySteps : GoodIn wsX7_isDrizzleAlike wsX6_halvedBySteps := goodIn_r _ [14, 15, 16, 17, 7, 18, 19, 20, 21, 22, 10, 41, 42] (by decide +kernel) (by decide +kernel)
set_option maxRecDepth 20000 in
theorem gX7_isDrizzleAlike_X6_halvedBySteps : GoodIn wsX7_isDrizzleAlike (wsV RX7 133 RX6 yX6_halvedBySteps wsX6_halvedBySteps) := goodIn_app (goodIn_of _ (by decide +kernel)) ggX7_isDrizzleAlike_X6_halvedBySteps
theorem dX7_isDrizzleAlike_0 : decode cX7_isDrizzleAlike 0 = .ok (.iconst 0, 1) := by decide +kernel
theorem dX7_isDrizzleAlike_1 : decode cX7_isDrizzleAlike 1 = .ok (.istore_n 1, 1) := by decide +kernel
theorem dX7_isDrizzleAlike_2 : decode cX7_isDrizzleAlike 2 = .ok (.iload_n 1, 1) := by decide +kernel
theorem dX7_isDrizzleAlike_3 : decode cX7_isDrizzleAlike 3 = .ok (.iconst 5, 1) := by decide +kernel
theorem dX7_isDrizzleAlike_4 : decode cX7_isDrizzleAlike 4 = .ok (.if_icmp .ge 66, 3) := by decide +kernel
theorem dX7_isDrizzleAlike_7 : decode cX7_isDrizzleAlike 7 = .ok (.aload_n 0, 1) := by decide +kernel
theorem dX7_isDrizzleAlike_8 : decode cX7_isDrizzleAlike 8 = .ok (.getfield 10, 3) := by decide +kernel
theorem dX7_isDrizzleAlike_11 : decode cX7_isDrizzleAlike 11 = .ok (.getfield 79, 3) := by decide +kernel
theorem dX7_isDrizzleAlike_14 : decode cX7_isDrizzleAlike 14 = .ok (.iload_n 1, 1) := by decide +kernel
theorem dX7_isDrizzleAlike_15 : decode cX7_isDrizzleAlike 15 = .ok (.bipush 20, 2) := by decide +kernel
theorem dX7_isDrizzleAlike_17 : decode cX7_isDrizzleAlike 17 = .ok (.invokevirtual 126, 3) := by decide +kernel
theorem dX7_isDrizzleAlike_20 : decode cX7_isDrizzleAlike 20 = .ok (.iconst 0, 1) := by decide +kernel
theorem dX7_isDrizzleAlike_21 : decode cX7_isDrizzleAlike 21 = .ok (.istore_n 2, 1) := by decide +kernel
theorem dX7_isDrizzleAlike_22 : decode cX7_isDrizzleAlike 22 = .ok (.iload_n 2, 1) := by decide +kernel
theorem dX7_isDrizzleAlike_23 : decode cX7_isDrizzleAlike 23 = .ok (.iconst 5, 1) := by decide +kernel
theorem dX7_isDrizzleAlike_24 : decode cX7_isDrizzleAlike 24 = .ok (.if_icmp .ge 40, 3) := by decide +kernel
theorem dX7_isDrizzleAlike_27 : decode cX7_isDrizzleAlike 27 = .ok (.aload_n 0, 1) := by decide +kernel
theorem dX7_isDrizzleAlike_28 : decode cX7_isDrizzleAlike 28 = .ok (.getfield 10, 3) := by decide +kernel
theorem dX7_isDrizzleAlike_31 : decode cX7_isDrizzleAlike 31 = .ok (.getfield 79, 3) := by decide +kernel
theorem dX7_isDrizzleAlike_34 : decode cX7_isDrizzleAlike 34 = .ok (.getfield 130, 3) := by decide +kernel
theorem dX7_isDrizzleAlike_37 : decode cX7_isDrizzleAlike 37 = .ok (.iload_n 2, 1) := by decide +kernel
theorem dX7_isDrizzleAlike_38 : decode cX7_isDrizzleAlike 38 = .ok (.iaload, 1) := by decide +kernel
theorem dX7_isDrizzleAlike_39 : decode cX7_isDrizzleAlike 39 = .ok (.aload_n 0, 1) := by decide +kernel
theorem dX7_isDrizzleAlike_40 : decode cX7_isDrizzleAlike 40 = .ok (.getfield 10, 3) := by decide +kernel
theorem dX7_isDrizzleAlike_43 : decode cX7_isDrizzleAlike 43 = .ok (.getfield 79, 3) := by decide +kernel
theorem dX7_isDrizzleAlike_46 : decode cX7_isDrizzleAlike 46 = .ok (.iload_n 1, 1) := by decide +kernel
theorem dX7_isDrizzleAlike_47 : decode cX7_isDrizzleAlike 47 = .ok (.bipush 20, 2) := by decide +kernel
theorem dX7_isDrizzleAlike_49 : decode cX7_isDrizzleAlike 49 = .ok (.iload_n 2, 1) := by decide +kernel
theorem dX7_isDrizzleAlike_50 : decode cX7_isDrizzleAlike 50 = .ok (.invokevirtual 133, 3) := by decide +kernel
theorem dX7_isDrizzleAlike_53 : decode cX7_isDrizzleAlike 53 = .ok (.if_icmp .eq 5, 3) := by decide +kernel
theorem dX7_isDrizzleAlike_56 : decode cX7_isDrizzleAlike 56 = .ok (.iconst 0, 1) := by decide +kernel
theorem dX7_isDrizzleAlike_57 : decode cX7_isDrizzleAlike 57 = .ok (.ireturn, 1) := by decide +kernel
theorem dX7_isDrizzleAlike_58 : decode cX7_isDrizzleAlike 58 = .ok (.iinc 2 1, 3) := by decide +kernel
theorem dX7_isDrizzleAlike_61 : decode cX7_isDrizzleAlike 61 = .ok (.goto (-39), 3) := by decide +kernel
theorem dX7_isDrizzleAlike_64 : decode cX7_isDrizzleAlike 64 = .ok (.iinc 1 1, 3) := by decide +kernel
theorem dX7_isDrizzleAlike_67 : decode cX7_isDrizzleAlike 67 = .ok (.goto (-65), 3) := by decide +kernel
theorem dX7_isDrizzleAlike_70 : decode cX7_isDrizzleAlike 70 = .ok (.iconst 1, 1) := by decide +kernel
theorem dX7_isDrizzleAlike_71 : decode cX7_isDrizzleAlike 71 = .ok (.ireturn, 1) := by decide +kernel
