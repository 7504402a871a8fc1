theorem dX9_swapAll_1 : decode cX9_swapAll 1 = .ok (.istore_n 1, 1) := by decide +kernel
theorem dX9_swapAll_2 : decode cX9_swapAll 2 = .ok (.iload_n 1, 1) := by decide +kernel
theorem dX9_swapAll_3 : decode cX9_swapAll 3 = .ok (.bipush 39, 2) := by decide +kernel
theorem dX9_swapAll_5 : decode cX9_swapAll 5 = .ok (.if_icmp .ge 51, 3) := by decide +kernel
theorem dX9_swapAll_8 : decode cX9_swapAll 8 = .ok (.aload_n 0, 1) := by decide +kernel
theorem dX9_swapAll_9 : decode cX9_swapAll 9 = .ok (.getfield 106, 3) := by decide +kernel
theorem dX9_swapAll_12 : decode cX9_swapAll 12 = .ok (.bipush 39, 2) := by decide +kernel
theorem dX9_swapAll_14 : decode cX9_swapAll 14 = .ok (.aload_n 0, 1) := by decide +kernel
theorem dX9_swapAll_15 : decode cX9_swapAll 15 = .ok (.getfield 398, 3) := by decide +kernel
theorem dX9_swapAll_18 : decode cX9_swapAll 18 = .ok (.imul, 1) := by decide +kernel
theorem dX9_swapAll_19 : decode cX9_swapAll 19 = .ok (.iload_n 1, 1) := by decide +kernel
theorem dX9_swapAll_20 : decode cX9_swapAll 20 = .ok (.iadd, 1) := by decide +kernel
theorem dX9_swapAll_21 : decode cX9_swapAll 21 = .ok (.iaload, 1) := by decide +kernel
theorem dX9_swapAll_22 : decode cX9_swapAll 22 = .ok (.istore_n 2, 1) := by decide +kernel
theorem dX9_swapAll_23 : decode cX9_swapAll 23 = .ok (.aload_n 0, 1) := by decide +kernel
theorem dX9_swapAll_24 : decode cX9_swapAll 24 = .ok (.getfield 106, 3) := by decide +kernel
theorem dX9_swapAll_27 : decode cX9_swapAll 27 = .ok (.bipush 39, 2) := by decide +kernel
theorem dX9_swapAll_29 : decode cX9_swapAll 29 = .ok (.aload_n 0, 1) := by decide +kernel
theorem dX9_swapAll_30 : decode cX9_swapAll 30 = .ok (.getfield 398, 3) := by decide +kernel
theorem dX9_swapAll_33 : decode cX9_swapAll 33 = .ok (.imul, 1) := by decide +kernel
theorem dX9_swapAll_34 : decode cX9_swapAll 34 = .ok (.iload_n 1, 1) := by decide +kernel
theorem dX9_swapAll_35 : decode cX9_swapAll 35 = .ok (.iadd, 1) := by decide +kernel
theorem dX9_swapAll_36 : decode cX9_swapAll 36 = .ok (.aload_n 0, 1) := by decide +kernel
theorem dX9_swapAll_37 : decode cX9_swapAll 37 = .ok (.getfield 94, 3) := by decide +kernel
theorem dX9_swapAll_40 : decode cX9_swapAll 40 = .ok (.iload_n 1, 1) := by decide +kernel
theorem dX9_swapAll_41 : decode cX9_swapAll 41 = .ok (.iaload, 1) := by decide +kernel
theorem dX9_swapAll_42 : decode cX9_swapAll 42 = .ok (.iastore, 1) := by decide +kernel
theorem dX9_swapAll_43 : decode cX9_swapAll 43 = .ok (.aload_n 0, 1) := by decide +kernel
theorem dX9_swapAll_44 : decode cX9_swapAll 44 = .ok (.getfield 94, 3) := by decide +kernel
theorem dX9_swapAll_47 : decode cX9_swapAll 47 = .ok (.iload_n 1, 1) := by decide +kernel
theorem dX9_swapAll_48 : decode cX9_swapAll 48 = .ok (.iload_n 2, 1) := by decide +kernel
theorem dX9_swapAll_49 : decode cX9_swapAll 49 = .ok (.iastore, 1) := by decide +kernel
theorem dX9_swapAll_50 : decode cX9_swapAll 50 = .ok (.iinc 1 1, 3) := by decide +kernel
theorem dX9_swapAll_53 : decode cX9_swapAll 53 = .ok (.goto (-51), 3) := by decide +kernel
theorem dX9_swapAll_56 : decode cX9_swapAll 56 = .ok (.return_, 1) := by decide +kernel
set_option maxRecDepth 20000 in
theorem ggX9_quarter_X9_keepAct : GoodIn wsX9_quarter wsX9_keepAct := goodIn_r _ [6, 7, 8, 1, 9, 134, 135, 136, 137, 138, 139, 140, 141, 142, 143, 144, 145, 146, 147, 148, 149, 150, 151, 152, 153, 154, 155, 156, 157, 158, 159, 160, 161, 162, 163, 164, 165, 166, 167, 168, 169, 170, 171, 172, 173, 174, 175, 176, 177, 178, 179, 180, 181, 182, 183, 184, 185, 186, 187, 188, 189, 190, 191, 192, 193, 194, 195, 196, 197, 198, 199, 200] rfl (by decide +kernel)
set_option maxRecDepth 20000 in
theorem gX9_quarter_X9_keepAct : GoodIn wsX9_quarter (wsV RX9 473 RX9 yX9_keepAct wsX9_keepAct) := goodIn_app (goodIn_r _ [2, 3, 4, 5] rfl (by decide +kernel)) ggX9_quarter_X9_keepAct
set_option maxRecDepth 20000 in
theorem ggX9_quarter_X9_goInEarnest : GoodIn wsX9_quarter wsX9_goInEarnest := goodIn_r _ [13, 1, 14, 15, 16, 17, 18, 5, 19, 20, 21, 22, 23, 24, 25, 26, 27, 28, 29, 30, 31, 32, 33, 34, 35, 36, 37, 38, 39, 40, 41, 42, 43, 44, 45, 46, 47, 48, 49, 50, 51, 52, 53, 54, 55, 56, 57, 58, 59, 60, 61, 62, 63, 64, 65, 66, 67, 68, 69, 70, 71, 72, 73, 74, 75, 76, 77, 78, 79, 80, 81, 82, 83, 84, 85, 86, 87, 88, 89, 90, 91, 92, 93, 94, 95, 96, 97, 98, 99, 100, 101, 102, 103, 104, 105, 106, 107, 108, 109, 110, 111, 112, 113, 114, 115, 116, 117, 118, 119, 120, 121, 122, 123, 124, 125, 126, 127, 128, 129, 130, 131, 132, 133, 134, 135, 136, 137, 138, 139, 140, 141, 142, 143, 144, 145, 146, 147, 148, 149, 150, 151, 152, 153, 154, 155, 156, 157, 158, 159, 160, 161, 162, 163, 164, 165, 166, 167, 168, 169, 170, 171, 172, 173, 174, 175, 176, 177, 178, 179, 180, 181, 182, 183, 184, 185, 186, 187, 188, 189, 190, 191, 192, 193, 194, 195, 196, 197, 198, 199, 200] rfl (by decide +kernel)
set_option maxRecDepth 20000 in
theorem gX9_quarter_X9_goInEarnest : GoodIn wsX9_quarter (wsV RX9 476 RX9 yX9_goInEarnest wsX9_goInEarnest) := goodIn_app (goodIn_r _ [10, 11, 12, 5] rfl (by decide +kernel)) ggX9_quarter_X9_goInEarnest
theorem dX9_quarter_0 : decode cX9_quarter 0 = .ok (.aload_n 0, 1) := by decide +kernel
theorem dX9_quarter_1 : decode cX9_quarter 1 = .ok (.getfield 94, 3) := by decide +kernel
theorem dX9_quarter_4 : decode cX9_quarter 4 = .ok (.bipush 37, 2) := by decide +kernel
theorem dX9_quarter_6 : decode cX9_quarter 6 = .ok (.iaload, 1) := by decide +kernel
theorem dX9_quarter_7 : decode cX9_quarter 7 = .ok (.sipush 999, 3) := by decide +kernel
theorem dX9_quarter_10 : decode cX9_quarter 10 = .ok (.if_icmp .ne 5, 3) := by decide +kernel
theorem dX9_quarter_13 : decode cX9_quarter 13 = .ok (.iconst (-1), 1) := by decide +kernel
theorem dX9_quarter_14 : decode cX9_quarter 14 = .ok (.ireturn, 1) := by decide +kernel
theorem dX9_quarter_15 : decode cX9_quarter 15 = .ok (.aload_n 0, 1) := by decide +kernel
theorem dX9_quarter_16 : decode cX9_quarter 16 = .ok (.invokevirtual 473, 3) := by decide +kernel
theorem dX9_quarter_19 : decode cX9_quarter 19 = .ok (.aload_n 0, 1) := by decide +kernel
theorem dX9_quarter_20 : decode cX9_quarter 20 = .ok (.invokevirtual 476, 3) := by decide +kernel
theorem dX9_quarter_23 : decode cX9_quarter 23 = .ok (.ireturn, 1) := by decide +kernel
theorem dX9_goIn_0 : decode cX9_goIn 0 = .ok (.aload_n 0, 1) := by decide +kernel
theorem dX9_goIn_1 : decode cX9_goIn 1 = .ok (.getfield 94, 3) := by decide +kernel
theorem dX9_goIn_4 : decode cX9_goIn 4 = .ok (.iconst 0, 1) := by decide +kernel
theorem dX9_goIn_5 : decode cX9_goIn 5 = .ok (.iload_n 1, 1) := by decide +kernel
theorem dX9_goIn_6 : decode cX9_goIn 6 = .ok (.iadd, 1) := by decide +kernel
theorem dX9_goIn_7 : decode cX9_goIn 7 = .ok (.iload_n 2, 1) := by decide +kernel
theorem dX9_goIn_8 : decode cX9_goIn 8 = .ok (.iastore, 1) := by decide +kernel
theorem dX9_goIn_9 : decode cX9_goIn 9 = .ok (.aload_n 0, 1) := by decide +kernel
theorem dX9_goIn_10 : decode cX9_goIn 10 = .ok (.getfield 94, 3) := by decide +kernel
theorem dX9_goIn_13 : decode cX9_goIn 13 = .ok (.bipush 7, 2) := by decide +kernel
theorem dX9_goIn_15 : decode cX9_goIn 15 = .ok (.iload_n 1, 1) := by decide +kernel
theorem dX9_goIn_16 : decode cX9_goIn 16 = .ok (.iadd, 1) := by decide +kernel
theorem dX9_goIn_17 : decode cX9_goIn 17 = .ok (.iconst 0, 1) := by decide +kernel
theorem dX9_goIn_18 : decode cX9_goIn 18 = .ok (.iastore, 1) := by decide +kernel
theorem dX9_goIn_19 : decode cX9_goIn 19 = .ok (.return_, 1) := by decide +kernel
set_option maxRecDepth 20000 in
theorem ggX9_move_X9_isTenant : GoodIn wsX9_move wsX9_isTenant := goodIn_r _ [6, 7, 8, 9, 5, 10, 11, 12, 13, 14, 15, 40, 41, 42, 43, 44, 45, 46, 47, 48, 49, 50, 51, 52, 53, 54, 55, 56, 57, 58, 59, 60, 61, 62, 63, 64, 65, 66, 67, 68, 69, 70, 71, 72, 73, 74, 75, 76, 77, 78, 79, 80, 81, 82, 83, 84, 85, 86, 87, 88, 89, 90, 91, 92, 93, 94, 95, 96, 97, 98, 99, 100, 101, 102, 103, 104, 105, 106] rfl (by decide +kernel)
set_option maxRecDepth 20000 in
theorem gX9_move_X9_isTenant : GoodIn wsX9_move (wsV RX9 386 RX9 yX9_isTenant wsX9_isTenant) := goodIn_app (goodIn_r _ [2, 3, 4, 5] rfl (by decide +kernel)) ggX9_move_X9_isTenant
set_option maxRecDepth 20000 in
theorem ggX9_move_X9_isRoom : GoodIn wsX9_move wsX9_isRoom := goodIn_r _ [19, 20, 21, 22, 5, 23, 24, 12, 13, 14, 15, 40, 41, 42, 43, 44, 45, 46, 47, 48, 49, 50, 51, 52, 53, 54, 55, 56, 57, 58, 59, 60, 61, 62, 63, 64, 65, 66, 67, 68, 69, 70, 71, 72, 73, 74, 75, 76, 77, 78, 79, 80, 81, 82, 83, 84, 85, 86, 87, 88, 89, 90, 91, 92, 93, 94, 95, 96, 97, 98, 99, 100, 101, 102, 103, 104, 105, 106] rfl (by decide +kernel)
set_option maxRecDepth 20000 in
theorem gX9_move_X9_isRoom : GoodIn wsX9_move (wsV RX9 462 RX9 yX9_isRoom wsX9_isRoom) := goodIn_app (goodIn_r _ [16, 17, 18, 5] rfl (by decide +kernel)) ggX9_move_X9_isRoom
set_option maxRecDepth 20000 in
theorem ggX9_move_X9_whoIn : GoodIn wsX9_move wsX9_whoIn := goodIn_r _ [28, 1, 7, 8, 9, 5, 10, 11, 12, 40, 41, 42, 43, 44, 45, 46, 47, 48, 49, 50, 51, 52, 53, 54, 55, 56, 57, 58, 59, 60, 61, 62, 63, 64, 65, 66, 67, 68, 69, 70, 71, 72, 73, 74, 75, 76, 77, 78, 79, 80, 81, 82, 83, 84, 85, 86, 87, 88, 89, 90, 91, 92, 93, 94, 95, 96, 97, 98, 99, 100, 101, 102, 103, 104, 105, 106] rfl (by decide +kernel)
set_option maxRecDepth 20000 in
theorem gX9_move_X9_whoIn : GoodIn wsX9_move (wsV RX9 465 RX9 yX9_whoIn wsX9_whoIn) := goodIn_app (goodIn_r _ [25, 26, 27, 5] rfl (by decide +kernel)) ggX9_move_X9_whoIn
set_option maxRecDepth 20000 in
theorem ggX9_move_X9_keepAct : GoodIn wsX9_move wsX9_keepAct := goodIn_r _ [32, 33, 34, 1, 35, 40, 41, 42, 43, 44, 45, 46, 47, 48, 49, 50, 51, 52, 53, 54, 55, 56, 57, 58, 59, 60, 61, 62, 63, 64, 65, 66, 67, 68, 69, 70, 71, 72, 73, 74, 75, 76, 77, 78, 79, 80, 81, 82, 83, 84, 85, 86, 87, 88, 89, 90, 91, 92, 93, 94, 95, 96, 97, 98, 99, 100, 101, 102, 103, 104, 105, 106] rfl (by decide +kernel)
set_option maxRecDepth 20000 in
theorem gX9_move_X9_keepAct : GoodIn wsX9_move (wsV RX9 473 RX9 yX9_keepAct wsX9_keepAct) := goodIn_app (goodIn_r _ [29, 30, 31, 5] rfl (by decide +kernel)) ggX9_move_X9_keepAct
set_option maxRecDepth 20000 in
theorem ggX9_move_X9_goIn : GoodIn wsX9_move wsX9_goIn := goodIn_r _ [39, 1, 40, 41, 42, 43, 44, 45, 46, 47, 48, 49, 50, 51, 52, 53, 54, 55, 56, 57, 58, 59, 60, 61, 62, 63, 64, 65, 66, 67, 68, 69, 70, 71, 72, 73, 74, 75, 76, 77, 78, 79, 80, 81, 82, 83, 84, 85, 86, 87, 88, 89, 90, 91, 92, 93, 94, 95, 96, 97, 98, 99, 100, 101, 102, 103, 104, 105, 106] rfl (by decide +kernel)
set_option maxRecDepth 20000 in
theorem gX9_move_X9_goIn : GoodIn wsX9_move (wsV RX9 479 RX9 yX9_goIn wsX9_goIn) := goodIn_app (goodIn_r _ [36, 37, 38, 5] rfl (by decide +kernel)) ggX9_move_X9_goIn
theorem dX9_move_0 : decode cX9_move 0 = .ok (.aload_n 0, 1) := by decide +kernel
theorem dX9_move_1 : decode cX9_move 1 = .ok (.iload_n 1, 1) := by decide +kernel
theorem dX9_move_2 : decode cX9_move 2 = .ok (.invokevirtual 386, 3) := by decide +kernel
theorem dX9_move_5 : decode cX9_move 5 = .ok (.ifCond .eq 19, 3) := by decide +kernel
theorem dX9_move_8 : decode cX9_move 8 = .ok (.aload_n 0, 1) := by decide +kernel
theorem dX9_move_9 : decode cX9_move 9 = .ok (.iload_n 2, 1) := by decide +kernel
theorem dX9_move_10 : decode cX9_move 10 = .ok (.invokevirtual 462, 3) := by decide +kernel
theorem dX9_move_13 : decode cX9_move 13 = .ok (.ifCond .eq 11, 3) := by decide +kernel
theorem dX9_move_16 : decode cX9_move 16 = .ok (.aload_n 0, 1) := by decide +kernel
theorem dX9_move_17 : decode cX9_move 17 = .ok (.iload_n 2, 1) := by decide +kernel
theorem dX9_move_18 : decode cX9_move 18 = .ok (.invokevirtual 465, 3) := by decide +kernel
theorem dX9_move_21 : decode cX9_move 21 = .ok (.ifCond .lt 6, 3) := by decide +kernel
theorem dX9_move_24 : decode cX9_move 24 = .ok (.bipush (-2), 2) := by decide +kernel
theorem dX9_move_26 : decode cX9_move 26 = .ok (.ireturn, 1) := by decide +kernel
theorem dX9_move_27 : decode cX9_move 27 = .ok (.aload_n 0, 1) := by decide +kernel
theorem dX9_move_28 : decode cX9_move 28 = .ok (.invokevirtual 473, 3) := by decide +kernel
theorem dX9_move_31 : decode cX9_move 31 = .ok (.aload_n 0, 1) := by decide +kernel
theorem dX9_move_32 : decode cX9_move 32 = .ok (.getfield 94, 3) := by decide +kernel
theorem dX9_move_35 : decode cX9_move 35 = .ok (.iconst 0, 1) := by decide +kernel
theorem dX9_move_36 : decode cX9_move 36 = .ok (.iload_n 1, 1) := by decide +kernel
theorem dX9_move_37 : decode cX9_move 37 = .ok (.iadd, 1) := by decide +kernel
theorem dX9_move_38 : decode cX9_move 38 = .ok (.iaload, 1) := by decide +kernel
theorem dX9_move_39 : decode cX9_move 39 = .ok (.istore_n 3, 1) := by decide +kernel
theorem dX9_move_40 : decode cX9_move 40 = .ok (.aload_n 0, 1) := by decide +kernel
theorem dX9_move_41 : decode cX9_move 41 = .ok (.iload_n 1, 1) := by decide +kernel
theorem dX9_move_42 : decode cX9_move 42 = .ok (.iload_n 2, 1) := by decide +kernel
theorem dX9_move_43 : decode cX9_move 43 = .ok (.invokevirtual 479, 3) := by decide +kernel
theorem dX9_move_46 : decode cX9_move 46 = .ok (.iload_n 3, 1) := by decide +kernel
theorem dX9_move_47 : decode cX9_move 47 = .ok (.ireturn, 1) := by decide +kernel
set_option maxRecDepth 20000 in
theorem ggX9_leave_X9_isTenant : GoodIn wsX9_leave wsX9_isTenant := goodIn_r _ [6, 7, 8, 9, 5, 10, 11, 12, 13, 14, 15, 31, 32, 33, 34, 35, 36, 37, 38, 39, 40, 41, 42, 43, 44, 45, 46, 47, 48, 49, 50, 51, 52, 53, 54, 55, 56, 57, 58, 59, 60, 61, 62, 63, 64, 65, 66, 67, 68, 69, 70, 71, 72, 73, 74, 75, 76, 77, 78, 79, 80, 81, 82, 83, 84, 85, 86, 87, 88, 89, 90, 91, 92, 93, 94, 95, 96, 97] rfl (by decide +kernel)
set_option maxRecDepth 20000 in
theorem gX9_leave_X9_isTenant : GoodIn wsX9_leave (wsV RX9 386 RX9 yX9_isTenant wsX9_isTenant) := goodIn_app (goodIn_r _ [2, 3, 4, 5] rfl (by decide +kernel)) ggX9_leave_X9_isTenant
set_option maxRecDepth 20000 in
theorem ggX9_leave_X9_isOut : GoodIn wsX9_leave wsX9_isOut := goodIn_r _ [19, 1, 31, 32, 33, 34, 35, 36, 37, 38, 39, 40, 41, 42, 43, 44, 45, 46, 47, 48, 49, 50, 51, 52, 53, 54, 55, 56, 57, 58, 59, 60, 61, 62, 63, 64, 65, 66, 67, 68, 69, 70, 71, 72, 73, 74, 75, 76, 77, 78, 79, 80, 81, 82, 83, 84, 85, 86, 87, 88, 89, 90, 91, 92, 93, 94, 95, 96, 97] rfl (by decide +kernel)
set_option maxRecDepth 20000 in
theorem gX9_leave_X9_isOut : GoodIn wsX9_leave (wsV RX9 389 RX9 yX9_isOut wsX9_isOut) := goodIn_app (goodIn_r _ [16, 17, 18, 5] rfl (by decide +kernel)) ggX9_leave_X9_isOut
set_option maxRecDepth 20000 in
theorem ggX9_leave_X9_keepAct : GoodIn wsX9_leave wsX9_keepAct := goodIn_r _ [23, 24, 25, 1, 26, 31, 32, 33, 34, 35, 36, 37, 38, 39, 40, 41, 42, 43, 44, 45, 46, 47, 48, 49, 50, 51, 52, 53, 54, 55, 56, 57, 58, 59, 60, 61, 62, 63, 64, 65, 66, 67, 68, 69, 70, 71, 72, 73, 74, 75, 76, 77, 78, 79, 80, 81, 82, 83, 84, 85, 86, 87, 88, 89, 90, 91, 92, 93, 94, 95, 96, 97] rfl (by decide +kernel)
set_option maxRecDepth 20000 in
theorem gX9_leave_X9_keepAct : GoodIn wsX9_leave (wsV RX9 473 RX9 yX9_keepAct wsX9_keepAct) := goodIn_app (goodIn_r _ [20, 21, 22, 5] rfl (by decide +kernel)) ggX9_leave_X9_keepAct
set_option maxRecDepth 20000 in
theorem ggX9_leave_X9_goOut : GoodIn wsX9_leave wsX9_goOut := goodIn_r _ [30, 1, 31, 32, 33, 34, 35, 36, 37, 38, 39, 40, 41, 42, 43, 44, 45, 46, 47, 48, 49, 50, 51, 52, 53, 54, 55, 56, 57, 58, 59, 60, 61, 62, 63, 64, 65, 66, 67, 68, 69, 70, 71, 72, 73, 74, 75, 76, 77, 78, 79, 80, 81, 82, 83, 84, 85, 86, 87, 88, 89, 90, 91, 92, 93, 94, 95, 96, 97] rfl (by decide +kernel)
set_option maxRecDepth 20000 in
theorem gX9_leave_X9_goOut : GoodIn wsX9_leave (wsV RX9 446 RX9 yX9_goOut wsX9_goOut) := goodIn_app (goodIn_r _ [27, 28, 29, 5] rfl (by decide +kernel)) ggX9_leave_X9_goOut
theorem dX9_leave_0 : decode cX9_leave 0 = .ok (.aload_n 0, 1) := by decide +kernel
theorem dX9_leave_1 : decode cX9_leave 1 = .ok (.iload_n 1, 1) := by decide +kernel
theorem dX9_leave_2 : decode cX9_leave 2 = .ok (.invokevirtual 386, 3) := by decide +kernel
theorem dX9_leave_5 : decode cX9_leave 5 = .ok (.ifCond .eq 11, 3) := by decide +kernel
theorem dX9_leave_8 : decode cX9_leave 8 = .ok (.aload_n 0, 1) := by decide +kernel
theorem dX9_leave_9 : decode cX9_leave 9 = .ok (.iload_n 1, 1) := by decide +kernel
theorem dX9_leave_10 : decode cX9_leave 10 = .ok (.invokevirtual 389, 3) := by decide +kernel
theorem dX9_leave_13 : decode cX9_leave 13 = .ok (.ifCond .eq 5, 3) := by decide +kernel
theorem dX9_leave_16 : decode cX9_leave 16 = .ok (.iconst (-1), 1) := by decide +kernel
theorem dX9_leave_17 : decode cX9_leave 17 = .ok (.ireturn, 1) := by decide +kernel
theorem dX9_leave_18 : decode cX9_leave 18 = .ok (.aload_n 0, 1) := by decide +kernel
theorem dX9_leave_19 : decode cX9_leave 19 = .ok (.invokevirtual 473, 3) := by decide +kernel
theorem dX9_leave_22 : decode cX9_leave 22 = .ok (.aload_n 0, 1) := by decide +kernel
theorem dX9_leave_23 : decode cX9_leave 23 = .ok (.getfield 94, 3) := by decide +kernel
theorem dX9_leave_26 : decode cX9_leave 26 = .ok (.iconst 0, 1) := by decide +kernel
theorem dX9_leave_27 : decode cX9_leave 27 = .ok (.iload_n 1, 1) := by decide +kernel
theorem dX9_leave_28 : decode cX9_leave 28 = .ok (.iadd, 1) := by decide +kernel
theorem dX9_leave_29 : decode cX9_leave 29 = .ok (.iaload, 1) := by decide +kernel
theorem dX9_leave_30 : decode cX9_leave 30 = .ok (.istore_n 2, 1) := by decide +kernel
theorem dX9_leave_31 : decode cX9_leave 31 = .ok (.aload_n 0, 1) := by decide +kernel
theorem dX9_leave_32 : decode cX9_leave 32 = .ok (.iload_n 1, 1) := by decide +kernel
theorem dX9_leave_33 : decode cX9_leave 33 = .ok (.invokevirtual 446, 3) := by decide +kernel
theorem dX9_leave_36 : decode cX9_leave 36 = .ok (.iload_n 2, 1) := by decide +kernel
theorem dX9_leave_37 : decode cX9_leave 37 = .ok (.ireturn, 1) := by decide +kernel
set_option maxRecDepth 20000 in
theorem ggX9_exchange_X9_isTenant : GoodIn wsX9_exchange wsX9_isTenant := goodIn_r _ [6, 7, 8, 9, 5, 10, 11, 12, 13, 14, 15, 31, 32, 33, 34, 35, 36, 37, 38, 39, 40, 41, 42, 43, 44, 45, 46, 47, 48, 49, 50, 51, 52, 53, 54, 55, 56, 57, 58, 59, 60, 61, 62, 63, 64, 65, 66, 67, 68, 69, 70, 71, 72, 73, 74, 75, 76, 77, 78, 79, 80, 81, 82, 83, 84, 85, 86, 87, 88, 89, 90, 91, 92, 93, 94, 95, 96, 97] rfl (by decide +kernel)
set_option maxRecDepth 20000 in
theorem gX9_exchange_X9_isTenant : GoodIn wsX9_exchange (wsV RX9 386 RX9 yX9_isTenant wsX9_isTenant) := goodIn_app (goodIn_r _ [2, 3, 4, 5] rfl (by decide +kernel)) ggX9_exchange_X9_isTenant
set_option maxRecDepth 20000 in
theorem ggX9_exchange_X9_isOut : GoodIn wsX9_exchange wsX9_isOut := goodIn_r _ [19, 1, 31, 32, 33, 34, 35, 36, 37, 38, 39, 40, 41, 42, 43, 44, 45, 46, 47, 48, 49, 50, 51, 52, 53, 54, 55, 56, 57, 58, 59, 60, 61, 62, 63, 64, 65, 66, 67, 68, 69, 70, 71, 72, 73, 74, 75, 76, 77, 78, 79, 80, 81, 82, 83, 84, 85, 86, 87, 88, 89, 90, 91, 92, 93, 94, 95, 96, 97] rfl (by decide +kernel)
set_option maxRecDepth 20000 in
theorem gX9_exchange_X9_isOut : GoodIn wsX9_exchange (wsV RX9 389 RX9 yX9_isOut wsX9_isOut) := goodIn_app (goodIn_r _ [16, 17, 18, 5] rfl (by decide +kernel)) ggX9_exchange_X9_isOut
set_option maxRecDepth 20000 in
theorem ggX9_exchange_X9_keepAct : GoodIn wsX9_exchange wsX9_keepAct := goodIn_r _ [23, 24, 25, 1, 26, 31, 32, 33, 34, 35, 36, 37, 38, 39, 40, 41, 42, 43, 44, 45, 46, 47, 48, 49, 50, 51, 52, 53, 54, 55, 56, 57, 58, 59, 60, 61, 62, 63, 64, 65, 66, 67, 68, 69, 70, 71, 72, 73, 74, 75, 76, 77, 78, 79, 80, 81, 82, 83, 84, 85, 86, 87, 88, 89, 90, 91, 92, 93, 94, 95, 96, 97] rfl (by decide +kernel)
set_option maxRecDepth 20000 in
theorem gX9_exchange_X9_keepAct : GoodIn wsX9_exchange (wsV RX9 473 RX9 yX9_keepAct wsX9_keepAct) := goodIn_app (goodIn_r _ [20, 21, 22, 5] rfl (by decide +kernel)) ggX9_exchange_X9_keepAct
set_option maxRecDepth 20000 in
theorem ggX9_exchange_X9_goIn : GoodIn wsX9_exchange wsX9_goIn := goodIn_r _ [30, 1, 31, 32, 33, 34, 35, 36, 37, 38, 39, 40, 41, 42, 43, 44, 45, 46, 47, 48, 49, 50, 51, 52, 53, 54, 55, 56, 57, 58, 59, 60, 61, 62, 63, 64, 65, 66, 67, 68, 69, 70, 71, 72, 73, 74, 75, 76, 77, 78, 79, 80, 81, 82, 83, 84, 85, 86, 87, 88, 89, 90, 91, 92, 93, 94, 95, 96, 97] rfl (by decide +kernel)
set_option maxRecDepth 20000 in
theorem gX9_exchange_X9_goIn : GoodIn wsX9_exchange (wsV RX9 479 RX9 yX9_goIn wsX9_goIn) := goodIn_app (goodIn_r _ [27, 28, 29, 5] rfl (by decide +kernel)) ggX9_exchange_X9_goIn
theorem dX9_exchange_0 : decode cX9_exchange 0 = .ok (.aload_n 0, 1) := by decide +kernel
theorem dX9_exchange_1 : decode cX9_exchange 1 = .ok (.iload_n 1, 1) := by decide +kernel
theorem dX9_exchange_2 : decode cX9_exchange 2 = .ok (.invokevirtual 386, 3) := by decide +kernel
theorem dX9_exchange_5 : decode cX9_exchange 5 = .ok (.ifCond .eq 32, 3) := by decide +kernel
theorem dX9_exchange_8 : decode cX9_exchange 8 = .ok (.aload_n 0, 1) := by decide +kernel
theorem dX9_exchange_9 : decode cX9_exchange 9 = .ok (.iload_n 2, 1) := by decide +kernel
theorem dX9_exchange_10 : decode cX9_exchange 10 = .ok (.invokevirtual 386, 3) := by decide +kernel
theorem dX9_exchange_13 : decode cX9_exchange 13 = .ok (.ifCond .eq 24, 3) := by decide +kernel
theorem dX9_exchange_16 : decode cX9_exchange 16 = .ok (.iload_n 1, 1) := by decide +kernel
theorem dX9_exchange_17 : decode cX9_exchange 17 = .ok (.iload_n 2, 1) := by decide +kernel
theorem dX9_exchange_18 : decode cX9_exchange 18 = .ok (.if_icmp .eq 19, 3) := by decide +kernel
theorem dX9_exchange_21 : decode cX9_exchange 21 = .ok (.aload_n 0, 1) := by decide +kernel
theorem dX9_exchange_22 : decode cX9_exchange 22 = .ok (.iload_n 1, 1) := by decide +kernel
theorem dX9_exchange_23 : decode cX9_exchange 23 = .ok (.invokevirtual 389, 3) := by decide +kernel
theorem dX9_exchange_26 : decode cX9_exchange 26 = .ok (.ifCond .ne 11, 3) := by decide +kernel
theorem dX9_exchange_29 : decode cX9_exchange 29 = .ok (.aload_n 0, 1) := by decide +kernel
theorem dX9_exchange_30 : decode cX9_exchange 30 = .ok (.iload_n 2, 1) := by decide +kernel
theorem dX9_exchange_31 : decode cX9_exchange 31 = .ok (.invokevirtual 389, 3) := by decide +kernel
theorem dX9_exchange_34 : decode cX9_exchange 34 = .ok (.ifCond .eq 5, 3) := by decide +kernel
theorem dX9_exchange_37 : decode cX9_exchange 37 = .ok (.iconst (-1), 1) := by decide +kernel
theorem dX9_exchange_38 : decode cX9_exchange 38 = .ok (.ireturn, 1) := by decide +kernel
theorem dX9_exchange_39 : decode cX9_exchange 39 = .ok (.aload_n 0, 1) := by decide +kernel
theorem dX9_exchange_40 : decode cX9_exchange 40 = .ok (.invokevirtual 473, 3) := by decide +kernel
theorem dX9_exchange_43 : decode cX9_exchange 43 = .ok (.aload_n 0, 1) := by decide +kernel
theorem dX9_exchange_44 : decode cX9_exchange 44 = .ok (.getfield 94, 3) := by decide +kernel
theorem dX9_exchange_47 : decode cX9_exchange 47 = .ok (.iconst 0, 1) := by decide +kernel
theorem dX9_exchange_48 : decode cX9_exchange 48 = .ok (.iload_n 2, 1) := by decide +kernel
theorem dX9_exchange_49 : decode cX9_exchange 49 = .ok (.iadd, 1) := by decide +kernel
theorem dX9_exchange_50 : decode cX9_exchange 50 = .ok (.iaload, 1) := by decide +kernel
theorem dX9_exchange_51 : decode cX9_exchange 51 = .ok (.istore_n 3, 1) := by decide +kernel
theorem dX9_exchange_52 : decode cX9_exchange 52 = .ok (.aload_n 0, 1) := by decide +kernel
theorem dX9_exchange_53 : decode cX9_exchange 53 = .ok (.iload_n 2, 1) := by decide +kernel
theorem dX9_exchange_54 : decode cX9_exchange 54 = .ok (.aload_n 0, 1) := by decide +kernel
theorem dX9_exchange_55 : decode cX9_exchange 55 = .ok (.getfield 94, 3) := by decide +kernel
theorem dX9_exchange_58 : decode cX9_exchange 58 = .ok (.iconst 0, 1) := by decide +kernel
theorem dX9_exchange_59 : decode cX9_exchange 59 = .ok (.iload_n 1, 1) := by decide +kernel
theorem dX9_exchange_60 : decode cX9_exchange 60 = .ok (.iadd, 1) := by decide +kernel
theorem dX9_exchange_61 : decode cX9_exchange 61 = .ok (.iaload, 1) := by decide +kernel
theorem dX9_exchange_62 : decode cX9_exchange 62 = .ok (.invokevirtual 479, 3) := by decide +kernel
theorem dX9_exchange_65 : decode cX9_exchange 65 = .ok (.aload_n 0, 1) := by decide +kernel
theorem dX9_exchange_66 : decode cX9_exchange 66 = .ok (.iload_n 1, 1) := by decide +kernel
theorem dX9_exchange_67 : decode cX9_exchange 67 = .ok (.iload_n 3, 1) := by decide +kernel
theorem dX9_exchange_68 : decode cX9_exchange 68 = .ok (.invokevirtual 479, 3) := by decide +kernel
theorem dX9_exchange_71 : decode cX9_exchange 71 = .ok (.iload_n 3, 1) := by decide +kernel
theorem dX9_exchange_72 : decode cX9_exchange 72 = .ok (.ireturn, 1) := by decide +kernel
set_option maxRecDepth 20000 in
theorem ggX9_claim_X9_isRoom : GoodIn wsX9_claim wsX9_isRoom := goodIn_r _ [6, 7, 8, 9, 5, 10, 11, 12, 13, 14, 15, 50, 51, 52, 53, 54, 55, 56, 57, 58, 59, 60, 61, 62, 63, 64, 65, 66, 67, 68, 69, 70, 71, 72, 73, 74, 75, 76, 77, 78, 79, 80, 81, 82, 83, 84, 85, 86, 87, 88, 89, 90, 91, 92, 93, 94, 95, 96, 97, 98, 99, 100, 101, 102, 103, 104, 105, 106, 107, 108, 109, 110, 111, 112, 113, 114, 115, 116] rfl (by decide +kernel)
set_option maxRecDepth 20000 in
theorem gX9_claim_X9_isRoom : GoodIn wsX9_claim (wsV RX9 462 RX9 yX9_isRoom wsX9_isRoom) := goodIn_app (goodIn_r _ [2, 3, 4, 5] rfl (by decide +kernel)) ggX9_claim_X9_isRoom
set_option maxRecDepth 20000 in
theorem ggX9_claim_X9_isCat : GoodIn wsX9_claim wsX9_isCat := goodIn_r _ [19, 20, 21, 22, 5, 23, 24, 12, 13, 14, 15, 50, 51, 52, 53, 54, 55, 56, 57, 58, 59, 60, 61, 62, 63, 64, 65, 66, 67, 68, 69, 70, 71, 72, 73, 74, 75, 76, 77, 78, 79, 80, 81, 82, 83, 84, 85, 86, 87, 88, 89, 90, 91, 92, 93, 94, 95, 96, 97, 98, 99, 100, 101, 102, 103, 104, 105, 106, 107, 108, 109, 110, 111, 112, 113, 114, 115, 116] rfl (by decide +kernel)
set_option maxRecDepth 20000 in
theorem gX9_claim_X9_isCat : GoodIn wsX9_claim (wsV RX9 456 RX9 yX9_isCat wsX9_isCat) := goodIn_app (goodIn_r _ [16, 17, 18, 5] rfl (by decide +kernel)) ggX9_claim_X9_isCat
set_option maxRecDepth 20000 in
theorem ggX9_claim_X9_keeperOf : GoodIn wsX9_claim wsX9_keeperOf := goodIn_r _ [28, 1, 50, 51, 52, 53, 54, 55, 56, 57, 58, 59, 60, 61, 62, 63, 64, 65, 66, 67, 68, 69, 70, 71, 72, 73, 74, 75, 76, 77, 78, 79, 80, 81, 82, 83, 84, 85, 86, 87, 88, 89, 90, 91, 92, 93, 94, 95, 96, 97, 98, 99, 100, 101, 102, 103, 104, 105, 106, 107, 108, 109, 110, 111, 112, 113, 114, 115, 116] rfl (by decide +kernel)
set_option maxRecDepth 20000 in
theorem gX9_claim_X9_keeperOf : GoodIn wsX9_claim (wsV RX9 392 RX9 yX9_keeperOf wsX9_keeperOf) := goodIn_app (goodIn_r _ [25, 26, 27, 5] rfl (by decide +kernel)) ggX9_claim_X9_keeperOf
set_option maxRecDepth 20000 in
theorem ggX9_claim_X9_lives : GoodIn wsX9_claim wsX9_lives := goodIn_r _ [32, 1, 33, 34, 5, 35, 50, 51, 52, 53, 54, 55, 56, 57, 58, 59, 60, 61, 62, 63, 64, 65, 66, 67, 68, 69, 70, 71, 72, 73, 74, 75, 76, 77, 78, 79, 80, 81, 82, 83, 84, 85, 86, 87, 88, 89, 90, 91, 92, 93, 94, 95, 96, 97, 98, 99, 100, 101, 102, 103, 104, 105, 106, 107, 108, 109, 110, 111, 112, 113, 114, 115, 116] rfl (by decide +kernel)
set_option maxRecDepth 20000 in
theorem gX9_claim_X9_lives : GoodIn wsX9_claim (wsV RX9 434 RX9 yX9_lives wsX9_lives) := goodIn_app (goodIn_r _ [29, 30, 31, 5] rfl (by decide +kernel)) ggX9_claim_X9_lives
set_option maxRecDepth 20000 in
theorem ggX9_claim_X9_keepAct : GoodIn wsX9_claim wsX9_keepAct := goodIn_r _ [39, 40, 41, 1, 42, 50, 51, 52, 53, 54, 55, 56, 57, 58, 59, 60, 61, 62, 63, 64, 65, 66, 67, 68, 69, 70, 71, 72, 73, 74, 75, 76, 77, 78, 79, 80, 81, 82, 83, 84, 85, 86, 87, 88, 89, 90, 91, 92, 93, 94, 95, 96, 97, 98, 99, 100, 101, 102, 103, 104, 105, 106, 107, 108, 109, 110, 111, 112, 113, 114, 115, 116] rfl (by decide +kernel)
set_option maxRecDepth 20000 in
theorem gX9_claim_X9_keepAct : GoodIn wsX9_claim (wsV RX9 473 RX9 yX9_keepAct wsX9_keepAct) := goodIn_app (goodIn_r _ [36, 37, 38, 5] rfl (by decide +kernel)) ggX9_claim_X9_keepAct
set_option maxRecDepth 20000 in
theorem ggX9_claim_X9_roomsOf : GoodIn wsX9_claim wsX9_roomsOf := goodIn_r _ [46, 7, 8, 9, 5, 10, 11, 12, 25, 26, 27, 28, 1, 50, 51, 52, 53, 54, 55, 56, 57, 58, 59, 60, 61, 62, 63, 64, 65, 66, 67, 68, 69, 70, 71, 72, 73, 74, 75, 76, 77, 78, 79, 80, 81, 82, 83, 84, 85, 86, 87, 88, 89, 90, 91, 92, 93, 94, 95, 96, 97, 98, 99, 100, 101, 102, 103, 104, 105, 106, 107, 108, 109, 110, 111, 112, 113, 114, 115, 116] rfl (by decide +kernel)
set_option maxRecDepth 20000 in
theorem gX9_claim_X9_roomsOf : GoodIn wsX9_claim (wsV RX9 413 RX9 yX9_roomsOf wsX9_roomsOf) := goodIn_app (goodIn_r _ [43, 44, 45, 5] rfl (by decide +kernel)) ggX9_claim_X9_roomsOf
set_option maxRecDepth 20000 in
theorem ggX9_claim_X9_bitsOf : GoodIn wsX9_claim wsX9_bitsOf := goodIn_r _ [49] rfl (by decide +kernel)
set_option maxRecDepth 20000 in
theorem gX9_claim_X9_bitsOf : GoodIn wsX9_claim (va_wsS RX9 416 yX9_bitsOf wsX9_bitsOf) := goodIn_app (goodIn_r _ [47, 48, 5] rfl (by decide +kernel)) ggX9_claim_X9_bitsOf
theorem dX9_claim_0 : decode cX9_claim 0 = .ok (.aload_n 0, 1) := by decide +kernel
theorem dX9_claim_1 : decode cX9_claim 1 = .ok (.iload_n 1, 1) := by decide +kernel
theorem dX9_claim_2 : decode cX9_claim 2 = .ok (.invokevirtual 462, 3) := by decide +kernel
theorem dX9_claim_5 : decode cX9_claim 5 = .ok (.ifCond .eq 27, 3) := by decide +kernel
theorem dX9_claim_8 : decode cX9_claim 8 = .ok (.aload_n 0, 1) := by decide +kernel
theorem dX9_claim_9 : decode cX9_claim 9 = .ok (.iload_n 2, 1) := by decide +kernel
theorem dX9_claim_10 : decode cX9_claim 10 = .ok (.invokevirtual 456, 3) := by decide +kernel
theorem dX9_claim_13 : decode cX9_claim 13 = .ok (.ifCond .eq 19, 3) := by decide +kernel
theorem dX9_claim_16 : decode cX9_claim 16 = .ok (.aload_n 0, 1) := by decide +kernel
theorem dX9_claim_17 : decode cX9_claim 17 = .ok (.iload_n 1, 1) := by decide +kernel
theorem dX9_claim_18 : decode cX9_claim 18 = .ok (.invokevirtual 392, 3) := by decide +kernel
theorem dX9_claim_21 : decode cX9_claim 21 = .ok (.ifCond .ge 11, 3) := by decide +kernel
theorem dX9_claim_24 : decode cX9_claim 24 = .ok (.aload_n 0, 1) := by decide +kernel
theorem dX9_claim_25 : decode cX9_claim 25 = .ok (.iload_n 2, 1) := by decide +kernel
theorem dX9_claim_26 : decode cX9_claim 26 = .ok (.invokevirtual 434, 3) := by decide +kernel
theorem dX9_claim_29 : decode cX9_claim 29 = .ok (.ifCond .ne 5, 3) := by decide +kernel
theorem dX9_claim_32 : decode cX9_claim 32 = .ok (.iconst (-1), 1) := by decide +kernel
theorem dX9_claim_33 : decode cX9_claim 33 = .ok (.ireturn, 1) := by decide +kernel
theorem dX9_claim_34 : decode cX9_claim 34 = .ok (.aload_n 0, 1) := by decide +kernel
theorem dX9_claim_35 : decode cX9_claim 35 = .ok (.invokevirtual 473, 3) := by decide +kernel
theorem dX9_claim_38 : decode cX9_claim 38 = .ok (.aload_n 0, 1) := by decide +kernel
theorem dX9_claim_39 : decode cX9_claim 39 = .ok (.getfield 94, 3) := by decide +kernel
theorem dX9_claim_42 : decode cX9_claim 42 = .ok (.bipush 14, 2) := by decide +kernel
theorem dX9_claim_44 : decode cX9_claim 44 = .ok (.iload_n 1, 1) := by decide +kernel
theorem dX9_claim_45 : decode cX9_claim 45 = .ok (.iadd, 1) := by decide +kernel
theorem dX9_claim_46 : decode cX9_claim 46 = .ok (.iload_n 2, 1) := by decide +kernel
theorem dX9_claim_47 : decode cX9_claim 47 = .ok (.iastore, 1) := by decide +kernel
theorem dX9_claim_48 : decode cX9_claim 48 = .ok (.aload_n 0, 1) := by decide +kernel
theorem dX9_claim_49 : decode cX9_claim 49 = .ok (.iload_n 2, 1) := by decide +kernel
theorem dX9_claim_50 : decode cX9_claim 50 = .ok (.invokevirtual 413, 3) := by decide +kernel
theorem dX9_claim_53 : decode cX9_claim 53 = .ok (.invokestatic 416, 3) := by decide +kernel
theorem dX9_claim_56 : decode cX9_claim 56 = .ok (.ireturn, 1) := by decide +kernel
set_option maxRecDepth 20000 in
theorem ggX9_tellAnew_X9_keepAct : GoodIn wsX9_tellAnew wsX9_keepAct := goodIn_r _ [6, 7, 8, 1, 9, 10, 11, 12, 13, 14, 15, 16, 17, 18, 19, 20, 21, 22, 23, 24, 25, 26, 27, 28, 29, 30, 31, 32, 33, 34, 35, 36, 37, 38, 39, 40, 41, 42, 43, 44, 45, 46, 47, 48, 49, 50, 51, 52, 53, 54, 55, 56, 57, 58, 59, 60, 61, 62, 63, 64, 65, 66, 67, 68, 69, 70, 71, 72, 73, 74, 75, 76] rfl (by decide +kernel)
set_option maxRecDepth 20000 in
theorem gX9_tellAnew_X9_keepAct : GoodIn wsX9_tellAnew (wsV RX9 473 RX9 yX9_keepAct wsX9_keepAct) := goodIn_app (goodIn_r _ [2, 3, 4, 5] rfl (by decide +kernel)) ggX9_tellAnew_X9_keepAct
theorem dX9_tellAnew_0 : decode cX9_tellAnew 0 = .ok (.aload_n 0, 1) := by decide +kernel
theorem dX9_tellAnew_1 : decode cX9_tellAnew 1 = .ok (.getfield 94, 3) := by decide +kernel
theorem dX9_tellAnew_4 : decode cX9_tellAnew 4 = .ok (.iload_n 1, 1) := by decide +kernel
theorem dX9_tellAnew_5 : decode cX9_tellAnew 5 = .ok (.iaload, 1) := by decide +kernel
theorem dX9_tellAnew_6 : decode cX9_tellAnew 6 = .ok (.iload_n 2, 1) := by decide +kernel
theorem dX9_tellAnew_7 : decode cX9_tellAnew 7 = .ok (.if_icmp .ne 5, 3) := by decide +kernel
theorem dX9_tellAnew_10 : decode cX9_tellAnew 10 = .ok (.iconst (-1), 1) := by decide +kernel
theorem dX9_tellAnew_11 : decode cX9_tellAnew 11 = .ok (.ireturn, 1) := by decide +kernel
theorem dX9_tellAnew_12 : decode cX9_tellAnew 12 = .ok (.aload_n 0, 1) := by decide +kernel
theorem dX9_tellAnew_13 : decode cX9_tellAnew 13 = .ok (.invokevirtual 473, 3) := by decide +kernel
theorem dX9_tellAnew_16 : decode cX9_tellAnew 16 = .ok (.aload_n 0, 1) := by decide +kernel
theorem dX9_tellAnew_17 : decode cX9_tellAnew 17 = .ok (.getfield 94, 3) := by decide +kernel
theorem dX9_tellAnew_20 : decode cX9_tellAnew 20 = .ok (.iload_n 1, 1) := by decide +kernel
theorem dX9_tellAnew_21 : decode cX9_tellAnew 21 = .ok (.iaload, 1) := by decide +kernel
theorem dX9_tellAnew_22 : decode cX9_tellAnew 22 = .ok (.istore_n 3, 1) := by decide +kernel
theorem dX9_tellAnew_23 : decode cX9_tellAnew 23 = .ok (.aload_n 0, 1) := by decide +kernel
theorem dX9_tellAnew_24 : decode cX9_tellAnew 24 = .ok (.getfield 94, 3) := by decide +kernel
theorem dX9_tellAnew_27 : decode cX9_tellAnew 27 = .ok (.iload_n 1, 1) := by decide +kernel
theorem dX9_tellAnew_28 : decode cX9_tellAnew 28 = .ok (.iload_n 2, 1) := by decide +kernel
theorem dX9_tellAnew_29 : decode cX9_tellAnew 29 = .ok (.iastore, 1) := by decide +kernel
theorem dX9_tellAnew_30 : decode cX9_tellAnew 30 = .ok (.iload_n 3, 1) := by decide +kernel
theorem dX9_tellAnew_31 : decode cX9_tellAnew 31 = .ok (.ireturn, 1) := by decide +kernel
set_option maxRecDepth 20000 in
theorem ggX9_spend_X9_isTenant : GoodIn wsX9_spend wsX9_isTenant := goodIn_r _ [5, 6, 7, 8, 4, 9, 10, 11, 12, 13, 14, 27, 28, 29, 30, 31, 32, 33, 34, 35, 36, 37, 38, 39, 40, 41, 42, 43, 44, 45, 46, 47, 48, 49, 50, 51, 52, 53, 54, 55, 56, 57, 58, 59, 60, 61, 62, 63, 64, 65, 66, 67, 68, 69, 70, 71, 72, 73, 74, 75, 76, 77, 78, 79, 80, 81, 82, 83, 84, 85, 86, 87, 88, 89, 90, 91, 92, 93] rfl (by decide +kernel)
set_option maxRecDepth 20000 in
theorem gX9_spend_X9_isTenant : GoodIn wsX9_spend (wsV RX9 386 RX9 yX9_isTenant wsX9_isTenant) := goodIn_app (goodIn_r _ [1, 2, 3, 4] rfl (by decide +kernel)) ggX9_spend_X9_isTenant
set_option maxRecDepth 20000 in
theorem ggX9_spend_X9_isIn : GoodIn wsX9_spend wsX9_isIn := goodIn_r _ [14] rfl (by decide +kernel)
set_option maxRecDepth 20000 in
theorem gX9_spend_X9_isIn : GoodIn wsX9_spend (va_wsS RX9 376 yX9_isIn wsX9_isIn) := goodIn_app (goodIn_r _ [12, 13, 4] rfl (by decide +kernel)) ggX9_spend_X9_isIn
set_option maxRecDepth 20000 in
theorem ggX9_spend_X9_tellAnew : GoodIn wsX9_spend wsX9_tellAnew := goodIn_r _ [18, 19, 20, 21, 22, 4, 23, 24, 25, 26, 27, 28, 29, 30, 31, 32, 33, 34, 35, 36, 37, 38, 39, 40, 41, 42, 43, 44, 45, 46, 47, 48, 49, 50, 51, 52, 53, 54, 55, 56, 57, 58, 59, 60, 61, 62, 63, 64, 65, 66, 67, 68, 69, 70, 71, 72, 73, 74, 75, 76, 77, 78, 79, 80, 81, 82, 83, 84, 85, 86, 87, 88, 89, 90, 91, 92, 93] rfl (by decide +kernel)
set_option maxRecDepth 20000 in
theorem gX9_spend_X9_tellAnew : GoodIn wsX9_spend (wsV RX9 482 RX9 yX9_tellAnew wsX9_tellAnew) := goodIn_app (goodIn_r _ [15, 16, 17, 4] rfl (by decide +kernel)) ggX9_spend_X9_tellAnew
theorem dX9_spend_0 : decode cX9_spend 0 = .ok (.aload_n 0, 1) := by decide +kernel
theorem dX9_spend_1 : decode cX9_spend 1 = .ok (.iload_n 1, 1) := by decide +kernel
theorem dX9_spend_2 : decode cX9_spend 2 = .ok (.invokevirtual 386, 3) := by decide +kernel
theorem dX9_spend_5 : decode cX9_spend 5 = .ok (.ifCond .eq 25, 3) := by decide +kernel
theorem dX9_spend_8 : decode cX9_spend 8 = .ok (.iload_n 2, 1) := by decide +kernel
theorem dX9_spend_9 : decode cX9_spend 9 = .ok (.iconst 0, 1) := by decide +kernel
theorem dX9_spend_10 : decode cX9_spend 10 = .ok (.bipush 99, 2) := by decide +kernel
theorem dX9_spend_12 : decode cX9_spend 12 = .ok (.invokestatic 376, 3) := by decide +kernel
theorem dX9_spend_15 : decode cX9_spend 15 = .ok (.ifCond .eq 15, 3) := by decide +kernel
theorem dX9_spend_18 : decode cX9_spend 18 = .ok (.aload_n 0, 1) := by decide +kernel
theorem dX9_spend_19 : decode cX9_spend 19 = .ok (.bipush 22, 2) := by decide +kernel
theorem dX9_spend_21 : decode cX9_spend 21 = .ok (.iload_n 1, 1) := by decide +kernel
theorem dX9_spend_22 : decode cX9_spend 22 = .ok (.iadd, 1) := by decide +kernel
theorem dX9_spend_23 : decode cX9_spend 23 = .ok (.iload_n 2, 1) := by decide +kernel
theorem dX9_spend_24 : decode cX9_spend 24 = .ok (.invokevirtual 482, 3) := by decide +kernel
theorem dX9_spend_27 : decode cX9_spend 27 = .ok (.goto 4, 3) := by decide +kernel
theorem dX9_spend_30 : decode cX9_spend 30 = .ok (.iconst (-1), 1) := by decide +kernel
theorem dX9_spend_31 : decode cX9_spend 31 = .ok (.ireturn, 1) := by decide +kernel
set_option maxRecDepth 20000 in
theorem ggX9_calm_X9_isTenant : GoodIn wsX9_calm wsX9_isTenant := goodIn_r _ [5, 6, 7, 8, 4, 9, 10, 11, 12, 13, 14, 27, 28, 29, 30, 31, 32, 33, 34, 35, 36, 37, 38, 39, 40, 41, 42, 43, 44, 45, 46, 47, 48, 49, 50, 51, 52, 53, 54, 55, 56, 57, 58, 59, 60, 61, 62, 63, 64, 65, 66, 67, 68, 69, 70, 71, 72, 73, 74, 75, 76, 77, 78, 79, 80, 81, 82, 83, 84, 85, 86, 87, 88, 89, 90, 91, 92, 93] rfl (by decide +kernel)
set_option maxRecDepth 20000 in
theorem gX9_calm_X9_isTenant : GoodIn wsX9_calm (wsV RX9 386 RX9 yX9_isTenant wsX9_isTenant) := goodIn_app (goodIn_r _ [1, 2, 3, 4] rfl (by decide +kernel)) ggX9_calm_X9_isTenant
set_option maxRecDepth 20000 in
theorem ggX9_calm_X9_isIn : GoodIn wsX9_calm wsX9_isIn := goodIn_r _ [14] rfl (by decide +kernel)
set_option maxRecDepth 20000 in
theorem gX9_calm_X9_isIn : GoodIn wsX9_calm (va_wsS RX9 376 yX9_isIn wsX9_isIn) := goodIn_app (goodIn_r _ [12, 13, 4] rfl (by decide +kernel)) ggX9_calm_X9_isIn
set_option maxRecDepth 20000 in
theorem ggX9_calm_X9_tellAnew : GoodIn wsX9_calm wsX9_tellAnew := goodIn_r _ [18, 19, 20, 21, 22, 4, 23, 24, 25, 26, 27, 28, 29, 30, 31, 32, 33, 34, 35, 36, 37, 38, 39, 40, 41, 42, 43, 44, 45, 46, 47, 48, 49, 50, 51, 52, 53, 54, 55, 56, 57, 58, 59, 60, 61, 62, 63, 64, 65, 66, 67, 68, 69, 70, 71, 72, 73, 74, 75, 76, 77, 78, 79, 80, 81, 82, 83, 84, 85, 86, 87, 88, 89, 90, 91, 92, 93] rfl (by decide +kernel)
set_option maxRecDepth 20000 in
theorem gX9_calm_X9_tellAnew : GoodIn wsX9_calm (wsV RX9 482 RX9 yX9_tellAnew wsX9_tellAnew) := goodIn_app (goodIn_r _ [15, 16, 17, 4] rfl (by decide +kernel)) ggX9_calm_X9_tellAnew
theorem dX9_calm_0 : decode cX9_calm 0 = .ok (.aload_n 0, 1) := by decide +kernel
theorem dX9_calm_1 : decode cX9_calm 1 = .ok (.iload_n 1, 1) := by decide +kernel
theorem dX9_calm_2 : decode cX9_calm 2 = .ok (.invokevirtual 386, 3) := by decide +kernel
theorem dX9_calm_5 : decode cX9_calm 5 = .ok (.ifCond .eq 25, 3) := by decide +kernel
theorem dX9_calm_8 : decode cX9_calm 8 = .ok (.iload_n 2, 1) := by decide +kernel
theorem dX9_calm_9 : decode cX9_calm 9 = .ok (.iconst 0, 1) := by decide +kernel
theorem dX9_calm_10 : decode cX9_calm 10 = .ok (.bipush 9, 2) := by decide +kernel
theorem dX9_calm_12 : decode cX9_calm 12 = .ok (.invokestatic 376, 3) := by decide +kernel
theorem dX9_calm_15 : decode cX9_calm 15 = .ok (.ifCond .eq 15, 3) := by decide +kernel
theorem dX9_calm_18 : decode cX9_calm 18 = .ok (.aload_n 0, 1) := by decide +kernel
theorem dX9_calm_19 : decode cX9_calm 19 = .ok (.bipush 29, 2) := by decide +kernel
theorem dX9_calm_21 : decode cX9_calm 21 = .ok (.iload_n 1, 1) := by decide +kernel
theorem dX9_calm_22 : decode cX9_calm 22 = .ok (.iadd, 1) := by decide +kernel
theorem dX9_calm_23 : decode cX9_calm 23 = .ok (.iload_n 2, 1) := by decide +kernel
theorem dX9_calm_24 : decode cX9_calm 24 = .ok (.invokevirtual 482, 3) := by decide +kernel
theorem dX9_calm_27 : decode cX9_calm 27 = .ok (.goto 4, 3) := by decide +kernel
theorem dX9_calm_30 : decode cX9_calm 30 = .ok (.iconst (-1), 1) := by decide +kernel
theorem dX9_calm_31 : decode cX9_calm 31 = .ok (.ireturn, 1) := by decide +kernel
set_option maxRecDepth 20000 in
theorem ggX9_undo_X9_swapAll : GoodIn wsX9_undo wsX9_swapAll := goodIn_r _ [7, 8, 1, 9, 10, 11, 12, 13, 14, 15, 16, 17, 18, 19, 20, 21, 22, 23, 24, 25, 26, 27, 28, 29, 30, 31, 32, 33, 34, 35, 36, 37, 38, 39, 40, 41, 42, 43, 44, 45, 46, 47, 48, 49, 50, 51, 52, 53, 54, 55, 56, 57, 58, 59, 60, 61, 62, 63, 64, 65, 66, 67, 68, 69, 70, 71, 72, 73, 74, 75, 76] rfl (by decide +kernel)
set_option maxRecDepth 20000 in
theorem gX9_undo_X9_swapAll : GoodIn wsX9_undo (wsV RX9 485 RX9 yX9_swapAll wsX9_swapAll) := goodIn_app (goodIn_r _ [3, 4, 5, 6] rfl (by decide +kernel)) ggX9_undo_X9_swapAll
theorem dX9_undo_0 : decode cX9_undo 0 = .ok (.aload_n 0, 1) := by decide +kernel
theorem dX9_undo_1 : decode cX9_undo 1 = .ok (.getfield 398, 3) := by decide +kernel
theorem dX9_undo_4 : decode cX9_undo 4 = .ok (.ifCond .ne 5, 3) := by decide +kernel
theorem dX9_undo_7 : decode cX9_undo 7 = .ok (.iconst 0, 1) := by decide +kernel
theorem dX9_undo_8 : decode cX9_undo 8 = .ok (.ireturn, 1) := by decide +kernel
theorem dX9_undo_9 : decode cX9_undo 9 = .ok (.aload_n 0, 1) := by decide +kernel
theorem dX9_undo_10 : decode cX9_undo 10 = .ok (.dup, 1) := by decide +kernel
theorem dX9_undo_11 : decode cX9_undo 11 = .ok (.getfield 398, 3) := by decide +kernel
theorem dX9_undo_14 : decode cX9_undo 14 = .ok (.iconst 1, 1) := by decide +kernel
theorem dX9_undo_15 : decode cX9_undo 15 = .ok (.isub, 1) := by decide +kernel
theorem dX9_undo_16 : decode cX9_undo 16 = .ok (.putfield 398, 3) := by decide +kernel
theorem dX9_undo_19 : decode cX9_undo 19 = .ok (.aload_n 0, 1) := by decide +kernel
theorem dX9_undo_20 : decode cX9_undo 20 = .ok (.dup, 1) := by decide +kernel
theorem dX9_undo_21 : decode cX9_undo 21 = .ok (.getfield 401, 3) := by decide +kernel
theorem dX9_undo_24 : decode cX9_undo 24 = .ok (.iconst 1, 1) := by decide +kernel
theorem dX9_undo_25 : decode cX9_undo 25 = .ok (.iadd, 1) := by decide +kernel
theorem dX9_undo_26 : decode cX9_undo 26 = .ok (.putfield 401, 3) := by decide +kernel
theorem dX9_undo_29 : decode cX9_undo 29 = .ok (.aload_n 0, 1) := by decide +kernel
theorem dX9_undo_30 : decode cX9_undo 30 = .ok (.invokevirtual 485, 3) := by decide +kernel
theorem dX9_undo_33 : decode cX9_undo 33 = .ok (.iconst 1, 1) := by decide +kernel
theorem dX9_undo_34 : decode cX9_undo 34 = .ok (.ireturn, 1) := by decide +kernel
set_option maxRecDepth 20000 in
theorem ggX9_redo_X9_swapAll : GoodIn wsX9_redo wsX9_swapAll := goodIn_r _ [7, 8, 2, 9, 10, 11, 12, 13, 14, 15, 16, 17, 18, 19, 20, 21, 22, 23, 24, 25, 26, 27, 28, 29, 30, 31, 32, 33, 34, 35, 36, 37, 38, 39, 40, 41, 42, 43, 44, 45, 46, 47, 48, 49, 50, 51, 52, 53, 54, 55, 56, 57, 58, 59, 60, 61, 62, 63, 64, 65, 66, 67, 68, 69, 70, 71, 72, 73, 74, 75, 76] rfl (by decide +kernel)
set_option maxRecDepth 20000 in
theorem gX9_redo_X9_swapAll : GoodIn wsX9_redo (wsV RX9 485 RX9 yX9_swapAll wsX9_swapAll) := goodIn_app (goodIn_r _ [3, 4, 5, 6] rfl (by decide +kernel)) ggX9_redo_X9_swapAll
theorem dX9_redo_0 : decode cX9_redo 0 = .ok (.aload_n 0, 1) := by decide +kernel
theorem dX9_redo_1 : decode cX9_redo 1 = .ok (.getfield 401, 3) := by decide +kernel
theorem dX9_redo_4 : decode cX9_redo 4 = .ok (.ifCond .ne 5, 3) := by decide +kernel
theorem dX9_redo_7 : decode cX9_redo 7 = .ok (.iconst 0, 1) := by decide +kernel
theorem dX9_redo_8 : decode cX9_redo 8 = .ok (.ireturn, 1) := by decide +kernel
theorem dX9_redo_9 : decode cX9_redo 9 = .ok (.aload_n 0, 1) := by decide +kernel
theorem dX9_redo_10 : decode cX9_redo 10 = .ok (.invokevirtual 485, 3) := by decide +kernel
theorem dX9_redo_13 : decode cX9_redo 13 = .ok (.aload_n 0, 1) := by decide +kernel
theorem dX9_redo_14 : decode cX9_redo 14 = .ok (.dup, 1) := by decide +kernel
theorem dX9_redo_15 : decode cX9_redo 15 = .ok (.getfield 398, 3) := by decide +kernel
theorem dX9_redo_18 : decode cX9_redo 18 = .ok (.iconst 1, 1) := by decide +kernel
theorem dX9_redo_19 : decode cX9_redo 19 = .ok (.iadd, 1) := by decide +kernel
theorem dX9_redo_20 : decode cX9_redo 20 = .ok (.putfield 398, 3) := by decide +kernel
theorem dX9_redo_23 : decode cX9_redo 23 = .ok (.aload_n 0, 1) := by decide +kernel
theorem dX9_redo_24 : decode cX9_redo 24 = .ok (.dup, 1) := by decide +kernel
theorem dX9_redo_25 : decode cX9_redo 25 = .ok (.getfield 401, 3) := by decide +kernel
theorem dX9_redo_28 : decode cX9_redo 28 = .ok (.iconst 1, 1) := by decide +kernel
theorem dX9_redo_29 : decode cX9_redo 29 = .ok (.isub, 1) := by decide +kernel
theorem dX9_redo_30 : decode cX9_redo 30 = .ok (.putfield 401, 3) := by decide +kernel
theorem dX9_redo_33 : decode cX9_redo 33 = .ok (.iconst 1, 1) := by decide +kernel
theorem dX9_redo_34 : decode cX9_redo 34 = .ok (.ireturn, 1) := by decide +kernel
set_option maxRecDepth 20000 in
theorem ggX9_lies_X9_isIn : GoodIn wsX9_lies wsX9_isIn := goodIn_r _ [6] rfl (by decide +kernel)
set_option maxRecDepth 20000 in
theorem gX9_lies_X9_isIn : GoodIn wsX9_lies (va_wsS RX9 376 yX9_isIn wsX9_isIn) := goodIn_app (goodIn_r _ [3, 4, 5] rfl (by decide +kernel)) ggX9_lies_X9_isIn
theorem dX9_lies_0 : decode cX9_lies 0 = .ok (.iload_n 1, 1) := by decide +kernel
theorem dX9_lies_1 : decode cX9_lies 1 = .ok (.iconst 0, 1) := by decide +kernel
theorem dX9_lies_2 : decode cX9_lies 2 = .ok (.aload_n 0, 1) := by decide +kernel
theorem dX9_lies_3 : decode cX9_lies 3 = .ok (.getfield 407, 3) := by decide +kernel
theorem dX9_lies_6 : decode cX9_lies 6 = .ok (.iconst 1, 1) := by decide +kernel
theorem dX9_lies_7 : decode cX9_lies 7 = .ok (.isub, 1) := by decide +kernel
theorem dX9_lies_8 : decode cX9_lies 8 = .ok (.invokestatic 376, 3) := by decide +kernel
theorem dX9_lies_11 : decode cX9_lies 11 = .ok (.ifCond .eq 12, 3) := by decide +kernel
theorem dX9_lies_14 : decode cX9_lies 14 = .ok (.aload_n 0, 1) := by decide +kernel
theorem dX9_lies_15 : decode cX9_lies 15 = .ok (.getfield 112, 3) := by decide +kernel
theorem dX9_lies_18 : decode cX9_lies 18 = .ok (.iload_n 1, 1) := by decide +kernel
theorem dX9_lies_19 : decode cX9_lies 19 = .ok (.iaload, 1) := by decide +kernel
theorem dX9_lies_20 : decode cX9_lies 20 = .ok (.goto 5, 3) := by decide +kernel
theorem dX9_lies_23 : decode cX9_lies 23 = .ok (.bipush (-2), 2) := by decide +kernel
theorem dX9_lies_25 : decode cX9_lies 25 = .ok (.ireturn, 1) := by decide +kernel
theorem dX9_isAhead_0 : decode cX9_isAhead 0 = .ok (.iload_n 0, 1) := by decide +kernel
theorem dX9_isAhead_1 : decode cX9_isAhead 1 = .ok (.ifCond .lt 13, 3) := by decide +kernel
theorem dX9_isAhead_4 : decode cX9_isAhead 4 = .ok (.iload_n 0, 1) := by decide +kernel
theorem dX9_isAhead_5 : decode cX9_isAhead 5 = .ok (.bipush 60, 2) := by decide +kernel
theorem dX9_isAhead_7 : decode cX9_isAhead 7 = .ok (.if_icmp .gt 7, 3) := by decide +kernel
theorem dX9_isAhead_10 : decode cX9_isAhead 10 = .ok (.iconst 1, 1) := by decide +kernel
theorem dX9_isAhead_11 : decode cX9_isAhead 11 = .ok (.goto 4, 3) := by decide +kernel
theorem dX9_isAhead_14 : decode cX9_isAhead 14 = .ok (.iconst 0, 1) := by decide +kernel
theorem dX9_isAhead_15 : decode cX9_isAhead 15 = .ok (.ireturn, 1) := by decide +kernel
theorem dX9_keepNow_0 : decode cX9_keepNow 0 = .ok (.iconst 0, 1) := by decide +kernel
theorem dX9_keepNow_1 : decode cX9_keepNow 1 = .ok (.istore_n 1, 1) := by decide +kernel
theorem dX9_keepNow_2 : decode cX9_keepNow 2 = .ok (.iload_n 1, 1) := by decide +kernel
theorem dX9_keepNow_3 : decode cX9_keepNow 3 = .ok (.bipush 39, 2) := by decide +kernel
theorem dX9_keepNow_5 : decode cX9_keepNow 5 = .ok (.if_icmp .ge 21, 3) := by decide +kernel
theorem dX9_keepNow_8 : decode cX9_keepNow 8 = .ok (.aload_n 0, 1) := by decide +kernel
theorem dX9_keepNow_9 : decode cX9_keepNow 9 = .ok (.getfield 109, 3) := by decide +kernel
theorem dX9_keepNow_12 : decode cX9_keepNow 12 = .ok (.iload_n 1, 1) := by decide +kernel
theorem dX9_keepNow_13 : decode cX9_keepNow 13 = .ok (.aload_n 0, 1) := by decide +kernel
theorem dX9_keepNow_14 : decode cX9_keepNow 14 = .ok (.getfield 94, 3) := by decide +kernel
theorem dX9_keepNow_17 : decode cX9_keepNow 17 = .ok (.iload_n 1, 1) := by decide +kernel
theorem dX9_keepNow_18 : decode cX9_keepNow 18 = .ok (.iaload, 1) := by decide +kernel
theorem dX9_keepNow_19 : decode cX9_keepNow 19 = .ok (.iastore, 1) := by decide +kernel
theorem dX9_keepNow_20 : decode cX9_keepNow 20 = .ok (.iinc 1 1, 3) := by decide +kernel
theorem dX9_keepNow_23 : decode cX9_keepNow 23 = .ok (.goto (-21), 3) := by decide +kernel
theorem dX9_keepNow_26 : decode cX9_keepNow 26 = .ok (.return_, 1) := by decide +kernel
theorem dX9_bringBack_0 : decode cX9_bringBack 0 = .ok (.iconst 0, 1) := by decide +kernel
theorem dX9_bringBack_1 : decode cX9_bringBack 1 = .ok (.istore_n 1, 1) := by decide +kernel
theorem dX9_bringBack_2 : decode cX9_bringBack 2 = .ok (.iload_n 1, 1) := by decide +kernel
theorem dX9_bringBack_3 : decode cX9_bringBack 3 = .ok (.bipush 39, 2) := by decide +kernel
theorem dX9_bringBack_5 : decode cX9_bringBack 5 = .ok (.if_icmp .ge 21, 3) := by decide +kernel
theorem dX9_bringBack_8 : decode cX9_bringBack 8 = .ok (.aload_n 0, 1) := by decide +kernel
theorem dX9_bringBack_9 : decode cX9_bringBack 9 = .ok (.getfield 94, 3) := by decide +kernel
theorem dX9_bringBack_12 : decode cX9_bringBack 12 = .ok (.iload_n 1, 1) := by decide +kernel
theorem dX9_bringBack_13 : decode cX9_bringBack 13 = .ok (.aload_n 0, 1) := by decide +kernel
theorem dX9_bringBack_14 : decode cX9_bringBack 14 = .ok (.getfield 109, 3) := by decide +kernel
theorem dX9_bringBack_17 : decode cX9_bringBack 17 = .ok (.iload_n 1, 1) := by decide +kernel
theorem dX9_bringBack_18 : decode cX9_bringBack 18 = .ok (.iaload, 1) := by decide +kernel
theorem dX9_bringBack_19 : decode cX9_bringBack 19 = .ok (.iastore, 1) := by decide +kernel
theorem dX9_bringBack_20 : decode cX9_bringBack 20 = .ok (.iinc 1 1, 3) := by decide +kernel
theorem dX9_bringBack_23 : decode cX9_bringBack 23 = .ok (.goto (-21), 3) := by decide +kernel
theorem dX9_bringBack_26 : decode cX9_bringBack 26 = .ok (.return_, 1) := by decide +kernel
set_option maxRecDepth 20000 in
theorem ggX9_will_X9_isTenant : GoodIn wsX9_will wsX9_isTenant := goodIn_r _ [6, 7, 8, 9, 5, 10, 11, 12, 13, 14, 15, 139, 140, 141, 142, 143, 144, 145, 146, 147, 148, 149, 150, 151, 152, 153, 154, 155, 156, 157, 158, 159, 160, 161, 162, 163, 164, 165, 166, 167, 168, 169, 170, 171, 172, 173, 174, 175, 176, 177, 178, 179, 180, 181, 182, 183, 184, 185, 186, 187, 188, 189, 190, 191, 192, 193, 194, 195, 196, 197, 198, 199, 200, 201, 202, 203, 204, 205] rfl (by decide +kernel)
set_option maxRecDepth 20000 in
theorem gX9_will_X9_isTenant : GoodIn wsX9_will (wsV RX9 386 RX9 yX9_isTenant wsX9_isTenant) := goodIn_app (goodIn_r _ [2, 3, 4, 5] rfl (by decide +kernel)) ggX9_will_X9_isTenant
set_option maxRecDepth 20000 in
theorem ggX9_will_X9_isAhead : GoodIn wsX9_will wsX9_isAhead := goodIn_r _ [18] rfl (by decide +kernel)
set_option maxRecDepth 20000 in
theorem gX9_will_X9_isAhead : GoodIn wsX9_will (va_wsS RX9 488 yX9_isAhead wsX9_isAhead) := goodIn_app (goodIn_r _ [16, 17, 5] rfl (by decide +kernel)) ggX9_will_X9_isAhead
set_option maxRecDepth 20000 in
theorem ggX9_will_X9_isIn : GoodIn wsX9_will wsX9_isIn := goodIn_r _ [15] rfl (by decide +kernel)
set_option maxRecDepth 20000 in
theorem gX9_will_X9_isIn : GoodIn wsX9_will (va_wsS RX9 376 yX9_isIn wsX9_isIn) := goodIn_app (goodIn_r _ [13, 14, 5] rfl (by decide +kernel)) ggX9_will_X9_isIn
set_option maxRecDepth 20000 in
theorem ggX9_will_X9_keepNow : GoodIn wsX9_will wsX9_keepNow := goodIn_r _ [22, 23, 1, 139, 140, 141, 142, 143, 144, 145, 146, 147, 148, 149, 150, 151, 152, 153, 154, 155, 156, 157, 158, 159, 160, 161, 162, 163, 164, 165, 166, 167, 168, 169, 170, 171, 172, 173, 174, 175, 176, 177, 178, 179, 180, 181, 182, 183, 184, 185, 186, 187, 188, 189, 190, 191, 192, 193, 194, 195, 196, 197, 198, 199, 200, 201, 202, 203, 204, 205] rfl (by decide +kernel)
