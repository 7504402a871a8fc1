theorem dX8_spend_5 : decode cX8_spend 5 = .ok (.ifCond .eq 13, 3) := by decide +kernel
theorem dX8_spend_8 : decode cX8_spend 8 = .ok (.iload_n 2, 1) := by decide +kernel
theorem dX8_spend_9 : decode cX8_spend 9 = .ok (.ifCond .lt 9, 3) := by decide +kernel
theorem dX8_spend_12 : decode cX8_spend 12 = .ok (.iload_n 2, 1) := by decide +kernel
theorem dX8_spend_13 : decode cX8_spend 13 = .ok (.bipush 99, 2) := by decide +kernel
theorem dX8_spend_15 : decode cX8_spend 15 = .ok (.if_icmp .le 5, 3) := by decide +kernel
theorem dX8_spend_18 : decode cX8_spend 18 = .ok (.iconst (-1), 1) := by decide +kernel
theorem dX8_spend_19 : decode cX8_spend 19 = .ok (.ireturn, 1) := by decide +kernel
theorem dX8_spend_20 : decode cX8_spend 20 = .ok (.aload_n 0, 1) := by decide +kernel
theorem dX8_spend_21 : decode cX8_spend 21 = .ok (.getfield 34, 3) := by decide +kernel
theorem dX8_spend_24 : decode cX8_spend 24 = .ok (.invokevirtual 115, 3) := by decide +kernel
theorem dX8_spend_27 : decode cX8_spend 27 = .ok (.getfield 150, 3) := by decide +kernel
theorem dX8_spend_30 : decode cX8_spend 30 = .ok (.iload_n 1, 1) := by decide +kernel
theorem dX8_spend_31 : decode cX8_spend 31 = .ok (.iaload, 1) := by decide +kernel
theorem dX8_spend_32 : decode cX8_spend 32 = .ok (.istore_n 3, 1) := by decide +kernel
theorem dX8_spend_33 : decode cX8_spend 33 = .ok (.iload_n 3, 1) := by decide +kernel
theorem dX8_spend_34 : decode cX8_spend 34 = .ok (.iload_n 2, 1) := by decide +kernel
theorem dX8_spend_35 : decode cX8_spend 35 = .ok (.if_icmp .ne 5, 3) := by decide +kernel
theorem dX8_spend_38 : decode cX8_spend 38 = .ok (.iconst (-1), 1) := by decide +kernel
theorem dX8_spend_39 : decode cX8_spend 39 = .ok (.ireturn, 1) := by decide +kernel
theorem dX8_spend_40 : decode cX8_spend 40 = .ok (.aload_n 0, 1) := by decide +kernel
theorem dX8_spend_41 : decode cX8_spend 41 = .ok (.getfield 34, 3) := by decide +kernel
theorem dX8_spend_44 : decode cX8_spend 44 = .ok (.invokevirtual 179, 3) := by decide +kernel
theorem dX8_spend_47 : decode cX8_spend 47 = .ok (.getfield 150, 3) := by decide +kernel
theorem dX8_spend_50 : decode cX8_spend 50 = .ok (.iload_n 1, 1) := by decide +kernel
theorem dX8_spend_51 : decode cX8_spend 51 = .ok (.iload_n 2, 1) := by decide +kernel
theorem dX8_spend_52 : decode cX8_spend 52 = .ok (.iastore, 1) := by decide +kernel
theorem dX8_spend_53 : decode cX8_spend 53 = .ok (.iload_n 3, 1) := by decide +kernel
theorem dX8_spend_54 : decode cX8_spend 54 = .ok (.ireturn, 1) := by decide +kernel
set_option maxRecDepth 20000 in
theorem ggX8_calm_X8_isTenant : GoodIn wsX8_calm wsX8_isTenant := goodIn_r _ [7, 8, 9, 44, 45, 46, 47, 48, 49, 50, 51, 52, 53, 54, 55, 56, 57, 66, 67, 68, 69, 70, 71, 72, 73, 74, 75, 76] rfl (by decide +kernel)
set_option maxRecDepth 20000 in
theorem gX8_calm_X8_isTenant : GoodIn wsX8_calm (wsV RX8 144 RX8 yX8_isTenant wsX8_isTenant) := goodIn_app (goodIn_r _ [3, 4, 5, 6] rfl (by decide +kernel)) ggX8_calm_X8_isTenant
set_option maxRecDepth 20000 in
theorem ggX8_calm_X0_current : GoodIn wsX8_calm wsX0_current := goodIn_r _ [14, 15, 16, 77, 78, 79, 80] rfl (by decide +kernel)
set_option maxRecDepth 20000 in
theorem gX8_calm_X0_current : GoodIn wsX8_calm (wsV RX8 115 RX0 yX0_current wsX0_current) := goodIn_app (goodIn_r _ [10, 11, 12, 13] rfl (by decide +kernel)) ggX8_calm_X0_current
set_option maxRecDepth 20000 in
theorem ggX8_calm_X0_begin : GoodIn wsX8_calm wsX0_begin := goodIn_r _ [20, 15, 16, 21, 22, 23, 24, 25, 26, 27, 28, 29, 30, 31, 32, 33, 34, 35, 36, 37, 38, 39, 40, 41, 42, 43, 77, 78, 79, 80, 58, 59, 60, 61, 62, 63, 64, 65] rfl (by decide +kernel)
set_option maxRecDepth 20000 in
theorem gX8_calm_X0_begin : GoodIn wsX8_calm (wsV RX8 179 RX0 yX0_begin wsX0_begin) := goodIn_app (goodIn_r _ [17, 18, 19, 13] rfl (by decide +kernel)) ggX8_calm_X0_begin
theorem dX8_calm_0 : decode cX8_calm 0 = .ok (.aload_n 0, 1) := by decide +kernel
theorem dX8_calm_1 : decode cX8_calm 1 = .ok (.iload_n 1, 1) := by decide +kernel
theorem dX8_calm_2 : decode cX8_calm 2 = .ok (.invokevirtual 144, 3) := by decide +kernel
theorem dX8_calm_5 : decode cX8_calm 5 = .ok (.ifCond .eq 13, 3) := by decide +kernel
theorem dX8_calm_8 : decode cX8_calm 8 = .ok (.iload_n 2, 1) := by decide +kernel
theorem dX8_calm_9 : decode cX8_calm 9 = .ok (.ifCond .lt 9, 3) := by decide +kernel
theorem dX8_calm_12 : decode cX8_calm 12 = .ok (.iload_n 2, 1) := by decide +kernel
theorem dX8_calm_13 : decode cX8_calm 13 = .ok (.bipush 9, 2) := by decide +kernel
theorem dX8_calm_15 : decode cX8_calm 15 = .ok (.if_icmp .le 5, 3) := by decide +kernel
theorem dX8_calm_18 : decode cX8_calm 18 = .ok (.iconst (-1), 1) := by decide +kernel
theorem dX8_calm_19 : decode cX8_calm 19 = .ok (.ireturn, 1) := by decide +kernel
theorem dX8_calm_20 : decode cX8_calm 20 = .ok (.aload_n 0, 1) := by decide +kernel
theorem dX8_calm_21 : decode cX8_calm 21 = .ok (.getfield 34, 3) := by decide +kernel
theorem dX8_calm_24 : decode cX8_calm 24 = .ok (.invokevirtual 115, 3) := by decide +kernel
theorem dX8_calm_27 : decode cX8_calm 27 = .ok (.getfield 156, 3) := by decide +kernel
theorem dX8_calm_30 : decode cX8_calm 30 = .ok (.iload_n 1, 1) := by decide +kernel
theorem dX8_calm_31 : decode cX8_calm 31 = .ok (.iaload, 1) := by decide +kernel
theorem dX8_calm_32 : decode cX8_calm 32 = .ok (.istore_n 3, 1) := by decide +kernel
theorem dX8_calm_33 : decode cX8_calm 33 = .ok (.iload_n 3, 1) := by decide +kernel
theorem dX8_calm_34 : decode cX8_calm 34 = .ok (.iload_n 2, 1) := by decide +kernel
theorem dX8_calm_35 : decode cX8_calm 35 = .ok (.if_icmp .ne 5, 3) := by decide +kernel
theorem dX8_calm_38 : decode cX8_calm 38 = .ok (.iconst (-1), 1) := by decide +kernel
theorem dX8_calm_39 : decode cX8_calm 39 = .ok (.ireturn, 1) := by decide +kernel
theorem dX8_calm_40 : decode cX8_calm 40 = .ok (.aload_n 0, 1) := by decide +kernel
theorem dX8_calm_41 : decode cX8_calm 41 = .ok (.getfield 34, 3) := by decide +kernel
theorem dX8_calm_44 : decode cX8_calm 44 = .ok (.invokevirtual 179, 3) := by decide +kernel
theorem dX8_calm_47 : decode cX8_calm 47 = .ok (.getfield 156, 3) := by decide +kernel
theorem dX8_calm_50 : decode cX8_calm 50 = .ok (.iload_n 1, 1) := by decide +kernel
theorem dX8_calm_51 : decode cX8_calm 51 = .ok (.iload_n 2, 1) := by decide +kernel
theorem dX8_calm_52 : decode cX8_calm 52 = .ok (.iastore, 1) := by decide +kernel
theorem dX8_calm_53 : decode cX8_calm 53 = .ok (.iload_n 3, 1) := by decide +kernel
theorem dX8_calm_54 : decode cX8_calm 54 = .ok (.ireturn, 1) := by decide +kernel
set_option maxRecDepth 20000 in
theorem ggX8_undo_X0_stepBack : GoodIn wsX8_undo wsX0_stepBack := goodIn_r _ [6, 7, 8, 9, 24, 25, 26, 27] rfl (by decide +kernel)
set_option maxRecDepth 20000 in
theorem gX8_undo_X0_stepBack : GoodIn wsX8_undo (wsV RX8 200 RX0 yX0_stepBack wsX0_stepBack) := goodIn_app (goodIn_r _ [2, 3, 4, 5] rfl (by decide +kernel)) ggX8_undo_X0_stepBack
theorem dX8_undo_0 : decode cX8_undo 0 = .ok (.aload_n 0, 1) := by decide +kernel
theorem dX8_undo_1 : decode cX8_undo 1 = .ok (.getfield 34, 3) := by decide +kernel
theorem dX8_undo_4 : decode cX8_undo 4 = .ok (.invokevirtual 200, 3) := by decide +kernel
theorem dX8_undo_7 : decode cX8_undo 7 = .ok (.ireturn, 1) := by decide +kernel
set_option maxRecDepth 20000 in
theorem ggX8_redo_X0_stepForth : GoodIn wsX8_redo wsX0_stepForth := goodIn_r _ [6, 7, 8, 9, 24, 25, 26, 27] rfl (by decide +kernel)
set_option maxRecDepth 20000 in
theorem gX8_redo_X0_stepForth : GoodIn wsX8_redo (wsV RX8 204 RX0 yX0_stepForth wsX0_stepForth) := goodIn_app (goodIn_r _ [2, 3, 4, 5] rfl (by decide +kernel)) ggX8_redo_X0_stepForth
theorem dX8_redo_0 : decode cX8_redo 0 = .ok (.aload_n 0, 1) := by decide +kernel
theorem dX8_redo_1 : decode cX8_redo 1 = .ok (.getfield 34, 3) := by decide +kernel
theorem dX8_redo_4 : decode cX8_redo 4 = .ok (.invokevirtual 204, 3) := by decide +kernel
theorem dX8_redo_7 : decode cX8_redo 7 = .ok (.ireturn, 1) := by decide +kernel
set_option maxRecDepth 20000 in
theorem ggX8_isHoused_X8_isTenant : GoodIn wsX8_isHoused wsX8_isTenant := goodIn_r _ [7, 8, 9, 17, 18, 19, 20, 21, 22, 23, 24, 25, 26, 27, 28, 29, 30, 39, 40, 41, 42, 43, 44, 45, 46, 47, 48, 49] rfl (by decide +kernel)
set_option maxRecDepth 20000 in
theorem gX8_isHoused_X8_isTenant : GoodIn wsX8_isHoused (wsV RX8 144 RX8 yX8_isTenant wsX8_isTenant) := goodIn_app (goodIn_r _ [3, 4, 5, 6] rfl (by decide +kernel)) ggX8_isHoused_X8_isTenant
set_option maxRecDepth 20000 in
theorem ggX8_isHoused_X0_current : GoodIn wsX8_isHoused wsX0_current := goodIn_r _ [14, 15, 16, 50, 51, 52, 53] rfl (by decide +kernel)
set_option maxRecDepth 20000 in
theorem gX8_isHoused_X0_current : GoodIn wsX8_isHoused (wsV RX8 115 RX0 yX0_current wsX0_current) := goodIn_app (goodIn_r _ [10, 11, 12, 13] rfl (by decide +kernel)) ggX8_isHoused_X0_current
theorem dX8_isHoused_0 : decode cX8_isHoused 0 = .ok (.aload_n 0, 1) := by decide +kernel
theorem dX8_isHoused_1 : decode cX8_isHoused 1 = .ok (.iload_n 1, 1) := by decide +kernel
theorem dX8_isHoused_2 : decode cX8_isHoused 2 = .ok (.invokevirtual 144, 3) := by decide +kernel
theorem dX8_isHoused_5 : decode cX8_isHoused 5 = .ok (.ifCond .eq 23, 3) := by decide +kernel
theorem dX8_isHoused_8 : decode cX8_isHoused 8 = .ok (.aload_n 0, 1) := by decide +kernel
theorem dX8_isHoused_9 : decode cX8_isHoused 9 = .ok (.getfield 34, 3) := by decide +kernel
theorem dX8_isHoused_12 : decode cX8_isHoused 12 = .ok (.invokevirtual 115, 3) := by decide +kernel
theorem dX8_isHoused_15 : decode cX8_isHoused 15 = .ok (.getfield 147, 3) := by decide +kernel
theorem dX8_isHoused_18 : decode cX8_isHoused 18 = .ok (.iload_n 1, 1) := by decide +kernel
theorem dX8_isHoused_19 : decode cX8_isHoused 19 = .ok (.iaload, 1) := by decide +kernel
theorem dX8_isHoused_20 : decode cX8_isHoused 20 = .ok (.iconst (-1), 1) := by decide +kernel
theorem dX8_isHoused_21 : decode cX8_isHoused 21 = .ok (.if_icmp .eq 7, 3) := by decide +kernel
theorem dX8_isHoused_24 : decode cX8_isHoused 24 = .ok (.iconst 1, 1) := by decide +kernel
theorem dX8_isHoused_25 : decode cX8_isHoused 25 = .ok (.goto 4, 3) := by decide +kernel
theorem dX8_isHoused_28 : decode cX8_isHoused 28 = .ok (.iconst 0, 1) := by decide +kernel
theorem dX8_isHoused_29 : decode cX8_isHoused 29 = .ok (.ireturn, 1) := by decide +kernel
set_option maxRecDepth 20000 in
theorem ggX8_will_X8_isTenant : GoodIn wsX8_will wsX8_isTenant := goodIn_r _ [9, 2, 10, 123, 124, 125, 126, 127, 128, 129, 130, 131, 132, 133, 134, 135, 136, 145, 146, 147, 148, 149, 150, 151, 152, 153, 154, 155] rfl (by decide +kernel)
set_option maxRecDepth 20000 in
theorem gX8_will_X8_isTenant : GoodIn wsX8_will (wsV RX8 144 RX8 yX8_isTenant wsX8_isTenant) := goodIn_app (goodIn_r _ [5, 6, 7, 8] rfl (by decide +kernel)) ggX8_will_X8_isTenant
set_option maxRecDepth 20000 in
theorem ggX8_will_X0_current : GoodIn wsX8_will wsX0_current := goodIn_r _ [15, 16, 17, 156, 157, 158, 159] rfl (by decide +kernel)
set_option maxRecDepth 20000 in
theorem gX8_will_X0_current : GoodIn wsX8_will (wsV RX8 115 RX0 yX0_current wsX0_current) := goodIn_app (goodIn_r _ [11, 12, 13, 14] rfl (by decide +kernel)) ggX8_will_X0_current
set_option maxRecDepth 20000 in
theorem ggX8_will_X4_outBehind : GoodIn wsX8_will wsX4_outBehind := goodIn_r _ [22, 23, 24, 25, 26, 21, 27, 28, 29, 30, 31, 32, 33, 34, 35, 36, 37, 38, 39, 40, 41, 42, 43, 44, 45, 46, 47, 48, 49, 50, 51, 52, 53, 54, 55, 56, 57, 58, 59, 60, 61, 62, 63, 64, 65, 66, 67, 68, 69, 137, 138, 139, 140, 141, 142, 143, 144, 145, 146, 147, 148, 149, 150, 151, 152, 153, 154, 155, 160, 161, 162] rfl (by decide +kernel)
set_option maxRecDepth 20000 in
theorem gX8_will_X4_outBehind : GoodIn wsX8_will (wsV RX8 207 RX4 yX4_outBehind wsX4_outBehind) := goodIn_app (goodIn_r _ [18, 19, 20, 21] rfl (by decide +kernel)) ggX8_will_X4_outBehind
set_option maxRecDepth 20000 in
theorem ggX8_will_X7_copyOf : GoodIn wsX8_will wsX7_copyOf := goodIn_r _ [73, 42, 74, 75, 76, 77, 78, 79, 80, 81, 82, 83, 84, 137, 138, 139, 140, 141, 142, 143, 144] rfl (by decide +kernel)
set_option maxRecDepth 20000 in
theorem gX8_will_X7_copyOf : GoodIn wsX8_will (wsV RX8 210 RX7 yX7_copyOf wsX7_copyOf) := goodIn_app (goodIn_r _ [70, 71, 72, 40] rfl (by decide +kernel)) ggX8_will_X7_copyOf
set_option maxRecDepth 20000 in
theorem ggX8_will_X4_pass : GoodIn wsX8_will wsX4_pass := goodIn_r _ [88, 28, 23, 35, 36, 89, 90, 91, 21, 92, 37, 38, 39, 40, 41, 42, 93, 94, 95, 96, 55, 30, 24, 25, 26, 27, 29, 31, 32, 33, 34, 43, 44, 45, 46, 56, 57, 58, 59, 60, 61, 62, 63, 64, 65, 66, 67, 68, 69, 97, 98, 99, 100, 78, 79, 101, 102, 103, 104, 105, 106, 107, 108, 109, 110, 111, 82, 112, 113, 114, 115, 116, 117, 118, 119, 120, 121, 122, 145, 146, 147, 148, 149, 150, 151, 152, 153, 154, 155, 137, 138, 139, 140, 141, 142, 143, 144, 160, 161, 162] rfl (by decide +kernel)
set_option maxRecDepth 20000 in
theorem gX8_will_X4_pass : GoodIn wsX8_will (wsV RX8 182 RX4 yX4_pass wsX4_pass) := goodIn_app (goodIn_r _ [85, 86, 87, 21] rfl (by decide +kernel)) ggX8_will_X4_pass
theorem dX8_will_0 : decode cX8_will 0 = .ok (.aload_n 0, 1) := by decide +kernel
theorem dX8_will_1 : decode cX8_will 1 = .ok (.iload_n 1, 1) := by decide +kernel
theorem dX8_will_2 : decode cX8_will 2 = .ok (.invokevirtual 144, 3) := by decide +kernel
theorem dX8_will_5 : decode cX8_will 5 = .ok (.ifCond .eq 13, 3) := by decide +kernel
theorem dX8_will_8 : decode cX8_will 8 = .ok (.iload_n 2, 1) := by decide +kernel
theorem dX8_will_9 : decode cX8_will 9 = .ok (.ifCond .lt 9, 3) := by decide +kernel
theorem dX8_will_12 : decode cX8_will 12 = .ok (.iload_n 2, 1) := by decide +kernel
theorem dX8_will_13 : decode cX8_will 13 = .ok (.bipush 60, 2) := by decide +kernel
theorem dX8_will_15 : decode cX8_will 15 = .ok (.if_icmp .le 6, 3) := by decide +kernel
theorem dX8_will_18 : decode cX8_will 18 = .ok (.bipush (-2), 2) := by decide +kernel
theorem dX8_will_20 : decode cX8_will 20 = .ok (.ireturn, 1) := by decide +kernel
theorem dX8_will_21 : decode cX8_will 21 = .ok (.aload_n 0, 1) := by decide +kernel
theorem dX8_will_22 : decode cX8_will 22 = .ok (.getfield 34, 3) := by decide +kernel
theorem dX8_will_25 : decode cX8_will 25 = .ok (.invokevirtual 115, 3) := by decide +kernel
theorem dX8_will_28 : decode cX8_will 28 = .ok (.astore 4, 2) := by decide +kernel
theorem dX8_will_30 : decode cX8_will 30 = .ok (.iload_n 3, 1) := by decide +kernel
theorem dX8_will_31 : decode cX8_will 31 = .ok (.ifCond .ne 30, 3) := by decide +kernel
theorem dX8_will_34 : decode cX8_will 34 = .ok (.aload_n 0, 1) := by decide +kernel
theorem dX8_will_35 : decode cX8_will 35 = .ok (.getfield 27, 3) := by decide +kernel
theorem dX8_will_38 : decode cX8_will 38 = .ok (.aload 4, 2) := by decide +kernel
theorem dX8_will_40 : decode cX8_will 40 = .ok (.iload_n 1, 1) := by decide +kernel
theorem dX8_will_41 : decode cX8_will 41 = .ok (.iload_n 2, 1) := by decide +kernel
theorem dX8_will_42 : decode cX8_will 42 = .ok (.invokevirtual 207, 3) := by decide +kernel
theorem dX8_will_45 : decode cX8_will 45 = .ok (.iload_n 2, 1) := by decide +kernel
theorem dX8_will_46 : decode cX8_will 46 = .ok (.if_icmp .gt 7, 3) := by decide +kernel
theorem dX8_will_49 : decode cX8_will 49 = .ok (.iconst (-1), 1) := by decide +kernel
theorem dX8_will_50 : decode cX8_will 50 = .ok (.goto 10, 3) := by decide +kernel
theorem dX8_will_53 : decode cX8_will 53 = .ok (.aload 4, 2) := by decide +kernel
theorem dX8_will_55 : decode cX8_will 55 = .ok (.getfield 147, 3) := by decide +kernel
theorem dX8_will_58 : decode cX8_will 58 = .ok (.iload_n 1, 1) := by decide +kernel
theorem dX8_will_59 : decode cX8_will 59 = .ok (.iaload, 1) := by decide +kernel
theorem dX8_will_60 : decode cX8_will 60 = .ok (.ireturn, 1) := by decide +kernel
theorem dX8_will_61 : decode cX8_will 61 = .ok (.iload_n 3, 1) := by decide +kernel
theorem dX8_will_62 : decode cX8_will 62 = .ok (.iconst 1, 1) := by decide +kernel
theorem dX8_will_63 : decode cX8_will 63 = .ok (.if_icmp .eq 6, 3) := by decide +kernel
theorem dX8_will_66 : decode cX8_will 66 = .ok (.bipush (-2), 2) := by decide +kernel
theorem dX8_will_68 : decode cX8_will 68 = .ok (.ireturn, 1) := by decide +kernel
theorem dX8_will_69 : decode cX8_will 69 = .ok (.aload_n 0, 1) := by decide +kernel
theorem dX8_will_70 : decode cX8_will 70 = .ok (.getfield 41, 3) := by decide +kernel
theorem dX8_will_73 : decode cX8_will 73 = .ok (.aload 4, 2) := by decide +kernel
theorem dX8_will_75 : decode cX8_will 75 = .ok (.invokevirtual 210, 3) := by decide +kernel
theorem dX8_will_78 : decode cX8_will 78 = .ok (.iconst 0, 1) := by decide +kernel
theorem dX8_will_79 : decode cX8_will 79 = .ok (.istore 5, 2) := by decide +kernel
theorem dX8_will_81 : decode cX8_will 81 = .ok (.iload 5, 2) := by decide +kernel
theorem dX8_will_83 : decode cX8_will 83 = .ok (.iload_n 2, 1) := by decide +kernel
theorem dX8_will_84 : decode cX8_will 84 = .ok (.if_icmp .ge 21, 3) := by decide +kernel
theorem dX8_will_87 : decode cX8_will 87 = .ok (.aload_n 0, 1) := by decide +kernel
theorem dX8_will_88 : decode cX8_will 88 = .ok (.getfield 27, 3) := by decide +kernel
theorem dX8_will_91 : decode cX8_will 91 = .ok (.aload_n 0, 1) := by decide +kernel
theorem dX8_will_92 : decode cX8_will 92 = .ok (.getfield 41, 3) := by decide +kernel
theorem dX8_will_95 : decode cX8_will 95 = .ok (.invokevirtual 182, 3) := by decide +kernel
theorem dX8_will_98 : decode cX8_will 98 = .ok (.pop, 1) := by decide +kernel
theorem dX8_will_99 : decode cX8_will 99 = .ok (.iinc 5 1, 3) := by decide +kernel
theorem dX8_will_102 : decode cX8_will 102 = .ok (.goto (-21), 3) := by decide +kernel
theorem dX8_will_105 : decode cX8_will 105 = .ok (.aload_n 0, 1) := by decide +kernel
theorem dX8_will_106 : decode cX8_will 106 = .ok (.getfield 41, 3) := by decide +kernel
theorem dX8_will_109 : decode cX8_will 109 = .ok (.getfield 147, 3) := by decide +kernel
theorem dX8_will_112 : decode cX8_will 112 = .ok (.iload_n 1, 1) := by decide +kernel
theorem dX8_will_113 : decode cX8_will 113 = .ok (.iaload, 1) := by decide +kernel
theorem dX8_will_114 : decode cX8_will 114 = .ok (.ireturn, 1) := by decide +kernel
set_option maxRecDepth 20000 in
theorem ggX8_lasts_X8_isTenant : GoodIn wsX8_lasts wsX8_isTenant := goodIn_r _ [7, 1, 8, 68, 69, 70, 71, 72, 73, 74, 75, 76, 77, 78, 79, 80, 81, 82, 83, 84, 85, 86, 87, 88, 89, 90, 91, 92] rfl (by decide +kernel)
set_option maxRecDepth 20000 in
theorem gX8_lasts_X8_isTenant : GoodIn wsX8_lasts (wsV RX8 144 RX8 yX8_isTenant wsX8_isTenant) := goodIn_app (goodIn_r _ [3, 4, 5, 6] rfl (by decide +kernel)) ggX8_lasts_X8_isTenant
set_option maxRecDepth 20000 in
theorem ggX8_lasts_X0_current : GoodIn wsX8_lasts wsX0_current := goodIn_r _ [13, 14, 15, 93, 94, 95, 96] rfl (by decide +kernel)
set_option maxRecDepth 20000 in
theorem gX8_lasts_X0_current : GoodIn wsX8_lasts (wsV RX8 115 RX0 yX0_current wsX0_current) := goodIn_app (goodIn_r _ [9, 10, 11, 12] rfl (by decide +kernel)) ggX8_lasts_X0_current
set_option maxRecDepth 20000 in
theorem ggX8_lasts_X4_outBehind : GoodIn wsX8_lasts wsX4_outBehind := goodIn_r _ [20, 21, 22, 23, 24, 19, 25, 26, 27, 28, 29, 30, 31, 32, 33, 34, 35, 36, 37, 38, 39, 40, 41, 42, 43, 44, 45, 46, 47, 48, 49, 50, 51, 52, 53, 54, 55, 56, 57, 58, 59, 60, 61, 62, 63, 64, 65, 66, 67, 97, 98, 99, 100, 101, 102, 103, 104, 82, 83, 84, 85, 86, 87, 88, 89, 90, 91, 92, 105, 106, 107] rfl (by decide +kernel)
set_option maxRecDepth 20000 in
theorem gX8_lasts_X4_outBehind : GoodIn wsX8_lasts (wsV RX8 207 RX4 yX4_outBehind wsX4_outBehind) := goodIn_app (goodIn_r _ [16, 17, 18, 19] rfl (by decide +kernel)) ggX8_lasts_X4_outBehind
theorem dX8_lasts_0 : decode cX8_lasts 0 = .ok (.aload_n 0, 1) := by decide +kernel
theorem dX8_lasts_1 : decode cX8_lasts 1 = .ok (.iload_n 1, 1) := by decide +kernel
theorem dX8_lasts_2 : decode cX8_lasts 2 = .ok (.invokevirtual 144, 3) := by decide +kernel
theorem dX8_lasts_5 : decode cX8_lasts 5 = .ok (.ifCond .ne 5, 3) := by decide +kernel
theorem dX8_lasts_8 : decode cX8_lasts 8 = .ok (.iconst (-1), 1) := by decide +kernel
theorem dX8_lasts_9 : decode cX8_lasts 9 = .ok (.ireturn, 1) := by decide +kernel
theorem dX8_lasts_10 : decode cX8_lasts 10 = .ok (.aload_n 0, 1) := by decide +kernel
theorem dX8_lasts_11 : decode cX8_lasts 11 = .ok (.getfield 27, 3) := by decide +kernel
theorem dX8_lasts_14 : decode cX8_lasts 14 = .ok (.aload_n 0, 1) := by decide +kernel
theorem dX8_lasts_15 : decode cX8_lasts 15 = .ok (.getfield 34, 3) := by decide +kernel
theorem dX8_lasts_18 : decode cX8_lasts 18 = .ok (.invokevirtual 115, 3) := by decide +kernel
theorem dX8_lasts_21 : decode cX8_lasts 21 = .ok (.iload_n 1, 1) := by decide +kernel
theorem dX8_lasts_22 : decode cX8_lasts 22 = .ok (.bipush 99, 2) := by decide +kernel
theorem dX8_lasts_24 : decode cX8_lasts 24 = .ok (.invokevirtual 207, 3) := by decide +kernel
theorem dX8_lasts_27 : decode cX8_lasts 27 = .ok (.istore_n 2, 1) := by decide +kernel
theorem dX8_lasts_28 : decode cX8_lasts 28 = .ok (.iload_n 2, 1) := by decide +kernel
theorem dX8_lasts_29 : decode cX8_lasts 29 = .ok (.bipush 99, 2) := by decide +kernel
theorem dX8_lasts_31 : decode cX8_lasts 31 = .ok (.if_icmp .le 7, 3) := by decide +kernel
theorem dX8_lasts_34 : decode cX8_lasts 34 = .ok (.iconst (-1), 1) := by decide +kernel
theorem dX8_lasts_35 : decode cX8_lasts 35 = .ok (.goto 4, 3) := by decide +kernel
theorem dX8_lasts_38 : decode cX8_lasts 38 = .ok (.iload_n 2, 1) := by decide +kernel
theorem dX8_lasts_39 : decode cX8_lasts 39 = .ok (.ireturn, 1) := by decide +kernel
set_option maxRecDepth 20000 in
theorem ggX8_shaky_X0_current : GoodIn wsX8_shaky wsX0_current := goodIn_r _ [7, 8, 9, 72, 73, 74, 75] rfl (by decide +kernel)
set_option maxRecDepth 20000 in
theorem gX8_shaky_X0_current : GoodIn wsX8_shaky (wsV RX8 115 RX0 yX0_current wsX0_current) := goodIn_app (goodIn_r _ [3, 4, 5, 6] rfl (by decide +kernel)) ggX8_shaky_X0_current
set_option maxRecDepth 20000 in
theorem ggX8_shaky_X4_thrownOut : GoodIn wsX8_shaky wsX4_thrownOut := goodIn_r _ [14, 15, 16, 17, 18, 19, 20, 21, 22, 23, 24, 25, 13, 26, 27, 28, 29, 30, 31, 32, 33, 34, 35, 36, 37, 38, 39, 40, 41, 42, 43, 44, 45, 46, 47, 48, 49, 50, 51, 52, 53, 54, 55, 56, 57, 76, 77, 78, 79, 80, 81, 82, 83, 84, 85, 86, 87, 88, 89, 90, 91, 92, 93, 94, 95, 96, 97] rfl (by decide +kernel)
set_option maxRecDepth 20000 in
theorem gX8_shaky_X4_thrownOut : GoodIn wsX8_shaky (wsV RX8 213 RX4 yX4_thrownOut wsX4_thrownOut) := goodIn_app (goodIn_r _ [10, 11, 12, 13] rfl (by decide +kernel)) ggX8_shaky_X4_thrownOut
theorem dX8_shaky_0 : decode cX8_shaky 0 = .ok (.aload_n 0, 1) := by decide +kernel
theorem dX8_shaky_1 : decode cX8_shaky 1 = .ok (.getfield 27, 3) := by decide +kernel
theorem dX8_shaky_4 : decode cX8_shaky 4 = .ok (.aload_n 0, 1) := by decide +kernel
theorem dX8_shaky_5 : decode cX8_shaky 5 = .ok (.getfield 34, 3) := by decide +kernel
theorem dX8_shaky_8 : decode cX8_shaky 8 = .ok (.invokevirtual 115, 3) := by decide +kernel
theorem dX8_shaky_11 : decode cX8_shaky 11 = .ok (.invokevirtual 213, 3) := by decide +kernel
theorem dX8_shaky_14 : decode cX8_shaky 14 = .ok (.ireturn, 1) := by decide +kernel
set_option maxRecDepth 20000 in
theorem ggX8_housed_X0_current : GoodIn wsX8_housed wsX0_current := goodIn_r _ [8, 9, 10, 93, 94, 95, 96] rfl (by decide +kernel)
set_option maxRecDepth 20000 in
theorem gX8_housed_X0_current : GoodIn wsX8_housed (wsV RX8 115 RX0 yX0_current wsX0_current) := goodIn_app (goodIn_r _ [4, 5, 6, 7] rfl (by decide +kernel)) ggX8_housed_X0_current
set_option maxRecDepth 20000 in
theorem ggX8_housed_X8_outCount : GoodIn wsX8_housed wsX8_outCount := goodIn_r _ [15, 1, 2, 16, 17, 18, 19, 20, 21, 22, 23, 24, 25, 26, 27, 28, 29, 30, 31, 32, 33, 34, 35, 36, 37, 38, 39, 40, 41, 42, 43, 44, 45, 46, 47, 48, 49, 50, 51, 52, 53, 54, 55, 56, 57, 58, 59, 60, 61, 62, 63, 64, 65, 66, 67, 68, 69, 70, 71, 72, 73, 74, 75, 76, 77, 78, 79, 80, 81, 82, 83, 84, 85, 86, 87, 88, 89, 90, 91, 92, 97, 98, 99, 100, 101, 102, 103, 104, 105, 106, 107] rfl (by decide +kernel)
set_option maxRecDepth 20000 in
theorem gX8_housed_X8_outCount : GoodIn wsX8_housed (wsV RX8 216 RX8 yX8_outCount wsX8_outCount) := goodIn_app (goodIn_r _ [11, 12, 13, 14] rfl (by decide +kernel)) ggX8_housed_X8_outCount
theorem dX8_housed_0 : decode cX8_housed 0 = .ok (.iload_n 1, 1) := by decide +kernel
theorem dX8_housed_1 : decode cX8_housed 1 = .ok (.ifCond .lt 9, 3) := by decide +kernel
theorem dX8_housed_4 : decode cX8_housed 4 = .ok (.iload_n 1, 1) := by decide +kernel
theorem dX8_housed_5 : decode cX8_housed 5 = .ok (.bipush 60, 2) := by decide +kernel
theorem dX8_housed_7 : decode cX8_housed 7 = .ok (.if_icmp .le 5, 3) := by decide +kernel
theorem dX8_housed_10 : decode cX8_housed 10 = .ok (.iconst (-1), 1) := by decide +kernel
theorem dX8_housed_11 : decode cX8_housed 11 = .ok (.ireturn, 1) := by decide +kernel
theorem dX8_housed_12 : decode cX8_housed 12 = .ok (.aload_n 0, 1) := by decide +kernel
theorem dX8_housed_13 : decode cX8_housed 13 = .ok (.getfield 27, 3) := by decide +kernel
theorem dX8_housed_16 : decode cX8_housed 16 = .ok (.getfield 102, 3) := by decide +kernel
theorem dX8_housed_19 : decode cX8_housed 19 = .ok (.aload_n 0, 1) := by decide +kernel
theorem dX8_housed_20 : decode cX8_housed 20 = .ok (.aload_n 0, 1) := by decide +kernel
theorem dX8_housed_21 : decode cX8_housed 21 = .ok (.getfield 34, 3) := by decide +kernel
theorem dX8_housed_24 : decode cX8_housed 24 = .ok (.invokevirtual 115, 3) := by decide +kernel
theorem dX8_housed_27 : decode cX8_housed 27 = .ok (.iload_n 1, 1) := by decide +kernel
theorem dX8_housed_28 : decode cX8_housed 28 = .ok (.invokevirtual 216, 3) := by decide +kernel
theorem dX8_housed_31 : decode cX8_housed 31 = .ok (.isub, 1) := by decide +kernel
theorem dX8_housed_32 : decode cX8_housed 32 = .ok (.ireturn, 1) := by decide +kernel
set_option maxRecDepth 20000 in
theorem ggX8_law_X0_current : GoodIn wsX8_law wsX0_current := goodIn_r _ [7, 8, 9, 79, 80, 81, 82] rfl (by decide +kernel)
set_option maxRecDepth 20000 in
theorem gX8_law_X0_current : GoodIn wsX8_law (wsV RX8 115 RX0 yX0_current wsX0_current) := goodIn_app (goodIn_r _ [3, 4, 5, 6] rfl (by decide +kernel)) ggX8_law_X0_current
set_option maxRecDepth 20000 in
theorem ggX8_law_X4_thrownOutAt : GoodIn wsX8_law wsX4_thrownOutAt := goodIn_r _ [14, 15, 16, 17, 18, 19, 13, 20, 21, 22, 23, 24, 25, 26, 27, 28, 29, 30, 31, 32, 33, 34, 35, 36, 37, 38, 39, 40, 41, 42, 43, 44, 45, 46, 47, 48, 49, 50, 51, 52, 53, 54, 55, 56, 57, 83, 84, 85, 86, 87, 88, 89, 90, 91, 92, 93, 94, 95, 96, 97, 98, 99, 100, 101, 102, 103, 104] rfl (by decide +kernel)
set_option maxRecDepth 20000 in
theorem gX8_law_X4_thrownOutAt : GoodIn wsX8_law (wsV RX8 219 RX4 yX4_thrownOutAt wsX4_thrownOutAt) := goodIn_app (goodIn_r _ [10, 11, 12, 13] rfl (by decide +kernel)) ggX8_law_X4_thrownOutAt
set_option maxRecDepth 20000 in
theorem ggX8_law_J6_bitCount_0f7a4 : GoodIn wsX8_law wsJ6_bitCount_0f7a4 := goodIn_r _ [61, 62, 63, 64] rfl (by decide +kernel)
set_option maxRecDepth 20000 in
theorem gX8_law_J6_bitCount_0f7a4 : GoodIn wsX8_law (va_wsS RX8 222 yJ6_bitCount_0f7a4 wsJ6_bitCount_0f7a4) := goodIn_app (goodIn_r _ [58, 59, 60] rfl (by decide +kernel)) ggX8_law_J6_bitCount_0f7a4
theorem dX8_law_0 : decode cX8_law 0 = .ok (.iload_n 1, 1) := by decide +kernel
theorem dX8_law_1 : decode cX8_law 1 = .ok (.ifCond .lt 9, 3) := by decide +kernel
theorem dX8_law_4 : decode cX8_law 4 = .ok (.iload_n 1, 1) := by decide +kernel
theorem dX8_law_5 : decode cX8_law 5 = .ok (.bipush 99, 2) := by decide +kernel
theorem dX8_law_7 : decode cX8_law 7 = .ok (.if_icmp .le 5, 3) := by decide +kernel
theorem dX8_law_10 : decode cX8_law 10 = .ok (.iconst (-1), 1) := by decide +kernel
theorem dX8_law_11 : decode cX8_law 11 = .ok (.ireturn, 1) := by decide +kernel
theorem dX8_law_12 : decode cX8_law 12 = .ok (.aload_n 0, 1) := by decide +kernel
theorem dX8_law_13 : decode cX8_law 13 = .ok (.getfield 27, 3) := by decide +kernel
theorem dX8_law_16 : decode cX8_law 16 = .ok (.aload_n 0, 1) := by decide +kernel
theorem dX8_law_17 : decode cX8_law 17 = .ok (.getfield 34, 3) := by decide +kernel
theorem dX8_law_20 : decode cX8_law 20 = .ok (.invokevirtual 115, 3) := by decide +kernel
theorem dX8_law_23 : decode cX8_law 23 = .ok (.iload_n 1, 1) := by decide +kernel
theorem dX8_law_24 : decode cX8_law 24 = .ok (.invokevirtual 219, 3) := by decide +kernel
theorem dX8_law_27 : decode cX8_law 27 = .ok (.invokestatic 222, 3) := by decide +kernel
theorem dX8_law_30 : decode cX8_law 30 = .ok (.ireturn, 1) := by decide +kernel
set_option maxRecDepth 20000 in
theorem ggX8_grief_X8_isLivingCat : GoodIn wsX8_grief wsX8_isLivingCat := goodIn_r _ [8, 1, 9, 10, 11, 7, 12, 3, 13, 14, 15, 16, 17, 18, 19, 20, 21, 22, 23, 24, 25, 26, 109, 110, 111, 112, 113, 114, 115, 116, 117, 118, 119, 120, 121, 122, 123, 124, 125, 126, 127, 128, 129, 130, 131, 132, 133, 134, 135, 136, 137, 138, 139, 140, 141, 142, 143, 144, 145] rfl (by decide +kernel)
set_option maxRecDepth 20000 in
theorem gX8_grief_X8_isLivingCat : GoodIn wsX8_grief (wsV RX8 193 RX8 yX8_isLivingCat wsX8_isLivingCat) := goodIn_app (goodIn_r _ [4, 5, 6, 7] rfl (by decide +kernel)) ggX8_grief_X8_isLivingCat
set_option maxRecDepth 20000 in
theorem ggX8_grief_X0_current : GoodIn wsX8_grief wsX0_current := goodIn_r _ [18, 19, 20, 134, 135, 136, 137] rfl (by decide +kernel)
set_option maxRecDepth 20000 in
theorem gX8_grief_X0_current : GoodIn wsX8_grief (wsV RX8 115 RX0 yX0_current wsX0_current) := goodIn_app (goodIn_r _ [14, 15, 16, 17] rfl (by decide +kernel)) ggX8_grief_X0_current
set_option maxRecDepth 20000 in
theorem ggX8_grief_X7_copyOf : GoodIn wsX8_grief wsX7_copyOf := goodIn_r _ [30, 31, 32, 33, 34, 35, 36, 37, 38, 39, 26, 40, 41, 138, 139, 140, 141, 142, 143, 144, 145] rfl (by decide +kernel)
set_option maxRecDepth 20000 in
theorem gX8_grief_X7_copyOf : GoodIn wsX8_grief (wsV RX8 210 RX7 yX7_copyOf wsX7_copyOf) := goodIn_app (goodIn_r _ [27, 28, 29, 24] rfl (by decide +kernel)) ggX8_grief_X7_copyOf
set_option maxRecDepth 20000 in
theorem ggX8_grief_X4_die : GoodIn wsX8_grief wsX4_die := goodIn_r _ [46, 47, 48, 49, 50, 51, 52, 45, 53, 54, 55, 138, 139, 140, 141, 142, 143, 144, 145, 123, 124, 125, 126, 127, 128, 129, 130, 131, 132, 133] rfl (by decide +kernel)
set_option maxRecDepth 20000 in
theorem gX8_grief_X4_die : GoodIn wsX8_grief (wsV RX8 227 RX4 yX4_die wsX4_die) := goodIn_app (goodIn_r _ [42, 43, 44, 45] rfl (by decide +kernel)) ggX8_grief_X4_die
set_option maxRecDepth 20000 in
theorem ggX8_grief_X8_outCount : GoodIn wsX8_grief wsX8_outCount := goodIn_r _ [59, 3, 60, 61, 62, 63, 45, 64, 65, 66, 67, 68, 69, 70, 49, 71, 72, 73, 74, 75, 76, 77, 78, 79, 80, 24, 81, 31, 82, 83, 84, 85, 86, 87, 88, 89, 90, 91, 92, 93, 94, 95, 96, 97, 98, 99, 100, 101, 102, 103, 104, 105, 106, 107, 108, 109, 110, 111, 112, 113, 114, 115, 116, 117, 118, 119, 120, 121, 122, 123, 124, 125, 126, 127, 128, 129, 130, 131, 132, 133, 138, 139, 140, 141, 142, 143, 144, 145, 146, 147, 148] rfl (by decide +kernel)
set_option maxRecDepth 20000 in
theorem gX8_grief_X8_outCount : GoodIn wsX8_grief (wsV RX8 216 RX8 yX8_outCount wsX8_outCount) := goodIn_app (goodIn_r _ [56, 57, 58, 7] rfl (by decide +kernel)) ggX8_grief_X8_outCount
theorem dX8_grief_0 : decode cX8_grief 0 = .ok (.aload_n 0, 1) := by decide +kernel
theorem dX8_grief_1 : decode cX8_grief 1 = .ok (.iload_n 1, 1) := by decide +kernel
theorem dX8_grief_2 : decode cX8_grief 2 = .ok (.invokevirtual 193, 3) := by decide +kernel
theorem dX8_grief_5 : decode cX8_grief 5 = .ok (.ifCond .eq 13, 3) := by decide +kernel
theorem dX8_grief_8 : decode cX8_grief 8 = .ok (.iload_n 2, 1) := by decide +kernel
theorem dX8_grief_9 : decode cX8_grief 9 = .ok (.ifCond .lt 9, 3) := by decide +kernel
theorem dX8_grief_12 : decode cX8_grief 12 = .ok (.iload_n 2, 1) := by decide +kernel
theorem dX8_grief_13 : decode cX8_grief 13 = .ok (.bipush 20, 2) := by decide +kernel
theorem dX8_grief_15 : decode cX8_grief 15 = .ok (.if_icmp .le 7, 3) := by decide +kernel
theorem dX8_grief_18 : decode cX8_grief 18 = .ok (.sipush (-1000), 3) := by decide +kernel
theorem dX8_grief_21 : decode cX8_grief 21 = .ok (.ireturn, 1) := by decide +kernel
theorem dX8_grief_22 : decode cX8_grief 22 = .ok (.aload_n 0, 1) := by decide +kernel
theorem dX8_grief_23 : decode cX8_grief 23 = .ok (.getfield 34, 3) := by decide +kernel
theorem dX8_grief_26 : decode cX8_grief 26 = .ok (.invokevirtual 115, 3) := by decide +kernel
theorem dX8_grief_29 : decode cX8_grief 29 = .ok (.astore_n 3, 1) := by decide +kernel
theorem dX8_grief_30 : decode cX8_grief 30 = .ok (.aload_n 0, 1) := by decide +kernel
theorem dX8_grief_31 : decode cX8_grief 31 = .ok (.getfield 41, 3) := by decide +kernel
theorem dX8_grief_34 : decode cX8_grief 34 = .ok (.aload_n 3, 1) := by decide +kernel
theorem dX8_grief_35 : decode cX8_grief 35 = .ok (.invokevirtual 210, 3) := by decide +kernel
theorem dX8_grief_38 : decode cX8_grief 38 = .ok (.aload_n 0, 1) := by decide +kernel
theorem dX8_grief_39 : decode cX8_grief 39 = .ok (.getfield 27, 3) := by decide +kernel
theorem dX8_grief_42 : decode cX8_grief 42 = .ok (.aload_n 0, 1) := by decide +kernel
theorem dX8_grief_43 : decode cX8_grief 43 = .ok (.getfield 41, 3) := by decide +kernel
theorem dX8_grief_46 : decode cX8_grief 46 = .ok (.iconst 1, 1) := by decide +kernel
theorem dX8_grief_47 : decode cX8_grief 47 = .ok (.iload_n 1, 1) := by decide +kernel
theorem dX8_grief_48 : decode cX8_grief 48 = .ok (.ishl, 1) := by decide +kernel
theorem dX8_grief_49 : decode cX8_grief 49 = .ok (.invokevirtual 227, 3) := by decide +kernel
theorem dX8_grief_52 : decode cX8_grief 52 = .ok (.aload_n 0, 1) := by decide +kernel
theorem dX8_grief_53 : decode cX8_grief 53 = .ok (.aload_n 0, 1) := by decide +kernel
theorem dX8_grief_54 : decode cX8_grief 54 = .ok (.getfield 41, 3) := by decide +kernel
theorem dX8_grief_57 : decode cX8_grief 57 = .ok (.iload_n 2, 1) := by decide +kernel
theorem dX8_grief_58 : decode cX8_grief 58 = .ok (.invokevirtual 216, 3) := by decide +kernel
theorem dX8_grief_61 : decode cX8_grief 61 = .ok (.aload_n 0, 1) := by decide +kernel
theorem dX8_grief_62 : decode cX8_grief 62 = .ok (.aload_n 3, 1) := by decide +kernel
theorem dX8_grief_63 : decode cX8_grief 63 = .ok (.iload_n 2, 1) := by decide +kernel
theorem dX8_grief_64 : decode cX8_grief 64 = .ok (.invokevirtual 216, 3) := by decide +kernel
theorem dX8_grief_67 : decode cX8_grief 67 = .ok (.isub, 1) := by decide +kernel
theorem dX8_grief_68 : decode cX8_grief 68 = .ok (.ireturn, 1) := by decide +kernel
set_option maxRecDepth 20000 in
theorem ggX8_haven_X8_isTenant : GoodIn wsX8_haven wsX8_isTenant := goodIn_r _ [7, 1, 8, 98, 99, 100, 101, 102, 103, 104, 105, 106, 107, 108, 109, 110, 111, 112, 113, 114, 115, 116, 117, 118, 119, 120, 121, 122] rfl (by decide +kernel)
set_option maxRecDepth 20000 in
theorem gX8_haven_X8_isTenant : GoodIn wsX8_haven (wsV RX8 144 RX8 yX8_isTenant wsX8_isTenant) := goodIn_app (goodIn_r _ [3, 4, 5, 6] rfl (by decide +kernel)) ggX8_haven_X8_isTenant
set_option maxRecDepth 20000 in
theorem ggX8_haven_X8_timeIn : GoodIn wsX8_haven wsX8_timeIn := goodIn_r _ [12, 13, 1, 14, 15, 16, 17, 18, 19, 20, 21, 22, 23, 24, 25, 26, 27, 28, 29, 30, 31, 32, 33, 34, 35, 36, 37, 38, 39, 40, 41, 42, 43, 44, 45, 46, 47, 48, 49, 50, 51, 52, 53, 54, 55, 56, 57, 58, 59, 60, 61, 62, 63, 64, 65, 66, 67, 68, 69, 70, 71, 72, 73, 74, 75, 76, 77, 78, 79, 80, 81, 82, 83, 84, 85, 86, 87, 88, 89, 90, 91, 92, 93, 94, 95, 96, 97, 98, 99, 100, 101, 102, 103, 104, 105, 106, 107, 108, 109, 110, 111, 123, 124, 125, 126, 112, 113, 114, 115, 116, 117, 118, 119, 120, 121, 122, 127, 128, 129, 130, 131, 132, 133, 134, 135, 136, 137] rfl (by decide +kernel)
set_option maxRecDepth 20000 in
theorem gX8_haven_X8_timeIn : GoodIn wsX8_haven (wsV RX8 231 RX8 yX8_timeIn wsX8_timeIn) := goodIn_app (goodIn_r _ [9, 10, 11, 6] rfl (by decide +kernel)) ggX8_haven_X8_timeIn
theorem dX8_haven_0 : decode cX8_haven 0 = .ok (.aload_n 0, 1) := by decide +kernel
theorem dX8_haven_1 : decode cX8_haven 1 = .ok (.iload_n 1, 1) := by decide +kernel
theorem dX8_haven_2 : decode cX8_haven 2 = .ok (.invokevirtual 144, 3) := by decide +kernel
theorem dX8_haven_5 : decode cX8_haven 5 = .ok (.ifCond .eq 12, 3) := by decide +kernel
theorem dX8_haven_8 : decode cX8_haven 8 = .ok (.iload_n 2, 1) := by decide +kernel
theorem dX8_haven_9 : decode cX8_haven 9 = .ok (.ifCond .lt 8, 3) := by decide +kernel
theorem dX8_haven_12 : decode cX8_haven 12 = .ok (.iload_n 2, 1) := by decide +kernel
theorem dX8_haven_13 : decode cX8_haven 13 = .ok (.iconst 1, 1) := by decide +kernel
theorem dX8_haven_14 : decode cX8_haven 14 = .ok (.if_icmp .le 5, 3) := by decide +kernel
theorem dX8_haven_17 : decode cX8_haven 17 = .ok (.iconst (-1), 1) := by decide +kernel
theorem dX8_haven_18 : decode cX8_haven 18 = .ok (.ireturn, 1) := by decide +kernel
theorem dX8_haven_19 : decode cX8_haven 19 = .ok (.iconst (-1), 1) := by decide +kernel
theorem dX8_haven_20 : decode cX8_haven 20 = .ok (.istore_n 3, 1) := by decide +kernel
theorem dX8_haven_21 : decode cX8_haven 21 = .ok (.iconst (-1), 1) := by decide +kernel
theorem dX8_haven_22 : decode cX8_haven 22 = .ok (.istore 4, 2) := by decide +kernel
theorem dX8_haven_24 : decode cX8_haven 24 = .ok (.iconst 0, 1) := by decide +kernel
theorem dX8_haven_25 : decode cX8_haven 25 = .ok (.istore 5, 2) := by decide +kernel
theorem dX8_haven_27 : decode cX8_haven 27 = .ok (.iload 5, 2) := by decide +kernel
theorem dX8_haven_29 : decode cX8_haven 29 = .ok (.aload_n 0, 1) := by decide +kernel
theorem dX8_haven_30 : decode cX8_haven 30 = .ok (.getfield 27, 3) := by decide +kernel
theorem dX8_haven_33 : decode cX8_haven 33 = .ok (.getfield 173, 3) := by decide +kernel
theorem dX8_haven_36 : decode cX8_haven 36 = .ok (.if_icmp .ge 32, 3) := by decide +kernel
theorem dX8_haven_39 : decode cX8_haven 39 = .ok (.aload_n 0, 1) := by decide +kernel
theorem dX8_haven_40 : decode cX8_haven 40 = .ok (.iload_n 1, 1) := by decide +kernel
theorem dX8_haven_41 : decode cX8_haven 41 = .ok (.iload 5, 2) := by decide +kernel
theorem dX8_haven_43 : decode cX8_haven 43 = .ok (.invokevirtual 231, 3) := by decide +kernel
theorem dX8_haven_46 : decode cX8_haven 46 = .ok (.istore 6, 2) := by decide +kernel
theorem dX8_haven_48 : decode cX8_haven 48 = .ok (.iload 6, 2) := by decide +kernel
theorem dX8_haven_50 : decode cX8_haven 50 = .ok (.iload 4, 2) := by decide +kernel
theorem dX8_haven_52 : decode cX8_haven 52 = .ok (.if_icmp .le 10, 3) := by decide +kernel
theorem dX8_haven_55 : decode cX8_haven 55 = .ok (.iload 5, 2) := by decide +kernel
theorem dX8_haven_57 : decode cX8_haven 57 = .ok (.istore_n 3, 1) := by decide +kernel
theorem dX8_haven_58 : decode cX8_haven 58 = .ok (.iload 6, 2) := by decide +kernel
theorem dX8_haven_60 : decode cX8_haven 60 = .ok (.istore 4, 2) := by decide +kernel
theorem dX8_haven_62 : decode cX8_haven 62 = .ok (.iinc 5 1, 3) := by decide +kernel
theorem dX8_haven_65 : decode cX8_haven 65 = .ok (.goto (-38), 3) := by decide +kernel
theorem dX8_haven_68 : decode cX8_haven 68 = .ok (.iload_n 2, 1) := by decide +kernel
theorem dX8_haven_69 : decode cX8_haven 69 = .ok (.ifCond .ne 7, 3) := by decide +kernel
theorem dX8_haven_72 : decode cX8_haven 72 = .ok (.iload_n 3, 1) := by decide +kernel
theorem dX8_haven_73 : decode cX8_haven 73 = .ok (.goto 5, 3) := by decide +kernel
theorem dX8_haven_76 : decode cX8_haven 76 = .ok (.iload 4, 2) := by decide +kernel
theorem dX8_haven_78 : decode cX8_haven 78 = .ok (.ireturn, 1) := by decide +kernel
set_option maxRecDepth 20000 in
theorem ggX8_odds_X8_isLivingCat : GoodIn wsX8_odds wsX8_isLivingCat := goodIn_r _ [11, 12, 13, 14, 15, 10, 16, 1, 17, 18, 19, 20, 21, 22, 23, 24, 25, 26, 27, 28, 29, 30, 34, 35, 36, 37, 38, 39, 40, 41, 42, 43, 44, 45, 46, 47, 48, 49, 50, 51, 52, 53, 54, 55, 56, 57, 58, 59, 60, 61, 62, 63, 64, 65, 66, 67, 68, 69, 70] rfl (by decide +kernel)
set_option maxRecDepth 20000 in
theorem gX8_odds_X8_isLivingCat : GoodIn wsX8_odds (wsV RX8 193 RX8 yX8_isLivingCat wsX8_isLivingCat) := goodIn_app (goodIn_r _ [7, 8, 9, 10] rfl (by decide +kernel)) ggX8_odds_X8_isLivingCat
set_option maxRecDepth 20000 in
theorem ggX8_odds_X8_commonDivisor : GoodIn wsX8_odds wsX8_commonDivisor := goodIn_r _ [33] rfl (by decide +kernel)
set_option maxRecDepth 20000 in
theorem gX8_odds_X8_commonDivisor : GoodIn wsX8_odds (va_wsS RX8 238 yX8_commonDivisor wsX8_commonDivisor) := goodIn_app (goodIn_r _ [31, 32, 10] rfl (by decide +kernel)) ggX8_odds_X8_commonDivisor
theorem dX8_odds_0 : decode cX8_odds 0 = .ok (.aload_n 0, 1) := by decide +kernel
theorem dX8_odds_1 : decode cX8_odds 1 = .ok (.iload_n 1, 1) := by decide +kernel
theorem dX8_odds_2 : decode cX8_odds 2 = .ok (.invokevirtual 193, 3) := by decide +kernel
theorem dX8_odds_5 : decode cX8_odds 5 = .ok (.ifCond .eq 21, 3) := by decide +kernel
theorem dX8_odds_8 : decode cX8_odds 8 = .ok (.iload_n 2, 1) := by decide +kernel
theorem dX8_odds_9 : decode cX8_odds 9 = .ok (.ifCond .lt 17, 3) := by decide +kernel
theorem dX8_odds_12 : decode cX8_odds 12 = .ok (.iload_n 2, 1) := by decide +kernel
theorem dX8_odds_13 : decode cX8_odds 13 = .ok (.iconst 4, 1) := by decide +kernel
theorem dX8_odds_14 : decode cX8_odds 14 = .ok (.if_icmp .gt 12, 3) := by decide +kernel
theorem dX8_odds_17 : decode cX8_odds 17 = .ok (.iload_n 3, 1) := by decide +kernel
theorem dX8_odds_18 : decode cX8_odds 18 = .ok (.ifCond .lt 8, 3) := by decide +kernel
theorem dX8_odds_21 : decode cX8_odds 21 = .ok (.iload_n 3, 1) := by decide +kernel
theorem dX8_odds_22 : decode cX8_odds 22 = .ok (.iconst 1, 1) := by decide +kernel
theorem dX8_odds_23 : decode cX8_odds 23 = .ok (.if_icmp .le 5, 3) := by decide +kernel
theorem dX8_odds_26 : decode cX8_odds 26 = .ok (.iconst (-1), 1) := by decide +kernel
theorem dX8_odds_27 : decode cX8_odds 27 = .ok (.ireturn, 1) := by decide +kernel
theorem dX8_odds_28 : decode cX8_odds 28 = .ok (.iconst 1, 1) := by decide +kernel
theorem dX8_odds_29 : decode cX8_odds 29 = .ok (.istore 4, 2) := by decide +kernel
theorem dX8_odds_31 : decode cX8_odds 31 = .ok (.iconst 1, 1) := by decide +kernel
theorem dX8_odds_32 : decode cX8_odds 32 = .ok (.istore 5, 2) := by decide +kernel
theorem dX8_odds_34 : decode cX8_odds 34 = .ok (.iconst 0, 1) := by decide +kernel
theorem dX8_odds_35 : decode cX8_odds 35 = .ok (.istore 6, 2) := by decide +kernel
theorem dX8_odds_37 : decode cX8_odds 37 = .ok (.iload 6, 2) := by decide +kernel
theorem dX8_odds_39 : decode cX8_odds 39 = .ok (.iload_n 2, 1) := by decide +kernel
theorem dX8_odds_40 : decode cX8_odds 40 = .ok (.if_icmp .ge 31, 3) := by decide +kernel
theorem dX8_odds_43 : decode cX8_odds 43 = .ok (.iload 4, 2) := by decide +kernel
theorem dX8_odds_45 : decode cX8_odds 45 = .ok (.bipush 100, 2) := by decide +kernel
theorem dX8_odds_47 : decode cX8_odds 47 = .ok (.aload_n 0, 1) := by decide +kernel
theorem dX8_odds_48 : decode cX8_odds 48 = .ok (.getfield 27, 3) := by decide +kernel
theorem dX8_odds_51 : decode cX8_odds 51 = .ok (.getfield 235, 3) := by decide +kernel
theorem dX8_odds_54 : decode cX8_odds 54 = .ok (.isub, 1) := by decide +kernel
theorem dX8_odds_55 : decode cX8_odds 55 = .ok (.imul, 1) := by decide +kernel
theorem dX8_odds_56 : decode cX8_odds 56 = .ok (.istore 4, 2) := by decide +kernel
theorem dX8_odds_58 : decode cX8_odds 58 = .ok (.iload 5, 2) := by decide +kernel
theorem dX8_odds_60 : decode cX8_odds 60 = .ok (.bipush 100, 2) := by decide +kernel
theorem dX8_odds_62 : decode cX8_odds 62 = .ok (.imul, 1) := by decide +kernel
theorem dX8_odds_63 : decode cX8_odds 63 = .ok (.istore 5, 2) := by decide +kernel
theorem dX8_odds_65 : decode cX8_odds 65 = .ok (.iinc 6 1, 3) := by decide +kernel
theorem dX8_odds_68 : decode cX8_odds 68 = .ok (.goto (-31), 3) := by decide +kernel
theorem dX8_odds_71 : decode cX8_odds 71 = .ok (.iload 4, 2) := by decide +kernel
theorem dX8_odds_73 : decode cX8_odds 73 = .ok (.iload 5, 2) := by decide +kernel
theorem dX8_odds_75 : decode cX8_odds 75 = .ok (.invokestatic 238, 3) := by decide +kernel
theorem dX8_odds_78 : decode cX8_odds 78 = .ok (.istore 6, 2) := by decide +kernel
theorem dX8_odds_80 : decode cX8_odds 80 = .ok (.iload_n 3, 1) := by decide +kernel
theorem dX8_odds_81 : decode cX8_odds 81 = .ok (.ifCond .ne 8, 3) := by decide +kernel
theorem dX8_odds_84 : decode cX8_odds 84 = .ok (.iload 4, 2) := by decide +kernel
theorem dX8_odds_86 : decode cX8_odds 86 = .ok (.goto 5, 3) := by decide +kernel
theorem dX8_odds_89 : decode cX8_odds 89 = .ok (.iload 5, 2) := by decide +kernel
theorem dX8_odds_91 : decode cX8_odds 91 = .ok (.iconst 1, 1) := by decide +kernel
theorem dX8_odds_92 : decode cX8_odds 92 = .ok (.iload 6, 2) := by decide +kernel
theorem dX8_odds_94 : decode cX8_odds 94 = .ok (.invokestatic 241, 3) := by decide +kernel
theorem dX8_odds_97 : decode cX8_odds 97 = .ok (.idiv, 1) := by decide +kernel
theorem dX8_odds_98 : decode cX8_odds 98 = .ok (.ireturn, 1) := by decide +kernel
set_option maxRecDepth 20000 in
theorem ggX8_outCount_X4_outBehind : GoodIn wsX8_outCount wsX4_outBehind := goodIn_r _ [7, 8, 9, 10, 11, 6, 12, 13, 14, 15, 16, 17, 18, 19, 20, 21, 22, 23, 24, 25, 26, 27, 28, 29, 30, 31, 32, 33, 34, 35, 36, 37, 38, 39, 40, 41, 42, 43, 44, 45, 46, 47, 48, 49, 50, 51, 52, 53, 54, 80, 81, 82, 83, 84, 85, 86, 87, 69, 70, 71, 72, 73, 74, 75, 76, 77, 78, 79, 88, 89, 90] rfl (by decide +kernel)
set_option maxRecDepth 20000 in
theorem gX8_outCount_X4_outBehind : GoodIn wsX8_outCount (wsV RX8 207 RX4 yX4_outBehind wsX4_outBehind) := goodIn_app (goodIn_r _ [3, 4, 5, 6] rfl (by decide +kernel)) ggX8_outCount_X4_outBehind
theorem dX8_outCount_0 : decode cX8_outCount 0 = .ok (.iconst 0, 1) := by decide +kernel
theorem dX8_outCount_1 : decode cX8_outCount 1 = .ok (.istore_n 3, 1) := by decide +kernel
theorem dX8_outCount_2 : decode cX8_outCount 2 = .ok (.iconst 0, 1) := by decide +kernel
theorem dX8_outCount_3 : decode cX8_outCount 3 = .ok (.istore 4, 2) := by decide +kernel
theorem dX8_outCount_5 : decode cX8_outCount 5 = .ok (.iload 4, 2) := by decide +kernel
theorem dX8_outCount_7 : decode cX8_outCount 7 = .ok (.aload_n 0, 1) := by decide +kernel
theorem dX8_outCount_8 : decode cX8_outCount 8 = .ok (.getfield 27, 3) := by decide +kernel
theorem dX8_outCount_11 : decode cX8_outCount 11 = .ok (.getfield 102, 3) := by decide +kernel
theorem dX8_outCount_14 : decode cX8_outCount 14 = .ok (.if_icmp .ge 27, 3) := by decide +kernel
theorem dX8_outCount_17 : decode cX8_outCount 17 = .ok (.aload_n 0, 1) := by decide +kernel
theorem dX8_outCount_18 : decode cX8_outCount 18 = .ok (.getfield 27, 3) := by decide +kernel
theorem dX8_outCount_21 : decode cX8_outCount 21 = .ok (.aload_n 1, 1) := by decide +kernel
theorem dX8_outCount_22 : decode cX8_outCount 22 = .ok (.iload 4, 2) := by decide +kernel
theorem dX8_outCount_24 : decode cX8_outCount 24 = .ok (.iload_n 2, 1) := by decide +kernel
theorem dX8_outCount_25 : decode cX8_outCount 25 = .ok (.invokevirtual 207, 3) := by decide +kernel
