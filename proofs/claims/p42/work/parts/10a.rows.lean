theorem dX0_current_0 : decode cX0_current 0 = .ok (.aload_n 0, 1) := by decide +kernel
theorem dX0_current_1 : decode cX0_current 1 = .ok (.getfield 20, 3) := by decide +kernel
theorem dX0_current_4 : decode cX0_current 4 = .ok (.aload_n 0, 1) := by decide +kernel
theorem dX0_current_5 : decode cX0_current 5 = .ok (.getfield 24, 3) := by decide +kernel
theorem dX0_current_8 : decode cX0_current 8 = .ok (.aaload, 1) := by decide +kernel
theorem dX0_current_9 : decode cX0_current 9 = .ok (.areturn, 1) := by decide +kernel
set_option maxRecDepth 20000 in
theorem ggX0_begin_X7_copyOf : GoodIn wsX0_begin wsX7_copyOf := goodIn_r _ [13, 14, 15, 16, 17, 18, 19, 20, 21, 22, 23, 24, 25, 30, 31, 32, 33, 34, 35, 36, 37] rfl (by decide +kernel)
set_option maxRecDepth 20000 in
theorem gX0_begin_X7_copyOf : GoodIn wsX0_begin (wsV RX0 28 RX7 yX7_copyOf wsX7_copyOf) := goodIn_app (goodIn_r _ [9, 10, 11, 12] rfl (by decide +kernel)) ggX0_begin_X7_copyOf
theorem dX0_begin_0 : decode cX0_begin 0 = .ok (.aload_n 0, 1) := by decide +kernel
theorem dX0_begin_1 : decode cX0_begin 1 = .ok (.getfield 20, 3) := by decide +kernel
theorem dX0_begin_4 : decode cX0_begin 4 = .ok (.aload_n 0, 1) := by decide +kernel
theorem dX0_begin_5 : decode cX0_begin 5 = .ok (.getfield 24, 3) := by decide +kernel
theorem dX0_begin_8 : decode cX0_begin 8 = .ok (.aaload, 1) := by decide +kernel
theorem dX0_begin_9 : decode cX0_begin 9 = .ok (.astore_n 1, 1) := by decide +kernel
theorem dX0_begin_10 : decode cX0_begin 10 = .ok (.aload_n 0, 1) := by decide +kernel
theorem dX0_begin_11 : decode cX0_begin 11 = .ok (.aload_n 0, 1) := by decide +kernel
theorem dX0_begin_12 : decode cX0_begin 12 = .ok (.getfield 24, 3) := by decide +kernel
theorem dX0_begin_15 : decode cX0_begin 15 = .ok (.iconst 1, 1) := by decide +kernel
theorem dX0_begin_16 : decode cX0_begin 16 = .ok (.iadd, 1) := by decide +kernel
theorem dX0_begin_17 : decode cX0_begin 17 = .ok (.bipush 41, 2) := by decide +kernel
theorem dX0_begin_19 : decode cX0_begin 19 = .ok (.irem, 1) := by decide +kernel
theorem dX0_begin_20 : decode cX0_begin 20 = .ok (.putfield 24, 3) := by decide +kernel
theorem dX0_begin_23 : decode cX0_begin 23 = .ok (.aload_n 0, 1) := by decide +kernel
theorem dX0_begin_24 : decode cX0_begin 24 = .ok (.getfield 20, 3) := by decide +kernel
theorem dX0_begin_27 : decode cX0_begin 27 = .ok (.aload_n 0, 1) := by decide +kernel
theorem dX0_begin_28 : decode cX0_begin 28 = .ok (.getfield 24, 3) := by decide +kernel
theorem dX0_begin_31 : decode cX0_begin 31 = .ok (.aaload, 1) := by decide +kernel
theorem dX0_begin_32 : decode cX0_begin 32 = .ok (.aload_n 1, 1) := by decide +kernel
theorem dX0_begin_33 : decode cX0_begin 33 = .ok (.invokevirtual 28, 3) := by decide +kernel
theorem dX0_begin_36 : decode cX0_begin 36 = .ok (.aload_n 0, 1) := by decide +kernel
theorem dX0_begin_37 : decode cX0_begin 37 = .ok (.bipush 40, 2) := by decide +kernel
theorem dX0_begin_39 : decode cX0_begin 39 = .ok (.aload_n 0, 1) := by decide +kernel
theorem dX0_begin_40 : decode cX0_begin 40 = .ok (.getfield 9, 3) := by decide +kernel
theorem dX0_begin_43 : decode cX0_begin 43 = .ok (.iconst 1, 1) := by decide +kernel
theorem dX0_begin_44 : decode cX0_begin 44 = .ok (.iadd, 1) := by decide +kernel
theorem dX0_begin_45 : decode cX0_begin 45 = .ok (.invokestatic 32, 3) := by decide +kernel
theorem dX0_begin_48 : decode cX0_begin 48 = .ok (.putfield 9, 3) := by decide +kernel
theorem dX0_begin_51 : decode cX0_begin 51 = .ok (.aload_n 0, 1) := by decide +kernel
theorem dX0_begin_52 : decode cX0_begin 52 = .ok (.iconst 0, 1) := by decide +kernel
theorem dX0_begin_53 : decode cX0_begin 53 = .ok (.putfield 15, 3) := by decide +kernel
theorem dX0_begin_56 : decode cX0_begin 56 = .ok (.aload_n 0, 1) := by decide +kernel
theorem dX0_begin_57 : decode cX0_begin 57 = .ok (.getfield 20, 3) := by decide +kernel
theorem dX0_begin_60 : decode cX0_begin 60 = .ok (.aload_n 0, 1) := by decide +kernel
theorem dX0_begin_61 : decode cX0_begin 61 = .ok (.getfield 24, 3) := by decide +kernel
theorem dX0_begin_64 : decode cX0_begin 64 = .ok (.aaload, 1) := by decide +kernel
theorem dX0_begin_65 : decode cX0_begin 65 = .ok (.areturn, 1) := by decide +kernel
theorem dX0_stepBack_0 : decode cX0_stepBack 0 = .ok (.aload_n 0, 1) := by decide +kernel
theorem dX0_stepBack_1 : decode cX0_stepBack 1 = .ok (.getfield 9, 3) := by decide +kernel
theorem dX0_stepBack_4 : decode cX0_stepBack 4 = .ok (.ifCond .ne 5, 3) := by decide +kernel
theorem dX0_stepBack_7 : decode cX0_stepBack 7 = .ok (.iconst 0, 1) := by decide +kernel
theorem dX0_stepBack_8 : decode cX0_stepBack 8 = .ok (.ireturn, 1) := by decide +kernel
theorem dX0_stepBack_9 : decode cX0_stepBack 9 = .ok (.aload_n 0, 1) := by decide +kernel
theorem dX0_stepBack_10 : decode cX0_stepBack 10 = .ok (.aload_n 0, 1) := by decide +kernel
theorem dX0_stepBack_11 : decode cX0_stepBack 11 = .ok (.getfield 24, 3) := by decide +kernel
theorem dX0_stepBack_14 : decode cX0_stepBack 14 = .ok (.bipush 41, 2) := by decide +kernel
theorem dX0_stepBack_16 : decode cX0_stepBack 16 = .ok (.iadd, 1) := by decide +kernel
theorem dX0_stepBack_17 : decode cX0_stepBack 17 = .ok (.iconst 1, 1) := by decide +kernel
theorem dX0_stepBack_18 : decode cX0_stepBack 18 = .ok (.isub, 1) := by decide +kernel
theorem dX0_stepBack_19 : decode cX0_stepBack 19 = .ok (.bipush 41, 2) := by decide +kernel
theorem dX0_stepBack_21 : decode cX0_stepBack 21 = .ok (.irem, 1) := by decide +kernel
theorem dX0_stepBack_22 : decode cX0_stepBack 22 = .ok (.putfield 24, 3) := by decide +kernel
theorem dX0_stepBack_25 : decode cX0_stepBack 25 = .ok (.aload_n 0, 1) := by decide +kernel
theorem dX0_stepBack_26 : decode cX0_stepBack 26 = .ok (.dup, 1) := by decide +kernel
theorem dX0_stepBack_27 : decode cX0_stepBack 27 = .ok (.getfield 9, 3) := by decide +kernel
theorem dX0_stepBack_30 : decode cX0_stepBack 30 = .ok (.iconst 1, 1) := by decide +kernel
theorem dX0_stepBack_31 : decode cX0_stepBack 31 = .ok (.isub, 1) := by decide +kernel
theorem dX0_stepBack_32 : decode cX0_stepBack 32 = .ok (.putfield 9, 3) := by decide +kernel
theorem dX0_stepBack_35 : decode cX0_stepBack 35 = .ok (.aload_n 0, 1) := by decide +kernel
theorem dX0_stepBack_36 : decode cX0_stepBack 36 = .ok (.dup, 1) := by decide +kernel
theorem dX0_stepBack_37 : decode cX0_stepBack 37 = .ok (.getfield 15, 3) := by decide +kernel
theorem dX0_stepBack_40 : decode cX0_stepBack 40 = .ok (.iconst 1, 1) := by decide +kernel
theorem dX0_stepBack_41 : decode cX0_stepBack 41 = .ok (.iadd, 1) := by decide +kernel
theorem dX0_stepBack_42 : decode cX0_stepBack 42 = .ok (.putfield 15, 3) := by decide +kernel
theorem dX0_stepBack_45 : decode cX0_stepBack 45 = .ok (.iconst 1, 1) := by decide +kernel
theorem dX0_stepBack_46 : decode cX0_stepBack 46 = .ok (.ireturn, 1) := by decide +kernel
theorem dX0_stepForth_0 : decode cX0_stepForth 0 = .ok (.aload_n 0, 1) := by decide +kernel
theorem dX0_stepForth_1 : decode cX0_stepForth 1 = .ok (.getfield 15, 3) := by decide +kernel
theorem dX0_stepForth_4 : decode cX0_stepForth 4 = .ok (.ifCond .ne 5, 3) := by decide +kernel
theorem dX0_stepForth_7 : decode cX0_stepForth 7 = .ok (.iconst 0, 1) := by decide +kernel
theorem dX0_stepForth_8 : decode cX0_stepForth 8 = .ok (.ireturn, 1) := by decide +kernel
theorem dX0_stepForth_9 : decode cX0_stepForth 9 = .ok (.aload_n 0, 1) := by decide +kernel
theorem dX0_stepForth_10 : decode cX0_stepForth 10 = .ok (.aload_n 0, 1) := by decide +kernel
theorem dX0_stepForth_11 : decode cX0_stepForth 11 = .ok (.getfield 24, 3) := by decide +kernel
theorem dX0_stepForth_14 : decode cX0_stepForth 14 = .ok (.iconst 1, 1) := by decide +kernel
theorem dX0_stepForth_15 : decode cX0_stepForth 15 = .ok (.iadd, 1) := by decide +kernel
theorem dX0_stepForth_16 : decode cX0_stepForth 16 = .ok (.bipush 41, 2) := by decide +kernel
theorem dX0_stepForth_18 : decode cX0_stepForth 18 = .ok (.irem, 1) := by decide +kernel
theorem dX0_stepForth_19 : decode cX0_stepForth 19 = .ok (.putfield 24, 3) := by decide +kernel
theorem dX0_stepForth_22 : decode cX0_stepForth 22 = .ok (.aload_n 0, 1) := by decide +kernel
theorem dX0_stepForth_23 : decode cX0_stepForth 23 = .ok (.dup, 1) := by decide +kernel
theorem dX0_stepForth_24 : decode cX0_stepForth 24 = .ok (.getfield 9, 3) := by decide +kernel
theorem dX0_stepForth_27 : decode cX0_stepForth 27 = .ok (.iconst 1, 1) := by decide +kernel
theorem dX0_stepForth_28 : decode cX0_stepForth 28 = .ok (.iadd, 1) := by decide +kernel
theorem dX0_stepForth_29 : decode cX0_stepForth 29 = .ok (.putfield 9, 3) := by decide +kernel
theorem dX0_stepForth_32 : decode cX0_stepForth 32 = .ok (.aload_n 0, 1) := by decide +kernel
theorem dX0_stepForth_33 : decode cX0_stepForth 33 = .ok (.dup, 1) := by decide +kernel
theorem dX0_stepForth_34 : decode cX0_stepForth 34 = .ok (.getfield 15, 3) := by decide +kernel
theorem dX0_stepForth_37 : decode cX0_stepForth 37 = .ok (.iconst 1, 1) := by decide +kernel
theorem dX0_stepForth_38 : decode cX0_stepForth 38 = .ok (.isub, 1) := by decide +kernel
theorem dX0_stepForth_39 : decode cX0_stepForth 39 = .ok (.putfield 15, 3) := by decide +kernel
theorem dX0_stepForth_42 : decode cX0_stepForth 42 = .ok (.iconst 1, 1) := by decide +kernel
theorem dX0_stepForth_43 : decode cX0_stepForth 43 = .ok (.ireturn, 1) := by decide +kernel
set_option maxRecDepth 20000 in
theorem ggX0_startFrom_X7_copyOf : GoodIn wsX0_startFrom wsX7_copyOf := goodIn_r _ [9, 10, 11, 12, 13, 14, 15, 16, 17, 18, 19, 20, 21, 26, 27, 28, 29, 30, 31, 32, 33] rfl (by decide +kernel)
set_option maxRecDepth 20000 in
theorem gX0_startFrom_X7_copyOf : GoodIn wsX0_startFrom (wsV RX0 28 RX7 yX7_copyOf wsX7_copyOf) := goodIn_app (goodIn_r _ [5, 6, 7, 8] rfl (by decide +kernel)) ggX0_startFrom_X7_copyOf
theorem dX0_startFrom_0 : decode cX0_startFrom 0 = .ok (.aload_n 0, 1) := by decide +kernel
theorem dX0_startFrom_1 : decode cX0_startFrom 1 = .ok (.getfield 20, 3) := by decide +kernel
theorem dX0_startFrom_4 : decode cX0_startFrom 4 = .ok (.aload_n 0, 1) := by decide +kernel
theorem dX0_startFrom_5 : decode cX0_startFrom 5 = .ok (.getfield 24, 3) := by decide +kernel
theorem dX0_startFrom_8 : decode cX0_startFrom 8 = .ok (.aaload, 1) := by decide +kernel
theorem dX0_startFrom_9 : decode cX0_startFrom 9 = .ok (.aload_n 1, 1) := by decide +kernel
theorem dX0_startFrom_10 : decode cX0_startFrom 10 = .ok (.invokevirtual 28, 3) := by decide +kernel
theorem dX0_startFrom_13 : decode cX0_startFrom 13 = .ok (.aload_n 0, 1) := by decide +kernel
theorem dX0_startFrom_14 : decode cX0_startFrom 14 = .ok (.iconst 0, 1) := by decide +kernel
theorem dX0_startFrom_15 : decode cX0_startFrom 15 = .ok (.putfield 9, 3) := by decide +kernel
theorem dX0_startFrom_18 : decode cX0_startFrom 18 = .ok (.aload_n 0, 1) := by decide +kernel
theorem dX0_startFrom_19 : decode cX0_startFrom 19 = .ok (.iconst 0, 1) := by decide +kernel
theorem dX0_startFrom_20 : decode cX0_startFrom 20 = .ok (.putfield 15, 3) := by decide +kernel
theorem dX0_startFrom_23 : decode cX0_startFrom 23 = .ok (.return_, 1) := by decide +kernel
set_option maxRecDepth 20000 in
theorem ggX1_open_X1_weigh : GoodIn wsX1_open wsX1_weigh := goodIn_r _ [8, 9, 10, 11, 12, 13, 14, 15, 16, 17, 18, 19, 20, 21, 22, 23, 24, 25, 26, 27, 28, 29, 30, 31, 32, 33, 34, 35, 36, 37, 38, 39, 40, 41, 42, 43, 44, 45, 46, 47, 48, 49, 50, 51, 52, 53, 54, 55, 56, 57, 64, 65, 66, 67, 68, 69, 70, 71, 72, 73, 74, 75, 76, 77, 78, 79, 80, 81, 82, 83, 84, 85] rfl (by decide +kernel)
set_option maxRecDepth 20000 in
theorem gX1_open_X1_weigh : GoodIn wsX1_open (va_wsS RX1 31 yX1_weigh wsX1_weigh) := goodIn_app (goodIn_r _ [5, 6, 7] rfl (by decide +kernel)) ggX1_open_X1_weigh
theorem dX1_open_0 : decode cX1_open 0 = .ok (.aload_n 0, 1) := by decide +kernel
theorem dX1_open_1 : decode cX1_open 1 = .ok (.aload_n 1, 1) := by decide +kernel
theorem dX1_open_2 : decode cX1_open 2 = .ok (.aload_n 2, 1) := by decide +kernel
theorem dX1_open_3 : decode cX1_open 3 = .ok (.iload_n 3, 1) := by decide +kernel
theorem dX1_open_4 : decode cX1_open 4 = .ok (.iload 4, 2) := by decide +kernel
theorem dX1_open_6 : decode cX1_open 6 = .ok (.aload_n 0, 1) := by decide +kernel
theorem dX1_open_7 : decode cX1_open 7 = .ok (.getfield 18, 3) := by decide +kernel
theorem dX1_open_10 : decode cX1_open 10 = .ok (.invokestatic 31, 3) := by decide +kernel
theorem dX1_open_13 : decode cX1_open 13 = .ok (.putfield 25, 3) := by decide +kernel
theorem dX1_open_16 : decode cX1_open 16 = .ok (.aload_n 0, 1) := by decide +kernel
theorem dX1_open_17 : decode cX1_open 17 = .ok (.aload_n 1, 1) := by decide +kernel
theorem dX1_open_18 : decode cX1_open 18 = .ok (.aload_n 2, 1) := by decide +kernel
theorem dX1_open_19 : decode cX1_open 19 = .ok (.iload_n 3, 1) := by decide +kernel
theorem dX1_open_20 : decode cX1_open 20 = .ok (.iload 5, 2) := by decide +kernel
theorem dX1_open_22 : decode cX1_open 22 = .ok (.aload_n 0, 1) := by decide +kernel
theorem dX1_open_23 : decode cX1_open 23 = .ok (.getfield 22, 3) := by decide +kernel
theorem dX1_open_26 : decode cX1_open 26 = .ok (.invokestatic 31, 3) := by decide +kernel
theorem dX1_open_29 : decode cX1_open 29 = .ok (.putfield 28, 3) := by decide +kernel
theorem dX1_open_32 : decode cX1_open 32 = .ok (.return_, 1) := by decide +kernel
set_option maxRecDepth 20000 in
theorem ggX1_weigh_X4_consider : GoodIn wsX1_weigh wsX4_consider := goodIn_r _ [10, 11, 12, 13, 14, 15, 16, 17, 18, 19, 20, 21, 22, 23, 24, 25, 26, 27, 28, 29, 30, 58, 59, 60, 61, 62, 63, 64, 65, 66, 67, 68, 50, 51, 52, 53, 54, 55, 56, 57] rfl (by decide +kernel)
set_option maxRecDepth 20000 in
theorem gX1_weigh_X4_consider : GoodIn wsX1_weigh (wsV RX1 46 RX4 yX4_consider wsX4_consider) := goodIn_app (goodIn_r _ [6, 7, 8, 9] rfl (by decide +kernel)) ggX1_weigh_X4_consider
set_option maxRecDepth 20000 in
theorem ggX1_weigh_X4_likesBy : GoodIn wsX1_weigh wsX4_likesBy := goodIn_r _ [34, 13, 35, 36, 37, 38, 39, 40, 41, 42, 43, 44, 45, 46, 47, 48, 49, 58, 59, 60, 61, 62, 63, 64, 65, 66, 67, 68, 69, 70, 71] rfl (by decide +kernel)
set_option maxRecDepth 20000 in
theorem gX1_weigh_X4_likesBy : GoodIn wsX1_weigh (wsV RX1 54 RX4 yX4_likesBy wsX4_likesBy) := goodIn_app (goodIn_r _ [31, 32, 33, 9] rfl (by decide +kernel)) ggX1_weigh_X4_likesBy
theorem dX1_weigh_0 : decode cX1_weigh 0 = .ok (.aload_n 1, 1) := by decide +kernel
theorem dX1_weigh_1 : decode cX1_weigh 1 = .ok (.getfield 35, 3) := by decide +kernel
theorem dX1_weigh_4 : decode cX1_weigh 4 = .ok (.iload_n 3, 1) := by decide +kernel
theorem dX1_weigh_5 : decode cX1_weigh 5 = .ok (.iaload, 1) := by decide +kernel
theorem dX1_weigh_6 : decode cX1_weigh 6 = .ok (.istore 5, 2) := by decide +kernel
theorem dX1_weigh_8 : decode cX1_weigh 8 = .ok (.iconst 5, 1) := by decide +kernel
theorem dX1_weigh_9 : decode cX1_weigh 9 = .ok (.bipush 99, 2) := by decide +kernel
theorem dX1_weigh_11 : decode cX1_weigh 11 = .ok (.iload 5, 2) := by decide +kernel
theorem dX1_weigh_13 : decode cX1_weigh 13 = .ok (.isub, 1) := by decide +kernel
theorem dX1_weigh_14 : decode cX1_weigh 14 = .ok (.invokestatic 40, 3) := by decide +kernel
theorem dX1_weigh_17 : decode cX1_weigh 17 = .ok (.istore 6, 2) := by decide +kernel
theorem dX1_weigh_19 : decode cX1_weigh 19 = .ok (.aload_n 0, 1) := by decide +kernel
theorem dX1_weigh_20 : decode cX1_weigh 20 = .ok (.aload_n 1, 1) := by decide +kernel
theorem dX1_weigh_21 : decode cX1_weigh 21 = .ok (.iload_n 3, 1) := by decide +kernel
theorem dX1_weigh_22 : decode cX1_weigh 22 = .ok (.iload_n 2, 1) := by decide +kernel
theorem dX1_weigh_23 : decode cX1_weigh 23 = .ok (.invokevirtual 46, 3) := by decide +kernel
theorem dX1_weigh_26 : decode cX1_weigh 26 = .ok (.iconst 0, 1) := by decide +kernel
theorem dX1_weigh_27 : decode cX1_weigh 27 = .ok (.istore 7, 2) := by decide +kernel
theorem dX1_weigh_29 : decode cX1_weigh 29 = .ok (.iload 7, 2) := by decide +kernel
theorem dX1_weigh_31 : decode cX1_weigh 31 = .ok (.iload 6, 2) := by decide +kernel
theorem dX1_weigh_33 : decode cX1_weigh 33 = .ok (.if_icmp .gt 32, 3) := by decide +kernel
theorem dX1_weigh_36 : decode cX1_weigh 36 = .ok (.iload 7, 2) := by decide +kernel
theorem dX1_weigh_38 : decode cX1_weigh 38 = .ok (.aload 4, 2) := by decide +kernel
theorem dX1_weigh_40 : decode cX1_weigh 40 = .ok (.arraylength, 1) := by decide +kernel
theorem dX1_weigh_41 : decode cX1_weigh 41 = .ok (.if_icmp .ge 24, 3) := by decide +kernel
theorem dX1_weigh_44 : decode cX1_weigh 44 = .ok (.aload 4, 2) := by decide +kernel
theorem dX1_weigh_46 : decode cX1_weigh 46 = .ok (.iload 7, 2) := by decide +kernel
theorem dX1_weigh_48 : decode cX1_weigh 48 = .ok (.aload_n 0, 1) := by decide +kernel
theorem dX1_weigh_49 : decode cX1_weigh 49 = .ok (.iconst 0, 1) := by decide +kernel
theorem dX1_weigh_50 : decode cX1_weigh 50 = .ok (.iload 5, 2) := by decide +kernel
theorem dX1_weigh_52 : decode cX1_weigh 52 = .ok (.iload 7, 2) := by decide +kernel
theorem dX1_weigh_54 : decode cX1_weigh 54 = .ok (.iadd, 1) := by decide +kernel
theorem dX1_weigh_55 : decode cX1_weigh 55 = .ok (.invokevirtual 54, 3) := by decide +kernel
theorem dX1_weigh_58 : decode cX1_weigh 58 = .ok (.iastore, 1) := by decide +kernel
theorem dX1_weigh_59 : decode cX1_weigh 59 = .ok (.iinc 7 1, 3) := by decide +kernel
theorem dX1_weigh_62 : decode cX1_weigh 62 = .ok (.goto (-33), 3) := by decide +kernel
theorem dX1_weigh_65 : decode cX1_weigh 65 = .ok (.iload 6, 2) := by decide +kernel
theorem dX1_weigh_67 : decode cX1_weigh 67 = .ok (.ireturn, 1) := by decide +kernel
set_option maxRecDepth 20000 in
theorem ggX1_countRests_X1_isRest : GoodIn wsX1_countRests wsX1_isRest := goodIn_r _ [9, 1, 2, 10, 11, 12, 8, 13, 14, 15, 16, 17, 18, 19, 20, 21, 22, 23, 24, 25, 26, 27, 28] rfl (by decide +kernel)
set_option maxRecDepth 20000 in
theorem gX1_countRests_X1_isRest : GoodIn wsX1_countRests (wsV RX1 57 RX1 yX1_isRest wsX1_isRest) := goodIn_app (goodIn_r _ [5, 6, 7, 8] rfl (by decide +kernel)) ggX1_countRests_X1_isRest
theorem dX1_countRests_0 : decode cX1_countRests 0 = .ok (.iconst 0, 1) := by decide +kernel
theorem dX1_countRests_1 : decode cX1_countRests 1 = .ok (.istore_n 1, 1) := by decide +kernel
theorem dX1_countRests_2 : decode cX1_countRests 2 = .ok (.iconst 0, 1) := by decide +kernel
theorem dX1_countRests_3 : decode cX1_countRests 3 = .ok (.istore_n 2, 1) := by decide +kernel
theorem dX1_countRests_4 : decode cX1_countRests 4 = .ok (.iload_n 2, 1) := by decide +kernel
theorem dX1_countRests_5 : decode cX1_countRests 5 = .ok (.aload_n 0, 1) := by decide +kernel
theorem dX1_countRests_6 : decode cX1_countRests 6 = .ok (.getfield 25, 3) := by decide +kernel
theorem dX1_countRests_9 : decode cX1_countRests 9 = .ok (.if_icmp .gt 51, 3) := by decide +kernel
theorem dX1_countRests_12 : decode cX1_countRests 12 = .ok (.iconst 0, 1) := by decide +kernel
theorem dX1_countRests_13 : decode cX1_countRests 13 = .ok (.istore_n 3, 1) := by decide +kernel
theorem dX1_countRests_14 : decode cX1_countRests 14 = .ok (.iload_n 3, 1) := by decide +kernel
theorem dX1_countRests_15 : decode cX1_countRests 15 = .ok (.aload_n 0, 1) := by decide +kernel
theorem dX1_countRests_16 : decode cX1_countRests 16 = .ok (.getfield 28, 3) := by decide +kernel
theorem dX1_countRests_19 : decode cX1_countRests 19 = .ok (.if_icmp .gt 35, 3) := by decide +kernel
theorem dX1_countRests_22 : decode cX1_countRests 22 = .ok (.aload_n 0, 1) := by decide +kernel
theorem dX1_countRests_23 : decode cX1_countRests 23 = .ok (.iload_n 2, 1) := by decide +kernel
theorem dX1_countRests_24 : decode cX1_countRests 24 = .ok (.iload_n 3, 1) := by decide +kernel
theorem dX1_countRests_25 : decode cX1_countRests 25 = .ok (.invokevirtual 57, 3) := by decide +kernel
theorem dX1_countRests_28 : decode cX1_countRests 28 = .ok (.ifCond .eq 20, 3) := by decide +kernel
theorem dX1_countRests_31 : decode cX1_countRests 31 = .ok (.iload_n 1, 1) := by decide +kernel
theorem dX1_countRests_32 : decode cX1_countRests 32 = .ok (.ifCond .ne 13, 3) := by decide +kernel
theorem dX1_countRests_35 : decode cX1_countRests 35 = .ok (.aload_n 0, 1) := by decide +kernel
theorem dX1_countRests_36 : decode cX1_countRests 36 = .ok (.iload_n 2, 1) := by decide +kernel
theorem dX1_countRests_37 : decode cX1_countRests 37 = .ok (.putfield 9, 3) := by decide +kernel
theorem dX1_countRests_40 : decode cX1_countRests 40 = .ok (.aload_n 0, 1) := by decide +kernel
theorem dX1_countRests_41 : decode cX1_countRests 41 = .ok (.iload_n 3, 1) := by decide +kernel
theorem dX1_countRests_42 : decode cX1_countRests 42 = .ok (.putfield 15, 3) := by decide +kernel
theorem dX1_countRests_45 : decode cX1_countRests 45 = .ok (.iinc 1 1, 3) := by decide +kernel
theorem dX1_countRests_48 : decode cX1_countRests 48 = .ok (.iinc 3 1, 3) := by decide +kernel
theorem dX1_countRests_51 : decode cX1_countRests 51 = .ok (.goto (-37), 3) := by decide +kernel
theorem dX1_countRests_54 : decode cX1_countRests 54 = .ok (.iinc 2 1, 3) := by decide +kernel
theorem dX1_countRests_57 : decode cX1_countRests 57 = .ok (.goto (-53), 3) := by decide +kernel
theorem dX1_countRests_60 : decode cX1_countRests 60 = .ok (.iload_n 1, 1) := by decide +kernel
theorem dX1_countRests_61 : decode cX1_countRests 61 = .ok (.ireturn, 1) := by decide +kernel
set_option maxRecDepth 20000 in
theorem ggX1_isRest_X1_hasFirst : GoodIn wsX1_isRest wsX1_hasFirst := goodIn_r _ [7, 8, 9, 17, 18, 19, 20, 21, 22] rfl (by decide +kernel)
set_option maxRecDepth 20000 in
theorem gX1_isRest_X1_hasFirst : GoodIn wsX1_isRest (wsV RX1 61 RX1 yX1_hasFirst wsX1_hasFirst) := goodIn_app (goodIn_r _ [3, 4, 5, 6] rfl (by decide +kernel)) ggX1_isRest_X1_hasFirst
set_option maxRecDepth 20000 in
theorem ggX1_isRest_X1_isBetter : GoodIn wsX1_isRest wsX1_isBetter := goodIn_r _ [12] rfl (by decide +kernel)
set_option maxRecDepth 20000 in
theorem gX1_isRest_X1_isBetter : GoodIn wsX1_isRest (va_wsS RX1 64 yX1_isBetter wsX1_isBetter) := goodIn_app (goodIn_r _ [10, 11, 6] rfl (by decide +kernel)) ggX1_isRest_X1_isBetter
set_option maxRecDepth 20000 in
theorem ggX1_isRest_X1_hasOther : GoodIn wsX1_isRest wsX1_hasOther := goodIn_r _ [16, 9, 8, 17, 18, 19, 20, 21, 22] rfl (by decide +kernel)
set_option maxRecDepth 20000 in
theorem gX1_isRest_X1_hasOther : GoodIn wsX1_isRest (wsV RX1 68 RX1 yX1_hasOther wsX1_hasOther) := goodIn_app (goodIn_r _ [13, 14, 15, 6] rfl (by decide +kernel)) ggX1_isRest_X1_hasOther
theorem dX1_isRest_0 : decode cX1_isRest 0 = .ok (.aload_n 0, 1) := by decide +kernel
theorem dX1_isRest_1 : decode cX1_isRest 1 = .ok (.iload_n 1, 1) := by decide +kernel
theorem dX1_isRest_2 : decode cX1_isRest 2 = .ok (.iload_n 2, 1) := by decide +kernel
theorem dX1_isRest_3 : decode cX1_isRest 3 = .ok (.invokevirtual 61, 3) := by decide +kernel
theorem dX1_isRest_6 : decode cX1_isRest 6 = .ok (.istore_n 3, 1) := by decide +kernel
theorem dX1_isRest_7 : decode cX1_isRest 7 = .ok (.iconst 0, 1) := by decide +kernel
theorem dX1_isRest_8 : decode cX1_isRest 8 = .ok (.istore 4, 2) := by decide +kernel
theorem dX1_isRest_10 : decode cX1_isRest 10 = .ok (.iload 4, 2) := by decide +kernel
theorem dX1_isRest_12 : decode cX1_isRest 12 = .ok (.aload_n 0, 1) := by decide +kernel
theorem dX1_isRest_13 : decode cX1_isRest 13 = .ok (.getfield 25, 3) := by decide +kernel
theorem dX1_isRest_16 : decode cX1_isRest 16 = .ok (.if_icmp .gt 28, 3) := by decide +kernel
theorem dX1_isRest_19 : decode cX1_isRest 19 = .ok (.aload_n 0, 1) := by decide +kernel
theorem dX1_isRest_20 : decode cX1_isRest 20 = .ok (.iload 4, 2) := by decide +kernel
theorem dX1_isRest_22 : decode cX1_isRest 22 = .ok (.iload_n 2, 1) := by decide +kernel
theorem dX1_isRest_23 : decode cX1_isRest 23 = .ok (.invokevirtual 61, 3) := by decide +kernel
theorem dX1_isRest_26 : decode cX1_isRest 26 = .ok (.iload 4, 2) := by decide +kernel
theorem dX1_isRest_28 : decode cX1_isRest 28 = .ok (.iload_n 3, 1) := by decide +kernel
theorem dX1_isRest_29 : decode cX1_isRest 29 = .ok (.iload_n 1, 1) := by decide +kernel
theorem dX1_isRest_30 : decode cX1_isRest 30 = .ok (.invokestatic 64, 3) := by decide +kernel
theorem dX1_isRest_33 : decode cX1_isRest 33 = .ok (.ifCond .eq 5, 3) := by decide +kernel
theorem dX1_isRest_36 : decode cX1_isRest 36 = .ok (.iconst 0, 1) := by decide +kernel
theorem dX1_isRest_37 : decode cX1_isRest 37 = .ok (.ireturn, 1) := by decide +kernel
theorem dX1_isRest_38 : decode cX1_isRest 38 = .ok (.iinc 4 1, 3) := by decide +kernel
theorem dX1_isRest_41 : decode cX1_isRest 41 = .ok (.goto (-31), 3) := by decide +kernel
theorem dX1_isRest_44 : decode cX1_isRest 44 = .ok (.aload_n 0, 1) := by decide +kernel
theorem dX1_isRest_45 : decode cX1_isRest 45 = .ok (.iload_n 1, 1) := by decide +kernel
theorem dX1_isRest_46 : decode cX1_isRest 46 = .ok (.iload_n 2, 1) := by decide +kernel
theorem dX1_isRest_47 : decode cX1_isRest 47 = .ok (.invokevirtual 68, 3) := by decide +kernel
theorem dX1_isRest_50 : decode cX1_isRest 50 = .ok (.istore 4, 2) := by decide +kernel
theorem dX1_isRest_52 : decode cX1_isRest 52 = .ok (.iconst 0, 1) := by decide +kernel
theorem dX1_isRest_53 : decode cX1_isRest 53 = .ok (.istore 5, 2) := by decide +kernel
theorem dX1_isRest_55 : decode cX1_isRest 55 = .ok (.iload 5, 2) := by decide +kernel
theorem dX1_isRest_57 : decode cX1_isRest 57 = .ok (.aload_n 0, 1) := by decide +kernel
theorem dX1_isRest_58 : decode cX1_isRest 58 = .ok (.getfield 28, 3) := by decide +kernel
theorem dX1_isRest_61 : decode cX1_isRest 61 = .ok (.if_icmp .gt 29, 3) := by decide +kernel
theorem dX1_isRest_64 : decode cX1_isRest 64 = .ok (.aload_n 0, 1) := by decide +kernel
theorem dX1_isRest_65 : decode cX1_isRest 65 = .ok (.iload_n 1, 1) := by decide +kernel
theorem dX1_isRest_66 : decode cX1_isRest 66 = .ok (.iload 5, 2) := by decide +kernel
theorem dX1_isRest_68 : decode cX1_isRest 68 = .ok (.invokevirtual 68, 3) := by decide +kernel
theorem dX1_isRest_71 : decode cX1_isRest 71 = .ok (.iload 5, 2) := by decide +kernel
theorem dX1_isRest_73 : decode cX1_isRest 73 = .ok (.iload 4, 2) := by decide +kernel
theorem dX1_isRest_75 : decode cX1_isRest 75 = .ok (.iload_n 2, 1) := by decide +kernel
theorem dX1_isRest_76 : decode cX1_isRest 76 = .ok (.invokestatic 64, 3) := by decide +kernel
theorem dX1_isRest_79 : decode cX1_isRest 79 = .ok (.ifCond .eq 5, 3) := by decide +kernel
theorem dX1_isRest_82 : decode cX1_isRest 82 = .ok (.iconst 0, 1) := by decide +kernel
theorem dX1_isRest_83 : decode cX1_isRest 83 = .ok (.ireturn, 1) := by decide +kernel
theorem dX1_isRest_84 : decode cX1_isRest 84 = .ok (.iinc 5 1, 3) := by decide +kernel
theorem dX1_isRest_87 : decode cX1_isRest 87 = .ok (.goto (-32), 3) := by decide +kernel
theorem dX1_isRest_90 : decode cX1_isRest 90 = .ok (.iconst 1, 1) := by decide +kernel
theorem dX1_isRest_91 : decode cX1_isRest 91 = .ok (.ireturn, 1) := by decide +kernel
theorem dX1_isBetter_0 : decode cX1_isBetter 0 = .ok (.iload_n 0, 1) := by decide +kernel
theorem dX1_isBetter_1 : decode cX1_isBetter 1 = .ok (.iload_n 2, 1) := by decide +kernel
theorem dX1_isBetter_2 : decode cX1_isBetter 2 = .ok (.if_icmp .ne 16, 3) := by decide +kernel
theorem dX1_isBetter_5 : decode cX1_isBetter 5 = .ok (.iload_n 1, 1) := by decide +kernel
theorem dX1_isBetter_6 : decode cX1_isBetter 6 = .ok (.iload_n 3, 1) := by decide +kernel
theorem dX1_isBetter_7 : decode cX1_isBetter 7 = .ok (.if_icmp .ge 7, 3) := by decide +kernel
theorem dX1_isBetter_10 : decode cX1_isBetter 10 = .ok (.iconst 1, 1) := by decide +kernel
theorem dX1_isBetter_11 : decode cX1_isBetter 11 = .ok (.goto 8, 3) := by decide +kernel
theorem dX1_isBetter_14 : decode cX1_isBetter 14 = .ok (.iconst 0, 1) := by decide +kernel
theorem dX1_isBetter_15 : decode cX1_isBetter 15 = .ok (.goto 4, 3) := by decide +kernel
theorem dX1_isBetter_18 : decode cX1_isBetter 18 = .ok (.iload_n 0, 1) := by decide +kernel
theorem dX1_isBetter_19 : decode cX1_isBetter 19 = .ok (.ireturn, 1) := by decide +kernel
theorem dX1_hasFirst_0 : decode cX1_hasFirst 0 = .ok (.aload_n 0, 1) := by decide +kernel
theorem dX1_hasFirst_1 : decode cX1_hasFirst 1 = .ok (.getfield 18, 3) := by decide +kernel
theorem dX1_hasFirst_4 : decode cX1_hasFirst 4 = .ok (.iload_n 1, 1) := by decide +kernel
theorem dX1_hasFirst_5 : decode cX1_hasFirst 5 = .ok (.iaload, 1) := by decide +kernel
theorem dX1_hasFirst_6 : decode cX1_hasFirst 6 = .ok (.ifCond .le 22, 3) := by decide +kernel
theorem dX1_hasFirst_9 : decode cX1_hasFirst 9 = .ok (.aload_n 0, 1) := by decide +kernel
theorem dX1_hasFirst_10 : decode cX1_hasFirst 10 = .ok (.getfield 18, 3) := by decide +kernel
theorem dX1_hasFirst_13 : decode cX1_hasFirst 13 = .ok (.iload_n 1, 1) := by decide +kernel
theorem dX1_hasFirst_14 : decode cX1_hasFirst 14 = .ok (.iaload, 1) := by decide +kernel
theorem dX1_hasFirst_15 : decode cX1_hasFirst 15 = .ok (.aload_n 0, 1) := by decide +kernel
theorem dX1_hasFirst_16 : decode cX1_hasFirst 16 = .ok (.getfield 22, 3) := by decide +kernel
theorem dX1_hasFirst_19 : decode cX1_hasFirst 19 = .ok (.iload_n 2, 1) := by decide +kernel
theorem dX1_hasFirst_20 : decode cX1_hasFirst 20 = .ok (.iaload, 1) := by decide +kernel
theorem dX1_hasFirst_21 : decode cX1_hasFirst 21 = .ok (.if_icmp .lt 7, 3) := by decide +kernel
theorem dX1_hasFirst_24 : decode cX1_hasFirst 24 = .ok (.iconst 1, 1) := by decide +kernel
theorem dX1_hasFirst_25 : decode cX1_hasFirst 25 = .ok (.goto 4, 3) := by decide +kernel
theorem dX1_hasFirst_28 : decode cX1_hasFirst 28 = .ok (.iconst 0, 1) := by decide +kernel
theorem dX1_hasFirst_29 : decode cX1_hasFirst 29 = .ok (.ireturn, 1) := by decide +kernel
theorem dX1_hasOther_0 : decode cX1_hasOther 0 = .ok (.aload_n 0, 1) := by decide +kernel
theorem dX1_hasOther_1 : decode cX1_hasOther 1 = .ok (.getfield 22, 3) := by decide +kernel
theorem dX1_hasOther_4 : decode cX1_hasOther 4 = .ok (.iload_n 2, 1) := by decide +kernel
theorem dX1_hasOther_5 : decode cX1_hasOther 5 = .ok (.iaload, 1) := by decide +kernel
theorem dX1_hasOther_6 : decode cX1_hasOther 6 = .ok (.ifCond .le 22, 3) := by decide +kernel
theorem dX1_hasOther_9 : decode cX1_hasOther 9 = .ok (.aload_n 0, 1) := by decide +kernel
theorem dX1_hasOther_10 : decode cX1_hasOther 10 = .ok (.getfield 22, 3) := by decide +kernel
theorem dX1_hasOther_13 : decode cX1_hasOther 13 = .ok (.iload_n 2, 1) := by decide +kernel
theorem dX1_hasOther_14 : decode cX1_hasOther 14 = .ok (.iaload, 1) := by decide +kernel
theorem dX1_hasOther_15 : decode cX1_hasOther 15 = .ok (.aload_n 0, 1) := by decide +kernel
theorem dX1_hasOther_16 : decode cX1_hasOther 16 = .ok (.getfield 18, 3) := by decide +kernel
theorem dX1_hasOther_19 : decode cX1_hasOther 19 = .ok (.iload_n 1, 1) := by decide +kernel
theorem dX1_hasOther_20 : decode cX1_hasOther 20 = .ok (.iaload, 1) := by decide +kernel
theorem dX1_hasOther_21 : decode cX1_hasOther 21 = .ok (.if_icmp .le 7, 3) := by decide +kernel
theorem dX1_hasOther_24 : decode cX1_hasOther 24 = .ok (.iconst 1, 1) := by decide +kernel
theorem dX1_hasOther_25 : decode cX1_hasOther 25 = .ok (.goto 4, 3) := by decide +kernel
theorem dX1_hasOther_28 : decode cX1_hasOther 28 = .ok (.iconst 0, 1) := by decide +kernel
theorem dX1_hasOther_29 : decode cX1_hasOther 29 = .ok (.ireturn, 1) := by decide +kernel
theorem dX2_empty_0 : decode cX2_empty 0 = .ok (.aload_n 0, 1) := by decide +kernel
theorem dX2_empty_1 : decode cX2_empty 1 = .ok (.iconst 0, 1) := by decide +kernel
theorem dX2_empty_2 : decode cX2_empty 2 = .ok (.putfield 16, 3) := by decide +kernel
theorem dX2_empty_5 : decode cX2_empty 5 = .ok (.return_, 1) := by decide +kernel
set_option maxRecDepth 20000 in
theorem ggX2_addNumber_X2_addStep : GoodIn wsX2_addNumber wsX2_addStep := goodIn_r _ [5, 6, 7, 8, 9, 10] rfl (by decide +kernel)
set_option maxRecDepth 20000 in
theorem gX2_addNumber_X2_addStep : GoodIn wsX2_addNumber (wsV RX2 20 RX2 yX2_addStep wsX2_addStep) := goodIn_app (goodIn_r _ [1, 2, 3, 4] rfl (by decide +kernel)) ggX2_addNumber_X2_addStep
theorem dX2_addNumber_0 : decode cX2_addNumber 0 = .ok (.aload_n 0, 1) := by decide +kernel
theorem dX2_addNumber_1 : decode cX2_addNumber 1 = .ok (.iload_n 1, 1) := by decide +kernel
theorem dX2_addNumber_2 : decode cX2_addNumber 2 = .ok (.invokevirtual 20, 3) := by decide +kernel
theorem dX2_addNumber_5 : decode cX2_addNumber 5 = .ok (.return_, 1) := by decide +kernel
set_option maxRecDepth 20000 in
theorem ggX2_addTerm_X2_addStep : GoodIn wsX2_addTerm wsX2_addStep := goodIn_r _ [5, 6, 7, 8, 9, 10] rfl (by decide +kernel)
set_option maxRecDepth 20000 in
theorem gX2_addTerm_X2_addStep : GoodIn wsX2_addTerm (wsV RX2 20 RX2 yX2_addStep wsX2_addStep) := goodIn_app (goodIn_r _ [1, 2, 3, 4] rfl (by decide +kernel)) ggX2_addTerm_X2_addStep
theorem dX2_addTerm_0 : decode cX2_addTerm 0 = .ok (.aload_n 0, 1) := by decide +kernel
theorem dX2_addTerm_1 : decode cX2_addTerm 1 = .ok (.iconst (-1), 1) := by decide +kernel
theorem dX2_addTerm_2 : decode cX2_addTerm 2 = .ok (.iload_n 1, 1) := by decide +kernel
theorem dX2_addTerm_3 : decode cX2_addTerm 3 = .ok (.isub, 1) := by decide +kernel
theorem dX2_addTerm_4 : decode cX2_addTerm 4 = .ok (.invokevirtual 20, 3) := by decide +kernel
theorem dX2_addTerm_7 : decode cX2_addTerm 7 = .ok (.return_, 1) := by decide +kernel
theorem dX2_addStep_0 : decode cX2_addStep 0 = .ok (.aload_n 0, 1) := by decide +kernel
theorem dX2_addStep_1 : decode cX2_addStep 1 = .ok (.getfield 16, 3) := by decide +kernel
theorem dX2_addStep_4 : decode cX2_addStep 4 = .ok (.aload_n 0, 1) := by decide +kernel
theorem dX2_addStep_5 : decode cX2_addStep 5 = .ok (.getfield 9, 3) := by decide +kernel
theorem dX2_addStep_8 : decode cX2_addStep 8 = .ok (.arraylength, 1) := by decide +kernel
theorem dX2_addStep_9 : decode cX2_addStep 9 = .ok (.if_icmp .ge 23, 3) := by decide +kernel
theorem dX2_addStep_12 : decode cX2_addStep 12 = .ok (.aload_n 0, 1) := by decide +kernel
theorem dX2_addStep_13 : decode cX2_addStep 13 = .ok (.getfield 9, 3) := by decide +kernel
theorem dX2_addStep_16 : decode cX2_addStep 16 = .ok (.aload_n 0, 1) := by decide +kernel
theorem dX2_addStep_17 : decode cX2_addStep 17 = .ok (.getfield 16, 3) := by decide +kernel
theorem dX2_addStep_20 : decode cX2_addStep 20 = .ok (.iload_n 1, 1) := by decide +kernel
theorem dX2_addStep_21 : decode cX2_addStep 21 = .ok (.iastore, 1) := by decide +kernel
theorem dX2_addStep_22 : decode cX2_addStep 22 = .ok (.aload_n 0, 1) := by decide +kernel
theorem dX2_addStep_23 : decode cX2_addStep 23 = .ok (.dup, 1) := by decide +kernel
theorem dX2_addStep_24 : decode cX2_addStep 24 = .ok (.getfield 16, 3) := by decide +kernel
theorem dX2_addStep_27 : decode cX2_addStep 27 = .ok (.iconst 1, 1) := by decide +kernel
theorem dX2_addStep_28 : decode cX2_addStep 28 = .ok (.iadd, 1) := by decide +kernel
theorem dX2_addStep_29 : decode cX2_addStep 29 = .ok (.putfield 16, 3) := by decide +kernel
theorem dX2_addStep_32 : decode cX2_addStep 32 = .ok (.return_, 1) := by decide +kernel
set_option maxRecDepth 20000 in
theorem ggX2_addUntold_X2_addTerm : GoodIn wsX2_addUntold wsX2_addTerm := goodIn_r _ [5, 6, 7, 8, 4, 9, 10, 11, 16, 17, 18] rfl (by decide +kernel)
set_option maxRecDepth 20000 in
theorem gX2_addUntold_X2_addTerm : GoodIn wsX2_addUntold (wsV RX2 24 RX2 yX2_addTerm wsX2_addTerm) := goodIn_app (goodIn_r _ [1, 2, 3, 4] rfl (by decide +kernel)) ggX2_addUntold_X2_addTerm
set_option maxRecDepth 20000 in
theorem ggX2_addUntold_X2_addStep : GoodIn wsX2_addUntold wsX2_addStep := goodIn_r _ [9, 10, 11, 16, 17, 18] rfl (by decide +kernel)
set_option maxRecDepth 20000 in
theorem gX2_addUntold_X2_addStep : GoodIn wsX2_addUntold (wsV RX2 20 RX2 yX2_addStep wsX2_addStep) := goodIn_app (goodIn_r _ [6, 7, 8, 4] rfl (by decide +kernel)) ggX2_addUntold_X2_addStep
set_option maxRecDepth 20000 in
theorem ggX2_addUntold_X2_addNumber : GoodIn wsX2_addUntold wsX2_addNumber := goodIn_r _ [15, 6, 7, 8, 4, 9, 10, 11, 16, 17, 18] rfl (by decide +kernel)
set_option maxRecDepth 20000 in
theorem gX2_addUntold_X2_addNumber : GoodIn wsX2_addUntold (wsV RX2 27 RX2 yX2_addNumber wsX2_addNumber) := goodIn_app (goodIn_r _ [12, 13, 14, 4] rfl (by decide +kernel)) ggX2_addUntold_X2_addNumber
theorem dX2_addUntold_0 : decode cX2_addUntold 0 = .ok (.aload_n 0, 1) := by decide +kernel
theorem dX2_addUntold_1 : decode cX2_addUntold 1 = .ok (.iconst 0, 1) := by decide +kernel
theorem dX2_addUntold_2 : decode cX2_addUntold 2 = .ok (.invokevirtual 24, 3) := by decide +kernel
theorem dX2_addUntold_5 : decode cX2_addUntold 5 = .ok (.aload_n 0, 1) := by decide +kernel
theorem dX2_addUntold_6 : decode cX2_addUntold 6 = .ok (.iconst 1, 1) := by decide +kernel
theorem dX2_addUntold_7 : decode cX2_addUntold 7 = .ok (.invokevirtual 24, 3) := by decide +kernel
theorem dX2_addUntold_10 : decode cX2_addUntold 10 = .ok (.aload_n 0, 1) := by decide +kernel
theorem dX2_addUntold_11 : decode cX2_addUntold 11 = .ok (.bipush (-27), 2) := by decide +kernel
theorem dX2_addUntold_13 : decode cX2_addUntold 13 = .ok (.invokevirtual 20, 3) := by decide +kernel
theorem dX2_addUntold_16 : decode cX2_addUntold 16 = .ok (.aload_n 0, 1) := by decide +kernel
theorem dX2_addUntold_17 : decode cX2_addUntold 17 = .ok (.iconst 2, 1) := by decide +kernel
theorem dX2_addUntold_18 : decode cX2_addUntold 18 = .ok (.invokevirtual 24, 3) := by decide +kernel
theorem dX2_addUntold_21 : decode cX2_addUntold 21 = .ok (.aload_n 0, 1) := by decide +kernel
theorem dX2_addUntold_22 : decode cX2_addUntold 22 = .ok (.iconst 3, 1) := by decide +kernel
theorem dX2_addUntold_23 : decode cX2_addUntold 23 = .ok (.invokevirtual 27, 3) := by decide +kernel
theorem dX2_addUntold_26 : decode cX2_addUntold 26 = .ok (.aload_n 0, 1) := by decide +kernel
theorem dX2_addUntold_27 : decode cX2_addUntold 27 = .ok (.bipush (-28), 2) := by decide +kernel
theorem dX2_addUntold_29 : decode cX2_addUntold 29 = .ok (.invokevirtual 20, 3) := by decide +kernel
theorem dX2_addUntold_32 : decode cX2_addUntold 32 = .ok (.aload_n 0, 1) := by decide +kernel
theorem dX2_addUntold_33 : decode cX2_addUntold 33 = .ok (.bipush (-26), 2) := by decide +kernel
theorem dX2_addUntold_35 : decode cX2_addUntold 35 = .ok (.invokevirtual 20, 3) := by decide +kernel
theorem dX2_addUntold_38 : decode cX2_addUntold 38 = .ok (.aload_n 0, 1) := by decide +kernel
theorem dX2_addUntold_39 : decode cX2_addUntold 39 = .ok (.iconst 3, 1) := by decide +kernel
theorem dX2_addUntold_40 : decode cX2_addUntold 40 = .ok (.invokevirtual 24, 3) := by decide +kernel
theorem dX2_addUntold_43 : decode cX2_addUntold 43 = .ok (.aload_n 0, 1) := by decide +kernel
theorem dX2_addUntold_44 : decode cX2_addUntold 44 = .ok (.bipush (-27), 2) := by decide +kernel
theorem dX2_addUntold_46 : decode cX2_addUntold 46 = .ok (.invokevirtual 20, 3) := by decide +kernel
theorem dX2_addUntold_49 : decode cX2_addUntold 49 = .ok (.return_, 1) := by decide +kernel
set_option maxRecDepth 20000 in
theorem ggX2_value_X2_unitValue : GoodIn wsX2_value wsX2_unitValue := goodIn_r _ [7] rfl (by decide +kernel)
set_option maxRecDepth 20000 in
theorem gX2_value_X2_unitValue : GoodIn wsX2_value (va_wsS RX2 30 yX2_unitValue wsX2_unitValue) := goodIn_app (goodIn_r _ [4, 5, 6] rfl (by decide +kernel)) ggX2_value_X2_unitValue
set_option maxRecDepth 20000 in
theorem ggX2_value_X2_joined : GoodIn wsX2_value wsX2_joined := goodIn_r _ [10] rfl (by decide +kernel)
set_option maxRecDepth 20000 in
theorem gX2_value_X2_joined : GoodIn wsX2_value (va_wsS RX2 34 yX2_joined wsX2_joined) := goodIn_app (goodIn_r _ [8, 9, 6] rfl (by decide +kernel)) ggX2_value_X2_joined
theorem dX2_value_0 : decode cX2_value 0 = .ok (.iconst 0, 1) := by decide +kernel
theorem dX2_value_1 : decode cX2_value 1 = .ok (.istore_n 2, 1) := by decide +kernel
theorem dX2_value_2 : decode cX2_value 2 = .ok (.iconst 0, 1) := by decide +kernel
theorem dX2_value_3 : decode cX2_value 3 = .ok (.istore_n 3, 1) := by decide +kernel
theorem dX2_value_4 : decode cX2_value 4 = .ok (.iload_n 3, 1) := by decide +kernel
theorem dX2_value_5 : decode cX2_value 5 = .ok (.aload_n 0, 1) := by decide +kernel
theorem dX2_value_6 : decode cX2_value 6 = .ok (.getfield 16, 3) := by decide +kernel
theorem dX2_value_9 : decode cX2_value 9 = .ok (.if_icmp .ge 125, 3) := by decide +kernel
theorem dX2_value_12 : decode cX2_value 12 = .ok (.aload_n 0, 1) := by decide +kernel
theorem dX2_value_13 : decode cX2_value 13 = .ok (.getfield 9, 3) := by decide +kernel
theorem dX2_value_16 : decode cX2_value 16 = .ok (.iload_n 3, 1) := by decide +kernel
theorem dX2_value_17 : decode cX2_value 17 = .ok (.iaload, 1) := by decide +kernel
theorem dX2_value_18 : decode cX2_value 18 = .ok (.istore 4, 2) := by decide +kernel
theorem dX2_value_20 : decode cX2_value 20 = .ok (.iload 4, 2) := by decide +kernel
theorem dX2_value_22 : decode cX2_value 22 = .ok (.bipush (-20), 2) := by decide +kernel
theorem dX2_value_24 : decode cX2_value 24 = .ok (.if_icmp .le 30, 3) := by decide +kernel
theorem dX2_value_27 : decode cX2_value 27 = .ok (.iload_n 2, 1) := by decide +kernel
theorem dX2_value_28 : decode cX2_value 28 = .ok (.aload_n 0, 1) := by decide +kernel
theorem dX2_value_29 : decode cX2_value 29 = .ok (.getfield 13, 3) := by decide +kernel
theorem dX2_value_32 : decode cX2_value 32 = .ok (.arraylength, 1) := by decide +kernel
theorem dX2_value_33 : decode cX2_value 33 = .ok (.if_icmp .ge 95, 3) := by decide +kernel
theorem dX2_value_36 : decode cX2_value 36 = .ok (.aload_n 0, 1) := by decide +kernel
theorem dX2_value_37 : decode cX2_value 37 = .ok (.getfield 13, 3) := by decide +kernel
theorem dX2_value_40 : decode cX2_value 40 = .ok (.iload_n 2, 1) := by decide +kernel
