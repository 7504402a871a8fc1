set_option maxRecDepth 20000 in
theorem ggX0_begin_X7_copyOf : GoodIn wsX0_begin wsX7_copyOf := goodIn_r _ [13, 14, 15, 16, 17, 18, 19, 20, 21, 22, 23, 24, 25, 30, 31, 32, 33, 34, 35, 36, 37] (by decide +kernel) (by decide +kernel)
set_option maxRecDepth 20000 in
theorem gX0_begin_X7_copyOf : GoodIn wsX0_begin (wsV RX0 28 RX7 yX7_copyOf wsX7_copyOf) := goodIn_app (goodIn_of _ (by decide +kernel)) ggX0_begin_X7_copyOf
theorem dX0_begin_0 : decode cX0_begin 0 = .ok (.aload_n 0, 1) := by decide +kernel
theorem dX0_begin_1 : decode cX0_begin 1 = .ok (.getfield 20, 3) := by decide +kernel
theorem dX0_begin_4 : decode cX0_begin 4 = .ok (.aload_n 0, 1) := by decide +kernel
theorem dX0_begin_5 : decode cX0_begin 5 = .ok (.getfield 24, 3) := by decide +kernel
theorem dX0_begin_8 : decode cX0_begin 8 = .ok (.aaload, 1) := by decide +kernel
theorem dX0_begin_9 : decode cX0_begin 9 = .ok (.astore_n 1, 1) := by decide +kernel
theorem dX0_begin_10 : decode cX0_begin 10 = .ok (.aload_n 0, 1) := by decide +kernel
theorem dX0_begin_11 : decode cX0_begin 11 = .ok (.aload_n 0, 1) := by decide +kernel
theorem dX0_begin_12 : decode cX0_begin 12 = .ok (.getfield 24, 3) := by decide +kernel
theorem dX0_begin_15 : decode cX0_begin 15 = .ok (.iconst 1, 1) := by decide +kernel
theorem dX0_begin_16 : decode cX0_begin 16 = .ok (.iadd, 1) := by decide +kernel
theorem dX0_begin_17 : decode cX0_begin 17 = .ok (.bipush 41, 2) := by decide +kernel
theorem dX0_begin_19 : decode cX0_begin 19 = .ok (.irem, 1) := by decide +kernel
theorem dX0_begin_20 : decode cX0_begin 20 = .ok (.putfield 24, 3) := by decide +kernel
theorem dX0_begin_23 : decode cX0_begin 23 = .ok (.aload_n 0, 1) := by decide +kernel
theorem dX0_begin_24 : decode cX0_begin 24 = .ok (.getfield 20, 3) := by decide +kernel
theorem dX0_begin_27 : decode cX0_begin 27 = .ok (.aload_n 0, 1) := by decide +kernel
theorem dX0_begin_28 : decode cX0_begin 28 = .ok (.getfield 24, 3) := by decide +kernel
theorem dX0_begin_31 : decode cX0_begin 31 = .ok (.aaload, 1) := by decide +kernel
theorem dX0_begin_32 : decode cX0_begin 32 = .ok (.aload_n 1, 1) := by decide +kernel
theorem dX0_begin_33 : decode cX0_begin 33 = .ok (.invokevirtual 28, 3) := by decide +kernel
theorem dX0_begin_36 : decode cX0_begin 36 = .ok (.aload_n 0, 1) := by decide +kernel
theorem dX0_begin_37 : decode cX0_begin 37 = .ok (.bipush 40, 2) := by decide +kernel
theorem dX0_begin_39 : decode cX0_begin 39 = .ok (.aload_n 0, 1) := by decide +kernel
theorem dX0_begin_40 : decode cX0_begin 40 = .ok (.getfield 9, 3) := by decide +kernel
theorem dX0_begin_43 : decode cX0_begin 43 = .ok (.iconst 1, 1) := by decide +kernel
theorem dX0_begin_44 : decode cX0_begin 44 = .ok (.iadd, 1) := by decide +kernel
theorem dX0_begin_45 : decode cX0_begin 45 = .ok (.invokestatic 32, 3) := by decide +kernel
theorem dX0_begin_48 : decode cX0_begin 48 = .ok (.putfield 9, 3) := by decide +kernel
theorem dX0_begin_51 : decode cX0_begin 51 = .ok (.aload_n 0, 1) := by decide +kernel
theorem dX0_begin_52 : decode cX0_begin 52 = .ok (.iconst 0, 1) := by decide +kernel
theorem dX0_begin_53 : decode cX0_begin 53 = .ok (.putfield 15, 3) := by decide +kernel
theorem dX0_begin_56 : decode cX0_begin 56 = .ok (.aload_n 0, 1) := by decide +kernel
theorem dX0_begin_57 : decode cX0_begin 57 = .ok (.getfield 20, 3) := by decide +kernel
theorem dX0_begin_60 : decode cX0_begin 60 = .ok (.aload_n 0, 1) := by decide +kernel
theorem dX0_begin_61 : decode cX0_begin 61 = .ok (.getfield 24, 3) := by decide +kernel
theorem dX0_begin_64 : decode cX0_begin 64 = .ok (.aaload, 1) := by decide +kernel
theorem dX0_begin_65 : decode cX0_begin 65 = .ok (.areturn, 1) := by decide +kernel
set_option maxRecDepth 20000 in
theorem ggX3_solve_X3_weigh : GoodIn wsX3_solve wsX3_weigh := goodIn_r _ [10, 2, 4, 11, 12, 13, 14, 15, 16, 17, 18, 19, 20, 21, 22, 23, 24, 25, 26, 27, 28, 29, 30, 31, 32, 33, 34, 35, 36, 37, 38, 39, 40, 41, 42, 43, 44, 45, 46, 47, 48, 49, 50, 51, 52, 53, 54, 55, 56, 57, 58, 59, 60, 61, 62, 63, 84, 85, 86, 87, 88, 89, 90, 91, 92, 93, 94, 95, 73, 74, 75, 76, 77, 78, 79, 80, 81, 82, 83, 96, 97, 98] (by decide +kernel) (by decide +kernel)
set_option maxRecDepth 20000 in
theorem gX3_solve_X3_weigh : GoodIn wsX3_solve (wsV RX3 29 RX3 yX3_weigh wsX3_weigh) := goodIn_app (goodIn_of _ (by decide +kernel)) ggX3_solve_X3_weigh
theorem dX3_solve_0 : decode cX3_solve 0 = .ok (.aload_n 0, 1) := by decide +kernel
theorem dX3_solve_1 : decode cX3_solve 1 = .ok (.aload_n 1, 1) := by decide +kernel
theorem dX3_solve_2 : decode cX3_solve 2 = .ok (.getfield 25, 3) := by decide +kernel
theorem dX3_solve_5 : decode cX3_solve 5 = .ok (.putfield 18, 3) := by decide +kernel
theorem dX3_solve_8 : decode cX3_solve 8 = .ok (.aload_n 0, 1) := by decide +kernel
theorem dX3_solve_9 : decode cX3_solve 9 = .ok (.aload_n 1, 1) := by decide +kernel
theorem dX3_solve_10 : decode cX3_solve 10 = .ok (.getfield 28, 3) := by decide +kernel
theorem dX3_solve_13 : decode cX3_solve 13 = .ok (.putfield 22, 3) := by decide +kernel
theorem dX3_solve_16 : decode cX3_solve 16 = .ok (.aload_n 0, 1) := by decide +kernel
theorem dX3_solve_17 : decode cX3_solve 17 = .ok (.aload_n 1, 1) := by decide +kernel
theorem dX3_solve_18 : decode cX3_solve 18 = .ok (.aload_n 2, 1) := by decide +kernel
theorem dX3_solve_19 : decode cX3_solve 19 = .ok (.invokevirtual 29, 3) := by decide +kernel
theorem dX3_solve_22 : decode cX3_solve 22 = .ok (.iconst 1, 1) := by decide +kernel
theorem dX3_solve_23 : decode cX3_solve 23 = .ok (.aload_n 0, 1) := by decide +kernel
theorem dX3_solve_24 : decode cX3_solve 24 = .ok (.getfield 22, 3) := by decide +kernel
theorem dX3_solve_27 : decode cX3_solve 27 = .ok (.ishl, 1) := by decide +kernel
theorem dX3_solve_28 : decode cX3_solve 28 = .ok (.istore_n 3, 1) := by decide +kernel
theorem dX3_solve_29 : decode cX3_solve 29 = .ok (.iconst 0, 1) := by decide +kernel
theorem dX3_solve_30 : decode cX3_solve 30 = .ok (.istore 4, 2) := by decide +kernel
theorem dX3_solve_32 : decode cX3_solve 32 = .ok (.iload 4, 2) := by decide +kernel
theorem dX3_solve_34 : decode cX3_solve 34 = .ok (.iload_n 3, 1) := by decide +kernel
theorem dX3_solve_35 : decode cX3_solve 35 = .ok (.if_icmp .ge 26, 3) := by decide +kernel
theorem dX3_solve_38 : decode cX3_solve 38 = .ok (.aload_n 0, 1) := by decide +kernel
theorem dX3_solve_39 : decode cX3_solve 39 = .ok (.getfield 15, 3) := by decide +kernel
theorem dX3_solve_42 : decode cX3_solve 42 = .ok (.aload_n 0, 1) := by decide +kernel
theorem dX3_solve_43 : decode cX3_solve 43 = .ok (.getfield 18, 3) := by decide +kernel
theorem dX3_solve_46 : decode cX3_solve 46 = .ok (.sipush 256, 3) := by decide +kernel
theorem dX3_solve_49 : decode cX3_solve 49 = .ok (.imul, 1) := by decide +kernel
theorem dX3_solve_50 : decode cX3_solve 50 = .ok (.iload 4, 2) := by decide +kernel
theorem dX3_solve_52 : decode cX3_solve 52 = .ok (.iadd, 1) := by decide +kernel
theorem dX3_solve_53 : decode cX3_solve 53 = .ok (.iconst 0, 1) := by decide +kernel
theorem dX3_solve_54 : decode cX3_solve 54 = .ok (.iastore, 1) := by decide +kernel
theorem dX3_solve_55 : decode cX3_solve 55 = .ok (.iinc 4 1, 3) := by decide +kernel
theorem dX3_solve_58 : decode cX3_solve 58 = .ok (.goto (-26), 3) := by decide +kernel
theorem dX3_solve_61 : decode cX3_solve 61 = .ok (.aload_n 0, 1) := by decide +kernel
theorem dX3_solve_62 : decode cX3_solve 62 = .ok (.getfield 18, 3) := by decide +kernel
theorem dX3_solve_65 : decode cX3_solve 65 = .ok (.iconst 1, 1) := by decide +kernel
theorem dX3_solve_66 : decode cX3_solve 66 = .ok (.isub, 1) := by decide +kernel
theorem dX3_solve_67 : decode cX3_solve 67 = .ok (.istore 4, 2) := by decide +kernel
theorem dX3_solve_69 : decode cX3_solve 69 = .ok (.iload 4, 2) := by decide +kernel
theorem dX3_solve_71 : decode cX3_solve 71 = .ok (.ifCond .lt 46, 3) := by decide +kernel
theorem dX3_solve_117 : decode cX3_solve 117 = .ok (.return_, 1) := by decide +kernel
theorem dX3_weigh_0 : decode cX3_weigh 0 = .ok (.iconst 0, 1) := by decide +kernel
theorem dX3_weigh_1 : decode cX3_weigh 1 = .ok (.istore_n 3, 1) := by decide +kernel
theorem dX3_weigh_2 : decode cX3_weigh 2 = .ok (.iload_n 3, 1) := by decide +kernel
theorem dX3_weigh_3 : decode cX3_weigh 3 = .ok (.aload_n 0, 1) := by decide +kernel
theorem dX3_weigh_4 : decode cX3_weigh 4 = .ok (.getfield 18, 3) := by decide +kernel
theorem dX3_weigh_7 : decode cX3_weigh 7 = .ok (.if_icmp .ge 74, 3) := by decide +kernel
theorem dX3_weigh_81 : decode cX3_weigh 81 = .ok (.return_, 1) := by decide +kernel
theorem dX3_count_0 : decode cX3_count 0 = .ok (.aload_n 0, 1) := by decide +kernel
theorem dX3_count_1 : decode cX3_count 1 = .ok (.getfield 15, 3) := by decide +kernel
theorem dX3_count_4 : decode cX3_count 4 = .ok (.iconst 0, 1) := by decide +kernel
theorem dX3_count_5 : decode cX3_count 5 = .ok (.iaload, 1) := by decide +kernel
theorem dX3_count_6 : decode cX3_count 6 = .ok (.ldc 59, 2) := by decide +kernel
theorem dX3_count_8 : decode cX3_count 8 = .ok (.idiv, 1) := by decide +kernel
theorem dX3_count_9 : decode cX3_count 9 = .ok (.ireturn, 1) := by decide +kernel
theorem dX3_together_0 : decode cX3_together 0 = .ok (.aload_n 0, 1) := by decide +kernel
theorem dX3_together_1 : decode cX3_together 1 = .ok (.getfield 15, 3) := by decide +kernel
theorem dX3_together_4 : decode cX3_together 4 = .ok (.iconst 0, 1) := by decide +kernel
theorem dX3_together_5 : decode cX3_together 5 = .ok (.iaload, 1) := by decide +kernel
theorem dX3_together_6 : decode cX3_together 6 = .ok (.ldc 59, 2) := by decide +kernel
theorem dX3_together_8 : decode cX3_together 8 = .ok (.irem, 1) := by decide +kernel
theorem dX3_together_9 : decode cX3_together 9 = .ok (.ireturn, 1) := by decide +kernel
theorem dX3_tell_0 : decode cX3_tell 0 = .ok (.iconst 0, 1) := by decide +kernel
theorem dX3_tell_1 : decode cX3_tell 1 = .ok (.istore_n 3, 1) := by decide +kernel
theorem dX3_tell_2 : decode cX3_tell 2 = .ok (.iconst 0, 1) := by decide +kernel
theorem dX3_tell_3 : decode cX3_tell 3 = .ok (.istore 4, 2) := by decide +kernel
theorem dX3_tell_5 : decode cX3_tell 5 = .ok (.iload 4, 2) := by decide +kernel
theorem dX3_tell_7 : decode cX3_tell 7 = .ok (.aload_n 0, 1) := by decide +kernel
theorem dX3_tell_8 : decode cX3_tell 8 = .ok (.getfield 18, 3) := by decide +kernel
theorem dX3_tell_11 : decode cX3_tell 11 = .ok (.if_icmp .ge 101, 3) := by decide +kernel
theorem dX3_tell_112 : decode cX3_tell 112 = .ok (.return_, 1) := by decide +kernel
set_option maxRecDepth 20000 in
theorem ggX4_pass_X4_thrownOut : GoodIn wsX4_pass wsX4_thrownOut := goodIn_r _ [9, 1, 2, 10, 11, 12, 13, 14, 15, 16, 17, 18, 8, 19, 20, 21, 22, 23, 24, 25, 26, 27, 28, 29, 30, 3, 4, 31, 32, 33, 34, 35, 36, 37, 38, 39, 40, 41, 42, 43, 44, 45, 46, 47, 48, 78, 79, 80, 81, 82, 83, 84, 85, 86, 87, 88, 89, 90, 91, 92, 93, 94, 95, 96, 97, 98, 99] (by decide +kernel) (by decide +kernel)
set_option maxRecDepth 20000 in
theorem gX4_pass_X4_thrownOut : GoodIn wsX4_pass (wsV RX4 100 RX4 yX4_thrownOut wsX4_thrownOut) := goodIn_app (goodIn_of _ (by decide +kernel)) ggX4_pass_X4_thrownOut
set_option maxRecDepth 20000 in
theorem ggX4_pass_X4_draw : GoodIn wsX4_pass wsX4_draw := goodIn_r _ [58, 59, 60, 61, 62, 63, 64, 13, 65, 66, 78, 79, 80, 81, 82, 83, 84, 85, 86, 87, 88, 89, 90, 91, 92, 93, 94, 95, 96] (by decide +kernel) (by decide +kernel)
set_option maxRecDepth 20000 in
theorem gX4_pass_X4_draw : GoodIn wsX4_pass (wsV RX4 108 RX4 yX4_draw wsX4_draw) := goodIn_app (goodIn_of _ (by decide +kernel)) ggX4_pass_X4_draw
set_option maxRecDepth 20000 in
theorem ggX4_pass_X4_die : GoodIn wsX4_pass wsX4_die := goodIn_r _ [70, 71, 72, 26, 73, 74, 75, 8, 76, 59, 77, 89, 90, 91, 92, 93, 94, 95, 96, 78, 79, 80, 81, 82, 83, 84, 85, 86, 87, 88] (by decide +kernel) (by decide +kernel)
set_option maxRecDepth 20000 in
theorem gX4_pass_X4_die : GoodIn wsX4_pass (wsV RX4 111 RX4 yX4_die wsX4_die) := goodIn_app (goodIn_of _ (by decide +kernel)) ggX4_pass_X4_die
theorem dX4_pass_0 : decode cX4_pass 0 = .ok (.aload_n 0, 1) := by decide +kernel
theorem dX4_pass_1 : decode cX4_pass 1 = .ok (.aload_n 1, 1) := by decide +kernel
theorem dX4_pass_2 : decode cX4_pass 2 = .ok (.invokevirtual 100, 3) := by decide +kernel
theorem dX4_pass_5 : decode cX4_pass 5 = .ok (.istore_n 2, 1) := by decide +kernel
theorem dX4_pass_6 : decode cX4_pass 6 = .ok (.iconst 0, 1) := by decide +kernel
theorem dX4_pass_7 : decode cX4_pass 7 = .ok (.istore_n 3, 1) := by decide +kernel
theorem dX4_pass_8 : decode cX4_pass 8 = .ok (.iload_n 3, 1) := by decide +kernel
theorem dX4_pass_9 : decode cX4_pass 9 = .ok (.aload_n 0, 1) := by decide +kernel
theorem dX4_pass_10 : decode cX4_pass 10 = .ok (.getfield 18, 3) := by decide +kernel
theorem dX4_pass_13 : decode cX4_pass 13 = .ok (.if_icmp .ge 58, 3) := by decide +kernel
theorem dX4_pass_71 : decode cX4_pass 71 = .ok (.aload_n 0, 1) := by decide +kernel
theorem dX4_pass_72 : decode cX4_pass 72 = .ok (.aload_n 1, 1) := by decide +kernel
theorem dX4_pass_73 : decode cX4_pass 73 = .ok (.aload_n 0, 1) := by decide +kernel
theorem dX4_pass_74 : decode cX4_pass 74 = .ok (.aload_n 1, 1) := by decide +kernel
theorem dX4_pass_75 : decode cX4_pass 75 = .ok (.invokevirtual 108, 3) := by decide +kernel
theorem dX4_pass_78 : decode cX4_pass 78 = .ok (.invokevirtual 111, 3) := by decide +kernel
theorem dX4_pass_81 : decode cX4_pass 81 = .ok (.aload_n 1, 1) := by decide +kernel
theorem dX4_pass_82 : decode cX4_pass 82 = .ok (.dup, 1) := by decide +kernel
theorem dX4_pass_83 : decode cX4_pass 83 = .ok (.getfield 81, 3) := by decide +kernel
theorem dX4_pass_86 : decode cX4_pass 86 = .ok (.iconst 1, 1) := by decide +kernel
theorem dX4_pass_87 : decode cX4_pass 87 = .ok (.iadd, 1) := by decide +kernel
theorem dX4_pass_88 : decode cX4_pass 88 = .ok (.putfield 81, 3) := by decide +kernel
theorem dX4_pass_91 : decode cX4_pass 91 = .ok (.iload_n 2, 1) := by decide +kernel
theorem dX4_pass_92 : decode cX4_pass 92 = .ok (.ireturn, 1) := by decide +kernel
theorem dX4_draw_0 : decode cX4_draw 0 = .ok (.iconst 0, 1) := by decide +kernel
theorem dX4_draw_1 : decode cX4_draw 1 = .ok (.istore_n 2, 1) := by decide +kernel
theorem dX4_draw_2 : decode cX4_draw 2 = .ok (.iconst 0, 1) := by decide +kernel
theorem dX4_draw_3 : decode cX4_draw 3 = .ok (.istore_n 3, 1) := by decide +kernel
theorem dX4_draw_4 : decode cX4_draw 4 = .ok (.iload_n 3, 1) := by decide +kernel
theorem dX4_draw_5 : decode cX4_draw 5 = .ok (.aload_n 0, 1) := by decide +kernel
theorem dX4_draw_6 : decode cX4_draw 6 = .ok (.getfield 9, 3) := by decide +kernel
theorem dX4_draw_9 : decode cX4_draw 9 = .ok (.if_icmp .ge 56, 3) := by decide +kernel
theorem dX4_draw_65 : decode cX4_draw 65 = .ok (.iload_n 2, 1) := by decide +kernel
theorem dX4_draw_66 : decode cX4_draw 66 = .ok (.ireturn, 1) := by decide +kernel
theorem dX4_die_0 : decode cX4_die 0 = .ok (.aload_n 1, 1) := by decide +kernel
theorem dX4_die_1 : decode cX4_die 1 = .ok (.dup, 1) := by decide +kernel
theorem dX4_die_2 : decode cX4_die 2 = .ok (.getfield 121, 3) := by decide +kernel
theorem dX4_die_5 : decode cX4_die 5 = .ok (.iload_n 2, 1) := by decide +kernel
theorem dX4_die_6 : decode cX4_die 6 = .ok (.iconst (-1), 1) := by decide +kernel
theorem dX4_die_7 : decode cX4_die 7 = .ok (.ixor, 1) := by decide +kernel
theorem dX4_die_8 : decode cX4_die 8 = .ok (.iand, 1) := by decide +kernel
theorem dX4_die_9 : decode cX4_die 9 = .ok (.putfield 121, 3) := by decide +kernel
theorem dX4_die_12 : decode cX4_die 12 = .ok (.iconst 0, 1) := by decide +kernel
theorem dX4_die_13 : decode cX4_die 13 = .ok (.istore_n 3, 1) := by decide +kernel
theorem dX4_die_14 : decode cX4_die 14 = .ok (.iload_n 3, 1) := by decide +kernel
theorem dX4_die_15 : decode cX4_die 15 = .ok (.aload_n 0, 1) := by decide +kernel
theorem dX4_die_16 : decode cX4_die 16 = .ok (.getfield 15, 3) := by decide +kernel
theorem dX4_die_19 : decode cX4_die 19 = .ok (.if_icmp .ge 29, 3) := by decide +kernel
theorem dX4_die_48 : decode cX4_die 48 = .ok (.return_, 1) := by decide +kernel
theorem dX6_foresee_0 : decode cX6_foresee 0 = .ok (.aload_n 0, 1) := by decide +kernel
theorem dX6_foresee_1 : decode cX6_foresee 1 = .ok (.getfield 35, 3) := by decide +kernel
theorem dX6_foresee_4 : decode cX6_foresee 4 = .ok (.ifCond .eq 4, 3) := by decide +kernel
theorem dX6_foresee_8 : decode cX6_foresee 8 = .ok (.aload_n 0, 1) := by decide +kernel
theorem dX6_foresee_9 : decode cX6_foresee 9 = .ok (.iconst 1, 1) := by decide +kernel
theorem dX6_foresee_10 : decode cX6_foresee 10 = .ok (.putfield 35, 3) := by decide +kernel
theorem dX6_foresee_13 : decode cX6_foresee 13 = .ok (.aload_n 0, 1) := by decide +kernel
theorem dX6_foresee_14 : decode cX6_foresee 14 = .ok (.aload_n 1, 1) := by decide +kernel
theorem dX6_foresee_15 : decode cX6_foresee 15 = .ok (.getfield 42, 3) := by decide +kernel
theorem dX6_foresee_18 : decode cX6_foresee 18 = .ok (.ifCond .le 7, 3) := by decide +kernel
theorem dX6_foresee_25 : decode cX6_foresee 25 = .ok (.iconst 0, 1) := by decide +kernel
theorem dX6_foresee_26 : decode cX6_foresee 26 = .ok (.putfield 39, 3) := by decide +kernel
theorem dX6_foresee_29 : decode cX6_foresee 29 = .ok (.iconst 0, 1) := by decide +kernel
theorem dX6_foresee_30 : decode cX6_foresee 30 = .ok (.istore_n 2, 1) := by decide +kernel
theorem dX6_foresee_31 : decode cX6_foresee 31 = .ok (.iload_n 2, 1) := by decide +kernel
theorem dX6_foresee_32 : decode cX6_foresee 32 = .ok (.aload_n 1, 1) := by decide +kernel
theorem dX6_foresee_33 : decode cX6_foresee 33 = .ok (.getfield 47, 3) := by decide +kernel
theorem dX6_foresee_36 : decode cX6_foresee 36 = .ok (.if_icmp .ge 119, 3) := by decide +kernel
theorem dX6_foresee_155 : decode cX6_foresee 155 = .ok (.return_, 1) := by decide +kernel
theorem dX6_allow_0 : decode cX6_allow 0 = .ok (.iconst 0, 1) := by decide +kernel
theorem dX6_allow_1 : decode cX6_allow 1 = .ok (.istore_n 3, 1) := by decide +kernel
theorem dX6_allow_2 : decode cX6_allow 2 = .ok (.iload_n 3, 1) := by decide +kernel
theorem dX6_allow_3 : decode cX6_allow 3 = .ok (.aload_n 0, 1) := by decide +kernel
theorem dX6_allow_4 : decode cX6_allow 4 = .ok (.getfield 9, 3) := by decide +kernel
theorem dX6_allow_7 : decode cX6_allow 7 = .ok (.if_icmp .ge 46, 3) := by decide +kernel
theorem dX6_allow_53 : decode cX6_allow 53 = .ok (.aload_n 0, 1) := by decide +kernel
theorem dX6_allow_54 : decode cX6_allow 54 = .ok (.getfield 39, 3) := by decide +kernel
theorem dX6_allow_57 : decode cX6_allow 57 = .ok (.ireturn, 1) := by decide +kernel
theorem dX7_copyOf_0 : decode cX7_copyOf 0 = .ok (.aload_n 1, 1) := by decide +kernel
theorem dX7_copyOf_1 : decode cX7_copyOf 1 = .ok (.getfield 9, 3) := by decide +kernel
theorem dX7_copyOf_4 : decode cX7_copyOf 4 = .ok (.iconst 0, 1) := by decide +kernel
theorem dX7_copyOf_5 : decode cX7_copyOf 5 = .ok (.aload_n 0, 1) := by decide +kernel
theorem dX7_copyOf_6 : decode cX7_copyOf 6 = .ok (.getfield 9, 3) := by decide +kernel
theorem dX7_copyOf_9 : decode cX7_copyOf 9 = .ok (.iconst 0, 1) := by decide +kernel
theorem dX7_copyOf_10 : decode cX7_copyOf 10 = .ok (.bipush 8, 2) := by decide +kernel
theorem dX7_copyOf_12 : decode cX7_copyOf 12 = .ok (.invokestatic 43, 3) := by decide +kernel
theorem dX7_copyOf_15 : decode cX7_copyOf 15 = .ok (.aload_n 1, 1) := by decide +kernel
theorem dX7_copyOf_16 : decode cX7_copyOf 16 = .ok (.getfield 15, 3) := by decide +kernel
theorem dX7_copyOf_19 : decode cX7_copyOf 19 = .ok (.iconst 0, 1) := by decide +kernel
theorem dX7_copyOf_20 : decode cX7_copyOf 20 = .ok (.aload_n 0, 1) := by decide +kernel
theorem dX7_copyOf_21 : decode cX7_copyOf 21 = .ok (.getfield 15, 3) := by decide +kernel
theorem dX7_copyOf_24 : decode cX7_copyOf 24 = .ok (.iconst 0, 1) := by decide +kernel
theorem dX7_copyOf_25 : decode cX7_copyOf 25 = .ok (.bipush 7, 2) := by decide +kernel
theorem dX7_copyOf_27 : decode cX7_copyOf 27 = .ok (.invokestatic 43, 3) := by decide +kernel
theorem dX7_copyOf_30 : decode cX7_copyOf 30 = .ok (.aload_n 1, 1) := by decide +kernel
theorem dX7_copyOf_31 : decode cX7_copyOf 31 = .ok (.getfield 18, 3) := by decide +kernel
theorem dX7_copyOf_34 : decode cX7_copyOf 34 = .ok (.iconst 0, 1) := by decide +kernel
theorem dX7_copyOf_35 : decode cX7_copyOf 35 = .ok (.aload_n 0, 1) := by decide +kernel
theorem dX7_copyOf_36 : decode cX7_copyOf 36 = .ok (.getfield 18, 3) := by decide +kernel
theorem dX7_copyOf_39 : decode cX7_copyOf 39 = .ok (.iconst 0, 1) := by decide +kernel
theorem dX7_copyOf_40 : decode cX7_copyOf 40 = .ok (.bipush 7, 2) := by decide +kernel
theorem dX7_copyOf_42 : decode cX7_copyOf 42 = .ok (.invokestatic 43, 3) := by decide +kernel
theorem dX7_copyOf_45 : decode cX7_copyOf 45 = .ok (.aload_n 1, 1) := by decide +kernel
theorem dX7_copyOf_46 : decode cX7_copyOf 46 = .ok (.getfield 21, 3) := by decide +kernel
theorem dX7_copyOf_49 : decode cX7_copyOf 49 = .ok (.iconst 0, 1) := by decide +kernel
theorem dX7_copyOf_50 : decode cX7_copyOf 50 = .ok (.aload_n 0, 1) := by decide +kernel
theorem dX7_copyOf_51 : decode cX7_copyOf 51 = .ok (.getfield 21, 3) := by decide +kernel
theorem dX7_copyOf_54 : decode cX7_copyOf 54 = .ok (.iconst 0, 1) := by decide +kernel
theorem dX7_copyOf_55 : decode cX7_copyOf 55 = .ok (.bipush 7, 2) := by decide +kernel
theorem dX7_copyOf_57 : decode cX7_copyOf 57 = .ok (.invokestatic 43, 3) := by decide +kernel
theorem dX7_copyOf_60 : decode cX7_copyOf 60 = .ok (.aload_n 1, 1) := by decide +kernel
theorem dX7_copyOf_61 : decode cX7_copyOf 61 = .ok (.getfield 24, 3) := by decide +kernel
theorem dX7_copyOf_64 : decode cX7_copyOf 64 = .ok (.iconst 0, 1) := by decide +kernel
theorem dX7_copyOf_65 : decode cX7_copyOf 65 = .ok (.aload_n 0, 1) := by decide +kernel
theorem dX7_copyOf_66 : decode cX7_copyOf 66 = .ok (.getfield 24, 3) := by decide +kernel
theorem dX7_copyOf_69 : decode cX7_copyOf 69 = .ok (.iconst 0, 1) := by decide +kernel
theorem dX7_copyOf_70 : decode cX7_copyOf 70 = .ok (.bipush 7, 2) := by decide +kernel
theorem dX7_copyOf_72 : decode cX7_copyOf 72 = .ok (.invokestatic 43, 3) := by decide +kernel
theorem dX7_copyOf_75 : decode cX7_copyOf 75 = .ok (.aload_n 0, 1) := by decide +kernel
theorem dX7_copyOf_76 : decode cX7_copyOf 76 = .ok (.aload_n 1, 1) := by decide +kernel
theorem dX7_copyOf_77 : decode cX7_copyOf 77 = .ok (.getfield 27, 3) := by decide +kernel
theorem dX7_copyOf_80 : decode cX7_copyOf 80 = .ok (.putfield 27, 3) := by decide +kernel
theorem dX7_copyOf_83 : decode cX7_copyOf 83 = .ok (.aload_n 0, 1) := by decide +kernel
theorem dX7_copyOf_84 : decode cX7_copyOf 84 = .ok (.aload_n 1, 1) := by decide +kernel
theorem dX7_copyOf_85 : decode cX7_copyOf 85 = .ok (.getfield 31, 3) := by decide +kernel
theorem dX7_copyOf_88 : decode cX7_copyOf 88 = .ok (.putfield 31, 3) := by decide +kernel
theorem dX7_copyOf_91 : decode cX7_copyOf 91 = .ok (.aload_n 0, 1) := by decide +kernel
theorem dX7_copyOf_92 : decode cX7_copyOf 92 = .ok (.aload_n 1, 1) := by decide +kernel
theorem dX7_copyOf_93 : decode cX7_copyOf 93 = .ok (.getfield 34, 3) := by decide +kernel
theorem dX7_copyOf_96 : decode cX7_copyOf 96 = .ok (.putfield 34, 3) := by decide +kernel
theorem dX7_copyOf_99 : decode cX7_copyOf 99 = .ok (.return_, 1) := by decide +kernel
set_option maxRecDepth 20000 in
theorem ggX8_feed_X8_putOnTape : GoodIn wsX8_feed wsX8_putOnTape := goodIn_r _ [6, 1, 7, 8, 9, 10, 11, 12, 13, 14, 15, 16, 17, 18, 19, 20, 21] (by decide +kernel) (by decide +kernel)
set_option maxRecDepth 20000 in
theorem gX8_feed_X8_putOnTape : GoodIn wsX8_feed (wsV RX8 83 RX8 yX8_putOnTape wsX8_putOnTape) := goodIn_app (goodIn_of _ (by decide +kernel)) ggX8_feed_X8_putOnTape
theorem dX8_feed_0 : decode cX8_feed 0 = .ok (.aload_n 0, 1) := by decide +kernel
theorem dX8_feed_1 : decode cX8_feed 1 = .ok (.getfield 13, 3) := by decide +kernel
theorem dX8_feed_4 : decode cX8_feed 4 = .ok (.bipush 20, 2) := by decide +kernel
theorem dX8_feed_6 : decode cX8_feed 6 = .ok (.iadd, 1) := by decide +kernel
theorem dX8_feed_7 : decode cX8_feed 7 = .ok (.sipush 1600, 3) := by decide +kernel
theorem dX8_feed_10 : decode cX8_feed 10 = .ok (.if_icmp .le 5, 3) := by decide +kernel
theorem dX8_feed_15 : decode cX8_feed 15 = .ok (.aload_n 0, 1) := by decide +kernel
theorem dX8_feed_16 : decode cX8_feed 16 = .ok (.iload_n 1, 1) := by decide +kernel
theorem dX8_feed_17 : decode cX8_feed 17 = .ok (.invokevirtual 83, 3) := by decide +kernel
theorem dX8_feed_20 : decode cX8_feed 20 = .ok (.aload_n 0, 1) := by decide +kernel
theorem dX8_feed_21 : decode cX8_feed 21 = .ok (.iload_n 2, 1) := by decide +kernel
theorem dX8_feed_22 : decode cX8_feed 22 = .ok (.invokevirtual 83, 3) := by decide +kernel
theorem dX8_feed_25 : decode cX8_feed 25 = .ok (.aload_n 0, 1) := by decide +kernel
theorem dX8_feed_26 : decode cX8_feed 26 = .ok (.iload_n 3, 1) := by decide +kernel
theorem dX8_feed_27 : decode cX8_feed 27 = .ok (.invokevirtual 83, 3) := by decide +kernel
theorem dX8_feed_30 : decode cX8_feed 30 = .ok (.aload_n 0, 1) := by decide +kernel
theorem dX8_feed_31 : decode cX8_feed 31 = .ok (.iload 4, 2) := by decide +kernel
theorem dX8_feed_33 : decode cX8_feed 33 = .ok (.invokevirtual 83, 3) := by decide +kernel
theorem dX8_feed_36 : decode cX8_feed 36 = .ok (.aload_n 0, 1) := by decide +kernel
theorem dX8_feed_37 : decode cX8_feed 37 = .ok (.iload 5, 2) := by decide +kernel
theorem dX8_feed_39 : decode cX8_feed 39 = .ok (.invokevirtual 83, 3) := by decide +kernel
theorem dX8_feed_42 : decode cX8_feed 42 = .ok (.aload_n 0, 1) := by decide +kernel
theorem dX8_feed_43 : decode cX8_feed 43 = .ok (.getfield 13, 3) := by decide +kernel
theorem dX8_feed_46 : decode cX8_feed 46 = .ok (.ireturn, 1) := by decide +kernel
theorem dX8_putOnTape_0 : decode cX8_putOnTape 0 = .ok (.bipush 24, 2) := by decide +kernel
theorem dX8_putOnTape_2 : decode cX8_putOnTape 2 = .ok (.istore_n 2, 1) := by decide +kernel
theorem dX8_putOnTape_3 : decode cX8_putOnTape 3 = .ok (.iload_n 2, 1) := by decide +kernel
theorem dX8_putOnTape_4 : decode cX8_putOnTape 4 = .ok (.ifCond .lt 44, 3) := by decide +kernel
theorem dX8_putOnTape_7 : decode cX8_putOnTape 7 = .ok (.aload_n 0, 1) := by decide +kernel
theorem dX8_putOnTape_8 : decode cX8_putOnTape 8 = .ok (.getfield 13, 3) := by decide +kernel
theorem dX8_putOnTape_11 : decode cX8_putOnTape 11 = .ok (.aload_n 0, 1) := by decide +kernel
theorem dX8_putOnTape_12 : decode cX8_putOnTape 12 = .ok (.getfield 9, 3) := by decide +kernel
theorem dX8_putOnTape_15 : decode cX8_putOnTape 15 = .ok (.arraylength, 1) := by decide +kernel
theorem dX8_putOnTape_16 : decode cX8_putOnTape 16 = .ok (.if_icmp .ge 26, 3) := by decide +kernel
theorem dX8_putOnTape_19 : decode cX8_putOnTape 19 = .ok (.aload_n 0, 1) := by decide +kernel
theorem dX8_putOnTape_20 : decode cX8_putOnTape 20 = .ok (.getfield 9, 3) := by decide +kernel
theorem dX8_putOnTape_23 : decode cX8_putOnTape 23 = .ok (.aload_n 0, 1) := by decide +kernel
theorem dX8_putOnTape_24 : decode cX8_putOnTape 24 = .ok (.getfield 13, 3) := by decide +kernel
theorem dX8_putOnTape_27 : decode cX8_putOnTape 27 = .ok (.iload_n 1, 1) := by decide +kernel
theorem dX8_putOnTape_28 : decode cX8_putOnTape 28 = .ok (.iload_n 2, 1) := by decide +kernel
theorem dX8_putOnTape_29 : decode cX8_putOnTape 29 = .ok (.iushr, 1) := by decide +kernel
theorem dX8_putOnTape_30 : decode cX8_putOnTape 30 = .ok (.i2b, 1) := by decide +kernel
theorem dX8_putOnTape_31 : decode cX8_putOnTape 31 = .ok (.bastore, 1) := by decide +kernel
theorem dX8_putOnTape_32 : decode cX8_putOnTape 32 = .ok (.aload_n 0, 1) := by decide +kernel
theorem dX8_putOnTape_33 : decode cX8_putOnTape 33 = .ok (.dup, 1) := by decide +kernel
theorem dX8_putOnTape_34 : decode cX8_putOnTape 34 = .ok (.getfield 13, 3) := by decide +kernel
theorem dX8_putOnTape_37 : decode cX8_putOnTape 37 = .ok (.iconst 1, 1) := by decide +kernel
theorem dX8_putOnTape_38 : decode cX8_putOnTape 38 = .ok (.iadd, 1) := by decide +kernel
theorem dX8_putOnTape_39 : decode cX8_putOnTape 39 = .ok (.putfield 13, 3) := by decide +kernel
theorem dX8_putOnTape_42 : decode cX8_putOnTape 42 = .ok (.iinc 2 (-8), 3) := by decide +kernel
theorem dX8_putOnTape_45 : decode cX8_putOnTape 45 = .ok (.goto (-42), 3) := by decide +kernel
theorem dX8_putOnTape_48 : decode cX8_putOnTape 48 = .ok (.return_, 1) := by decide +kernel
set_option maxRecDepth 20000 in
theorem ggX8_quarter_X0_current : GoodIn wsX8_quarter wsX0_current := goodIn_r _ [8, 9, 10, 136, 137, 138, 139] (by decide +kernel) (by decide +kernel)
set_option maxRecDepth 20000 in
theorem gX8_quarter_X0_current : GoodIn wsX8_quarter (wsV RX8 115 RX0 yX0_current wsX0_current) := goodIn_app (goodIn_of _ (by decide +kernel)) ggX8_quarter_X0_current
set_option maxRecDepth 20000 in
theorem ggX8_quarter_X0_begin : GoodIn wsX8_quarter wsX0_begin := goodIn_r _ [14, 9, 10, 15, 16, 17, 18, 19, 20, 21, 22, 23, 24, 25, 26, 27, 28, 29, 30, 31, 32, 33, 34, 35, 36, 37, 136, 137, 138, 139, 128, 129, 130, 131, 132, 133, 134, 135] (by decide +kernel) (by decide +kernel)
set_option maxRecDepth 20000 in
theorem gX8_quarter_X0_begin : GoodIn wsX8_quarter (wsV RX8 179 RX0 yX0_begin wsX0_begin) := goodIn_app (goodIn_of _ (by decide +kernel)) ggX8_quarter_X0_begin
set_option maxRecDepth 20000 in
theorem ggX8_quarter_X4_pass : GoodIn wsX8_quarter wsX4_pass := goodIn_r _ [42, 43, 44, 45, 46, 47, 48, 49, 41, 50, 51, 52, 53, 24, 54, 26, 55, 56, 57, 58, 59, 60, 61, 62, 63, 64, 65, 66, 67, 68, 69, 70, 71, 72, 73, 74, 75, 76, 77, 78, 79, 80, 81, 82, 83, 84, 85, 86, 87, 88, 89, 90, 91, 31, 32, 92, 93, 94, 95, 96, 97, 98, 99, 100, 101, 102, 35, 103, 104, 105, 106, 107, 108, 109, 110, 111, 112, 113, 140, 141, 142, 143, 144, 145, 146, 147, 148, 149, 150, 128, 129, 130, 131, 132, 133, 134, 135, 151, 152, 153] (by decide +kernel) (by decide +kernel)
set_option maxRecDepth 20000 in
theorem gX8_quarter_X4_pass : GoodIn wsX8_quarter (wsV RX8 182 RX4 yX4_pass wsX4_pass) := goodIn_app (goodIn_of _ (by decide +kernel)) ggX8_quarter_X4_pass
theorem dX8_quarter_0 : decode cX8_quarter 0 = .ok (.aload_n 0, 1) := by decide +kernel
theorem dX8_quarter_1 : decode cX8_quarter 1 = .ok (.getfield 34, 3) := by decide +kernel
theorem dX8_quarter_4 : decode cX8_quarter 4 = .ok (.invokevirtual 115, 3) := by decide +kernel
theorem dX8_quarter_7 : decode cX8_quarter 7 = .ok (.getfield 176, 3) := by decide +kernel
theorem dX8_quarter_10 : decode cX8_quarter 10 = .ok (.sipush 999, 3) := by decide +kernel
theorem dX8_quarter_13 : decode cX8_quarter 13 = .ok (.if_icmp .lt 5, 3) := by decide +kernel
theorem dX8_quarter_18 : decode cX8_quarter 18 = .ok (.aload_n 0, 1) := by decide +kernel
theorem dX8_quarter_19 : decode cX8_quarter 19 = .ok (.getfield 27, 3) := by decide +kernel
theorem dX8_quarter_22 : decode cX8_quarter 22 = .ok (.aload_n 0, 1) := by decide +kernel
theorem dX8_quarter_23 : decode cX8_quarter 23 = .ok (.getfield 34, 3) := by decide +kernel
theorem dX8_quarter_26 : decode cX8_quarter 26 = .ok (.invokevirtual 179, 3) := by decide +kernel
theorem dX8_quarter_29 : decode cX8_quarter 29 = .ok (.invokevirtual 182, 3) := by decide +kernel
theorem dX8_quarter_32 : decode cX8_quarter 32 = .ok (.ireturn, 1) := by decide +kernel
set_option maxRecDepth 20000 in
theorem ggX8_letting_X0_current : GoodIn wsX8_letting wsX0_current := goodIn_r _ [11, 12, 13, 123, 124, 125, 126] (by decide +kernel) (by decide +kernel)
set_option maxRecDepth 20000 in
theorem gX8_letting_X0_current : GoodIn wsX8_letting (wsV RX8 115 RX0 yX0_current wsX0_current) := goodIn_app (goodIn_of _ (by decide +kernel)) ggX8_letting_X0_current
set_option maxRecDepth 20000 in
theorem ggX8_letting_X3_solve : GoodIn wsX8_letting wsX3_solve := goodIn_r _ [18, 19, 20, 21, 22, 23, 24, 25, 26, 17, 27, 28, 29, 30, 31, 32, 33, 34, 35, 36, 37, 38, 39, 40, 41, 42, 43, 44, 45, 46, 47, 48, 49, 50, 51, 52, 53, 54, 55, 56, 57, 58, 59, 60, 61, 62, 63, 64, 65, 66, 67, 68, 69, 70, 71, 72, 73, 74, 75, 76, 77, 78, 79, 80, 81, 82, 83, 84, 85, 86, 87, 88, 89, 112, 113, 114, 115, 116, 117, 118, 119, 120, 121, 122, 127, 128, 129, 130, 131, 132, 133, 134, 135, 136, 137, 138, 139, 140, 141] (by decide +kernel) (by decide +kernel)
set_option maxRecDepth 20000 in
theorem gX8_letting_X3_solve : GoodIn wsX8_letting (wsV RX8 249 RX3 yX3_solve wsX3_solve) := goodIn_app (goodIn_of _ (by decide +kernel)) ggX8_letting_X3_solve
set_option maxRecDepth 20000 in
theorem ggX8_letting_X3_tell : GoodIn wsX8_letting wsX3_tell := goodIn_r _ [93, 20, 22, 23, 85, 86, 87, 17, 88, 28, 89, 127, 128, 129, 130] (by decide +kernel) (by decide +kernel)
set_option maxRecDepth 20000 in
theorem gX8_letting_X3_tell : GoodIn wsX8_letting (wsV RX8 253 RX3 yX3_tell wsX3_tell) := goodIn_app (goodIn_of _ (by decide +kernel)) ggX8_letting_X3_tell
set_option maxRecDepth 20000 in
theorem ggX8_letting_X3_count : GoodIn wsX8_letting wsX3_count := goodIn_r _ [97, 23, 89, 127, 128, 129, 130] (by decide +kernel) (by decide +kernel)
set_option maxRecDepth 20000 in
theorem gX8_letting_X3_count : GoodIn wsX8_letting (wsV RX8 257 RX3 yX3_count wsX3_count) := goodIn_app (goodIn_of _ (by decide +kernel)) ggX8_letting_X3_count
theorem dX8_letting_0 : decode cX8_letting 0 = .ok (.aload_n 0, 1) := by decide +kernel
theorem dX8_letting_1 : decode cX8_letting 1 = .ok (.getfield 55, 3) := by decide +kernel
theorem dX8_letting_4 : decode cX8_letting 4 = .ok (.aload_n 0, 1) := by decide +kernel
theorem dX8_letting_5 : decode cX8_letting 5 = .ok (.getfield 27, 3) := by decide +kernel
theorem dX8_letting_8 : decode cX8_letting 8 = .ok (.aload_n 0, 1) := by decide +kernel
theorem dX8_letting_9 : decode cX8_letting 9 = .ok (.getfield 34, 3) := by decide +kernel
theorem dX8_letting_12 : decode cX8_letting 12 = .ok (.invokevirtual 115, 3) := by decide +kernel
theorem dX8_letting_15 : decode cX8_letting 15 = .ok (.invokevirtual 249, 3) := by decide +kernel
theorem dX8_letting_18 : decode cX8_letting 18 = .ok (.aload_n 0, 1) := by decide +kernel
theorem dX8_letting_19 : decode cX8_letting 19 = .ok (.aload_n 0, 1) := by decide +kernel
theorem dX8_letting_20 : decode cX8_letting 20 = .ok (.getfield 27, 3) := by decide +kernel
theorem dX8_letting_23 : decode cX8_letting 23 = .ok (.getfield 102, 3) := by decide +kernel
theorem dX8_letting_26 : decode cX8_letting 26 = .ok (.putfield 70, 3) := by decide +kernel
theorem dX8_letting_29 : decode cX8_letting 29 = .ok (.aload_n 0, 1) := by decide +kernel
theorem dX8_letting_30 : decode cX8_letting 30 = .ok (.getfield 55, 3) := by decide +kernel
theorem dX8_letting_33 : decode cX8_letting 33 = .ok (.aload_n 0, 1) := by decide +kernel
theorem dX8_letting_34 : decode cX8_letting 34 = .ok (.getfield 66, 3) := by decide +kernel
theorem dX8_letting_37 : decode cX8_letting 37 = .ok (.aload_n 0, 1) := by decide +kernel
theorem dX8_letting_38 : decode cX8_letting 38 = .ok (.getfield 70, 3) := by decide +kernel
theorem dX8_letting_41 : decode cX8_letting 41 = .ok (.invokevirtual 253, 3) := by decide +kernel
theorem dX8_letting_44 : decode cX8_letting 44 = .ok (.aload_n 0, 1) := by decide +kernel
theorem dX8_letting_45 : decode cX8_letting 45 = .ok (.getfield 55, 3) := by decide +kernel
theorem dX8_letting_48 : decode cX8_letting 48 = .ok (.invokevirtual 257, 3) := by decide +kernel
theorem dX8_letting_51 : decode cX8_letting 51 = .ok (.ireturn, 1) := by decide +kernel
set_option maxRecDepth 20000 in
theorem ggX8_pleasure_X0_current : GoodIn wsX8_pleasure wsX0_current := goodIn_r _ [8, 9, 10, 105, 106, 107, 108] (by decide +kernel) (by decide +kernel)
set_option maxRecDepth 20000 in
theorem gX8_pleasure_X0_current : GoodIn wsX8_pleasure (wsV RX8 115 RX0 yX0_current wsX0_current) := goodIn_app (goodIn_of _ (by decide +kernel)) ggX8_pleasure_X0_current
set_option maxRecDepth 20000 in
theorem ggX8_pleasure_X3_solve : GoodIn wsX8_pleasure wsX3_solve := goodIn_r _ [15, 16, 17, 18, 19, 20, 21, 22, 23, 14, 24, 25, 26, 27, 28, 29, 30, 31, 32, 33, 34, 35, 36, 37, 38, 39, 40, 41, 42, 43, 44, 45, 46, 47, 48, 49, 50, 51, 52, 53, 54, 55, 56, 57, 58, 59, 60, 61, 62, 63, 64, 65, 66, 67, 68, 69, 70, 71, 72, 73, 74, 75, 76, 77, 78, 79, 80, 81, 82, 83, 84, 85, 86, 109, 110, 111, 112, 113, 114, 115, 116, 117, 118, 119, 120, 121, 122, 123, 124, 125, 126, 127, 128, 129, 130, 131, 132, 133, 134] (by decide +kernel) (by decide +kernel)
set_option maxRecDepth 20000 in
theorem gX8_pleasure_X3_solve : GoodIn wsX8_pleasure (wsV RX8 249 RX3 yX3_solve wsX3_solve) := goodIn_app (goodIn_of _ (by decide +kernel)) ggX8_pleasure_X3_solve
set_option maxRecDepth 20000 in
theorem ggX8_pleasure_X3_together : GoodIn wsX8_pleasure wsX3_together := goodIn_r _ [90, 20, 86, 120, 121, 122, 123] (by decide +kernel) (by decide +kernel)
set_option maxRecDepth 20000 in
theorem gX8_pleasure_X3_together : GoodIn wsX8_pleasure (wsV RX8 261 RX3 yX3_together wsX3_together) := goodIn_app (goodIn_of _ (by decide +kernel)) ggX8_pleasure_X3_together
theorem dX8_pleasure_0 : decode cX8_pleasure 0 = .ok (.aload_n 0, 1) := by decide +kernel
theorem dX8_pleasure_1 : decode cX8_pleasure 1 = .ok (.getfield 55, 3) := by decide +kernel
theorem dX8_pleasure_4 : decode cX8_pleasure 4 = .ok (.aload_n 0, 1) := by decide +kernel
theorem dX8_pleasure_5 : decode cX8_pleasure 5 = .ok (.getfield 27, 3) := by decide +kernel
theorem dX8_pleasure_8 : decode cX8_pleasure 8 = .ok (.aload_n 0, 1) := by decide +kernel
theorem dX8_pleasure_9 : decode cX8_pleasure 9 = .ok (.getfield 34, 3) := by decide +kernel
theorem dX8_pleasure_12 : decode cX8_pleasure 12 = .ok (.invokevirtual 115, 3) := by decide +kernel
theorem dX8_pleasure_15 : decode cX8_pleasure 15 = .ok (.invokevirtual 249, 3) := by decide +kernel
theorem dX8_pleasure_18 : decode cX8_pleasure 18 = .ok (.aload_n 0, 1) := by decide +kernel
theorem dX8_pleasure_19 : decode cX8_pleasure 19 = .ok (.getfield 55, 3) := by decide +kernel
theorem dX8_pleasure_22 : decode cX8_pleasure 22 = .ok (.invokevirtual 261, 3) := by decide +kernel
theorem dX8_pleasure_25 : decode cX8_pleasure 25 = .ok (.ireturn, 1) := by decide +kernel
set_option maxRecDepth 20000 in
theorem ggX8_fits_X6_foresee : GoodIn wsX8_fits wsX6_foresee := goodIn_r _ [7, 8, 9, 10, 11, 12, 13, 14, 15, 16, 17, 18, 19, 20, 21, 22, 23, 24, 25, 26, 27, 28, 29, 30, 31, 32, 33, 34, 35, 36, 37, 38, 39, 40, 41, 42, 43, 44, 45, 46, 47, 48, 49, 50, 51, 52, 53, 54, 55, 56, 57, 58, 59, 60, 61, 62, 63, 64, 65, 66, 67, 68, 69, 70, 71, 72, 105, 106, 107, 108, 109, 110, 111, 112, 113, 114, 115, 116, 117, 118, 119, 120, 121, 122, 123, 124, 125, 126, 127, 128, 129, 130, 131, 132, 133, 134, 135] (by decide +kernel) (by decide +kernel)
set_option maxRecDepth 20000 in
theorem gX8_fits_X6_foresee : GoodIn wsX8_fits (wsV RX8 326 RX6 yX6_foresee wsX6_foresee) := goodIn_app (goodIn_of _ (by decide +kernel)) ggX8_fits_X6_foresee
set_option maxRecDepth 20000 in
theorem ggX8_fits_X6_allow : GoodIn wsX8_fits wsX6_allow := goodIn_r _ [76, 77, 78, 79, 80, 10, 81, 82, 83, 6, 84, 85, 86, 87, 88, 89, 90, 15, 105, 106, 107, 108, 109, 110, 111, 112, 113] (by decide +kernel) (by decide +kernel)
set_option maxRecDepth 20000 in
theorem gX8_fits_X6_allow : GoodIn wsX8_fits (wsV RX8 330 RX6 yX6_allow wsX6_allow) := goodIn_app (goodIn_of _ (by decide +kernel)) ggX8_fits_X6_allow
theorem dX8_fits_0 : decode cX8_fits 0 = .ok (.aload_n 0, 1) := by decide +kernel
theorem dX8_fits_1 : decode cX8_fits 1 = .ok (.getfield 76, 3) := by decide +kernel
theorem dX8_fits_4 : decode cX8_fits 4 = .ok (.aload_n 0, 1) := by decide +kernel
theorem dX8_fits_5 : decode cX8_fits 5 = .ok (.getfield 27, 3) := by decide +kernel
theorem dX8_fits_8 : decode cX8_fits 8 = .ok (.invokevirtual 326, 3) := by decide +kernel
theorem dX8_fits_11 : decode cX8_fits 11 = .ok (.iconst 0, 1) := by decide +kernel
theorem dX8_fits_12 : decode cX8_fits 12 = .ok (.istore_n 2, 1) := by decide +kernel
theorem dX8_fits_13 : decode cX8_fits 13 = .ok (.iconst 0, 1) := by decide +kernel
theorem dX8_fits_14 : decode cX8_fits 14 = .ok (.istore_n 3, 1) := by decide +kernel
theorem dX8_fits_15 : decode cX8_fits 15 = .ok (.iload_n 3, 1) := by decide +kernel
theorem dX8_fits_16 : decode cX8_fits 16 = .ok (.bipush 99, 2) := by decide +kernel
theorem dX8_fits_18 : decode cX8_fits 18 = .ok (.if_icmp .gt 24, 3) := by decide +kernel
theorem dX8_fits_21 : decode cX8_fits 21 = .ok (.aload_n 0, 1) := by decide +kernel
theorem dX8_fits_22 : decode cX8_fits 22 = .ok (.getfield 76, 3) := by decide +kernel
theorem dX8_fits_25 : decode cX8_fits 25 = .ok (.iload_n 3, 1) := by decide +kernel
theorem dX8_fits_26 : decode cX8_fits 26 = .ok (.iload_n 1, 1) := by decide +kernel
theorem dX8_fits_27 : decode cX8_fits 27 = .ok (.invokevirtual 330, 3) := by decide +kernel
theorem dX8_fits_30 : decode cX8_fits 30 = .ok (.ifCond .eq 6, 3) := by decide +kernel
theorem dX8_fits_36 : decode cX8_fits 36 = .ok (.iinc 3 1, 3) := by decide +kernel
theorem dX8_fits_39 : decode cX8_fits 39 = .ok (.goto (-24), 3) := by decide +kernel
theorem dX8_fits_42 : decode cX8_fits 42 = .ok (.iload_n 2, 1) := by decide +kernel
theorem dX8_fits_43 : decode cX8_fits 43 = .ok (.ireturn, 1) := by decide +kernel
set_option maxRecDepth 20000 in
theorem ggX8_sure_X6_foresee : GoodIn wsX8_sure wsX6_foresee := goodIn_r _ [7, 8, 9, 10, 11, 12, 13, 14, 15, 16, 17, 18, 19, 20, 21, 22, 23, 24, 25, 26, 27, 28, 29, 30, 31, 32, 33, 34, 35, 36, 37, 38, 39, 40, 41, 42, 43, 44, 45, 46, 47, 48, 49, 50, 51, 52, 53, 54, 55, 56, 57, 58, 59, 60, 61, 62, 63, 64, 65, 66, 67, 68, 69, 70, 71, 72, 105, 106, 107, 108, 109, 110, 111, 112, 113, 114, 115, 116, 117, 118, 119, 120, 121, 122, 123, 124, 125, 126, 127, 128, 129, 130, 131, 132, 133, 134, 135] (by decide +kernel) (by decide +kernel)
set_option maxRecDepth 20000 in
theorem gX8_sure_X6_foresee : GoodIn wsX8_sure (wsV RX8 326 RX6 yX6_foresee wsX6_foresee) := goodIn_app (goodIn_of _ (by decide +kernel)) ggX8_sure_X6_foresee
set_option maxRecDepth 20000 in
theorem ggX8_sure_X6_allow : GoodIn wsX8_sure wsX6_allow := goodIn_r _ [76, 77, 78, 79, 80, 10, 81, 82, 83, 6, 84, 85, 86, 87, 88, 89, 90, 15, 105, 106, 107, 108, 109, 110, 111, 112, 113] (by decide +kernel) (by decide +kernel)
set_option maxRecDepth 20000 in
theorem gX8_sure_X6_allow : GoodIn wsX8_sure (wsV RX8 330 RX6 yX6_allow wsX6_allow) := goodIn_app (goodIn_of _ (by decide +kernel)) ggX8_sure_X6_allow
theorem dX8_sure_0 : decode cX8_sure 0 = .ok (.iload_n 1, 1) := by decide +kernel
theorem dX8_sure_1 : decode cX8_sure 1 = .ok (.ifCond .lt 8, 3) := by decide +kernel
theorem dX8_sure_4 : decode cX8_sure 4 = .ok (.iload_n 1, 1) := by decide +kernel
theorem dX8_sure_5 : decode cX8_sure 5 = .ok (.iconst 1, 1) := by decide +kernel
theorem dX8_sure_6 : decode cX8_sure 6 = .ok (.if_icmp .le 5, 3) := by decide +kernel
theorem dX8_sure_9 : decode cX8_sure 9 = .ok (.iconst (-1), 1) := by decide +kernel
theorem dX8_sure_10 : decode cX8_sure 10 = .ok (.ireturn, 1) := by decide +kernel
theorem dX8_sure_11 : decode cX8_sure 11 = .ok (.aload_n 0, 1) := by decide +kernel
theorem dX8_sure_12 : decode cX8_sure 12 = .ok (.getfield 76, 3) := by decide +kernel
theorem dX8_sure_15 : decode cX8_sure 15 = .ok (.aload_n 0, 1) := by decide +kernel
theorem dX8_sure_16 : decode cX8_sure 16 = .ok (.getfield 27, 3) := by decide +kernel
theorem dX8_sure_19 : decode cX8_sure 19 = .ok (.invokevirtual 326, 3) := by decide +kernel
theorem dX8_sure_22 : decode cX8_sure 22 = .ok (.iconst 0, 1) := by decide +kernel
theorem dX8_sure_23 : decode cX8_sure 23 = .ok (.istore_n 3, 1) := by decide +kernel
theorem dX8_sure_24 : decode cX8_sure 24 = .ok (.iload_n 3, 1) := by decide +kernel
theorem dX8_sure_25 : decode cX8_sure 25 = .ok (.bipush 99, 2) := by decide +kernel
theorem dX8_sure_27 : decode cX8_sure 27 = .ok (.if_icmp .gt 39, 3) := by decide +kernel
theorem dX8_sure_30 : decode cX8_sure 30 = .ok (.iload_n 1, 1) := by decide +kernel
theorem dX8_sure_31 : decode cX8_sure 31 = .ok (.ifCond .ne 7, 3) := by decide +kernel
theorem dX8_sure_34 : decode cX8_sure 34 = .ok (.iload_n 3, 1) := by decide +kernel
theorem dX8_sure_35 : decode cX8_sure 35 = .ok (.goto 7, 3) := by decide +kernel
theorem dX8_sure_38 : decode cX8_sure 38 = .ok (.bipush 99, 2) := by decide +kernel
theorem dX8_sure_40 : decode cX8_sure 40 = .ok (.iload_n 3, 1) := by decide +kernel
theorem dX8_sure_41 : decode cX8_sure 41 = .ok (.isub, 1) := by decide +kernel
theorem dX8_sure_42 : decode cX8_sure 42 = .ok (.istore 4, 2) := by decide +kernel
theorem dX8_sure_44 : decode cX8_sure 44 = .ok (.aload_n 0, 1) := by decide +kernel
theorem dX8_sure_45 : decode cX8_sure 45 = .ok (.getfield 76, 3) := by decide +kernel
theorem dX8_sure_48 : decode cX8_sure 48 = .ok (.iload 4, 2) := by decide +kernel
theorem dX8_sure_50 : decode cX8_sure 50 = .ok (.iload_n 2, 1) := by decide +kernel
theorem dX8_sure_51 : decode cX8_sure 51 = .ok (.invokevirtual 330, 3) := by decide +kernel
theorem dX8_sure_54 : decode cX8_sure 54 = .ok (.ifCond .eq 6, 3) := by decide +kernel
theorem dX8_sure_60 : decode cX8_sure 60 = .ok (.iinc 3 1, 3) := by decide +kernel
theorem dX8_sure_63 : decode cX8_sure 63 = .ok (.goto (-39), 3) := by decide +kernel
theorem dX8_sure_66 : decode cX8_sure 66 = .ok (.iconst (-1), 1) := by decide +kernel
theorem dX8_sure_67 : decode cX8_sure 67 = .ok (.ireturn, 1) := by decide +kernel
set_option maxRecDepth 20000 in
theorem ggX8_ask_X8_isSeenQuarter : GoodIn wsX8_ask wsX8_isSeenQuarter := goodIn_r _ [11] (by decide +kernel) (by decide +kernel)
set_option maxRecDepth 20000 in
theorem gX8_ask_X8_isSeenQuarter : GoodIn wsX8_ask (va_wsS RX8 315 yX8_isSeenQuarter wsX8_isSeenQuarter) := goodIn_app (goodIn_of _ (by decide +kernel)) ggX8_ask_X8_isSeenQuarter
set_option maxRecDepth 20000 in
theorem ggX8_ask_X8_fits : GoodIn wsX8_ask wsX8_fits := goodIn_r _ [15, 3, 1, 16, 17, 18, 19, 20, 21, 22, 23, 24, 25, 26, 27, 28, 29, 30, 31, 32, 33, 34, 35, 36, 37, 38, 39, 40, 41, 42, 43, 44, 45, 46, 47, 48, 49, 50, 51, 52, 53, 54, 55, 56, 57, 58, 59, 60, 61, 62, 63, 64, 6, 65, 66, 67, 68, 69, 70, 71, 72, 73, 74, 75, 76, 77, 78, 79, 80, 81, 82, 83, 84, 85, 86, 87, 88, 89, 90, 91, 92, 93, 94, 95, 96, 97, 98, 99, 100, 101, 102, 108, 109, 110, 111, 112, 113, 114, 115, 116, 117, 118, 119, 120, 121, 133, 134, 135, 136, 137, 138, 139, 140, 141, 122, 123, 124, 125, 126, 127, 128, 129, 130, 131, 132, 142, 143, 144, 145, 146, 147, 148, 149, 150, 151, 152] (by decide +kernel) (by decide +kernel)
set_option maxRecDepth 20000 in
theorem gX8_ask_X8_fits : GoodIn wsX8_ask (wsV RX8 333 RX8 yX8_fits wsX8_fits) := goodIn_app (goodIn_of _ (by decide +kernel)) ggX8_ask_X8_fits
theorem dX8_ask_0 : decode cX8_ask 0 = .ok (.iload_n 1, 1) := by decide +kernel
theorem dX8_ask_1 : decode cX8_ask 1 = .ok (.invokestatic 315, 3) := by decide +kernel
theorem dX8_ask_4 : decode cX8_ask 4 = .ok (.ifCond .eq 12, 3) := by decide +kernel
theorem dX8_ask_7 : decode cX8_ask 7 = .ok (.iload_n 2, 1) := by decide +kernel
theorem dX8_ask_8 : decode cX8_ask 8 = .ok (.ifCond .lt 8, 3) := by decide +kernel
theorem dX8_ask_11 : decode cX8_ask 11 = .ok (.iload_n 2, 1) := by decide +kernel
theorem dX8_ask_12 : decode cX8_ask 12 = .ok (.iconst 1, 1) := by decide +kernel
theorem dX8_ask_13 : decode cX8_ask 13 = .ok (.if_icmp .le 5, 3) := by decide +kernel
theorem dX8_ask_16 : decode cX8_ask 16 = .ok (.iconst (-1), 1) := by decide +kernel
theorem dX8_ask_17 : decode cX8_ask 17 = .ok (.ireturn, 1) := by decide +kernel
theorem dX8_ask_18 : decode cX8_ask 18 = .ok (.aload_n 0, 1) := by decide +kernel
theorem dX8_ask_19 : decode cX8_ask 19 = .ok (.iload_n 3, 1) := by decide +kernel
theorem dX8_ask_20 : decode cX8_ask 20 = .ok (.invokevirtual 333, 3) := by decide +kernel
theorem dX8_ask_23 : decode cX8_ask 23 = .ok (.istore 4, 2) := by decide +kernel
theorem dX8_ask_25 : decode cX8_ask 25 = .ok (.iload 4, 2) := by decide +kernel
theorem dX8_ask_27 : decode cX8_ask 27 = .ok (.ifCond .ne 5, 3) := by decide +kernel
theorem dX8_ask_30 : decode cX8_ask 30 = .ok (.iconst (-1), 1) := by decide +kernel
theorem dX8_ask_31 : decode cX8_ask 31 = .ok (.ireturn, 1) := by decide +kernel
theorem iX7_copyOf_X7 : ∀ w ∈ wsX70, w ∈ wsX7_copyOf := (fun _ h => List.mem_cons_of_mem _ (List.mem_append_right _ h))
theorem iX0_begin_X0 : ∀ w ∈ wsX00, w ∈ wsX0_begin := (fun _ h => List.mem_cons_of_mem _ (List.mem_append_left _ (List.mem_append_right _ h)))
theorem iX4_draw_X4 : ∀ w ∈ wsX40, w ∈ wsX4_draw := (fun _ h => List.mem_cons_of_mem _ (List.mem_append_left _ (List.mem_append_right _ h)))
theorem iX4_die_X7 : ∀ w ∈ wsX70, w ∈ wsX4_die := (fun _ h => List.mem_cons_of_mem _ (List.mem_append_left _ (List.mem_append_right _ h)))
theorem iX4_die_X4 : ∀ w ∈ wsX40, w ∈ wsX4_die := (fun _ h => List.mem_cons_of_mem _ (List.mem_append_right _ h))
theorem iX4_pass_X4 : ∀ w ∈ wsX40, w ∈ wsX4_pass := (fun _ h => List.mem_cons_of_mem _ (List.mem_append_left _ (List.mem_append_left _ (List.mem_append_right _ h))))
theorem iX4_pass_X7 : ∀ w ∈ wsX70, w ∈ wsX4_pass := (fun _ h => List.mem_cons_of_mem _ (List.mem_append_left _ (List.mem_append_right _ h)))
theorem iX8_quarter_X8 : ∀ w ∈ wsX80, w ∈ wsX8_quarter := (fun _ h => List.mem_cons_of_mem _ (List.mem_append_left _ (List.mem_append_left _ (List.mem_append_left _ (List.mem_append_left _ (List.mem_append_right _ h))))))
theorem iX8_quarter_X7 : ∀ w ∈ wsX70, w ∈ wsX8_quarter := (fun _ h => List.mem_cons_of_mem _ (List.mem_append_left _ (List.mem_append_left _ (List.mem_append_left _ (List.mem_append_right _ h)))))
theorem iX3_weigh_X3 : ∀ w ∈ wsX30, w ∈ wsX3_weigh := (fun _ h => List.mem_cons_of_mem _ (List.mem_append_left _ (List.mem_append_left _ (List.mem_append_left _ (List.mem_append_right _ h)))))
theorem iX3_solve_X4 : ∀ w ∈ wsX40, w ∈ wsX3_solve := (fun _ h => List.mem_cons_of_mem _ (List.mem_append_left _ (List.mem_append_left _ (List.mem_append_left _ (List.mem_append_right _ h)))))
theorem iX3_solve_X3 : ∀ w ∈ wsX30, w ∈ wsX3_solve := (fun _ h => List.mem_cons_of_mem _ (List.mem_append_left _ (List.mem_append_left _ (List.mem_append_right _ h))))
theorem iX3_tell_X3 : ∀ w ∈ wsX30, w ∈ wsX3_tell := (fun _ h => List.mem_cons_of_mem _ (List.mem_append_right _ h))
theorem iX3_count_X3 : ∀ w ∈ wsX30, w ∈ wsX3_count := (fun _ h => List.mem_cons_of_mem _ (List.mem_append_right _ h))
theorem iX3_together_X3 : ∀ w ∈ wsX30, w ∈ wsX3_together := (fun _ h => List.mem_cons_of_mem _ (List.mem_append_right _ h))
theorem iX8_letting_X8 : ∀ w ∈ wsX80, w ∈ wsX8_letting := (fun _ h => List.mem_cons_of_mem _ (List.mem_append_left _ (List.mem_append_left _ (List.mem_append_left _ (List.mem_append_left _ (List.mem_append_left _ (List.mem_append_right _ h)))))))
theorem iX8_letting_X4 : ∀ w ∈ wsX40, w ∈ wsX8_letting := (fun _ h => List.mem_cons_of_mem _ (List.mem_append_left _ (List.mem_append_left _ (List.mem_append_left _ (List.mem_append_left _ (List.mem_append_right _ h))))))
theorem iX8_pleasure_X8 : ∀ w ∈ wsX80, w ∈ wsX8_pleasure := (fun _ h => List.mem_cons_of_mem _ (List.mem_append_left _ (List.mem_append_left _ (List.mem_append_left _ (List.mem_append_left _ (List.mem_append_left _ (List.mem_append_right _ h)))))))
theorem iX6_foresee_X6 : ∀ w ∈ wsX60, w ∈ wsX6_foresee := (fun _ h => List.mem_cons_of_mem _ (List.mem_append_left _ (List.mem_append_left _ (List.mem_append_left _ (List.mem_append_right _ h)))))
theorem iX6_foresee_X4 : ∀ w ∈ wsX40, w ∈ wsX6_foresee := (fun _ h => List.mem_cons_of_mem _ (List.mem_append_left _ (List.mem_append_left _ (List.mem_append_right _ h))))
theorem iX6_allow_X6 : ∀ w ∈ wsX60, w ∈ wsX6_allow := (fun _ h => List.mem_cons_of_mem _ (List.mem_append_right _ h))
theorem iX8_fits_X8 : ∀ w ∈ wsX80, w ∈ wsX8_fits := (fun _ h => List.mem_cons_of_mem _ (List.mem_append_left _ (List.mem_append_left _ (List.mem_append_left _ (List.mem_append_left _ (List.mem_append_right _ h))))))
theorem iX8_sure_X8 : ∀ w ∈ wsX80, w ∈ wsX8_sure := (fun _ h => List.mem_cons_of_mem _ (List.mem_append_left _ (List.mem_append_left _ (List.mem_append_left _ (List.mem_append_left _ (List.mem_append_right _ h))))))
theorem iX8_putOnTape_X8 : ∀ w ∈ wsX80, w ∈ wsX8_putOnTape := (fun _ h => List.mem_cons_of_mem _ (List.mem_append_right _ h))
theorem iX8_feed_X8 : ∀ w ∈ wsX80, w ∈ wsX8_feed := (fun _ h => List.mem_cons_of_mem _ (List.mem_append_right _ h))
