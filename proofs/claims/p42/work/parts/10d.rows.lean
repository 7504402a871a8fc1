theorem dX4_draw_54 : decode cX4_draw 54 = .ok (.iconst 1, 1) := by decide +kernel
theorem dX4_draw_55 : decode cX4_draw 55 = .ok (.iload_n 3, 1) := by decide +kernel
theorem dX4_draw_56 : decode cX4_draw 56 = .ok (.ishl, 1) := by decide +kernel
theorem dX4_draw_57 : decode cX4_draw 57 = .ok (.ior, 1) := by decide +kernel
theorem dX4_draw_58 : decode cX4_draw 58 = .ok (.istore_n 2, 1) := by decide +kernel
theorem dX4_draw_59 : decode cX4_draw 59 = .ok (.iinc 3 1, 3) := by decide +kernel
theorem dX4_draw_62 : decode cX4_draw 62 = .ok (.goto (-58), 3) := by decide +kernel
theorem dX4_draw_65 : decode cX4_draw 65 = .ok (.iload_n 2, 1) := by decide +kernel
theorem dX4_draw_66 : decode cX4_draw 66 = .ok (.ireturn, 1) := by decide +kernel
set_option maxRecDepth 20000 in
theorem ggX4_die_X4_livingHeir : GoodIn wsX4_die wsX4_livingHeir := goodIn_r _ [8, 9, 10, 19, 20, 21, 22, 23, 24, 25, 26, 27, 28, 29] rfl (by decide +kernel)
set_option maxRecDepth 20000 in
theorem gX4_die_X4_livingHeir : GoodIn wsX4_die (wsV RX4 124 RX4 yX4_livingHeir wsX4_livingHeir) := goodIn_app (goodIn_r _ [4, 5, 6, 7] rfl (by decide +kernel)) ggX4_die_X4_livingHeir
theorem dX4_die_0 : decode cX4_die 0 = .ok (.aload_n 1, 1) := by decide +kernel
theorem dX4_die_1 : decode cX4_die 1 = .ok (.dup, 1) := by decide +kernel
theorem dX4_die_2 : decode cX4_die 2 = .ok (.getfield 121, 3) := by decide +kernel
theorem dX4_die_5 : decode cX4_die 5 = .ok (.iload_n 2, 1) := by decide +kernel
theorem dX4_die_6 : decode cX4_die 6 = .ok (.iconst (-1), 1) := by decide +kernel
theorem dX4_die_7 : decode cX4_die 7 = .ok (.ixor, 1) := by decide +kernel
theorem dX4_die_8 : decode cX4_die 8 = .ok (.iand, 1) := by decide +kernel
theorem dX4_die_9 : decode cX4_die 9 = .ok (.putfield 121, 3) := by decide +kernel
theorem dX4_die_12 : decode cX4_die 12 = .ok (.iconst 0, 1) := by decide +kernel
theorem dX4_die_13 : decode cX4_die 13 = .ok (.istore_n 3, 1) := by decide +kernel
theorem dX4_die_14 : decode cX4_die 14 = .ok (.iload_n 3, 1) := by decide +kernel
theorem dX4_die_15 : decode cX4_die 15 = .ok (.aload_n 0, 1) := by decide +kernel
theorem dX4_die_16 : decode cX4_die 16 = .ok (.getfield 15, 3) := by decide +kernel
theorem dX4_die_19 : decode cX4_die 19 = .ok (.if_icmp .ge 29, 3) := by decide +kernel
theorem dX4_die_22 : decode cX4_die 22 = .ok (.aload_n 1, 1) := by decide +kernel
theorem dX4_die_23 : decode cX4_die 23 = .ok (.getfield 58, 3) := by decide +kernel
theorem dX4_die_26 : decode cX4_die 26 = .ok (.iload_n 3, 1) := by decide +kernel
theorem dX4_die_27 : decode cX4_die 27 = .ok (.aload_n 0, 1) := by decide +kernel
theorem dX4_die_28 : decode cX4_die 28 = .ok (.aload_n 1, 1) := by decide +kernel
theorem dX4_die_29 : decode cX4_die 29 = .ok (.getfield 58, 3) := by decide +kernel
theorem dX4_die_32 : decode cX4_die 32 = .ok (.iload_n 3, 1) := by decide +kernel
theorem dX4_die_33 : decode cX4_die 33 = .ok (.iaload, 1) := by decide +kernel
theorem dX4_die_34 : decode cX4_die 34 = .ok (.aload_n 1, 1) := by decide +kernel
theorem dX4_die_35 : decode cX4_die 35 = .ok (.getfield 121, 3) := by decide +kernel
theorem dX4_die_38 : decode cX4_die 38 = .ok (.invokevirtual 124, 3) := by decide +kernel
theorem dX4_die_41 : decode cX4_die 41 = .ok (.iastore, 1) := by decide +kernel
theorem dX4_die_42 : decode cX4_die 42 = .ok (.iinc 3 1, 3) := by decide +kernel
theorem dX4_die_45 : decode cX4_die 45 = .ok (.goto (-31), 3) := by decide +kernel
theorem dX4_die_48 : decode cX4_die 48 = .ok (.return_, 1) := by decide +kernel
theorem dX4_livingHeir_0 : decode cX4_livingHeir 0 = .ok (.iload_n 1, 1) := by decide +kernel
theorem dX4_livingHeir_1 : decode cX4_livingHeir 1 = .ok (.istore_n 3, 1) := by decide +kernel
theorem dX4_livingHeir_2 : decode cX4_livingHeir 2 = .ok (.iconst 0, 1) := by decide +kernel
theorem dX4_livingHeir_3 : decode cX4_livingHeir 3 = .ok (.istore 4, 2) := by decide +kernel
theorem dX4_livingHeir_5 : decode cX4_livingHeir 5 = .ok (.iload 4, 2) := by decide +kernel
theorem dX4_livingHeir_7 : decode cX4_livingHeir 7 = .ok (.bipush 6, 2) := by decide +kernel
theorem dX4_livingHeir_9 : decode cX4_livingHeir 9 = .ok (.if_icmp .gt 40, 3) := by decide +kernel
theorem dX4_livingHeir_12 : decode cX4_livingHeir 12 = .ok (.iload_n 3, 1) := by decide +kernel
theorem dX4_livingHeir_13 : decode cX4_livingHeir 13 = .ok (.ifCond .lt 11, 3) := by decide +kernel
theorem dX4_livingHeir_16 : decode cX4_livingHeir 16 = .ok (.iload_n 3, 1) := by decide +kernel
theorem dX4_livingHeir_17 : decode cX4_livingHeir 17 = .ok (.aload_n 0, 1) := by decide +kernel
theorem dX4_livingHeir_18 : decode cX4_livingHeir 18 = .ok (.getfield 9, 3) := by decide +kernel
theorem dX4_livingHeir_21 : decode cX4_livingHeir 21 = .ok (.if_icmp .lt 5, 3) := by decide +kernel
theorem dX4_livingHeir_24 : decode cX4_livingHeir 24 = .ok (.iconst (-1), 1) := by decide +kernel
theorem dX4_livingHeir_25 : decode cX4_livingHeir 25 = .ok (.ireturn, 1) := by decide +kernel
theorem dX4_livingHeir_26 : decode cX4_livingHeir 26 = .ok (.iload_n 2, 1) := by decide +kernel
theorem dX4_livingHeir_27 : decode cX4_livingHeir 27 = .ok (.iload_n 3, 1) := by decide +kernel
theorem dX4_livingHeir_28 : decode cX4_livingHeir 28 = .ok (.ishr, 1) := by decide +kernel
theorem dX4_livingHeir_29 : decode cX4_livingHeir 29 = .ok (.iconst 1, 1) := by decide +kernel
theorem dX4_livingHeir_30 : decode cX4_livingHeir 30 = .ok (.iand, 1) := by decide +kernel
theorem dX4_livingHeir_31 : decode cX4_livingHeir 31 = .ok (.ifCond .eq 5, 3) := by decide +kernel
theorem dX4_livingHeir_34 : decode cX4_livingHeir 34 = .ok (.iload_n 3, 1) := by decide +kernel
theorem dX4_livingHeir_35 : decode cX4_livingHeir 35 = .ok (.ireturn, 1) := by decide +kernel
theorem dX4_livingHeir_36 : decode cX4_livingHeir 36 = .ok (.aload_n 0, 1) := by decide +kernel
theorem dX4_livingHeir_37 : decode cX4_livingHeir 37 = .ok (.getfield 31, 3) := by decide +kernel
theorem dX4_livingHeir_40 : decode cX4_livingHeir 40 = .ok (.iload_n 3, 1) := by decide +kernel
theorem dX4_livingHeir_41 : decode cX4_livingHeir 41 = .ok (.iaload, 1) := by decide +kernel
theorem dX4_livingHeir_42 : decode cX4_livingHeir 42 = .ok (.istore_n 3, 1) := by decide +kernel
theorem dX4_livingHeir_43 : decode cX4_livingHeir 43 = .ok (.iinc 4 1, 3) := by decide +kernel
theorem dX4_livingHeir_46 : decode cX4_livingHeir 46 = .ok (.goto (-41), 3) := by decide +kernel
theorem dX4_livingHeir_49 : decode cX4_livingHeir 49 = .ok (.iconst (-1), 1) := by decide +kernel
theorem dX4_livingHeir_50 : decode cX4_livingHeir 50 = .ok (.ireturn, 1) := by decide +kernel
set_option maxRecDepth 20000 in
theorem ggX4_outBehind_X4_consider : GoodIn wsX4_outBehind wsX4_consider := goodIn_r _ [6, 7, 8, 9, 10, 11, 12, 13, 1, 14, 15, 16, 17, 18, 19, 20, 21, 22, 23, 24, 25, 57, 58, 59, 60, 61, 62, 63, 64, 65, 66, 67, 49, 50, 51, 52, 53, 54, 55, 56] rfl (by decide +kernel)
set_option maxRecDepth 20000 in
theorem gX4_outBehind_X4_consider : GoodIn wsX4_outBehind (wsV RX4 84 RX4 yX4_consider wsX4_consider) := goodIn_app (goodIn_r _ [2, 3, 4, 5] rfl (by decide +kernel)) ggX4_outBehind_X4_consider
set_option maxRecDepth 20000 in
theorem ggX4_outBehind_X4_outBehindAsConsidered : GoodIn wsX4_outBehind wsX4_outBehindAsConsidered := goodIn_r _ [29, 1, 9, 14, 30, 31, 32, 33, 15, 34, 16, 17, 18, 19, 20, 21, 35, 36, 37, 38, 39, 40, 41, 42, 43, 44, 45, 46, 47, 48, 49, 50, 51, 52, 53, 54, 55, 56, 57, 58, 59, 60, 61, 62, 63, 64, 65, 66, 67, 68, 69, 70] rfl (by decide +kernel)
set_option maxRecDepth 20000 in
theorem gX4_outBehind_X4_outBehindAsConsidered : GoodIn wsX4_outBehind (wsV RX4 127 RX4 yX4_outBehindAsConsidered wsX4_outBehindAsConsidered) := goodIn_app (goodIn_r _ [26, 27, 28, 5] rfl (by decide +kernel)) ggX4_outBehind_X4_outBehindAsConsidered
theorem dX4_outBehind_0 : decode cX4_outBehind 0 = .ok (.aload_n 0, 1) := by decide +kernel
theorem dX4_outBehind_1 : decode cX4_outBehind 1 = .ok (.aload_n 1, 1) := by decide +kernel
theorem dX4_outBehind_2 : decode cX4_outBehind 2 = .ok (.iload_n 2, 1) := by decide +kernel
theorem dX4_outBehind_3 : decode cX4_outBehind 3 = .ok (.aload_n 1, 1) := by decide +kernel
theorem dX4_outBehind_4 : decode cX4_outBehind 4 = .ok (.getfield 61, 3) := by decide +kernel
theorem dX4_outBehind_7 : decode cX4_outBehind 7 = .ok (.iload_n 2, 1) := by decide +kernel
theorem dX4_outBehind_8 : decode cX4_outBehind 8 = .ok (.iaload, 1) := by decide +kernel
theorem dX4_outBehind_9 : decode cX4_outBehind 9 = .ok (.invokevirtual 84, 3) := by decide +kernel
theorem dX4_outBehind_12 : decode cX4_outBehind 12 = .ok (.aload_n 0, 1) := by decide +kernel
theorem dX4_outBehind_13 : decode cX4_outBehind 13 = .ok (.aload_n 1, 1) := by decide +kernel
theorem dX4_outBehind_14 : decode cX4_outBehind 14 = .ok (.iload_n 2, 1) := by decide +kernel
theorem dX4_outBehind_15 : decode cX4_outBehind 15 = .ok (.iload_n 3, 1) := by decide +kernel
theorem dX4_outBehind_16 : decode cX4_outBehind 16 = .ok (.invokevirtual 127, 3) := by decide +kernel
theorem dX4_outBehind_19 : decode cX4_outBehind 19 = .ok (.ireturn, 1) := by decide +kernel
set_option maxRecDepth 20000 in
theorem ggX4_outBehindAtWants_X4_consider : GoodIn wsX4_outBehindAtWants wsX4_consider := goodIn_r _ [7, 8, 9, 2, 10, 11, 12, 13, 1, 14, 15, 16, 17, 18, 19, 20, 21, 22, 23, 24, 25, 57, 58, 59, 60, 61, 62, 63, 64, 65, 66, 67, 49, 50, 51, 52, 53, 54, 55, 56] rfl (by decide +kernel)
set_option maxRecDepth 20000 in
theorem gX4_outBehindAtWants_X4_consider : GoodIn wsX4_outBehindAtWants (wsV RX4 84 RX4 yX4_consider wsX4_consider) := goodIn_app (goodIn_r _ [3, 4, 5, 6] rfl (by decide +kernel)) ggX4_outBehindAtWants_X4_consider
set_option maxRecDepth 20000 in
theorem ggX4_outBehindAtWants_X4_outBehindAsConsidered : GoodIn wsX4_outBehindAtWants wsX4_outBehindAsConsidered := goodIn_r _ [29, 1, 2, 14, 30, 31, 32, 33, 15, 34, 16, 17, 18, 19, 20, 21, 35, 36, 37, 38, 39, 40, 41, 42, 43, 44, 45, 46, 47, 48, 49, 50, 51, 52, 53, 54, 55, 56, 57, 58, 59, 60, 61, 62, 63, 64, 65, 66, 67, 68, 69, 70] rfl (by decide +kernel)
set_option maxRecDepth 20000 in
theorem gX4_outBehindAtWants_X4_outBehindAsConsidered : GoodIn wsX4_outBehindAtWants (wsV RX4 127 RX4 yX4_outBehindAsConsidered wsX4_outBehindAsConsidered) := goodIn_app (goodIn_r _ [26, 27, 28, 6] rfl (by decide +kernel)) ggX4_outBehindAtWants_X4_outBehindAsConsidered
theorem dX4_outBehindAtWants_0 : decode cX4_outBehindAtWants 0 = .ok (.aload_n 0, 1) := by decide +kernel
theorem dX4_outBehindAtWants_1 : decode cX4_outBehindAtWants 1 = .ok (.aload_n 1, 1) := by decide +kernel
theorem dX4_outBehindAtWants_2 : decode cX4_outBehindAtWants 2 = .ok (.iload_n 2, 1) := by decide +kernel
theorem dX4_outBehindAtWants_3 : decode cX4_outBehindAtWants 3 = .ok (.aload_n 1, 1) := by decide +kernel
theorem dX4_outBehindAtWants_4 : decode cX4_outBehindAtWants 4 = .ok (.getfield 61, 3) := by decide +kernel
theorem dX4_outBehindAtWants_7 : decode cX4_outBehindAtWants 7 = .ok (.iload_n 2, 1) := by decide +kernel
theorem dX4_outBehindAtWants_8 : decode cX4_outBehindAtWants 8 = .ok (.iaload, 1) := by decide +kernel
theorem dX4_outBehindAtWants_9 : decode cX4_outBehindAtWants 9 = .ok (.invokevirtual 84, 3) := by decide +kernel
theorem dX4_outBehindAtWants_12 : decode cX4_outBehindAtWants 12 = .ok (.aload_n 0, 1) := by decide +kernel
theorem dX4_outBehindAtWants_13 : decode cX4_outBehindAtWants 13 = .ok (.getfield 51, 3) := by decide +kernel
theorem dX4_outBehindAtWants_16 : decode cX4_outBehindAtWants 16 = .ok (.iconst 1, 1) := by decide +kernel
theorem dX4_outBehindAtWants_17 : decode cX4_outBehindAtWants 17 = .ok (.iload_n 3, 1) := by decide +kernel
theorem dX4_outBehindAtWants_18 : decode cX4_outBehindAtWants 18 = .ok (.iastore, 1) := by decide +kernel
theorem dX4_outBehindAtWants_19 : decode cX4_outBehindAtWants 19 = .ok (.aload_n 0, 1) := by decide +kernel
theorem dX4_outBehindAtWants_20 : decode cX4_outBehindAtWants 20 = .ok (.aload_n 1, 1) := by decide +kernel
theorem dX4_outBehindAtWants_21 : decode cX4_outBehindAtWants 21 = .ok (.iload_n 2, 1) := by decide +kernel
theorem dX4_outBehindAtWants_22 : decode cX4_outBehindAtWants 22 = .ok (.iload 4, 2) := by decide +kernel
theorem dX4_outBehindAtWants_24 : decode cX4_outBehindAtWants 24 = .ok (.invokevirtual 127, 3) := by decide +kernel
theorem dX4_outBehindAtWants_27 : decode cX4_outBehindAtWants 27 = .ok (.ireturn, 1) := by decide +kernel
set_option maxRecDepth 20000 in
theorem ggX4_outBehindAsConsidered_X7_isKept : GoodIn wsX4_outBehindAsConsidered wsX7_isKept := goodIn_r _ [14, 15, 30, 31, 32, 33, 34, 35, 36, 37] rfl (by decide +kernel)
set_option maxRecDepth 20000 in
theorem gX4_outBehindAsConsidered_X7_isKept : GoodIn wsX4_outBehindAsConsidered (wsV RX4 64 RX7 yX7_isKept wsX7_isKept) := goodIn_app (goodIn_r _ [10, 11, 12, 13] rfl (by decide +kernel)) ggX4_outBehindAsConsidered_X7_isKept
set_option maxRecDepth 20000 in
theorem ggX4_outBehindAsConsidered_X2_value : GoodIn wsX4_outBehindAsConsidered wsX2_value := goodIn_r _ [20, 21, 22, 23, 24, 25, 19, 26, 27, 28, 29, 49, 50, 51] rfl (by decide +kernel)
set_option maxRecDepth 20000 in
theorem gX4_outBehindAsConsidered_X2_value : GoodIn wsX4_outBehindAsConsidered (wsV RX4 88 RX2 yX2_value wsX2_value) := goodIn_app (goodIn_r _ [16, 17, 18, 19] rfl (by decide +kernel)) ggX4_outBehindAsConsidered_X2_value
theorem dX4_outBehindAsConsidered_0 : decode cX4_outBehindAsConsidered 0 = .ok (.aload_n 1, 1) := by decide +kernel
theorem dX4_outBehindAsConsidered_1 : decode cX4_outBehindAsConsidered 1 = .ok (.getfield 61, 3) := by decide +kernel
theorem dX4_outBehindAsConsidered_4 : decode cX4_outBehindAsConsidered 4 = .ok (.iload_n 2, 1) := by decide +kernel
theorem dX4_outBehindAsConsidered_5 : decode cX4_outBehindAsConsidered 5 = .ok (.iaload, 1) := by decide +kernel
theorem dX4_outBehindAsConsidered_6 : decode cX4_outBehindAsConsidered 6 = .ok (.iconst (-1), 1) := by decide +kernel
theorem dX4_outBehindAsConsidered_7 : decode cX4_outBehindAsConsidered 7 = .ok (.if_icmp .ne 5, 3) := by decide +kernel
theorem dX4_outBehindAsConsidered_10 : decode cX4_outBehindAsConsidered 10 = .ok (.iconst 0, 1) := by decide +kernel
theorem dX4_outBehindAsConsidered_11 : decode cX4_outBehindAsConsidered 11 = .ok (.ireturn, 1) := by decide +kernel
theorem dX4_outBehindAsConsidered_12 : decode cX4_outBehindAsConsidered 12 = .ok (.aload_n 1, 1) := by decide +kernel
theorem dX4_outBehindAsConsidered_13 : decode cX4_outBehindAsConsidered 13 = .ok (.aload_n 1, 1) := by decide +kernel
theorem dX4_outBehindAsConsidered_14 : decode cX4_outBehindAsConsidered 14 = .ok (.getfield 61, 3) := by decide +kernel
theorem dX4_outBehindAsConsidered_17 : decode cX4_outBehindAsConsidered 17 = .ok (.iload_n 2, 1) := by decide +kernel
theorem dX4_outBehindAsConsidered_18 : decode cX4_outBehindAsConsidered 18 = .ok (.iaload, 1) := by decide +kernel
theorem dX4_outBehindAsConsidered_19 : decode cX4_outBehindAsConsidered 19 = .ok (.invokevirtual 64, 3) := by decide +kernel
theorem dX4_outBehindAsConsidered_22 : decode cX4_outBehindAsConsidered 22 = .ok (.ifCond .ne 7, 3) := by decide +kernel
theorem dX4_outBehindAsConsidered_25 : decode cX4_outBehindAsConsidered 25 = .ok (.iload_n 3, 1) := by decide +kernel
theorem dX4_outBehindAsConsidered_26 : decode cX4_outBehindAsConsidered 26 = .ok (.iconst 1, 1) := by decide +kernel
theorem dX4_outBehindAsConsidered_27 : decode cX4_outBehindAsConsidered 27 = .ok (.iadd, 1) := by decide +kernel
theorem dX4_outBehindAsConsidered_28 : decode cX4_outBehindAsConsidered 28 = .ok (.ireturn, 1) := by decide +kernel
theorem dX4_outBehindAsConsidered_29 : decode cX4_outBehindAsConsidered 29 = .ok (.iconst 0, 1) := by decide +kernel
theorem dX4_outBehindAsConsidered_30 : decode cX4_outBehindAsConsidered 30 = .ok (.istore 4, 2) := by decide +kernel
theorem dX4_outBehindAsConsidered_32 : decode cX4_outBehindAsConsidered 32 = .ok (.iload 4, 2) := by decide +kernel
theorem dX4_outBehindAsConsidered_34 : decode cX4_outBehindAsConsidered 34 = .ok (.iload_n 3, 1) := by decide +kernel
theorem dX4_outBehindAsConsidered_35 : decode cX4_outBehindAsConsidered 35 = .ok (.if_icmp .ge 63, 3) := by decide +kernel
theorem dX4_outBehindAsConsidered_38 : decode cX4_outBehindAsConsidered 38 = .ok (.aload_n 0, 1) := by decide +kernel
theorem dX4_outBehindAsConsidered_39 : decode cX4_outBehindAsConsidered 39 = .ok (.getfield 51, 3) := by decide +kernel
theorem dX4_outBehindAsConsidered_42 : decode cX4_outBehindAsConsidered 42 = .ok (.iconst 4, 1) := by decide +kernel
theorem dX4_outBehindAsConsidered_43 : decode cX4_outBehindAsConsidered 43 = .ok (.sipush 999, 3) := by decide +kernel
theorem dX4_outBehindAsConsidered_46 : decode cX4_outBehindAsConsidered 46 = .ok (.aload_n 1, 1) := by decide +kernel
theorem dX4_outBehindAsConsidered_47 : decode cX4_outBehindAsConsidered 47 = .ok (.getfield 74, 3) := by decide +kernel
theorem dX4_outBehindAsConsidered_50 : decode cX4_outBehindAsConsidered 50 = .ok (.iload_n 2, 1) := by decide +kernel
theorem dX4_outBehindAsConsidered_51 : decode cX4_outBehindAsConsidered 51 = .ok (.iaload, 1) := by decide +kernel
theorem dX4_outBehindAsConsidered_52 : decode cX4_outBehindAsConsidered 52 = .ok (.iload 4, 2) := by decide +kernel
theorem dX4_outBehindAsConsidered_54 : decode cX4_outBehindAsConsidered 54 = .ok (.iadd, 1) := by decide +kernel
theorem dX4_outBehindAsConsidered_55 : decode cX4_outBehindAsConsidered 55 = .ok (.invokestatic 130, 3) := by decide +kernel
theorem dX4_outBehindAsConsidered_58 : decode cX4_outBehindAsConsidered 58 = .ok (.iastore, 1) := by decide +kernel
theorem dX4_outBehindAsConsidered_59 : decode cX4_outBehindAsConsidered 59 = .ok (.aload_n 0, 1) := by decide +kernel
theorem dX4_outBehindAsConsidered_60 : decode cX4_outBehindAsConsidered 60 = .ok (.getfield 51, 3) := by decide +kernel
theorem dX4_outBehindAsConsidered_63 : decode cX4_outBehindAsConsidered 63 = .ok (.bipush 6, 2) := by decide +kernel
theorem dX4_outBehindAsConsidered_65 : decode cX4_outBehindAsConsidered 65 = .ok (.aload_n 1, 1) := by decide +kernel
theorem dX4_outBehindAsConsidered_66 : decode cX4_outBehindAsConsidered 66 = .ok (.getfield 81, 3) := by decide +kernel
theorem dX4_outBehindAsConsidered_69 : decode cX4_outBehindAsConsidered 69 = .ok (.iload 4, 2) := by decide +kernel
theorem dX4_outBehindAsConsidered_71 : decode cX4_outBehindAsConsidered 71 = .ok (.iadd, 1) := by decide +kernel
theorem dX4_outBehindAsConsidered_72 : decode cX4_outBehindAsConsidered 72 = .ok (.iastore, 1) := by decide +kernel
theorem dX4_outBehindAsConsidered_73 : decode cX4_outBehindAsConsidered 73 = .ok (.aload_n 0, 1) := by decide +kernel
theorem dX4_outBehindAsConsidered_74 : decode cX4_outBehindAsConsidered 74 = .ok (.getfield 47, 3) := by decide +kernel
theorem dX4_outBehindAsConsidered_77 : decode cX4_outBehindAsConsidered 77 = .ok (.aload_n 0, 1) := by decide +kernel
theorem dX4_outBehindAsConsidered_78 : decode cX4_outBehindAsConsidered 78 = .ok (.getfield 51, 3) := by decide +kernel
theorem dX4_outBehindAsConsidered_81 : decode cX4_outBehindAsConsidered 81 = .ok (.invokevirtual 88, 3) := by decide +kernel
theorem dX4_outBehindAsConsidered_84 : decode cX4_outBehindAsConsidered 84 = .ok (.ifCond .gt 8, 3) := by decide +kernel
theorem dX4_outBehindAsConsidered_87 : decode cX4_outBehindAsConsidered 87 = .ok (.iload 4, 2) := by decide +kernel
theorem dX4_outBehindAsConsidered_89 : decode cX4_outBehindAsConsidered 89 = .ok (.iconst 1, 1) := by decide +kernel
theorem dX4_outBehindAsConsidered_90 : decode cX4_outBehindAsConsidered 90 = .ok (.iadd, 1) := by decide +kernel
theorem dX4_outBehindAsConsidered_91 : decode cX4_outBehindAsConsidered 91 = .ok (.ireturn, 1) := by decide +kernel
theorem dX4_outBehindAsConsidered_92 : decode cX4_outBehindAsConsidered 92 = .ok (.iinc 4 1, 3) := by decide +kernel
theorem dX4_outBehindAsConsidered_95 : decode cX4_outBehindAsConsidered 95 = .ok (.goto (-63), 3) := by decide +kernel
theorem dX4_outBehindAsConsidered_98 : decode cX4_outBehindAsConsidered 98 = .ok (.iload_n 3, 1) := by decide +kernel
theorem dX4_outBehindAsConsidered_99 : decode cX4_outBehindAsConsidered 99 = .ok (.iconst 1, 1) := by decide +kernel
theorem dX4_outBehindAsConsidered_100 : decode cX4_outBehindAsConsidered 100 = .ok (.iadd, 1) := by decide +kernel
theorem dX4_outBehindAsConsidered_101 : decode cX4_outBehindAsConsidered 101 = .ok (.ireturn, 1) := by decide +kernel
theorem dX5_joinLetter_0 : decode cX5_joinLetter 0 = .ok (.lload_n 0, 1) := by decide +kernel
theorem dX5_joinLetter_1 : decode cX5_joinLetter 1 = .ok (.ldc2_w 79, 3) := by decide +kernel
theorem dX5_joinLetter_4 : decode cX5_joinLetter 4 = .ok (.lmul, 1) := by decide +kernel
theorem dX5_joinLetter_5 : decode cX5_joinLetter 5 = .ok (.iload_n 2, 1) := by decide +kernel
theorem dX5_joinLetter_6 : decode cX5_joinLetter 6 = .ok (.bipush 97, 2) := by decide +kernel
theorem dX5_joinLetter_8 : decode cX5_joinLetter 8 = .ok (.isub, 1) := by decide +kernel
theorem dX5_joinLetter_9 : decode cX5_joinLetter 9 = .ok (.iconst 1, 1) := by decide +kernel
theorem dX5_joinLetter_10 : decode cX5_joinLetter 10 = .ok (.iadd, 1) := by decide +kernel
theorem dX5_joinLetter_11 : decode cX5_joinLetter 11 = .ok (.i2l, 1) := by decide +kernel
theorem dX5_joinLetter_12 : decode cX5_joinLetter 12 = .ok (.ladd, 1) := by decide +kernel
theorem dX5_joinLetter_13 : decode cX5_joinLetter 13 = .ok (.lreturn, 1) := by decide +kernel
set_option maxRecDepth 20000 in
theorem ggX5_read_X4_empty : GoodIn wsX5_read wsX4_empty := goodIn_r _ [17, 18, 19, 20, 21, 22, 23, 24, 25, 26, 27, 28, 29, 30, 31, 32, 33, 34, 35, 36, 37, 38, 39, 40, 41, 42, 43, 44, 45, 46, 47, 332, 333, 334, 335, 336, 337, 338, 339, 340, 341, 342, 343, 344, 345, 346, 347, 348, 349, 350, 351, 352, 353] rfl (by decide +kernel)
set_option maxRecDepth 20000 in
theorem gX5_read_X4_empty : GoodIn wsX5_read (wsV RX5 87 RX4 yX4_empty wsX4_empty) := goodIn_app (goodIn_r _ [13, 14, 15, 16] rfl (by decide +kernel)) ggX5_read_X4_empty
set_option maxRecDepth 20000 in
theorem ggX5_read_X5_advance : GoodIn wsX5_read wsX5_advance := goodIn_r _ [52, 11, 53, 12, 54, 55, 56, 51, 57, 6, 1, 58, 59, 60, 61, 62, 63, 64, 65, 66, 67, 68, 69, 70, 71, 72, 73, 74, 75, 76, 77, 78, 79, 80, 81, 82, 83, 84, 85, 86, 87, 88, 89, 90, 91, 92, 93, 94, 95, 96, 97, 98, 99, 100, 101, 102, 103, 104, 105, 106, 107, 108, 109, 110, 111, 112, 113, 114, 115, 4, 116, 117, 3, 5, 118, 119, 120, 121, 122, 123, 124, 125, 126, 127, 128, 129, 130, 131, 132, 133, 134, 135, 136, 137, 138, 139, 140, 141, 142, 143, 144, 145, 146, 147, 148, 149, 150, 151, 152, 153, 154, 155, 156, 157, 158, 159, 160, 161, 162, 163, 164, 165, 166, 167, 168, 169, 170, 171, 317, 318, 319, 320, 321, 322, 323, 324, 325, 326, 327, 328, 329, 330, 331] rfl (by decide +kernel)
set_option maxRecDepth 20000 in
theorem gX5_read_X5_advance : GoodIn wsX5_read (wsV RX5 90 RX5 yX5_advance wsX5_advance) := goodIn_app (goodIn_r _ [48, 49, 50, 51] rfl (by decide +kernel)) ggX5_read_X5_advance
set_option maxRecDepth 20000 in
theorem ggX5_read_X5_readLine : GoodIn wsX5_read wsX5_readLine := goodIn_r _ [175, 12, 176, 177, 178, 51, 179, 7, 180, 181, 182, 85, 183, 184, 185, 186, 187, 53, 188, 189, 190, 191, 9, 10, 48, 49, 50, 52, 11, 54, 55, 56, 57, 6, 1, 58, 59, 60, 61, 62, 63, 64, 65, 66, 67, 68, 69, 70, 71, 72, 73, 74, 75, 76, 77, 78, 79, 80, 81, 82, 83, 84, 86, 87, 88, 89, 90, 91, 92, 93, 94, 95, 96, 97, 98, 99, 100, 101, 102, 103, 104, 105, 106, 107, 108, 109, 110, 111, 112, 113, 114, 115, 4, 116, 117, 3, 5, 118, 119, 120, 121, 122, 123, 124, 125, 126, 127, 128, 129, 130, 131, 132, 133, 134, 135, 136, 137, 138, 139, 140, 141, 142, 143, 144, 145, 146, 147, 148, 149, 150, 151, 152, 153, 154, 155, 156, 157, 158, 159, 160, 161, 162, 163, 164, 165, 166, 167, 168, 169, 170, 171, 192, 193, 194, 195, 196, 197, 198, 199, 200, 201, 202, 203, 204, 205, 206, 207, 208, 209, 210, 211, 212, 213, 214, 215, 216, 217, 218, 219, 220, 221, 222, 223, 224, 225, 226, 227, 228, 229, 230, 231, 232, 233, 234, 235, 236, 16, 237, 20, 238, 239, 240, 241, 242, 8, 243, 244, 245, 246, 247, 248, 249, 250, 251, 252, 253, 45, 254, 47, 255, 256, 257, 258, 259, 260, 261, 262, 263, 264, 265, 266, 267, 268, 269, 270, 271, 272, 273, 274, 275, 276, 277, 278, 279, 280, 281, 282, 283, 284, 285, 286, 287, 288, 289, 290, 291, 292, 293, 294, 295, 296, 297, 298, 299, 300, 301, 302, 303, 304, 305, 317, 318, 319, 320, 321, 322, 323, 324, 325, 326, 327, 328, 329, 330, 331, 332, 333, 334, 335, 336, 337, 338, 339, 340, 341, 342, 343, 344, 345, 346, 347, 348, 349, 350, 351, 352, 353] rfl (by decide +kernel)
set_option maxRecDepth 20000 in
theorem gX5_read_X5_readLine : GoodIn wsX5_read (wsV RX5 93 RX5 yX5_readLine wsX5_readLine) := goodIn_app (goodIn_r _ [172, 173, 174, 51] rfl (by decide +kernel)) ggX5_read_X5_readLine
set_option maxRecDepth 20000 in
theorem ggX5_read_X5_finish : GoodIn wsX5_read wsX5_finish := goodIn_r _ [309, 7, 222, 180, 310, 8, 247, 311, 312, 313, 45, 314, 315, 288, 289, 290, 291, 252, 253, 254, 47, 255, 316, 293, 294, 295, 317, 318, 319, 320, 321, 322, 323, 324, 325, 326, 327, 328, 329, 330, 331, 332, 333, 334, 335, 336, 337, 338, 339, 340, 341, 342, 343, 344, 345, 346, 347, 348, 349, 350, 351, 352, 353] rfl (by decide +kernel)
set_option maxRecDepth 20000 in
theorem gX5_read_X5_finish : GoodIn wsX5_read (wsV RX5 97 RX5 yX5_finish wsX5_finish) := goodIn_app (goodIn_r _ [306, 307, 308, 51] rfl (by decide +kernel)) ggX5_read_X5_finish
theorem dX5_read_0 : decode cX5_read 0 = .ok (.aload_n 0, 1) := by decide +kernel
theorem dX5_read_1 : decode cX5_read 1 = .ok (.aload_n 1, 1) := by decide +kernel
theorem dX5_read_2 : decode cX5_read 2 = .ok (.putfield 38, 3) := by decide +kernel
theorem dX5_read_5 : decode cX5_read 5 = .ok (.aload_n 0, 1) := by decide +kernel
theorem dX5_read_6 : decode cX5_read 6 = .ok (.iload_n 2, 1) := by decide +kernel
theorem dX5_read_7 : decode cX5_read 7 = .ok (.aload_n 1, 1) := by decide +kernel
theorem dX5_read_8 : decode cX5_read 8 = .ok (.arraylength, 1) := by decide +kernel
theorem dX5_read_9 : decode cX5_read 9 = .ok (.invokestatic 81, 3) := by decide +kernel
theorem dX5_read_12 : decode cX5_read 12 = .ok (.putfield 42, 3) := by decide +kernel
theorem dX5_read_15 : decode cX5_read 15 = .ok (.aload_n 0, 1) := by decide +kernel
theorem dX5_read_16 : decode cX5_read 16 = .ok (.getfield 12, 3) := by decide +kernel
theorem dX5_read_19 : decode cX5_read 19 = .ok (.invokevirtual 87, 3) := by decide +kernel
theorem dX5_read_22 : decode cX5_read 22 = .ok (.aload_n 0, 1) := by decide +kernel
theorem dX5_read_23 : decode cX5_read 23 = .ok (.iconst 0, 1) := by decide +kernel
theorem dX5_read_24 : decode cX5_read 24 = .ok (.putfield 45, 3) := by decide +kernel
theorem dX5_read_27 : decode cX5_read 27 = .ok (.aload_n 0, 1) := by decide +kernel
theorem dX5_read_28 : decode cX5_read 28 = .ok (.iconst 0, 1) := by decide +kernel
theorem dX5_read_29 : decode cX5_read 29 = .ok (.putfield 18, 3) := by decide +kernel
theorem dX5_read_32 : decode cX5_read 32 = .ok (.aload_n 0, 1) := by decide +kernel
theorem dX5_read_33 : decode cX5_read 33 = .ok (.iconst (-1), 1) := by decide +kernel
theorem dX5_read_34 : decode cX5_read 34 = .ok (.putfield 22, 3) := by decide +kernel
theorem dX5_read_37 : decode cX5_read 37 = .ok (.aload_n 0, 1) := by decide +kernel
theorem dX5_read_38 : decode cX5_read 38 = .ok (.iconst 0, 1) := by decide +kernel
theorem dX5_read_39 : decode cX5_read 39 = .ok (.putfield 48, 3) := by decide +kernel
theorem dX5_read_42 : decode cX5_read 42 = .ok (.aload_n 0, 1) := by decide +kernel
theorem dX5_read_43 : decode cX5_read 43 = .ok (.invokevirtual 90, 3) := by decide +kernel
theorem dX5_read_46 : decode cX5_read 46 = .ok (.iconst 1, 1) := by decide +kernel
theorem dX5_read_47 : decode cX5_read 47 = .ok (.istore_n 3, 1) := by decide +kernel
theorem dX5_read_48 : decode cX5_read 48 = .ok (.iconst 0, 1) := by decide +kernel
theorem dX5_read_49 : decode cX5_read 49 = .ok (.istore 4, 2) := by decide +kernel
theorem dX5_read_51 : decode cX5_read 51 = .ok (.iload 4, 2) := by decide +kernel
theorem dX5_read_53 : decode cX5_read 53 = .ok (.aload_n 0, 1) := by decide +kernel
theorem dX5_read_54 : decode cX5_read 54 = .ok (.getfield 42, 3) := by decide +kernel
theorem dX5_read_57 : decode cX5_read 57 = .ok (.if_icmp .gt 28, 3) := by decide +kernel
theorem dX5_read_60 : decode cX5_read 60 = .ok (.iload_n 3, 1) := by decide +kernel
theorem dX5_read_61 : decode cX5_read 61 = .ok (.ifCond .eq 24, 3) := by decide +kernel
theorem dX5_read_64 : decode cX5_read 64 = .ok (.aload_n 0, 1) := by decide +kernel
theorem dX5_read_65 : decode cX5_read 65 = .ok (.getfield 54, 3) := by decide +kernel
theorem dX5_read_68 : decode cX5_read 68 = .ok (.sipush 258, 3) := by decide +kernel
theorem dX5_read_71 : decode cX5_read 71 = .ok (.if_icmp .eq 14, 3) := by decide +kernel
theorem dX5_read_74 : decode cX5_read 74 = .ok (.aload_n 0, 1) := by decide +kernel
theorem dX5_read_75 : decode cX5_read 75 = .ok (.invokevirtual 93, 3) := by decide +kernel
theorem dX5_read_78 : decode cX5_read 78 = .ok (.istore_n 3, 1) := by decide +kernel
theorem dX5_read_79 : decode cX5_read 79 = .ok (.iinc 4 1, 3) := by decide +kernel
theorem dX5_read_82 : decode cX5_read 82 = .ok (.goto (-31), 3) := by decide +kernel
theorem dX5_read_85 : decode cX5_read 85 = .ok (.iload_n 3, 1) := by decide +kernel
theorem dX5_read_86 : decode cX5_read 86 = .ok (.ifCond .eq 7, 3) := by decide +kernel
theorem dX5_read_89 : decode cX5_read 89 = .ok (.aload_n 0, 1) := by decide +kernel
theorem dX5_read_90 : decode cX5_read 90 = .ok (.invokevirtual 97, 3) := by decide +kernel
theorem dX5_read_93 : decode cX5_read 93 = .ok (.iload_n 3, 1) := by decide +kernel
theorem dX5_read_94 : decode cX5_read 94 = .ok (.ireturn, 1) := by decide +kernel
set_option maxRecDepth 20000 in
theorem ggX5_finish_X2_addUntold : GoodIn wsX5_finish wsX2_addUntold := goodIn_r _ [11, 12, 13, 14, 10, 15, 16, 17, 18, 19, 20, 21, 22, 23, 24, 25, 60, 61, 62] rfl (by decide +kernel)
set_option maxRecDepth 20000 in
theorem gX5_finish_X2_addUntold : GoodIn wsX5_finish (wsV RX5 116 RX2 yX2_addUntold wsX2_addUntold) := goodIn_app (goodIn_r _ [7, 8, 9, 10] rfl (by decide +kernel)) ggX5_finish_X2_addUntold
theorem dX5_finish_0 : decode cX5_finish 0 = .ok (.aload_n 0, 1) := by decide +kernel
theorem dX5_finish_1 : decode cX5_finish 1 = .ok (.getfield 12, 3) := by decide +kernel
theorem dX5_finish_4 : decode cX5_finish 4 = .ok (.getfield 100, 3) := by decide +kernel
theorem dX5_finish_7 : decode cX5_finish 7 = .ok (.iconst 1, 1) := by decide +kernel
theorem dX5_finish_8 : decode cX5_finish 8 = .ok (.aload_n 0, 1) := by decide +kernel
theorem dX5_finish_9 : decode cX5_finish 9 = .ok (.getfield 12, 3) := by decide +kernel
theorem dX5_finish_12 : decode cX5_finish 12 = .ok (.getfield 104, 3) := by decide +kernel
theorem dX5_finish_15 : decode cX5_finish 15 = .ok (.ishl, 1) := by decide +kernel
theorem dX5_finish_16 : decode cX5_finish 16 = .ok (.iconst 1, 1) := by decide +kernel
theorem dX5_finish_17 : decode cX5_finish 17 = .ok (.isub, 1) := by decide +kernel
theorem dX5_finish_18 : decode cX5_finish 18 = .ok (.putfield 107, 3) := by decide +kernel
theorem dX5_finish_21 : decode cX5_finish 21 = .ok (.aload_n 0, 1) := by decide +kernel
theorem dX5_finish_22 : decode cX5_finish 22 = .ok (.getfield 45, 3) := by decide +kernel
theorem dX5_finish_25 : decode cX5_finish 25 = .ok (.iconst 3, 1) := by decide +kernel
theorem dX5_finish_26 : decode cX5_finish 26 = .ok (.ishr, 1) := by decide +kernel
theorem dX5_finish_27 : decode cX5_finish 27 = .ok (.iconst 1, 1) := by decide +kernel
theorem dX5_finish_28 : decode cX5_finish 28 = .ok (.iand, 1) := by decide +kernel
theorem dX5_finish_29 : decode cX5_finish 29 = .ok (.ifCond .ne 13, 3) := by decide +kernel
theorem dX5_finish_32 : decode cX5_finish 32 = .ok (.aload_n 0, 1) := by decide +kernel
theorem dX5_finish_33 : decode cX5_finish 33 = .ok (.getfield 12, 3) := by decide +kernel
theorem dX5_finish_36 : decode cX5_finish 36 = .ok (.getfield 112, 3) := by decide +kernel
theorem dX5_finish_39 : decode cX5_finish 39 = .ok (.invokevirtual 116, 3) := by decide +kernel
theorem dX5_finish_42 : decode cX5_finish 42 = .ok (.return_, 1) := by decide +kernel
set_option maxRecDepth 20000 in
theorem ggX5_readLine_X5_readCat : GoodIn wsX5_readLine wsX5_readCat := goodIn_r _ [6, 7, 8, 9, 10, 11, 12, 13, 14, 15, 5, 16, 1, 17, 18, 19, 20, 21, 22, 23, 24, 25, 26, 27, 28, 29, 30, 31, 32, 33, 34, 35, 36, 37, 38, 39, 40, 41, 42, 43, 44, 45, 46, 47, 48, 49, 50, 51, 52, 53, 54, 55, 56, 57, 58, 59, 60, 61, 62, 63, 64, 65, 66, 67, 68, 69, 70, 71, 72, 73, 74, 75, 76, 77, 78, 79, 80, 81, 82, 83, 84, 85, 86, 87, 88, 89, 90, 91, 92, 93, 94, 95, 96, 97, 98, 99, 100, 101, 102, 103, 104, 105, 106, 107, 108, 109, 110, 111, 112, 113, 114, 115, 116, 117, 118, 119, 120, 121, 122, 123, 124, 125, 126, 127, 128, 129, 130, 131, 132, 133, 134, 135, 136, 137, 138, 139, 140, 141, 142, 143, 144, 145, 146, 147, 148, 149, 150, 151, 152, 153, 154, 155, 156, 157, 158, 159, 160, 161, 162, 163, 164, 165, 166, 167, 168, 169, 170, 270, 271, 272, 273, 274, 275, 276, 277, 278, 279, 280, 281, 282, 283, 284, 285, 286, 287, 288, 289, 290, 291, 292, 293, 294, 295] rfl (by decide +kernel)
set_option maxRecDepth 20000 in
theorem gX5_readLine_X5_readCat : GoodIn wsX5_readLine (wsV RX5 121 RX5 yX5_readCat wsX5_readCat) := goodIn_app (goodIn_r _ [2, 3, 4, 5] rfl (by decide +kernel)) ggX5_readLine_X5_readCat
set_option maxRecDepth 20000 in
theorem ggX5_readLine_X5_closeLine : GoodIn wsX5_readLine wsX5_closeLine := goodIn_r _ [174, 155, 156, 157, 5, 158, 1, 13, 14, 15, 16, 17, 18, 19, 20, 21, 22, 23, 24, 25, 26, 27, 28, 29, 30, 31, 32, 33, 34, 35, 36, 37, 38, 39, 40, 41, 42, 43, 44, 45, 46, 47, 48, 49, 50, 51, 52, 53, 54, 55, 56, 57, 58, 59, 60, 61, 11, 62, 63, 64, 65, 66, 67, 68, 69, 70, 71, 72, 73, 74, 75, 76, 77, 78, 79, 80, 81, 82, 83, 84, 85, 86, 87, 88, 89, 90, 91, 92, 93, 94, 95, 96, 97, 98, 99, 100, 101, 102, 103, 104, 105, 106, 107, 108, 109, 110, 111, 112, 113, 114, 115, 116, 117, 118, 119, 120, 121, 122, 123, 124, 125, 126, 127, 128, 129, 130, 131, 132, 133, 134, 135, 136, 137, 138, 139, 140, 141, 142, 143, 144, 145, 146, 147, 148, 149, 150, 270, 271, 272, 273, 274, 275, 276, 277, 278, 279, 280, 281, 282, 283, 284] rfl (by decide +kernel)
set_option maxRecDepth 20000 in
theorem gX5_readLine_X5_closeLine : GoodIn wsX5_readLine (wsV RX5 124 RX5 yX5_closeLine wsX5_closeLine) := goodIn_app (goodIn_r _ [171, 172, 173, 5] rfl (by decide +kernel)) ggX5_readLine_X5_closeLine
set_option maxRecDepth 20000 in
theorem ggX5_readLine_X5_readRoom : GoodIn wsX5_readLine wsX5_readRoom := goodIn_r _ [178, 7, 179, 180, 9, 8, 181, 182, 13, 14, 15, 5, 16, 1, 17, 18, 19, 20, 21, 22, 23, 24, 25, 26, 27, 28, 29, 30, 31, 32, 33, 34, 35, 36, 37, 38, 39, 40, 41, 42, 43, 44, 45, 46, 47, 48, 49, 50, 51, 52, 53, 54, 55, 56, 57, 58, 59, 60, 61, 11, 62, 63, 64, 65, 66, 67, 68, 69, 70, 71, 72, 73, 74, 75, 76, 77, 78, 79, 80, 81, 82, 83, 84, 85, 86, 87, 88, 89, 90, 91, 92, 93, 94, 95, 96, 97, 98, 99, 100, 101, 102, 103, 104, 105, 106, 107, 108, 109, 110, 111, 112, 113, 114, 115, 116, 117, 118, 119, 120, 121, 122, 123, 124, 125, 126, 127, 128, 129, 130, 131, 132, 133, 134, 135, 136, 137, 138, 139, 140, 141, 142, 143, 144, 145, 146, 147, 148, 149, 150, 151, 152, 153, 154, 163, 164, 165, 166, 167, 168, 169, 170, 270, 271, 272, 273, 274, 275, 276, 277, 278, 279, 280, 281, 282, 283, 284, 285, 286, 287, 288, 289, 290, 291, 292, 293, 294, 295, 296, 297, 298, 299, 300, 301, 302, 303] rfl (by decide +kernel)
set_option maxRecDepth 20000 in
theorem gX5_readLine_X5_readRoom : GoodIn wsX5_readLine (wsV RX5 127 RX5 yX5_readRoom wsX5_readRoom) := goodIn_app (goodIn_r _ [175, 176, 177, 5] rfl (by decide +kernel)) ggX5_readLine_X5_readRoom
set_option maxRecDepth 20000 in
theorem ggX5_readLine_X5_readTenant : GoodIn wsX5_readLine wsX5_readTenant := goodIn_r _ [186, 7, 187, 188, 181, 189, 11, 190, 191, 17, 180, 179, 192, 13, 14, 15, 5, 16, 1, 18, 19, 20, 21, 22, 23, 24, 25, 26, 27, 28, 29, 30, 31, 32, 33, 34, 35, 36, 37, 38, 39, 40, 41, 42, 43, 44, 45, 46, 47, 48, 49, 50, 51, 52, 53, 54, 55, 56, 57, 58, 59, 60, 61, 62, 63, 64, 65, 66, 67, 68, 69, 70, 71, 72, 73, 74, 75, 76, 77, 78, 79, 80, 81, 82, 83, 84, 85, 86, 87, 88, 89, 90, 91, 92, 93, 94, 95, 96, 97, 98, 99, 100, 101, 102, 103, 104, 105, 106, 107, 108, 109, 110, 111, 112, 113, 114, 115, 116, 117, 118, 119, 120, 121, 122, 123, 124, 125, 126, 127, 128, 129, 130, 131, 132, 133, 134, 135, 136, 137, 138, 139, 140, 141, 142, 143, 144, 145, 146, 147, 148, 149, 150, 151, 152, 153, 154, 155, 156, 157, 158, 159, 160, 161, 162, 163, 164, 165, 166, 167, 168, 169, 170, 193, 194, 195, 196, 197, 198, 199, 270, 271, 272, 273, 274, 275, 276, 277, 278, 279, 280, 281, 282, 283, 284, 285, 286, 287, 288, 289, 290, 291, 292, 293, 294, 295, 296, 297, 298, 299, 300, 301, 302, 303] rfl (by decide +kernel)
set_option maxRecDepth 20000 in
theorem gX5_readLine_X5_readTenant : GoodIn wsX5_readLine (wsV RX5 130 RX5 yX5_readTenant wsX5_readTenant) := goodIn_app (goodIn_r _ [183, 184, 185, 5] rfl (by decide +kernel)) ggX5_readLine_X5_readTenant
set_option maxRecDepth 20000 in
theorem ggX5_readLine_X5_readOnce : GoodIn wsX5_readLine wsX5_readOnce := goodIn_r _ [203, 204, 1, 13, 14, 15, 5, 16, 17, 18, 19, 20, 21, 22, 23, 24, 25, 26, 27, 28, 29, 30, 31, 32, 33, 34, 35, 36, 37, 38, 39, 40, 41, 42, 43, 44, 45, 46, 47, 48, 49, 50, 51, 52, 53, 54, 55, 56, 57, 58, 59, 60, 61, 11, 62, 63, 64, 65, 66, 67, 68, 69, 70, 71, 72, 73, 74, 75, 76, 77, 78, 79, 80, 81, 82, 83, 84, 85, 86, 87, 88, 89, 90, 91, 92, 93, 94, 95, 96, 97, 98, 99, 100, 101, 102, 103, 104, 105, 106, 107, 108, 109, 110, 111, 112, 113, 114, 115, 116, 117, 118, 119, 120, 121, 122, 123, 124, 125, 126, 127, 128, 129, 130, 131, 132, 133, 134, 135, 136, 137, 138, 139, 140, 141, 142, 143, 144, 145, 146, 147, 148, 149, 150, 270, 271, 272, 273, 274, 275, 276, 277, 278, 279, 280, 281, 282, 283, 284] rfl (by decide +kernel)
set_option maxRecDepth 20000 in
theorem gX5_readLine_X5_readOnce : GoodIn wsX5_readLine (wsV RX5 133 RX5 yX5_readOnce wsX5_readOnce) := goodIn_app (goodIn_r _ [200, 201, 202, 5] rfl (by decide +kernel)) ggX5_readLine_X5_readOnce
set_option maxRecDepth 20000 in
theorem ggX5_readLine_X5_readEither : GoodIn wsX5_readLine wsX5_readEither := goodIn_r _ [208, 1, 7, 209, 210, 211, 212, 5, 24, 25, 26, 27, 28, 17, 29, 30, 31, 32, 33, 34, 35, 36, 37, 38, 39, 40, 41, 42, 43, 44, 45, 46, 47, 48, 49, 50, 51, 52, 53, 54, 55, 56, 57, 58, 59, 60, 61, 11, 62, 63, 64, 65, 66, 67, 68, 69, 70, 71, 72, 73, 74, 75, 76, 77, 78, 79, 80, 81, 82, 83, 84, 85, 86, 87, 88, 89, 90, 91, 92, 93, 94, 95, 96, 97, 98, 99, 100, 101, 102, 103, 104, 105, 106, 107, 108, 109, 110, 111, 112, 113, 114, 115, 116, 117, 118, 119, 120, 121, 122, 123, 124, 125, 126, 127, 128, 129, 130, 131, 132, 133, 134, 135, 136, 137, 138, 139, 140, 141, 142, 143, 144, 145, 146, 147, 148, 149, 150, 213, 214, 215, 216, 217, 218, 219, 220, 221, 222, 223, 224, 13, 14, 15, 16, 18, 19, 20, 21, 22, 23, 225, 226, 227, 228, 229, 230, 231, 232, 205, 206, 207, 155, 156, 157, 158, 233, 234, 235, 236, 237, 238, 239, 240, 241, 242, 243, 244, 245, 246, 247, 248, 249, 250, 251, 252, 253, 254, 255, 256, 257, 258, 259, 270, 271, 272, 273, 274, 275, 276, 277, 278, 279, 280, 281, 282, 283, 284, 285, 286, 287, 288, 289, 290, 291, 292, 293, 294, 295, 304, 305, 306] rfl (by decide +kernel)
set_option maxRecDepth 20000 in
theorem gX5_readLine_X5_readEither : GoodIn wsX5_readLine (wsV RX5 136 RX5 yX5_readEither wsX5_readEither) := goodIn_app (goodIn_r _ [205, 206, 207, 5] rfl (by decide +kernel)) ggX5_readLine_X5_readEither
set_option maxRecDepth 20000 in
theorem ggX5_readLine_X5_readDies : GoodIn wsX5_readLine wsX5_readDies := goodIn_r _ [263, 7, 11, 264, 159, 160, 161, 5, 162, 1, 17, 13, 14, 15, 16, 18, 19, 20, 21, 22, 23, 24, 25, 26, 27, 28, 29, 30, 31, 32, 33, 34, 35, 36, 37, 38, 39, 40, 41, 42, 43, 44, 45, 46, 47, 48, 49, 50, 51, 52, 53, 54, 55, 56, 57, 58, 59, 60, 61, 62, 63, 64, 65, 66, 67, 68, 69, 70, 71, 72, 73, 74, 75, 76, 77, 78, 79, 80, 81, 82, 83, 84, 85, 86, 87, 88, 89, 90, 91, 92, 93, 94, 95, 96, 97, 98, 99, 100, 101, 102, 103, 104, 105, 106, 107, 108, 109, 110, 111, 112, 113, 114, 115, 116, 117, 118, 119, 120, 121, 122, 123, 124, 125, 126, 127, 128, 129, 130, 131, 132, 133, 134, 135, 136, 137, 138, 139, 140, 141, 142, 143, 144, 145, 146, 147, 148, 149, 150, 270, 271, 272, 273, 274, 275, 276, 277, 278, 279, 280, 281, 282, 283, 284, 285, 286, 287, 288, 289, 290, 291, 292, 293, 294, 295] rfl (by decide +kernel)
set_option maxRecDepth 20000 in
theorem gX5_readLine_X5_readDies : GoodIn wsX5_readLine (wsV RX5 140 RX5 yX5_readDies wsX5_readDies) := goodIn_app (goodIn_r _ [260, 261, 262, 5] rfl (by decide +kernel)) ggX5_readLine_X5_readDies
set_option maxRecDepth 20000 in
theorem ggX5_readLine_X5_readDraw : GoodIn wsX5_readLine wsX5_readDraw := goodIn_r _ [268, 7, 181, 11, 269, 159, 160, 161, 5, 162, 1, 17, 13, 14, 15, 16, 18, 19, 20, 21, 22, 23, 24, 25, 26, 27, 28, 29, 30, 31, 32, 33, 34, 35, 36, 37, 38, 39, 40, 41, 42, 43, 44, 45, 46, 47, 48, 49, 50, 51, 52, 53, 54, 55, 56, 57, 58, 59, 60, 61, 62, 63, 64, 65, 66, 67, 68, 69, 70, 71, 72, 73, 74, 75, 76, 77, 78, 79, 80, 81, 82, 83, 84, 85, 86, 87, 88, 89, 90, 91, 92, 93, 94, 95, 96, 97, 98, 99, 100, 101, 102, 103, 104, 105, 106, 107, 108, 109, 110, 111, 112, 113, 114, 115, 116, 117, 118, 119, 120, 121, 122, 123, 124, 125, 126, 127, 128, 129, 130, 131, 132, 133, 134, 135, 136, 137, 138, 139, 140, 141, 142, 143, 144, 145, 146, 147, 148, 149, 150, 270, 271, 272, 273, 274, 275, 276, 277, 278, 279, 280, 281, 282, 283, 284, 285, 286, 287, 288, 289, 290, 291, 292, 293, 294, 295, 296, 297, 298, 299, 300, 301, 302, 303] rfl (by decide +kernel)
set_option maxRecDepth 20000 in
theorem gX5_readLine_X5_readDraw : GoodIn wsX5_readLine (wsV RX5 143 RX5 yX5_readDraw wsX5_readDraw) := goodIn_app (goodIn_r _ [265, 266, 267, 5] rfl (by decide +kernel)) ggX5_readLine_X5_readDraw
set_option maxRecDepth 20000 in
theorem ggX5_readLine_X5_refuse : GoodIn wsX5_readLine wsX5_refuse := goodIn_r _ [16, 1, 17, 18, 19, 20, 5, 21, 22, 23, 270, 271, 272, 273, 274, 275, 276, 277, 278, 279, 280, 281, 282, 283, 284] rfl (by decide +kernel)
set_option maxRecDepth 20000 in
theorem gX5_readLine_X5_refuse : GoodIn wsX5_readLine (wsV RX5 146 RX5 yX5_refuse wsX5_refuse) := goodIn_app (goodIn_r _ [13, 14, 15, 5] rfl (by decide +kernel)) ggX5_readLine_X5_refuse
theorem dX5_readLine_0 : decode cX5_readLine 0 = .ok (.aload_n 0, 1) := by decide +kernel
theorem dX5_readLine_1 : decode cX5_readLine 1 = .ok (.getfield 54, 3) := by decide +kernel
theorem dX5_readLine_4 : decode cX5_readLine 4 = .ok (.tableswitch 182 0 5 #[40, 60, 80, 100, 128, 155], 40) := by decide +kernel
theorem dX5_readLine_44 : decode cX5_readLine 44 = .ok (.aload_n 0, 1) := by decide +kernel
theorem dX5_readLine_45 : decode cX5_readLine 45 = .ok (.invokevirtual 121, 3) := by decide +kernel
theorem dX5_readLine_48 : decode cX5_readLine 48 = .ok (.ifCond .eq 14, 3) := by decide +kernel
theorem dX5_readLine_51 : decode cX5_readLine 51 = .ok (.aload_n 0, 1) := by decide +kernel
theorem dX5_readLine_52 : decode cX5_readLine 52 = .ok (.invokevirtual 124, 3) := by decide +kernel
theorem dX5_readLine_55 : decode cX5_readLine 55 = .ok (.ifCond .eq 7, 3) := by decide +kernel
theorem dX5_readLine_58 : decode cX5_readLine 58 = .ok (.iconst 1, 1) := by decide +kernel
theorem dX5_readLine_59 : decode cX5_readLine 59 = .ok (.goto 4, 3) := by decide +kernel
theorem dX5_readLine_62 : decode cX5_readLine 62 = .ok (.iconst 0, 1) := by decide +kernel
theorem dX5_readLine_63 : decode cX5_readLine 63 = .ok (.ireturn, 1) := by decide +kernel
theorem dX5_readLine_64 : decode cX5_readLine 64 = .ok (.aload_n 0, 1) := by decide +kernel
theorem dX5_readLine_65 : decode cX5_readLine 65 = .ok (.invokevirtual 127, 3) := by decide +kernel
theorem dX5_readLine_68 : decode cX5_readLine 68 = .ok (.ifCond .eq 14, 3) := by decide +kernel
theorem dX5_readLine_71 : decode cX5_readLine 71 = .ok (.aload_n 0, 1) := by decide +kernel
theorem dX5_readLine_72 : decode cX5_readLine 72 = .ok (.invokevirtual 124, 3) := by decide +kernel
theorem dX5_readLine_75 : decode cX5_readLine 75 = .ok (.ifCond .eq 7, 3) := by decide +kernel
theorem dX5_readLine_78 : decode cX5_readLine 78 = .ok (.iconst 1, 1) := by decide +kernel
theorem dX5_readLine_79 : decode cX5_readLine 79 = .ok (.goto 4, 3) := by decide +kernel
theorem dX5_readLine_82 : decode cX5_readLine 82 = .ok (.iconst 0, 1) := by decide +kernel
theorem dX5_readLine_83 : decode cX5_readLine 83 = .ok (.ireturn, 1) := by decide +kernel
theorem dX5_readLine_84 : decode cX5_readLine 84 = .ok (.aload_n 0, 1) := by decide +kernel
theorem dX5_readLine_85 : decode cX5_readLine 85 = .ok (.invokevirtual 130, 3) := by decide +kernel
theorem dX5_readLine_88 : decode cX5_readLine 88 = .ok (.ifCond .eq 14, 3) := by decide +kernel
theorem dX5_readLine_91 : decode cX5_readLine 91 = .ok (.aload_n 0, 1) := by decide +kernel
theorem dX5_readLine_92 : decode cX5_readLine 92 = .ok (.invokevirtual 124, 3) := by decide +kernel
theorem dX5_readLine_95 : decode cX5_readLine 95 = .ok (.ifCond .eq 7, 3) := by decide +kernel
theorem dX5_readLine_98 : decode cX5_readLine 98 = .ok (.iconst 1, 1) := by decide +kernel
theorem dX5_readLine_99 : decode cX5_readLine 99 = .ok (.goto 4, 3) := by decide +kernel
theorem dX5_readLine_102 : decode cX5_readLine 102 = .ok (.iconst 0, 1) := by decide +kernel
theorem dX5_readLine_103 : decode cX5_readLine 103 = .ok (.ireturn, 1) := by decide +kernel
theorem dX5_readLine_104 : decode cX5_readLine 104 = .ok (.aload_n 0, 1) := by decide +kernel
theorem dX5_readLine_105 : decode cX5_readLine 105 = .ok (.invokevirtual 133, 3) := by decide +kernel
theorem dX5_readLine_108 : decode cX5_readLine 108 = .ok (.ifCond .eq 22, 3) := by decide +kernel
theorem dX5_readLine_111 : decode cX5_readLine 111 = .ok (.aload_n 0, 1) := by decide +kernel
theorem dX5_readLine_112 : decode cX5_readLine 112 = .ok (.iconst 0, 1) := by decide +kernel
theorem dX5_readLine_113 : decode cX5_readLine 113 = .ok (.invokevirtual 136, 3) := by decide +kernel
theorem dX5_readLine_116 : decode cX5_readLine 116 = .ok (.ifCond .eq 14, 3) := by decide +kernel
theorem dX5_readLine_119 : decode cX5_readLine 119 = .ok (.aload_n 0, 1) := by decide +kernel
theorem dX5_readLine_120 : decode cX5_readLine 120 = .ok (.invokevirtual 124, 3) := by decide +kernel
theorem dX5_readLine_123 : decode cX5_readLine 123 = .ok (.ifCond .eq 7, 3) := by decide +kernel
theorem dX5_readLine_126 : decode cX5_readLine 126 = .ok (.iconst 1, 1) := by decide +kernel
theorem dX5_readLine_127 : decode cX5_readLine 127 = .ok (.goto 4, 3) := by decide +kernel
theorem dX5_readLine_130 : decode cX5_readLine 130 = .ok (.iconst 0, 1) := by decide +kernel
theorem dX5_readLine_131 : decode cX5_readLine 131 = .ok (.ireturn, 1) := by decide +kernel
theorem dX5_readLine_132 : decode cX5_readLine 132 = .ok (.aload_n 0, 1) := by decide +kernel
theorem dX5_readLine_133 : decode cX5_readLine 133 = .ok (.invokevirtual 133, 3) := by decide +kernel
theorem dX5_readLine_136 : decode cX5_readLine 136 = .ok (.ifCond .eq 21, 3) := by decide +kernel
theorem dX5_readLine_139 : decode cX5_readLine 139 = .ok (.aload_n 0, 1) := by decide +kernel
theorem dX5_readLine_140 : decode cX5_readLine 140 = .ok (.invokevirtual 140, 3) := by decide +kernel
theorem dX5_readLine_143 : decode cX5_readLine 143 = .ok (.ifCond .eq 14, 3) := by decide +kernel
theorem dX5_readLine_146 : decode cX5_readLine 146 = .ok (.aload_n 0, 1) := by decide +kernel
theorem dX5_readLine_147 : decode cX5_readLine 147 = .ok (.invokevirtual 124, 3) := by decide +kernel
theorem dX5_readLine_150 : decode cX5_readLine 150 = .ok (.ifCond .eq 7, 3) := by decide +kernel
theorem dX5_readLine_153 : decode cX5_readLine 153 = .ok (.iconst 1, 1) := by decide +kernel
theorem dX5_readLine_154 : decode cX5_readLine 154 = .ok (.goto 4, 3) := by decide +kernel
theorem dX5_readLine_157 : decode cX5_readLine 157 = .ok (.iconst 0, 1) := by decide +kernel
theorem dX5_readLine_158 : decode cX5_readLine 158 = .ok (.ireturn, 1) := by decide +kernel
theorem dX5_readLine_159 : decode cX5_readLine 159 = .ok (.aload_n 0, 1) := by decide +kernel
theorem dX5_readLine_160 : decode cX5_readLine 160 = .ok (.invokevirtual 133, 3) := by decide +kernel
theorem dX5_readLine_163 : decode cX5_readLine 163 = .ok (.ifCond .eq 21, 3) := by decide +kernel
theorem dX5_readLine_166 : decode cX5_readLine 166 = .ok (.aload_n 0, 1) := by decide +kernel
theorem dX5_readLine_167 : decode cX5_readLine 167 = .ok (.invokevirtual 143, 3) := by decide +kernel
theorem dX5_readLine_170 : decode cX5_readLine 170 = .ok (.ifCond .eq 14, 3) := by decide +kernel
theorem dX5_readLine_173 : decode cX5_readLine 173 = .ok (.aload_n 0, 1) := by decide +kernel
theorem dX5_readLine_174 : decode cX5_readLine 174 = .ok (.invokevirtual 124, 3) := by decide +kernel
theorem dX5_readLine_177 : decode cX5_readLine 177 = .ok (.ifCond .eq 7, 3) := by decide +kernel
theorem dX5_readLine_180 : decode cX5_readLine 180 = .ok (.iconst 1, 1) := by decide +kernel
theorem dX5_readLine_181 : decode cX5_readLine 181 = .ok (.goto 4, 3) := by decide +kernel
theorem dX5_readLine_184 : decode cX5_readLine 184 = .ok (.iconst 0, 1) := by decide +kernel
theorem dX5_readLine_185 : decode cX5_readLine 185 = .ok (.ireturn, 1) := by decide +kernel
theorem dX5_readLine_186 : decode cX5_readLine 186 = .ok (.aload_n 0, 1) := by decide +kernel
theorem dX5_readLine_187 : decode cX5_readLine 187 = .ok (.invokevirtual 146, 3) := by decide +kernel
theorem dX5_readLine_190 : decode cX5_readLine 190 = .ok (.ireturn, 1) := by decide +kernel
set_option maxRecDepth 20000 in
theorem ggX5_readCat_X5_refuse : GoodIn wsX5_readCat wsX5_refuse := goodIn_r _ [11, 12, 13, 14, 15, 16, 10, 17, 18, 19, 167, 168, 169, 170, 171, 172, 173, 174, 175, 176, 177, 178, 179, 180, 181] rfl (by decide +kernel)
set_option maxRecDepth 20000 in
theorem gX5_readCat_X5_refuse : GoodIn wsX5_readCat (wsV RX5 146 RX5 yX5_refuse wsX5_refuse) := goodIn_app (goodIn_r _ [7, 8, 9, 10] rfl (by decide +kernel)) ggX5_readCat_X5_refuse
set_option maxRecDepth 20000 in
theorem ggX5_readCat_X5_advance : GoodIn wsX5_readCat wsX5_advance := goodIn_r _ [23, 24, 13, 12, 25, 26, 27, 10, 28, 29, 30, 31, 32, 33, 34, 35, 36, 37, 38, 39, 40, 41, 42, 43, 44, 45, 46, 47, 48, 49, 50, 51, 52, 53, 54, 55, 56, 57, 5, 58, 59, 60, 61, 62, 63, 64, 65, 66, 67, 68, 69, 70, 71, 72, 73, 74, 75, 76, 77, 78, 79, 80, 81, 82, 83, 84, 85, 86, 87, 88, 89, 90, 91, 92, 93, 94, 95, 96, 97, 98, 99, 100, 101, 102, 103, 104, 105, 106, 107, 108, 109, 110, 111, 112, 113, 114, 115, 116, 117, 118, 119, 120, 121, 122, 123, 124, 125, 126, 127, 128, 129, 130, 131, 132, 133, 134, 135, 136, 137, 138, 139, 140, 141, 142, 143, 144, 145, 146, 167, 168, 169, 170, 171, 172, 173, 174, 175, 176, 177, 178, 179, 180, 181] rfl (by decide +kernel)
set_option maxRecDepth 20000 in
theorem gX5_readCat_X5_advance : GoodIn wsX5_readCat (wsV RX5 90 RX5 yX5_advance wsX5_advance) := goodIn_app (goodIn_r _ [20, 21, 22, 10] rfl (by decide +kernel)) ggX5_readCat_X5_advance
set_option maxRecDepth 20000 in
theorem ggX5_readCat_X5_readNewName : GoodIn wsX5_readCat wsX5_readNewName := goodIn_r _ [150, 12, 13, 41, 7, 8, 9, 10, 11, 14, 15, 16, 17, 18, 19, 47, 48, 49, 50, 20, 21, 22, 23, 24, 25, 26, 27, 28, 29, 30, 31, 32, 33, 34, 35, 36, 37, 38, 39, 40, 42, 43, 44, 45, 46, 51, 52, 53, 54, 55, 56, 57, 5, 58, 59, 60, 61, 62, 63, 64, 65, 66, 67, 68, 69, 70, 71, 72, 73, 74, 75, 76, 77, 78, 79, 80, 81, 82, 83, 84, 85, 86, 87, 88, 89, 90, 91, 92, 93, 94, 95, 96, 97, 98, 99, 100, 101, 102, 103, 104, 105, 106, 107, 108, 109, 110, 111, 112, 113, 114, 115, 116, 117, 118, 119, 120, 121, 122, 123, 124, 125, 126, 127, 128, 129, 130, 131, 132, 133, 134, 135, 136, 137, 138, 139, 140, 141, 142, 143, 144, 145, 146, 167, 168, 169, 170, 171, 172, 173, 174, 175, 176, 177, 178, 179, 180, 181] rfl (by decide +kernel)
set_option maxRecDepth 20000 in
theorem gX5_readCat_X5_readNewName : GoodIn wsX5_readCat (wsV RX5 149 RX5 yX5_readNewName wsX5_readNewName) := goodIn_app (goodIn_r _ [147, 148, 149, 10] rfl (by decide +kernel)) ggX5_readCat_X5_readNewName
set_option maxRecDepth 20000 in
theorem ggX5_readCat_X5_readWord : GoodIn wsX5_readCat wsX5_readWord := goodIn_r _ [154, 12, 7, 8, 9, 10, 11, 13, 14, 15, 16, 17, 18, 19, 20, 21, 22, 23, 24, 25, 26, 27, 28, 29, 30, 31, 32, 33, 34, 35, 36, 37, 38, 39, 40, 41, 42, 43, 44, 45, 46, 47, 48, 49, 50, 51, 52, 53, 54, 55, 56, 57, 5, 58, 59, 60, 61, 62, 63, 64, 65, 66, 67, 68, 69, 70, 71, 72, 73, 74, 75, 76, 77, 78, 79, 80, 81, 82, 83, 84, 85, 86, 87, 88, 89, 90, 91, 92, 93, 94, 95, 96, 97, 98, 99, 100, 101, 102, 103, 104, 105, 106, 107, 108, 109, 110, 111, 112, 113, 114, 115, 116, 117, 118, 119, 120, 121, 122, 123, 124, 125, 126, 127, 128, 129, 130, 131, 132, 133, 134, 135, 136, 137, 138, 139, 140, 141, 142, 143, 144, 145, 146, 167, 168, 169, 170, 171, 172, 173, 174, 175, 176, 177, 178, 179, 180, 181] rfl (by decide +kernel)
set_option maxRecDepth 20000 in
theorem gX5_readCat_X5_readWord : GoodIn wsX5_readCat (wsV RX5 153 RX5 yX5_readWord wsX5_readWord) := goodIn_app (goodIn_r _ [151, 152, 153, 10] rfl (by decide +kernel)) ggX5_readCat_X5_readWord
set_option maxRecDepth 20000 in
theorem ggX5_readCat_X5_readNumber : GoodIn wsX5_readCat wsX5_readNumber := goodIn_r _ [158, 12, 5, 13, 7, 8, 9, 10, 11, 14, 15, 16, 17, 18, 19, 20, 21, 22, 23, 24, 25, 26, 27, 28, 29, 30, 31, 32, 33, 34, 35, 36, 37, 38, 39, 40, 41, 42, 43, 44, 45, 46, 47, 48, 49, 50, 51, 52, 53, 54, 55, 56, 57, 58, 59, 60, 61, 62, 63, 64, 65, 66, 67, 68, 69, 70, 71, 72, 73, 74, 75, 76, 77, 78, 79, 80, 81, 82, 83, 84, 85, 86, 87, 88, 89, 90, 91, 92, 93, 94, 95, 96, 97, 98, 99, 100, 101, 102, 103, 104, 105, 106, 107, 108, 109, 110, 111, 112, 113, 114, 115, 116, 117, 118, 119, 120, 121, 122, 123, 124, 125, 126, 127, 128, 129, 130, 131, 132, 133, 134, 135, 136, 137, 138, 139, 140, 141, 142, 143, 144, 145, 146, 167, 168, 169, 170, 171, 172, 173, 174, 175, 176, 177, 178, 179, 180, 181] rfl (by decide +kernel)
set_option maxRecDepth 20000 in
theorem gX5_readCat_X5_readNumber : GoodIn wsX5_readCat (wsV RX5 156 RX5 yX5_readNumber wsX5_readNumber) := goodIn_app (goodIn_r _ [155, 156, 157, 10] rfl (by decide +kernel)) ggX5_readCat_X5_readNumber
set_option maxRecDepth 20000 in
theorem ggX5_readCat_X5_follows : GoodIn wsX5_readCat wsX5_follows := goodIn_r _ [162, 12, 20, 21, 22, 10, 23, 24, 13, 25, 26, 27, 28, 29, 30, 31, 32, 33, 34, 35, 36, 37, 38, 39, 40, 41, 42, 43, 44, 45, 46, 47, 48, 49, 50, 51, 52, 53, 54, 55, 56, 57, 5, 58, 59, 60, 61, 62, 63, 64, 65, 66, 67, 68, 69, 70, 71, 72, 73, 74, 75, 76, 77, 78, 79, 80, 81, 82, 83, 84, 85, 86, 87, 88, 89, 90, 91, 92, 93, 94, 95, 96, 97, 98, 99, 100, 101, 102, 103, 104, 105, 106, 107, 108, 109, 110, 111, 112, 113, 114, 115, 116, 117, 118, 119, 120, 121, 122, 123, 124, 125, 126, 127, 128, 129, 130, 131, 132, 133, 134, 135, 136, 137, 138, 139, 140, 141, 142, 143, 144, 145, 146, 167, 168, 169, 170, 171, 172, 173, 174, 175, 176, 177, 178, 179, 180, 181] rfl (by decide +kernel)
set_option maxRecDepth 20000 in
theorem gX5_readCat_X5_follows : GoodIn wsX5_readCat (wsV RX5 166 RX5 yX5_follows wsX5_follows) := goodIn_app (goodIn_r _ [159, 160, 161, 10] rfl (by decide +kernel)) ggX5_readCat_X5_follows
set_option maxRecDepth 20000 in
theorem ggX5_readCat_X5_readKnownName : GoodIn wsX5_readCat wsX5_readKnownName := goodIn_r _ [166, 12, 13, 7, 8, 9, 10, 11, 14, 15, 16, 17, 18, 19, 47, 48, 49, 50, 41, 20, 21, 22, 23, 24, 25, 26, 27, 28, 29, 30, 31, 32, 33, 34, 35, 36, 37, 38, 39, 40, 42, 43, 44, 45, 46, 51, 52, 53, 54, 55, 56, 57, 5, 58, 59, 60, 61, 62, 63, 64, 65, 66, 67, 68, 69, 70, 71, 72, 73, 74, 75, 76, 77, 78, 79, 80, 81, 82, 83, 84, 85, 86, 87, 88, 89, 90, 91, 92, 93, 94, 95, 96, 97, 98, 99, 100, 101, 102, 103, 104, 105, 106, 107, 108, 109, 110, 111, 112, 113, 114, 115, 116, 117, 118, 119, 120, 121, 122, 123, 124, 125, 126, 127, 128, 129, 130, 131, 132, 133, 134, 135, 136, 137, 138, 139, 140, 141, 142, 143, 144, 145, 146, 167, 168, 169, 170, 171, 172, 173, 174, 175, 176, 177, 178, 179, 180, 181] rfl (by decide +kernel)
set_option maxRecDepth 20000 in
theorem gX5_readCat_X5_readKnownName : GoodIn wsX5_readCat (wsV RX5 169 RX5 yX5_readKnownName wsX5_readKnownName) := goodIn_app (goodIn_r _ [163, 164, 165, 10] rfl (by decide +kernel)) ggX5_readCat_X5_readKnownName
theorem dX5_readCat_0 : decode cX5_readCat 0 = .ok (.aload_n 0, 1) := by decide +kernel
theorem dX5_readCat_1 : decode cX5_readCat 1 = .ok (.getfield 12, 3) := by decide +kernel
theorem dX5_readCat_4 : decode cX5_readCat 4 = .ok (.getfield 104, 3) := by decide +kernel
theorem dX5_readCat_7 : decode cX5_readCat 7 = .ok (.istore_n 1, 1) := by decide +kernel
theorem dX5_readCat_8 : decode cX5_readCat 8 = .ok (.iload_n 1, 1) := by decide +kernel
theorem dX5_readCat_9 : decode cX5_readCat 9 = .ok (.bipush 6, 2) := by decide +kernel
theorem dX5_readCat_11 : decode cX5_readCat 11 = .ok (.if_icmp .lt 8, 3) := by decide +kernel
theorem dX5_readCat_14 : decode cX5_readCat 14 = .ok (.aload_n 0, 1) := by decide +kernel
theorem dX5_readCat_15 : decode cX5_readCat 15 = .ok (.invokevirtual 146, 3) := by decide +kernel
theorem dX5_readCat_18 : decode cX5_readCat 18 = .ok (.ireturn, 1) := by decide +kernel
theorem dX5_readCat_19 : decode cX5_readCat 19 = .ok (.aload_n 0, 1) := by decide +kernel
theorem dX5_readCat_20 : decode cX5_readCat 20 = .ok (.invokevirtual 90, 3) := by decide +kernel
theorem dX5_readCat_23 : decode cX5_readCat 23 = .ok (.aload_n 0, 1) := by decide +kernel
theorem dX5_readCat_24 : decode cX5_readCat 24 = .ok (.aload_n 0, 1) := by decide +kernel
theorem dX5_readCat_25 : decode cX5_readCat 25 = .ok (.getfield 29, 3) := by decide +kernel
theorem dX5_readCat_28 : decode cX5_readCat 28 = .ok (.iload_n 1, 1) := by decide +kernel
theorem dX5_readCat_29 : decode cX5_readCat 29 = .ok (.invokevirtual 149, 3) := by decide +kernel
theorem dX5_readCat_32 : decode cX5_readCat 32 = .ok (.ifCond .eq 21, 3) := by decide +kernel
theorem dX5_readCat_35 : decode cX5_readCat 35 = .ok (.aload_n 0, 1) := by decide +kernel
theorem dX5_readCat_36 : decode cX5_readCat 36 = .ok (.bipush 6, 2) := by decide +kernel
theorem dX5_readCat_38 : decode cX5_readCat 38 = .ok (.invokevirtual 153, 3) := by decide +kernel
theorem dX5_readCat_41 : decode cX5_readCat 41 = .ok (.ifCond .eq 12, 3) := by decide +kernel
theorem dX5_readCat_44 : decode cX5_readCat 44 = .ok (.aload_n 0, 1) := by decide +kernel
theorem dX5_readCat_45 : decode cX5_readCat 45 = .ok (.bipush 99, 2) := by decide +kernel
theorem dX5_readCat_47 : decode cX5_readCat 47 = .ok (.invokevirtual 156, 3) := by decide +kernel
theorem dX5_readCat_50 : decode cX5_readCat 50 = .ok (.ifCond .ne 5, 3) := by decide +kernel
theorem dX5_readCat_53 : decode cX5_readCat 53 = .ok (.iconst 0, 1) := by decide +kernel
theorem dX5_readCat_54 : decode cX5_readCat 54 = .ok (.ireturn, 1) := by decide +kernel
theorem dX5_readCat_55 : decode cX5_readCat 55 = .ok (.aload_n 0, 1) := by decide +kernel
theorem dX5_readCat_56 : decode cX5_readCat 56 = .ok (.getfield 12, 3) := by decide +kernel
theorem dX5_readCat_59 : decode cX5_readCat 59 = .ok (.getfield 159, 3) := by decide +kernel
theorem dX5_readCat_62 : decode cX5_readCat 62 = .ok (.iload_n 1, 1) := by decide +kernel
theorem dX5_readCat_63 : decode cX5_readCat 63 = .ok (.aload_n 0, 1) := by decide +kernel
theorem dX5_readCat_64 : decode cX5_readCat 64 = .ok (.getfield 57, 3) := by decide +kernel
theorem dX5_readCat_67 : decode cX5_readCat 67 = .ok (.iastore, 1) := by decide +kernel
theorem dX5_readCat_68 : decode cX5_readCat 68 = .ok (.aload_n 0, 1) := by decide +kernel
theorem dX5_readCat_69 : decode cX5_readCat 69 = .ok (.getfield 12, 3) := by decide +kernel
theorem dX5_readCat_72 : decode cX5_readCat 72 = .ok (.getfield 163, 3) := by decide +kernel
theorem dX5_readCat_75 : decode cX5_readCat 75 = .ok (.iload_n 1, 1) := by decide +kernel
theorem dX5_readCat_76 : decode cX5_readCat 76 = .ok (.iconst (-1), 1) := by decide +kernel
