theorem dX6_foresee_129 : decode cX6_foresee 129 = .ok (.iload_n 2, 1) := by decide +kernel
theorem dX6_foresee_130 : decode cX6_foresee 130 = .ok (.iload 6, 2) := by decide +kernel
theorem dX6_foresee_132 : decode cX6_foresee 132 = .ok (.bipush 9, 2) := by decide +kernel
theorem dX6_foresee_134 : decode cX6_foresee 134 = .ok (.invokevirtual 68, 3) := by decide +kernel
theorem dX6_foresee_137 : decode cX6_foresee 137 = .ok (.goto 5, 3) := by decide +kernel
theorem dX6_foresee_140 : decode cX6_foresee 140 = .ok (.iload 5, 2) := by decide +kernel
theorem dX6_foresee_142 : decode cX6_foresee 142 = .ok (.iastore, 1) := by decide +kernel
theorem dX6_foresee_143 : decode cX6_foresee 143 = .ok (.iinc 6 1, 3) := by decide +kernel
theorem dX6_foresee_146 : decode cX6_foresee 146 = .ok (.goto (-45), 3) := by decide +kernel
theorem dX6_foresee_149 : decode cX6_foresee 149 = .ok (.iinc 2 1, 3) := by decide +kernel
theorem dX6_foresee_152 : decode cX6_foresee 152 = .ok (.goto (-121), 3) := by decide +kernel
theorem dX6_foresee_155 : decode cX6_foresee 155 = .ok (.return_, 1) := by decide +kernel
set_option maxRecDepth 20000 in
theorem ggX6_allow_X6_counts : GoodIn wsX6_allow wsX6_counts := goodIn_r _ [10, 11, 12, 18, 19, 20, 21, 22, 23, 24, 25, 26] rfl (by decide +kernel)
set_option maxRecDepth 20000 in
theorem gX6_allow_X6_counts : GoodIn wsX6_allow (wsV RX6 72 RX6 yX6_counts wsX6_counts) := goodIn_app (goodIn_r _ [6, 7, 8, 9] rfl (by decide +kernel)) ggX6_allow_X6_counts
set_option maxRecDepth 20000 in
theorem ggX6_allow_X6_isInside : GoodIn wsX6_allow wsX6_isInside := goodIn_r _ [16, 17, 18, 19, 20, 21, 22, 23, 24, 25, 26] rfl (by decide +kernel)
set_option maxRecDepth 20000 in
theorem gX6_allow_X6_isInside : GoodIn wsX6_allow (wsV RX6 76 RX6 yX6_isInside wsX6_isInside) := goodIn_app (goodIn_r _ [13, 14, 15, 9] rfl (by decide +kernel)) ggX6_allow_X6_isInside
theorem dX6_allow_0 : decode cX6_allow 0 = .ok (.iconst 0, 1) := by decide +kernel
theorem dX6_allow_1 : decode cX6_allow 1 = .ok (.istore_n 3, 1) := by decide +kernel
theorem dX6_allow_2 : decode cX6_allow 2 = .ok (.iload_n 3, 1) := by decide +kernel
theorem dX6_allow_3 : decode cX6_allow 3 = .ok (.aload_n 0, 1) := by decide +kernel
theorem dX6_allow_4 : decode cX6_allow 4 = .ok (.getfield 9, 3) := by decide +kernel
theorem dX6_allow_7 : decode cX6_allow 7 = .ok (.if_icmp .ge 46, 3) := by decide +kernel
theorem dX6_allow_10 : decode cX6_allow 10 = .ok (.aload_n 0, 1) := by decide +kernel
theorem dX6_allow_11 : decode cX6_allow 11 = .ok (.iload_n 3, 1) := by decide +kernel
theorem dX6_allow_12 : decode cX6_allow 12 = .ok (.iload_n 2, 1) := by decide +kernel
theorem dX6_allow_13 : decode cX6_allow 13 = .ok (.invokevirtual 72, 3) := by decide +kernel
theorem dX6_allow_16 : decode cX6_allow 16 = .ok (.ifCond .eq 31, 3) := by decide +kernel
theorem dX6_allow_19 : decode cX6_allow 19 = .ok (.aload_n 0, 1) := by decide +kernel
theorem dX6_allow_20 : decode cX6_allow 20 = .ok (.iload_n 1, 1) := by decide +kernel
theorem dX6_allow_21 : decode cX6_allow 21 = .ok (.aload_n 0, 1) := by decide +kernel
theorem dX6_allow_22 : decode cX6_allow 22 = .ok (.getfield 19, 3) := by decide +kernel
theorem dX6_allow_25 : decode cX6_allow 25 = .ok (.iload_n 3, 1) := by decide +kernel
theorem dX6_allow_26 : decode cX6_allow 26 = .ok (.iaload, 1) := by decide +kernel
theorem dX6_allow_27 : decode cX6_allow 27 = .ok (.aload_n 0, 1) := by decide +kernel
theorem dX6_allow_28 : decode cX6_allow 28 = .ok (.getfield 15, 3) := by decide +kernel
theorem dX6_allow_31 : decode cX6_allow 31 = .ok (.iload_n 3, 1) := by decide +kernel
theorem dX6_allow_32 : decode cX6_allow 32 = .ok (.iaload, 1) := by decide +kernel
theorem dX6_allow_33 : decode cX6_allow 33 = .ok (.invokevirtual 76, 3) := by decide +kernel
theorem dX6_allow_36 : decode cX6_allow 36 = .ok (.aload_n 0, 1) := by decide +kernel
theorem dX6_allow_37 : decode cX6_allow 37 = .ok (.getfield 22, 3) := by decide +kernel
theorem dX6_allow_40 : decode cX6_allow 40 = .ok (.iload_n 3, 1) := by decide +kernel
theorem dX6_allow_41 : decode cX6_allow 41 = .ok (.baload, 1) := by decide +kernel
theorem dX6_allow_42 : decode cX6_allow 42 = .ok (.if_icmp .eq 5, 3) := by decide +kernel
theorem dX6_allow_45 : decode cX6_allow 45 = .ok (.iconst 0, 1) := by decide +kernel
theorem dX6_allow_46 : decode cX6_allow 46 = .ok (.ireturn, 1) := by decide +kernel
theorem dX6_allow_47 : decode cX6_allow 47 = .ok (.iinc 3 1, 3) := by decide +kernel
theorem dX6_allow_50 : decode cX6_allow 50 = .ok (.goto (-48), 3) := by decide +kernel
theorem dX6_allow_53 : decode cX6_allow 53 = .ok (.aload_n 0, 1) := by decide +kernel
theorem dX6_allow_54 : decode cX6_allow 54 = .ok (.getfield 39, 3) := by decide +kernel
theorem dX6_allow_57 : decode cX6_allow 57 = .ok (.ireturn, 1) := by decide +kernel
set_option maxRecDepth 20000 in
theorem ggX6_countInside_X6_isInside : GoodIn wsX6_countInside wsX6_isInside := goodIn_r _ [5, 6, 22, 23, 24, 25, 26, 27, 28, 29, 30] rfl (by decide +kernel)
set_option maxRecDepth 20000 in
theorem gX6_countInside_X6_isInside : GoodIn wsX6_countInside (wsV RX6 76 RX6 yX6_isInside wsX6_isInside) := goodIn_app (goodIn_r _ [1, 2, 3, 4] rfl (by decide +kernel)) ggX6_countInside_X6_isInside
set_option maxRecDepth 20000 in
theorem ggX6_countInside_X6_allow : GoodIn wsX6_countInside wsX6_allow := goodIn_r _ [10, 11, 12, 13, 14, 15, 16, 17, 18, 4, 19, 20, 21, 1, 2, 3, 5, 6, 22, 23, 24, 25, 26, 27, 28, 29, 30] rfl (by decide +kernel)
set_option maxRecDepth 20000 in
theorem gX6_countInside_X6_allow : GoodIn wsX6_countInside (wsV RX6 80 RX6 yX6_allow wsX6_allow) := goodIn_app (goodIn_r _ [7, 8, 9, 4] rfl (by decide +kernel)) ggX6_countInside_X6_allow
theorem dX6_countInside_0 : decode cX6_countInside 0 = .ok (.iconst 0, 1) := by decide +kernel
theorem dX6_countInside_1 : decode cX6_countInside 1 = .ok (.istore 4, 2) := by decide +kernel
theorem dX6_countInside_3 : decode cX6_countInside 3 = .ok (.iconst 0, 1) := by decide +kernel
theorem dX6_countInside_4 : decode cX6_countInside 4 = .ok (.istore 5, 2) := by decide +kernel
theorem dX6_countInside_6 : decode cX6_countInside 6 = .ok (.iload 5, 2) := by decide +kernel
theorem dX6_countInside_8 : decode cX6_countInside 8 = .ok (.bipush 100, 2) := by decide +kernel
theorem dX6_countInside_10 : decode cX6_countInside 10 = .ok (.if_icmp .ge 33, 3) := by decide +kernel
theorem dX6_countInside_13 : decode cX6_countInside 13 = .ok (.aload_n 0, 1) := by decide +kernel
theorem dX6_countInside_14 : decode cX6_countInside 14 = .ok (.iload 5, 2) := by decide +kernel
theorem dX6_countInside_16 : decode cX6_countInside 16 = .ok (.iload_n 1, 1) := by decide +kernel
theorem dX6_countInside_17 : decode cX6_countInside 17 = .ok (.iload_n 2, 1) := by decide +kernel
theorem dX6_countInside_18 : decode cX6_countInside 18 = .ok (.invokevirtual 76, 3) := by decide +kernel
theorem dX6_countInside_21 : decode cX6_countInside 21 = .ok (.ifCond .eq 16, 3) := by decide +kernel
theorem dX6_countInside_24 : decode cX6_countInside 24 = .ok (.aload_n 0, 1) := by decide +kernel
theorem dX6_countInside_25 : decode cX6_countInside 25 = .ok (.iload 5, 2) := by decide +kernel
theorem dX6_countInside_27 : decode cX6_countInside 27 = .ok (.iload_n 3, 1) := by decide +kernel
theorem dX6_countInside_28 : decode cX6_countInside 28 = .ok (.invokevirtual 80, 3) := by decide +kernel
theorem dX6_countInside_31 : decode cX6_countInside 31 = .ok (.ifCond .eq 6, 3) := by decide +kernel
theorem dX6_countInside_34 : decode cX6_countInside 34 = .ok (.iinc 4 1, 3) := by decide +kernel
theorem dX6_countInside_37 : decode cX6_countInside 37 = .ok (.iinc 5 1, 3) := by decide +kernel
theorem dX6_countInside_40 : decode cX6_countInside 40 = .ok (.goto (-34), 3) := by decide +kernel
theorem dX6_countInside_43 : decode cX6_countInside 43 = .ok (.iload 4, 2) := by decide +kernel
theorem dX6_countInside_45 : decode cX6_countInside 45 = .ok (.ireturn, 1) := by decide +kernel
theorem dX6_counts_0 : decode cX6_counts 0 = .ok (.aload_n 0, 1) := by decide +kernel
theorem dX6_counts_1 : decode cX6_counts 1 = .ok (.getfield 26, 3) := by decide +kernel
theorem dX6_counts_4 : decode cX6_counts 4 = .ok (.iload_n 1, 1) := by decide +kernel
theorem dX6_counts_5 : decode cX6_counts 5 = .ok (.iaload, 1) := by decide +kernel
theorem dX6_counts_6 : decode cX6_counts 6 = .ok (.iload_n 2, 1) := by decide +kernel
theorem dX6_counts_7 : decode cX6_counts 7 = .ok (.if_icmp .gt 27, 3) := by decide +kernel
theorem dX6_counts_10 : decode cX6_counts 10 = .ok (.aload_n 0, 1) := by decide +kernel
theorem dX6_counts_11 : decode cX6_counts 11 = .ok (.getfield 29, 3) := by decide +kernel
theorem dX6_counts_14 : decode cX6_counts 14 = .ok (.iload_n 1, 1) := by decide +kernel
theorem dX6_counts_15 : decode cX6_counts 15 = .ok (.iaload, 1) := by decide +kernel
theorem dX6_counts_16 : decode cX6_counts 16 = .ok (.iconst (-1), 1) := by decide +kernel
theorem dX6_counts_17 : decode cX6_counts 17 = .ok (.if_icmp .eq 13, 3) := by decide +kernel
theorem dX6_counts_20 : decode cX6_counts 20 = .ok (.aload_n 0, 1) := by decide +kernel
theorem dX6_counts_21 : decode cX6_counts 21 = .ok (.getfield 29, 3) := by decide +kernel
theorem dX6_counts_24 : decode cX6_counts 24 = .ok (.iload_n 1, 1) := by decide +kernel
theorem dX6_counts_25 : decode cX6_counts 25 = .ok (.iaload, 1) := by decide +kernel
theorem dX6_counts_26 : decode cX6_counts 26 = .ok (.iload_n 2, 1) := by decide +kernel
theorem dX6_counts_27 : decode cX6_counts 27 = .ok (.if_icmp .le 7, 3) := by decide +kernel
theorem dX6_counts_30 : decode cX6_counts 30 = .ok (.iconst 1, 1) := by decide +kernel
theorem dX6_counts_31 : decode cX6_counts 31 = .ok (.goto 4, 3) := by decide +kernel
theorem dX6_counts_34 : decode cX6_counts 34 = .ok (.iconst 0, 1) := by decide +kernel
theorem dX6_counts_35 : decode cX6_counts 35 = .ok (.ireturn, 1) := by decide +kernel
theorem dX6_isInside_0 : decode cX6_isInside 0 = .ok (.aload_n 0, 1) := by decide +kernel
theorem dX6_isInside_1 : decode cX6_isInside 1 = .ok (.getfield 32, 3) := by decide +kernel
theorem dX6_isInside_4 : decode cX6_isInside 4 = .ok (.iload_n 1, 1) := by decide +kernel
theorem dX6_isInside_5 : decode cX6_isInside 5 = .ok (.bipush 7, 2) := by decide +kernel
theorem dX6_isInside_7 : decode cX6_isInside 7 = .ok (.imul, 1) := by decide +kernel
theorem dX6_isInside_8 : decode cX6_isInside 8 = .ok (.iload_n 2, 1) := by decide +kernel
theorem dX6_isInside_9 : decode cX6_isInside 9 = .ok (.iadd, 1) := by decide +kernel
theorem dX6_isInside_10 : decode cX6_isInside 10 = .ok (.iaload, 1) := by decide +kernel
theorem dX6_isInside_11 : decode cX6_isInside 11 = .ok (.iload_n 3, 1) := by decide +kernel
theorem dX6_isInside_12 : decode cX6_isInside 12 = .ok (.if_icmp .le 7, 3) := by decide +kernel
theorem dX6_isInside_15 : decode cX6_isInside 15 = .ok (.iconst 1, 1) := by decide +kernel
theorem dX6_isInside_16 : decode cX6_isInside 16 = .ok (.goto 4, 3) := by decide +kernel
theorem dX6_isInside_19 : decode cX6_isInside 19 = .ok (.iconst 0, 1) := by decide +kernel
theorem dX6_isInside_20 : decode cX6_isInside 20 = .ok (.ireturn, 1) := by decide +kernel
set_option maxRecDepth 20000 in
theorem ggX7_empty_J7_fill_53178 : GoodIn wsX7_empty wsJ7_fill_53178 := goodIn_r _ [12] rfl (by decide +kernel)
set_option maxRecDepth 20000 in
theorem gX7_empty_J7_fill_53178 : GoodIn wsX7_empty (va_wsS RX7 37 yJ7_fill_53178 wsJ7_fill_53178) := goodIn_app (goodIn_r _ [9, 10, 11] rfl (by decide +kernel)) ggX7_empty_J7_fill_53178
theorem dX7_empty_0 : decode cX7_empty 0 = .ok (.aload_n 0, 1) := by decide +kernel
theorem dX7_empty_1 : decode cX7_empty 1 = .ok (.getfield 9, 3) := by decide +kernel
theorem dX7_empty_4 : decode cX7_empty 4 = .ok (.iconst (-1), 1) := by decide +kernel
theorem dX7_empty_5 : decode cX7_empty 5 = .ok (.invokestatic 37, 3) := by decide +kernel
theorem dX7_empty_8 : decode cX7_empty 8 = .ok (.aload_n 0, 1) := by decide +kernel
theorem dX7_empty_9 : decode cX7_empty 9 = .ok (.getfield 15, 3) := by decide +kernel
theorem dX7_empty_12 : decode cX7_empty 12 = .ok (.iconst (-1), 1) := by decide +kernel
theorem dX7_empty_13 : decode cX7_empty 13 = .ok (.invokestatic 37, 3) := by decide +kernel
theorem dX7_empty_16 : decode cX7_empty 16 = .ok (.aload_n 0, 1) := by decide +kernel
theorem dX7_empty_17 : decode cX7_empty 17 = .ok (.getfield 18, 3) := by decide +kernel
theorem dX7_empty_20 : decode cX7_empty 20 = .ok (.iconst 0, 1) := by decide +kernel
theorem dX7_empty_21 : decode cX7_empty 21 = .ok (.invokestatic 37, 3) := by decide +kernel
theorem dX7_empty_24 : decode cX7_empty 24 = .ok (.aload_n 0, 1) := by decide +kernel
theorem dX7_empty_25 : decode cX7_empty 25 = .ok (.getfield 21, 3) := by decide +kernel
theorem dX7_empty_28 : decode cX7_empty 28 = .ok (.iconst 0, 1) := by decide +kernel
theorem dX7_empty_29 : decode cX7_empty 29 = .ok (.invokestatic 37, 3) := by decide +kernel
theorem dX7_empty_32 : decode cX7_empty 32 = .ok (.aload_n 0, 1) := by decide +kernel
theorem dX7_empty_33 : decode cX7_empty 33 = .ok (.getfield 24, 3) := by decide +kernel
theorem dX7_empty_36 : decode cX7_empty 36 = .ok (.iconst 0, 1) := by decide +kernel
theorem dX7_empty_37 : decode cX7_empty 37 = .ok (.invokestatic 37, 3) := by decide +kernel
theorem dX7_empty_40 : decode cX7_empty 40 = .ok (.aload_n 0, 1) := by decide +kernel
theorem dX7_empty_41 : decode cX7_empty 41 = .ok (.iconst 0, 1) := by decide +kernel
theorem dX7_empty_42 : decode cX7_empty 42 = .ok (.putfield 27, 3) := by decide +kernel
theorem dX7_empty_45 : decode cX7_empty 45 = .ok (.aload_n 0, 1) := by decide +kernel
theorem dX7_empty_46 : decode cX7_empty 46 = .ok (.iconst 0, 1) := by decide +kernel
theorem dX7_empty_47 : decode cX7_empty 47 = .ok (.putfield 31, 3) := by decide +kernel
theorem dX7_empty_50 : decode cX7_empty 50 = .ok (.aload_n 0, 1) := by decide +kernel
theorem dX7_empty_51 : decode cX7_empty 51 = .ok (.iconst 0, 1) := by decide +kernel
theorem dX7_empty_52 : decode cX7_empty 52 = .ok (.putfield 34, 3) := by decide +kernel
theorem dX7_empty_55 : decode cX7_empty 55 = .ok (.return_, 1) := by decide +kernel
theorem dX7_copyOf_0 : decode cX7_copyOf 0 = .ok (.aload_n 1, 1) := by decide +kernel
theorem dX7_copyOf_1 : decode cX7_copyOf 1 = .ok (.getfield 9, 3) := by decide +kernel
theorem dX7_copyOf_4 : decode cX7_copyOf 4 = .ok (.iconst 0, 1) := by decide +kernel
theorem dX7_copyOf_5 : decode cX7_copyOf 5 = .ok (.aload_n 0, 1) := by decide +kernel
theorem dX7_copyOf_6 : decode cX7_copyOf 6 = .ok (.getfield 9, 3) := by decide +kernel
theorem dX7_copyOf_9 : decode cX7_copyOf 9 = .ok (.iconst 0, 1) := by decide +kernel
theorem dX7_copyOf_10 : decode cX7_copyOf 10 = .ok (.bipush 8, 2) := by decide +kernel
theorem dX7_copyOf_12 : decode cX7_copyOf 12 = .ok (.invokestatic 43, 3) := by decide +kernel
theorem dX7_copyOf_15 : decode cX7_copyOf 15 = .ok (.aload_n 1, 1) := by decide +kernel
theorem dX7_copyOf_16 : decode cX7_copyOf 16 = .ok (.getfield 15, 3) := by decide +kernel
theorem dX7_copyOf_19 : decode cX7_copyOf 19 = .ok (.iconst 0, 1) := by decide +kernel
theorem dX7_copyOf_20 : decode cX7_copyOf 20 = .ok (.aload_n 0, 1) := by decide +kernel
theorem dX7_copyOf_21 : decode cX7_copyOf 21 = .ok (.getfield 15, 3) := by decide +kernel
theorem dX7_copyOf_24 : decode cX7_copyOf 24 = .ok (.iconst 0, 1) := by decide +kernel
theorem dX7_copyOf_25 : decode cX7_copyOf 25 = .ok (.bipush 7, 2) := by decide +kernel
theorem dX7_copyOf_27 : decode cX7_copyOf 27 = .ok (.invokestatic 43, 3) := by decide +kernel
theorem dX7_copyOf_30 : decode cX7_copyOf 30 = .ok (.aload_n 1, 1) := by decide +kernel
theorem dX7_copyOf_31 : decode cX7_copyOf 31 = .ok (.getfield 18, 3) := by decide +kernel
theorem dX7_copyOf_34 : decode cX7_copyOf 34 = .ok (.iconst 0, 1) := by decide +kernel
theorem dX7_copyOf_35 : decode cX7_copyOf 35 = .ok (.aload_n 0, 1) := by decide +kernel
theorem dX7_copyOf_36 : decode cX7_copyOf 36 = .ok (.getfield 18, 3) := by decide +kernel
theorem dX7_copyOf_39 : decode cX7_copyOf 39 = .ok (.iconst 0, 1) := by decide +kernel
theorem dX7_copyOf_40 : decode cX7_copyOf 40 = .ok (.bipush 7, 2) := by decide +kernel
theorem dX7_copyOf_42 : decode cX7_copyOf 42 = .ok (.invokestatic 43, 3) := by decide +kernel
theorem dX7_copyOf_45 : decode cX7_copyOf 45 = .ok (.aload_n 1, 1) := by decide +kernel
theorem dX7_copyOf_46 : decode cX7_copyOf 46 = .ok (.getfield 21, 3) := by decide +kernel
theorem dX7_copyOf_49 : decode cX7_copyOf 49 = .ok (.iconst 0, 1) := by decide +kernel
theorem dX7_copyOf_50 : decode cX7_copyOf 50 = .ok (.aload_n 0, 1) := by decide +kernel
theorem dX7_copyOf_51 : decode cX7_copyOf 51 = .ok (.getfield 21, 3) := by decide +kernel
theorem dX7_copyOf_54 : decode cX7_copyOf 54 = .ok (.iconst 0, 1) := by decide +kernel
theorem dX7_copyOf_55 : decode cX7_copyOf 55 = .ok (.bipush 7, 2) := by decide +kernel
theorem dX7_copyOf_57 : decode cX7_copyOf 57 = .ok (.invokestatic 43, 3) := by decide +kernel
theorem dX7_copyOf_60 : decode cX7_copyOf 60 = .ok (.aload_n 1, 1) := by decide +kernel
theorem dX7_copyOf_61 : decode cX7_copyOf 61 = .ok (.getfield 24, 3) := by decide +kernel
theorem dX7_copyOf_64 : decode cX7_copyOf 64 = .ok (.iconst 0, 1) := by decide +kernel
theorem dX7_copyOf_65 : decode cX7_copyOf 65 = .ok (.aload_n 0, 1) := by decide +kernel
theorem dX7_copyOf_66 : decode cX7_copyOf 66 = .ok (.getfield 24, 3) := by decide +kernel
theorem dX7_copyOf_69 : decode cX7_copyOf 69 = .ok (.iconst 0, 1) := by decide +kernel
theorem dX7_copyOf_70 : decode cX7_copyOf 70 = .ok (.bipush 7, 2) := by decide +kernel
theorem dX7_copyOf_72 : decode cX7_copyOf 72 = .ok (.invokestatic 43, 3) := by decide +kernel
theorem dX7_copyOf_75 : decode cX7_copyOf 75 = .ok (.aload_n 0, 1) := by decide +kernel
theorem dX7_copyOf_76 : decode cX7_copyOf 76 = .ok (.aload_n 1, 1) := by decide +kernel
theorem dX7_copyOf_77 : decode cX7_copyOf 77 = .ok (.getfield 27, 3) := by decide +kernel
theorem dX7_copyOf_80 : decode cX7_copyOf 80 = .ok (.putfield 27, 3) := by decide +kernel
theorem dX7_copyOf_83 : decode cX7_copyOf 83 = .ok (.aload_n 0, 1) := by decide +kernel
theorem dX7_copyOf_84 : decode cX7_copyOf 84 = .ok (.aload_n 1, 1) := by decide +kernel
theorem dX7_copyOf_85 : decode cX7_copyOf 85 = .ok (.getfield 31, 3) := by decide +kernel
theorem dX7_copyOf_88 : decode cX7_copyOf 88 = .ok (.putfield 31, 3) := by decide +kernel
theorem dX7_copyOf_91 : decode cX7_copyOf 91 = .ok (.aload_n 0, 1) := by decide +kernel
theorem dX7_copyOf_92 : decode cX7_copyOf 92 = .ok (.aload_n 1, 1) := by decide +kernel
theorem dX7_copyOf_93 : decode cX7_copyOf 93 = .ok (.getfield 34, 3) := by decide +kernel
theorem dX7_copyOf_96 : decode cX7_copyOf 96 = .ok (.putfield 34, 3) := by decide +kernel
theorem dX7_copyOf_99 : decode cX7_copyOf 99 = .ok (.return_, 1) := by decide +kernel
theorem dX7_isLiving_0 : decode cX7_isLiving 0 = .ok (.aload_n 0, 1) := by decide +kernel
theorem dX7_isLiving_1 : decode cX7_isLiving 1 = .ok (.getfield 27, 3) := by decide +kernel
theorem dX7_isLiving_4 : decode cX7_isLiving 4 = .ok (.iload_n 1, 1) := by decide +kernel
theorem dX7_isLiving_5 : decode cX7_isLiving 5 = .ok (.ishr, 1) := by decide +kernel
theorem dX7_isLiving_6 : decode cX7_isLiving 6 = .ok (.iconst 1, 1) := by decide +kernel
theorem dX7_isLiving_7 : decode cX7_isLiving 7 = .ok (.iand, 1) := by decide +kernel
theorem dX7_isLiving_8 : decode cX7_isLiving 8 = .ok (.ifCond .eq 7, 3) := by decide +kernel
theorem dX7_isLiving_11 : decode cX7_isLiving 11 = .ok (.iconst 1, 1) := by decide +kernel
theorem dX7_isLiving_12 : decode cX7_isLiving 12 = .ok (.goto 4, 3) := by decide +kernel
theorem dX7_isLiving_15 : decode cX7_isLiving 15 = .ok (.iconst 0, 1) := by decide +kernel
theorem dX7_isLiving_16 : decode cX7_isLiving 16 = .ok (.ireturn, 1) := by decide +kernel
theorem dX7_isKept_0 : decode cX7_isKept 0 = .ok (.iload_n 1, 1) := by decide +kernel
theorem dX7_isKept_1 : decode cX7_isKept 1 = .ok (.ifCond .lt 26, 3) := by decide +kernel
theorem dX7_isKept_4 : decode cX7_isKept 4 = .ok (.iload_n 1, 1) := by decide +kernel
theorem dX7_isKept_5 : decode cX7_isKept 5 = .ok (.aload_n 0, 1) := by decide +kernel
theorem dX7_isKept_6 : decode cX7_isKept 6 = .ok (.getfield 9, 3) := by decide +kernel
theorem dX7_isKept_9 : decode cX7_isKept 9 = .ok (.arraylength, 1) := by decide +kernel
theorem dX7_isKept_10 : decode cX7_isKept 10 = .ok (.if_icmp .ge 17, 3) := by decide +kernel
theorem dX7_isKept_13 : decode cX7_isKept 13 = .ok (.aload_n 0, 1) := by decide +kernel
theorem dX7_isKept_14 : decode cX7_isKept 14 = .ok (.getfield 9, 3) := by decide +kernel
theorem dX7_isKept_17 : decode cX7_isKept 17 = .ok (.iload_n 1, 1) := by decide +kernel
theorem dX7_isKept_18 : decode cX7_isKept 18 = .ok (.iaload, 1) := by decide +kernel
theorem dX7_isKept_19 : decode cX7_isKept 19 = .ok (.iconst (-1), 1) := by decide +kernel
theorem dX7_isKept_20 : decode cX7_isKept 20 = .ok (.if_icmp .eq 7, 3) := by decide +kernel
theorem dX7_isKept_23 : decode cX7_isKept 23 = .ok (.iconst 1, 1) := by decide +kernel
theorem dX7_isKept_24 : decode cX7_isKept 24 = .ok (.goto 4, 3) := by decide +kernel
theorem dX7_isKept_27 : decode cX7_isKept 27 = .ok (.iconst 0, 1) := by decide +kernel
theorem dX7_isKept_28 : decode cX7_isKept 28 = .ok (.ireturn, 1) := by decide +kernel
theorem dX7_roomCount_0 : decode cX7_roomCount 0 = .ok (.iconst 0, 1) := by decide +kernel
theorem dX7_roomCount_1 : decode cX7_roomCount 1 = .ok (.istore_n 2, 1) := by decide +kernel
theorem dX7_roomCount_2 : decode cX7_roomCount 2 = .ok (.iconst 0, 1) := by decide +kernel
theorem dX7_roomCount_3 : decode cX7_roomCount 3 = .ok (.istore_n 3, 1) := by decide +kernel
theorem dX7_roomCount_4 : decode cX7_roomCount 4 = .ok (.iload_n 3, 1) := by decide +kernel
theorem dX7_roomCount_5 : decode cX7_roomCount 5 = .ok (.aload_n 0, 1) := by decide +kernel
theorem dX7_roomCount_6 : decode cX7_roomCount 6 = .ok (.getfield 9, 3) := by decide +kernel
theorem dX7_roomCount_9 : decode cX7_roomCount 9 = .ok (.arraylength, 1) := by decide +kernel
theorem dX7_roomCount_10 : decode cX7_roomCount 10 = .ok (.if_icmp .ge 22, 3) := by decide +kernel
theorem dX7_roomCount_13 : decode cX7_roomCount 13 = .ok (.aload_n 0, 1) := by decide +kernel
theorem dX7_roomCount_14 : decode cX7_roomCount 14 = .ok (.getfield 9, 3) := by decide +kernel
theorem dX7_roomCount_17 : decode cX7_roomCount 17 = .ok (.iload_n 3, 1) := by decide +kernel
theorem dX7_roomCount_18 : decode cX7_roomCount 18 = .ok (.iaload, 1) := by decide +kernel
theorem dX7_roomCount_19 : decode cX7_roomCount 19 = .ok (.iload_n 1, 1) := by decide +kernel
theorem dX7_roomCount_20 : decode cX7_roomCount 20 = .ok (.if_icmp .ne 6, 3) := by decide +kernel
theorem dX7_roomCount_23 : decode cX7_roomCount 23 = .ok (.iinc 2 1, 3) := by decide +kernel
theorem dX7_roomCount_26 : decode cX7_roomCount 26 = .ok (.iinc 3 1, 3) := by decide +kernel
theorem dX7_roomCount_29 : decode cX7_roomCount 29 = .ok (.goto (-25), 3) := by decide +kernel
theorem dX7_roomCount_32 : decode cX7_roomCount 32 = .ok (.iload_n 2, 1) := by decide +kernel
theorem dX7_roomCount_33 : decode cX7_roomCount 33 = .ok (.ireturn, 1) := by decide +kernel
theorem dX7_place_0 : decode cX7_place 0 = .ok (.iload_n 1, 1) := by decide +kernel
theorem dX7_place_1 : decode cX7_place 1 = .ok (.ifCond .lt 26, 3) := by decide +kernel
theorem dX7_place_4 : decode cX7_place 4 = .ok (.iload_n 1, 1) := by decide +kernel
theorem dX7_place_5 : decode cX7_place 5 = .ok (.aload_n 0, 1) := by decide +kernel
theorem dX7_place_6 : decode cX7_place 6 = .ok (.getfield 15, 3) := by decide +kernel
theorem dX7_place_9 : decode cX7_place 9 = .ok (.arraylength, 1) := by decide +kernel
theorem dX7_place_10 : decode cX7_place 10 = .ok (.if_icmp .ge 17, 3) := by decide +kernel
theorem dX7_place_13 : decode cX7_place 13 = .ok (.aload_n 0, 1) := by decide +kernel
theorem dX7_place_14 : decode cX7_place 14 = .ok (.getfield 15, 3) := by decide +kernel
theorem dX7_place_17 : decode cX7_place 17 = .ok (.iload_n 1, 1) := by decide +kernel
theorem dX7_place_18 : decode cX7_place 18 = .ok (.iload_n 2, 1) := by decide +kernel
theorem dX7_place_19 : decode cX7_place 19 = .ok (.iastore, 1) := by decide +kernel
theorem dX7_place_20 : decode cX7_place 20 = .ok (.aload_n 0, 1) := by decide +kernel
theorem dX7_place_21 : decode cX7_place 21 = .ok (.getfield 18, 3) := by decide +kernel
theorem dX7_place_24 : decode cX7_place 24 = .ok (.iload_n 1, 1) := by decide +kernel
theorem dX7_place_25 : decode cX7_place 25 = .ok (.iconst 0, 1) := by decide +kernel
theorem dX7_place_26 : decode cX7_place 26 = .ok (.iastore, 1) := by decide +kernel
theorem dX7_place_27 : decode cX7_place 27 = .ok (.return_, 1) := by decide +kernel
set_option maxRecDepth 20000 in
theorem ggX8_feed_X8_putOnTape : GoodIn wsX8_feed wsX8_putOnTape := goodIn_r _ [6, 1, 7, 8, 9, 10, 11, 12, 13, 14, 15, 16, 17, 18, 19, 20, 21] rfl (by decide +kernel)
set_option maxRecDepth 20000 in
theorem gX8_feed_X8_putOnTape : GoodIn wsX8_feed (wsV RX8 83 RX8 yX8_putOnTape wsX8_putOnTape) := goodIn_app (goodIn_r _ [2, 3, 4, 5] rfl (by decide +kernel)) ggX8_feed_X8_putOnTape
theorem dX8_feed_0 : decode cX8_feed 0 = .ok (.aload_n 0, 1) := by decide +kernel
theorem dX8_feed_1 : decode cX8_feed 1 = .ok (.getfield 13, 3) := by decide +kernel
theorem dX8_feed_4 : decode cX8_feed 4 = .ok (.bipush 20, 2) := by decide +kernel
theorem dX8_feed_6 : decode cX8_feed 6 = .ok (.iadd, 1) := by decide +kernel
theorem dX8_feed_7 : decode cX8_feed 7 = .ok (.sipush 1600, 3) := by decide +kernel
theorem dX8_feed_10 : decode cX8_feed 10 = .ok (.if_icmp .le 5, 3) := by decide +kernel
theorem dX8_feed_13 : decode cX8_feed 13 = .ok (.iconst (-1), 1) := by decide +kernel
theorem dX8_feed_14 : decode cX8_feed 14 = .ok (.ireturn, 1) := by decide +kernel
theorem dX8_feed_15 : decode cX8_feed 15 = .ok (.aload_n 0, 1) := by decide +kernel
theorem dX8_feed_16 : decode cX8_feed 16 = .ok (.iload_n 1, 1) := by decide +kernel
theorem dX8_feed_17 : decode cX8_feed 17 = .ok (.invokevirtual 83, 3) := by decide +kernel
theorem dX8_feed_20 : decode cX8_feed 20 = .ok (.aload_n 0, 1) := by decide +kernel
theorem dX8_feed_21 : decode cX8_feed 21 = .ok (.iload_n 2, 1) := by decide +kernel
theorem dX8_feed_22 : decode cX8_feed 22 = .ok (.invokevirtual 83, 3) := by decide +kernel
theorem dX8_feed_25 : decode cX8_feed 25 = .ok (.aload_n 0, 1) := by decide +kernel
theorem dX8_feed_26 : decode cX8_feed 26 = .ok (.iload_n 3, 1) := by decide +kernel
theorem dX8_feed_27 : decode cX8_feed 27 = .ok (.invokevirtual 83, 3) := by decide +kernel
theorem dX8_feed_30 : decode cX8_feed 30 = .ok (.aload_n 0, 1) := by decide +kernel
theorem dX8_feed_31 : decode cX8_feed 31 = .ok (.iload 4, 2) := by decide +kernel
theorem dX8_feed_33 : decode cX8_feed 33 = .ok (.invokevirtual 83, 3) := by decide +kernel
theorem dX8_feed_36 : decode cX8_feed 36 = .ok (.aload_n 0, 1) := by decide +kernel
theorem dX8_feed_37 : decode cX8_feed 37 = .ok (.iload 5, 2) := by decide +kernel
theorem dX8_feed_39 : decode cX8_feed 39 = .ok (.invokevirtual 83, 3) := by decide +kernel
theorem dX8_feed_42 : decode cX8_feed 42 = .ok (.aload_n 0, 1) := by decide +kernel
theorem dX8_feed_43 : decode cX8_feed 43 = .ok (.getfield 13, 3) := by decide +kernel
theorem dX8_feed_46 : decode cX8_feed 46 = .ok (.ireturn, 1) := by decide +kernel
theorem dX8_end_0 : decode cX8_end 0 = .ok (.iload_n 1, 1) := by decide +kernel
theorem dX8_end_1 : decode cX8_end 1 = .ok (.ifCond .lt 11, 3) := by decide +kernel
theorem dX8_end_4 : decode cX8_end 4 = .ok (.iload_n 1, 1) := by decide +kernel
theorem dX8_end_5 : decode cX8_end 5 = .ok (.aload_n 0, 1) := by decide +kernel
theorem dX8_end_6 : decode cX8_end 6 = .ok (.getfield 13, 3) := by decide +kernel
theorem dX8_end_9 : decode cX8_end 9 = .ok (.if_icmp .le 5, 3) := by decide +kernel
theorem dX8_end_12 : decode cX8_end 12 = .ok (.iconst (-1), 1) := by decide +kernel
theorem dX8_end_13 : decode cX8_end 13 = .ok (.ireturn, 1) := by decide +kernel
theorem dX8_end_14 : decode cX8_end 14 = .ok (.aload_n 0, 1) := by decide +kernel
theorem dX8_end_15 : decode cX8_end 15 = .ok (.iload_n 1, 1) := by decide +kernel
theorem dX8_end_16 : decode cX8_end 16 = .ok (.putfield 13, 3) := by decide +kernel
theorem dX8_end_19 : decode cX8_end 19 = .ok (.iload_n 1, 1) := by decide +kernel
theorem dX8_end_20 : decode cX8_end 20 = .ok (.ireturn, 1) := by decide +kernel
set_option maxRecDepth 20000 in
theorem ggX8_mews_X5_read : GoodIn wsX8_mews wsX5_read := goodIn_r _ [16, 17, 18, 19, 20, 21, 22, 23, 24, 25, 26, 27, 28, 29, 30, 31, 32, 33, 34, 35, 36, 37, 38, 39, 40, 41, 42, 43, 44, 45, 46, 47, 48, 49, 50, 51, 52, 53, 54, 55, 56, 57, 58, 59, 60, 61, 62, 63, 64, 65, 66, 15, 67, 68, 69, 70, 71, 72, 73, 74, 75, 76, 77, 78, 79, 80, 81, 82, 83, 84, 85, 86, 87, 88, 89, 90, 91, 92, 93, 94, 95, 96, 97, 98, 99, 100, 101, 102, 103, 104, 105, 106, 107, 108, 109, 110, 111, 112, 113, 114, 115, 116, 117, 118, 119, 120, 121, 122, 123, 124, 125, 126, 127, 128, 129, 130, 131, 132, 133, 134, 135, 136, 137, 138, 139, 140, 141, 142, 143, 144, 145, 146, 147, 148, 149, 150, 151, 152, 153, 154, 155, 156, 157, 158, 159, 160, 161, 162, 163, 164, 165, 166, 167, 168, 169, 170, 171, 172, 173, 174, 175, 176, 177, 178, 179, 180, 181, 182, 183, 184, 185, 186, 187, 188, 189, 190, 191, 192, 193, 194, 195, 196, 197, 198, 199, 200, 201, 202, 203, 204, 205, 206, 207, 208, 209, 210, 211, 212, 213, 214, 215, 216, 217, 218, 219, 220, 221, 222, 223, 224, 225, 226, 227, 228, 229, 230, 231, 232, 233, 234, 235, 236, 237, 238, 239, 240, 241, 242, 243, 244, 245, 246, 247, 248, 249, 250, 251, 252, 253, 254, 255, 256, 257, 258, 259, 260, 261, 262, 263, 264, 265, 266, 267, 268, 269, 270, 271, 272, 273, 274, 275, 276, 277, 278, 279, 280, 281, 282, 283, 284, 285, 286, 287, 288, 289, 290, 291, 292, 293, 294, 295, 296, 297, 298, 299, 300, 301, 302, 303, 304, 305, 306, 307, 308, 309, 310, 311, 312, 313, 314, 315, 316, 317, 318, 319, 320, 321, 322, 323, 324, 325, 326, 327, 328, 329, 330, 331, 370, 371, 372, 373, 374, 375, 376, 377, 378, 379, 380, 381, 382, 383, 384, 385, 386, 387, 388, 389, 390, 391, 392, 393, 394, 395, 396, 397, 398, 399, 400, 401, 402, 403, 404, 405, 406] rfl (by decide +kernel)
set_option maxRecDepth 20000 in
theorem gX8_mews_X5_read : GoodIn wsX8_mews (wsV RX8 87 RX5 yX5_read wsX5_read) := goodIn_app (goodIn_r _ [12, 13, 14, 15] rfl (by decide +kernel)) ggX8_mews_X5_read
set_option maxRecDepth 20000 in
theorem ggX8_mews_X0_startFrom : GoodIn wsX8_mews wsX0_startFrom := goodIn_r _ [336, 337, 338, 339, 340, 341, 342, 343, 44, 344, 46, 345, 346, 347, 348, 47, 48, 49, 50, 51, 52, 53, 407, 408, 409, 410, 396, 397, 398, 399, 400, 401, 402, 403] rfl (by decide +kernel)
set_option maxRecDepth 20000 in
theorem gX8_mews_X0_startFrom : GoodIn wsX8_mews (wsV RX8 95 RX0 yX0_startFrom wsX0_startFrom) := goodIn_app (goodIn_r _ [332, 333, 334, 335] rfl (by decide +kernel)) ggX8_mews_X0_startFrom
set_option maxRecDepth 20000 in
theorem ggX8_mews_X6_forget : GoodIn wsX8_mews wsX6_forget := goodIn_r _ [353, 354, 355, 411, 412, 413, 414, 415, 416, 417, 418, 419] rfl (by decide +kernel)
set_option maxRecDepth 20000 in
theorem gX8_mews_X6_forget : GoodIn wsX8_mews (wsV RX8 99 RX6 yX6_forget wsX6_forget) := goodIn_app (goodIn_r _ [349, 350, 351, 352] rfl (by decide +kernel)) ggX8_mews_X6_forget
theorem dX8_mews_0 : decode cX8_mews 0 = .ok (.aload_n 0, 1) := by decide +kernel
theorem dX8_mews_1 : decode cX8_mews 1 = .ok (.getfield 20, 3) := by decide +kernel
theorem dX8_mews_4 : decode cX8_mews 4 = .ok (.aload_n 0, 1) := by decide +kernel
theorem dX8_mews_5 : decode cX8_mews 5 = .ok (.getfield 9, 3) := by decide +kernel
theorem dX8_mews_8 : decode cX8_mews 8 = .ok (.aload_n 0, 1) := by decide +kernel
theorem dX8_mews_9 : decode cX8_mews 9 = .ok (.getfield 13, 3) := by decide +kernel
theorem dX8_mews_12 : decode cX8_mews 12 = .ok (.invokevirtual 87, 3) := by decide +kernel
theorem dX8_mews_15 : decode cX8_mews 15 = .ok (.ifCond .ne 5, 3) := by decide +kernel
theorem dX8_mews_18 : decode cX8_mews 18 = .ok (.iconst (-1), 1) := by decide +kernel
theorem dX8_mews_19 : decode cX8_mews 19 = .ok (.ireturn, 1) := by decide +kernel
theorem dX8_mews_20 : decode cX8_mews 20 = .ok (.aload_n 0, 1) := by decide +kernel
theorem dX8_mews_21 : decode cX8_mews 21 = .ok (.getfield 27, 3) := by decide +kernel
theorem dX8_mews_24 : decode cX8_mews 24 = .ok (.astore_n 1, 1) := by decide +kernel
theorem dX8_mews_25 : decode cX8_mews 25 = .ok (.aload_n 0, 1) := by decide +kernel
theorem dX8_mews_26 : decode cX8_mews 26 = .ok (.aload_n 0, 1) := by decide +kernel
theorem dX8_mews_27 : decode cX8_mews 27 = .ok (.getfield 20, 3) := by decide +kernel
theorem dX8_mews_30 : decode cX8_mews 30 = .ok (.getfield 91, 3) := by decide +kernel
theorem dX8_mews_33 : decode cX8_mews 33 = .ok (.putfield 27, 3) := by decide +kernel
theorem dX8_mews_36 : decode cX8_mews 36 = .ok (.aload_n 0, 1) := by decide +kernel
theorem dX8_mews_37 : decode cX8_mews 37 = .ok (.getfield 20, 3) := by decide +kernel
theorem dX8_mews_40 : decode cX8_mews 40 = .ok (.aload_n 1, 1) := by decide +kernel
theorem dX8_mews_41 : decode cX8_mews 41 = .ok (.putfield 91, 3) := by decide +kernel
theorem dX8_mews_44 : decode cX8_mews 44 = .ok (.aload_n 0, 1) := by decide +kernel
theorem dX8_mews_45 : decode cX8_mews 45 = .ok (.iconst 0, 1) := by decide +kernel
theorem dX8_mews_46 : decode cX8_mews 46 = .ok (.putfield 13, 3) := by decide +kernel
theorem dX8_mews_49 : decode cX8_mews 49 = .ok (.aload_n 0, 1) := by decide +kernel
theorem dX8_mews_50 : decode cX8_mews 50 = .ok (.getfield 34, 3) := by decide +kernel
theorem dX8_mews_53 : decode cX8_mews 53 = .ok (.aload_n 0, 1) := by decide +kernel
theorem dX8_mews_54 : decode cX8_mews 54 = .ok (.getfield 27, 3) := by decide +kernel
theorem dX8_mews_57 : decode cX8_mews 57 = .ok (.getfield 92, 3) := by decide +kernel
theorem dX8_mews_60 : decode cX8_mews 60 = .ok (.invokevirtual 95, 3) := by decide +kernel
theorem dX8_mews_63 : decode cX8_mews 63 = .ok (.aload_n 0, 1) := by decide +kernel
theorem dX8_mews_64 : decode cX8_mews 64 = .ok (.getfield 76, 3) := by decide +kernel
theorem dX8_mews_67 : decode cX8_mews 67 = .ok (.invokevirtual 99, 3) := by decide +kernel
theorem dX8_mews_70 : decode cX8_mews 70 = .ok (.aload_n 0, 1) := by decide +kernel
theorem dX8_mews_71 : decode cX8_mews 71 = .ok (.iconst 0, 1) := by decide +kernel
theorem dX8_mews_72 : decode cX8_mews 72 = .ok (.putfield 70, 3) := by decide +kernel
theorem dX8_mews_75 : decode cX8_mews 75 = .ok (.aload_n 0, 1) := by decide +kernel
theorem dX8_mews_76 : decode cX8_mews 76 = .ok (.iconst 0, 1) := by decide +kernel
theorem dX8_mews_77 : decode cX8_mews 77 = .ok (.putfield 49, 3) := by decide +kernel
theorem dX8_mews_80 : decode cX8_mews 80 = .ok (.aload_n 0, 1) := by decide +kernel
theorem dX8_mews_81 : decode cX8_mews 81 = .ok (.getfield 27, 3) := by decide +kernel
theorem dX8_mews_84 : decode cX8_mews 84 = .ok (.getfield 102, 3) := by decide +kernel
theorem dX8_mews_87 : decode cX8_mews 87 = .ok (.ireturn, 1) := by decide +kernel
theorem dX8_fault_0 : decode cX8_fault 0 = .ok (.iload_n 1, 1) := by decide +kernel
theorem dX8_fault_1 : decode cX8_fault 1 = .ok (.lookupswitch 43 #[(0, 27), (1, 35)], 27) := by decide +kernel
theorem dX8_fault_28 : decode cX8_fault 28 = .ok (.aload_n 0, 1) := by decide +kernel
theorem dX8_fault_29 : decode cX8_fault 29 = .ok (.getfield 20, 3) := by decide +kernel
theorem dX8_fault_32 : decode cX8_fault 32 = .ok (.getfield 105, 3) := by decide +kernel
theorem dX8_fault_35 : decode cX8_fault 35 = .ok (.ireturn, 1) := by decide +kernel
theorem dX8_fault_36 : decode cX8_fault 36 = .ok (.aload_n 0, 1) := by decide +kernel
theorem dX8_fault_37 : decode cX8_fault 37 = .ok (.getfield 20, 3) := by decide +kernel
theorem dX8_fault_40 : decode cX8_fault 40 = .ok (.getfield 108, 3) := by decide +kernel
theorem dX8_fault_43 : decode cX8_fault 43 = .ok (.ireturn, 1) := by decide +kernel
theorem dX8_fault_44 : decode cX8_fault 44 = .ok (.iconst (-1), 1) := by decide +kernel
theorem dX8_fault_45 : decode cX8_fault 45 = .ok (.ireturn, 1) := by decide +kernel
theorem dX8_putOnTape_0 : decode cX8_putOnTape 0 = .ok (.bipush 24, 2) := by decide +kernel
theorem dX8_putOnTape_2 : decode cX8_putOnTape 2 = .ok (.istore_n 2, 1) := by decide +kernel
theorem dX8_putOnTape_3 : decode cX8_putOnTape 3 = .ok (.iload_n 2, 1) := by decide +kernel
theorem dX8_putOnTape_4 : decode cX8_putOnTape 4 = .ok (.ifCond .lt 44, 3) := by decide +kernel
theorem dX8_putOnTape_7 : decode cX8_putOnTape 7 = .ok (.aload_n 0, 1) := by decide +kernel
theorem dX8_putOnTape_8 : decode cX8_putOnTape 8 = .ok (.getfield 13, 3) := by decide +kernel
theorem dX8_putOnTape_11 : decode cX8_putOnTape 11 = .ok (.aload_n 0, 1) := by decide +kernel
theorem dX8_putOnTape_12 : decode cX8_putOnTape 12 = .ok (.getfield 9, 3) := by decide +kernel
theorem dX8_putOnTape_15 : decode cX8_putOnTape 15 = .ok (.arraylength, 1) := by decide +kernel
theorem dX8_putOnTape_16 : decode cX8_putOnTape 16 = .ok (.if_icmp .ge 26, 3) := by decide +kernel
theorem dX8_putOnTape_19 : decode cX8_putOnTape 19 = .ok (.aload_n 0, 1) := by decide +kernel
theorem dX8_putOnTape_20 : decode cX8_putOnTape 20 = .ok (.getfield 9, 3) := by decide +kernel
theorem dX8_putOnTape_23 : decode cX8_putOnTape 23 = .ok (.aload_n 0, 1) := by decide +kernel
theorem dX8_putOnTape_24 : decode cX8_putOnTape 24 = .ok (.getfield 13, 3) := by decide +kernel
theorem dX8_putOnTape_27 : decode cX8_putOnTape 27 = .ok (.iload_n 1, 1) := by decide +kernel
theorem dX8_putOnTape_28 : decode cX8_putOnTape 28 = .ok (.iload_n 2, 1) := by decide +kernel
theorem dX8_putOnTape_29 : decode cX8_putOnTape 29 = .ok (.iushr, 1) := by decide +kernel
theorem dX8_putOnTape_30 : decode cX8_putOnTape 30 = .ok (.i2b, 1) := by decide +kernel
theorem dX8_putOnTape_31 : decode cX8_putOnTape 31 = .ok (.bastore, 1) := by decide +kernel
theorem dX8_putOnTape_32 : decode cX8_putOnTape 32 = .ok (.aload_n 0, 1) := by decide +kernel
theorem dX8_putOnTape_33 : decode cX8_putOnTape 33 = .ok (.dup, 1) := by decide +kernel
theorem dX8_putOnTape_34 : decode cX8_putOnTape 34 = .ok (.getfield 13, 3) := by decide +kernel
theorem dX8_putOnTape_37 : decode cX8_putOnTape 37 = .ok (.iconst 1, 1) := by decide +kernel
theorem dX8_putOnTape_38 : decode cX8_putOnTape 38 = .ok (.iadd, 1) := by decide +kernel
theorem dX8_putOnTape_39 : decode cX8_putOnTape 39 = .ok (.putfield 13, 3) := by decide +kernel
theorem dX8_putOnTape_42 : decode cX8_putOnTape 42 = .ok (.iinc 2 (-8), 3) := by decide +kernel
theorem dX8_putOnTape_45 : decode cX8_putOnTape 45 = .ok (.goto (-42), 3) := by decide +kernel
theorem dX8_putOnTape_48 : decode cX8_putOnTape 48 = .ok (.return_, 1) := by decide +kernel
set_option maxRecDepth 20000 in
theorem ggX8_cat_X8_isCat : GoodIn wsX8_cat wsX8_isCat := goodIn_r _ [9, 2, 10, 42, 43, 44, 45, 46, 47, 48, 49, 50, 51, 52, 53, 54, 55, 56, 57, 58, 59, 60, 61, 62, 63, 64, 65, 66] rfl (by decide +kernel)
set_option maxRecDepth 20000 in
theorem gX8_cat_X8_isCat : GoodIn wsX8_cat (wsV RX8 111 RX8 yX8_isCat wsX8_isCat) := goodIn_app (goodIn_r _ [5, 6, 7, 8] rfl (by decide +kernel)) ggX8_cat_X8_isCat
set_option maxRecDepth 20000 in
theorem ggX8_cat_X0_current : GoodIn wsX8_cat wsX0_current := goodIn_r _ [15, 16, 17, 67, 68, 69, 70] rfl (by decide +kernel)
set_option maxRecDepth 20000 in
theorem gX8_cat_X0_current : GoodIn wsX8_cat (wsV RX8 115 RX0 yX0_current wsX0_current) := goodIn_app (goodIn_r _ [11, 12, 13, 14] rfl (by decide +kernel)) ggX8_cat_X0_current
set_option maxRecDepth 20000 in
theorem ggX8_cat_X7_isLiving : GoodIn wsX8_cat wsX7_isLiving := goodIn_r _ [22, 23, 71, 72, 73, 74, 75, 76, 77, 78] rfl (by decide +kernel)
set_option maxRecDepth 20000 in
theorem gX8_cat_X7_isLiving : GoodIn wsX8_cat (wsV RX8 119 RX7 yX7_isLiving wsX7_isLiving) := goodIn_app (goodIn_r _ [18, 19, 20, 21] rfl (by decide +kernel)) ggX8_cat_X7_isLiving
set_option maxRecDepth 20000 in
theorem ggX8_cat_X4_roomsOf : GoodIn wsX8_cat wsX4_roomsOf := goodIn_r _ [28, 29, 30, 56, 57, 58, 59, 60, 61, 62, 63, 64, 65, 66, 71, 72, 73, 74, 75, 76, 77, 78] rfl (by decide +kernel)
set_option maxRecDepth 20000 in
theorem gX8_cat_X4_roomsOf : GoodIn wsX8_cat (wsV RX8 128 RX4 yX4_roomsOf wsX4_roomsOf) := goodIn_app (goodIn_r _ [24, 25, 26, 27] rfl (by decide +kernel)) ggX8_cat_X4_roomsOf
set_option maxRecDepth 20000 in
theorem ggX8_cat_X4_tenantsOf : GoodIn wsX8_cat wsX4_tenantsOf := goodIn_r _ [34, 35, 36, 30, 37, 38, 39, 21, 40, 41, 56, 57, 58, 59, 60, 61, 62, 63, 64, 65, 66, 71, 72, 73, 74, 75, 76, 77, 78] rfl (by decide +kernel)
set_option maxRecDepth 20000 in
theorem gX8_cat_X4_tenantsOf : GoodIn wsX8_cat (wsV RX8 132 RX4 yX4_tenantsOf wsX4_tenantsOf) := goodIn_app (goodIn_r _ [31, 32, 33, 27] rfl (by decide +kernel)) ggX8_cat_X4_tenantsOf
theorem dX8_cat_0 : decode cX8_cat 0 = .ok (.aload_n 0, 1) := by decide +kernel
theorem dX8_cat_1 : decode cX8_cat 1 = .ok (.iload_n 1, 1) := by decide +kernel
theorem dX8_cat_2 : decode cX8_cat 2 = .ok (.invokevirtual 111, 3) := by decide +kernel
theorem dX8_cat_5 : decode cX8_cat 5 = .ok (.ifCond .ne 6, 3) := by decide +kernel
theorem dX8_cat_8 : decode cX8_cat 8 = .ok (.bipush (-2), 2) := by decide +kernel
theorem dX8_cat_10 : decode cX8_cat 10 = .ok (.ireturn, 1) := by decide +kernel
theorem dX8_cat_11 : decode cX8_cat 11 = .ok (.aload_n 0, 1) := by decide +kernel
theorem dX8_cat_12 : decode cX8_cat 12 = .ok (.getfield 34, 3) := by decide +kernel
theorem dX8_cat_15 : decode cX8_cat 15 = .ok (.invokevirtual 115, 3) := by decide +kernel
theorem dX8_cat_18 : decode cX8_cat 18 = .ok (.astore_n 3, 1) := by decide +kernel
theorem dX8_cat_19 : decode cX8_cat 19 = .ok (.iload_n 2, 1) := by decide +kernel
theorem dX8_cat_20 : decode cX8_cat 20 = .ok (.tableswitch 90 0 4 #[36, 50, 60, 70, 80], 36) := by decide +kernel
theorem dX8_cat_56 : decode cX8_cat 56 = .ok (.aload_n 3, 1) := by decide +kernel
theorem dX8_cat_57 : decode cX8_cat 57 = .ok (.iload_n 1, 1) := by decide +kernel
theorem dX8_cat_58 : decode cX8_cat 58 = .ok (.invokevirtual 119, 3) := by decide +kernel
