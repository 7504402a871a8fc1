theorem kc_3 : iv (3 : Int32) 3 3 := ⟨by decide, by decide⟩
theorem kc_4 : iv (4 : Int32) 4 4 := ⟨by decide, by decide⟩
theorem kc_5 : iv (5 : Int32) 5 5 := ⟨by decide, by decide⟩
theorem kc_6 : iv (6 : Int32) 6 6 := ⟨by decide, by decide⟩
theorem kc_9 : iv (9 : Int32) 9 9 := ⟨by decide, by decide⟩
theorem kc_100 : iv (100 : Int32) 100 100 := ⟨by decide, by decide⟩
theorem kc_256 : iv (256 : Int32) 256 256 := ⟨by decide, by decide⟩
theorem kc_999 : iv (999 : Int32) 999 999 := ⟨by decide, by decide⟩
theorem kc_9999 : iv (9999 : Int32) 9999 9999 := ⟨by decide, by decide⟩
set_option maxRecDepth 20000 in
theorem ggX1_open_X1_weigh : GoodIn wsX1_open wsX1_weigh := goodIn_r _ [8, 9, 10, 11, 12, 13, 14, 15, 16, 17, 18, 19, 20, 21, 22, 23, 24, 25, 26, 27, 28, 29, 30, 31, 32, 33, 34, 35, 36, 37, 38, 39, 40, 41, 42, 43, 44, 45, 46, 47, 48, 49, 50, 51, 52, 53, 54, 55, 56, 57, 64, 65, 66, 67, 68, 69, 70, 71, 72, 73, 74, 75, 76, 77, 78, 79, 80, 81, 82, 83, 84, 85] (by decide +kernel) (by decide +kernel)
set_option maxRecDepth 20000 in
theorem gX1_open_X1_weigh : GoodIn wsX1_open (va_wsS RX1 31 yX1_weigh wsX1_weigh) := goodIn_app (goodIn_of _ (by decide +kernel)) ggX1_open_X1_weigh
theorem dX1_open_0 : decode cX1_open 0 = .ok (.aload_n 0, 1) := by decide +kernel
theorem dX1_open_1 : decode cX1_open 1 = .ok (.aload_n 1, 1) := by decide +kernel
theorem dX1_open_2 : decode cX1_open 2 = .ok (.aload_n 2, 1) := by decide +kernel
theorem dX1_open_3 : decode cX1_open 3 = .ok (.iload_n 3, 1) := by decide +kernel
theorem dX1_open_4 : decode cX1_open 4 = .ok (.iload 4, 2) := by decide +kernel
theorem dX1_open_6 : decode cX1_open 6 = .ok (.aload_n 0, 1) := by decide +kernel
theorem dX1_open_7 : decode cX1_open 7 = .ok (.getfield 18, 3) := by decide +kernel
theorem dX1_open_10 : decode cX1_open 10 = .ok (.invokestatic 31, 3) := by decide +kernel
theorem dX1_open_13 : decode cX1_open 13 = .ok (.putfield 25, 3) := by decide +kernel
theorem dX1_open_16 : decode cX1_open 16 = .ok (.aload_n 0, 1) := by decide +kernel
theorem dX1_open_17 : decode cX1_open 17 = .ok (.aload_n 1, 1) := by decide +kernel
theorem dX1_open_18 : decode cX1_open 18 = .ok (.aload_n 2, 1) := by decide +kernel
theorem dX1_open_19 : decode cX1_open 19 = .ok (.iload_n 3, 1) := by decide +kernel
theorem dX1_open_20 : decode cX1_open 20 = .ok (.iload 5, 2) := by decide +kernel
theorem dX1_open_22 : decode cX1_open 22 = .ok (.aload_n 0, 1) := by decide +kernel
theorem dX1_open_23 : decode cX1_open 23 = .ok (.getfield 22, 3) := by decide +kernel
theorem dX1_open_26 : decode cX1_open 26 = .ok (.invokestatic 31, 3) := by decide +kernel
theorem dX1_open_29 : decode cX1_open 29 = .ok (.putfield 28, 3) := by decide +kernel
theorem dX1_open_32 : decode cX1_open 32 = .ok (.return_, 1) := by decide +kernel
set_option maxRecDepth 20000 in
theorem ggX1_weigh_X4_consider : GoodIn wsX1_weigh wsX4_consider := goodIn_r _ [10, 11, 12, 13, 14, 15, 16, 17, 18, 19, 20, 21, 22, 23, 24, 25, 26, 27, 28, 29, 30, 58, 59, 60, 61, 62, 63, 64, 65, 66, 67, 68, 50, 51, 52, 53, 54, 55, 56, 57] (by decide +kernel) (by decide +kernel)
set_option maxRecDepth 20000 in
theorem gX1_weigh_X4_consider : GoodIn wsX1_weigh (wsV RX1 46 RX4 yX4_consider wsX4_consider) := goodIn_app (goodIn_of _ (by decide +kernel)) ggX1_weigh_X4_consider
set_option maxRecDepth 20000 in
theorem ggX1_weigh_X4_likesBy : GoodIn wsX1_weigh wsX4_likesBy := goodIn_r _ [34, 13, 35, 36, 37, 38, 39, 40, 41, 42, 43, 44, 45, 46, 47, 48, 49, 58, 59, 60, 61, 62, 63, 64, 65, 66, 67, 68, 69, 70, 71] (by decide +kernel) (by decide +kernel)
set_option maxRecDepth 20000 in
theorem gX1_weigh_X4_likesBy : GoodIn wsX1_weigh (wsV RX1 54 RX4 yX4_likesBy wsX4_likesBy) := goodIn_app (goodIn_of _ (by decide +kernel)) ggX1_weigh_X4_likesBy
theorem dX1_weigh_0 : decode cX1_weigh 0 = .ok (.aload_n 1, 1) := by decide +kernel
theorem dX1_weigh_1 : decode cX1_weigh 1 = .ok (.getfield 35, 3) := by decide +kernel
theorem dX1_weigh_4 : decode cX1_weigh 4 = .ok (.iload_n 3, 1) := by decide +kernel
theorem dX1_weigh_5 : decode cX1_weigh 5 = .ok (.iaload, 1) := by decide +kernel
theorem dX1_weigh_6 : decode cX1_weigh 6 = .ok (.istore 5, 2) := by decide +kernel
theorem dX1_weigh_8 : decode cX1_weigh 8 = .ok (.iconst 5, 1) := by decide +kernel
theorem dX1_weigh_9 : decode cX1_weigh 9 = .ok (.bipush 99, 2) := by decide +kernel
theorem dX1_weigh_11 : decode cX1_weigh 11 = .ok (.iload 5, 2) := by decide +kernel
theorem dX1_weigh_13 : decode cX1_weigh 13 = .ok (.isub, 1) := by decide +kernel
theorem dX1_weigh_14 : decode cX1_weigh 14 = .ok (.invokestatic 40, 3) := by decide +kernel
theorem dX1_weigh_17 : decode cX1_weigh 17 = .ok (.istore 6, 2) := by decide +kernel
theorem dX1_weigh_19 : decode cX1_weigh 19 = .ok (.aload_n 0, 1) := by decide +kernel
theorem dX1_weigh_20 : decode cX1_weigh 20 = .ok (.aload_n 1, 1) := by decide +kernel
theorem dX1_weigh_21 : decode cX1_weigh 21 = .ok (.iload_n 3, 1) := by decide +kernel
theorem dX1_weigh_22 : decode cX1_weigh 22 = .ok (.iload_n 2, 1) := by decide +kernel
theorem dX1_weigh_23 : decode cX1_weigh 23 = .ok (.invokevirtual 46, 3) := by decide +kernel
theorem dX1_weigh_26 : decode cX1_weigh 26 = .ok (.iconst 0, 1) := by decide +kernel
theorem dX1_weigh_27 : decode cX1_weigh 27 = .ok (.istore 7, 2) := by decide +kernel
theorem dX1_weigh_29 : decode cX1_weigh 29 = .ok (.iload 7, 2) := by decide +kernel
theorem dX1_weigh_31 : decode cX1_weigh 31 = .ok (.iload 6, 2) := by decide +kernel
theorem dX1_weigh_33 : decode cX1_weigh 33 = .ok (.if_icmp .gt 32, 3) := by decide +kernel
theorem dX1_weigh_36 : decode cX1_weigh 36 = .ok (.iload 7, 2) := by decide +kernel
theorem dX1_weigh_38 : decode cX1_weigh 38 = .ok (.aload 4, 2) := by decide +kernel
theorem dX1_weigh_40 : decode cX1_weigh 40 = .ok (.arraylength, 1) := by decide +kernel
theorem dX1_weigh_41 : decode cX1_weigh 41 = .ok (.if_icmp .ge 24, 3) := by decide +kernel
theorem dX1_weigh_44 : decode cX1_weigh 44 = .ok (.aload 4, 2) := by decide +kernel
theorem dX1_weigh_46 : decode cX1_weigh 46 = .ok (.iload 7, 2) := by decide +kernel
theorem dX1_weigh_48 : decode cX1_weigh 48 = .ok (.aload_n 0, 1) := by decide +kernel
theorem dX1_weigh_49 : decode cX1_weigh 49 = .ok (.iconst 0, 1) := by decide +kernel
theorem dX1_weigh_50 : decode cX1_weigh 50 = .ok (.iload 5, 2) := by decide +kernel
theorem dX1_weigh_52 : decode cX1_weigh 52 = .ok (.iload 7, 2) := by decide +kernel
theorem dX1_weigh_54 : decode cX1_weigh 54 = .ok (.iadd, 1) := by decide +kernel
theorem dX1_weigh_55 : decode cX1_weigh 55 = .ok (.invokevirtual 54, 3) := by decide +kernel
theorem dX1_weigh_58 : decode cX1_weigh 58 = .ok (.iastore, 1) := by decide +kernel
theorem dX1_weigh_59 : decode cX1_weigh 59 = .ok (.iinc 7 1, 3) := by decide +kernel
theorem dX1_weigh_62 : decode cX1_weigh 62 = .ok (.goto (-33), 3) := by decide +kernel
theorem dX1_weigh_65 : decode cX1_weigh 65 = .ok (.iload 6, 2) := by decide +kernel
theorem dX1_weigh_67 : decode cX1_weigh 67 = .ok (.ireturn, 1) := by decide +kernel
set_option maxRecDepth 20000 in
theorem ggX1_countRests_X1_isRest : GoodIn wsX1_countRests wsX1_isRest := goodIn_r _ [9, 1, 2, 10, 11, 12, 8, 13, 14, 15, 16, 17, 18, 19, 20, 21, 22, 23, 24, 25, 26, 27, 28] (by decide +kernel) (by decide +kernel)
set_option maxRecDepth 20000 in
theorem gX1_countRests_X1_isRest : GoodIn wsX1_countRests (wsV RX1 57 RX1 yX1_isRest wsX1_isRest) := goodIn_app (goodIn_of _ (by decide +kernel)) ggX1_countRests_X1_isRest
theorem dX1_countRests_0 : decode cX1_countRests 0 = .ok (.iconst 0, 1) := by decide +kernel
theorem dX1_countRests_1 : decode cX1_countRests 1 = .ok (.istore_n 1, 1) := by decide +kernel
theorem dX1_countRests_2 : decode cX1_countRests 2 = .ok (.iconst 0, 1) := by decide +kernel
theorem dX1_countRests_3 : decode cX1_countRests 3 = .ok (.istore_n 2, 1) := by decide +kernel
theorem dX1_countRests_4 : decode cX1_countRests 4 = .ok (.iload_n 2, 1) := by decide +kernel
theorem dX1_countRests_5 : decode cX1_countRests 5 = .ok (.aload_n 0, 1) := by decide +kernel
theorem dX1_countRests_6 : decode cX1_countRests 6 = .ok (.getfield 25, 3) := by decide +kernel
theorem dX1_countRests_9 : decode cX1_countRests 9 = .ok (.if_icmp .gt 51, 3) := by decide +kernel
theorem dX1_countRests_12 : decode cX1_countRests 12 = .ok (.iconst 0, 1) := by decide +kernel
theorem dX1_countRests_13 : decode cX1_countRests 13 = .ok (.istore_n 3, 1) := by decide +kernel
theorem dX1_countRests_14 : decode cX1_countRests 14 = .ok (.iload_n 3, 1) := by decide +kernel
theorem dX1_countRests_15 : decode cX1_countRests 15 = .ok (.aload_n 0, 1) := by decide +kernel
theorem dX1_countRests_16 : decode cX1_countRests 16 = .ok (.getfield 28, 3) := by decide +kernel
theorem dX1_countRests_19 : decode cX1_countRests 19 = .ok (.if_icmp .gt 35, 3) := by decide +kernel
theorem dX1_countRests_22 : decode cX1_countRests 22 = .ok (.aload_n 0, 1) := by decide +kernel
theorem dX1_countRests_23 : decode cX1_countRests 23 = .ok (.iload_n 2, 1) := by decide +kernel
theorem dX1_countRests_24 : decode cX1_countRests 24 = .ok (.iload_n 3, 1) := by decide +kernel
theorem dX1_countRests_25 : decode cX1_countRests 25 = .ok (.invokevirtual 57, 3) := by decide +kernel
theorem dX1_countRests_28 : decode cX1_countRests 28 = .ok (.ifCond .eq 20, 3) := by decide +kernel
theorem dX1_countRests_31 : decode cX1_countRests 31 = .ok (.iload_n 1, 1) := by decide +kernel
theorem dX1_countRests_32 : decode cX1_countRests 32 = .ok (.ifCond .ne 13, 3) := by decide +kernel
theorem dX1_countRests_35 : decode cX1_countRests 35 = .ok (.aload_n 0, 1) := by decide +kernel
theorem dX1_countRests_36 : decode cX1_countRests 36 = .ok (.iload_n 2, 1) := by decide +kernel
theorem dX1_countRests_37 : decode cX1_countRests 37 = .ok (.putfield 9, 3) := by decide +kernel
theorem dX1_countRests_40 : decode cX1_countRests 40 = .ok (.aload_n 0, 1) := by decide +kernel
theorem dX1_countRests_41 : decode cX1_countRests 41 = .ok (.iload_n 3, 1) := by decide +kernel
theorem dX1_countRests_42 : decode cX1_countRests 42 = .ok (.putfield 15, 3) := by decide +kernel
theorem dX1_countRests_45 : decode cX1_countRests 45 = .ok (.iinc 1 1, 3) := by decide +kernel
theorem dX1_countRests_48 : decode cX1_countRests 48 = .ok (.iinc 3 1, 3) := by decide +kernel
theorem dX1_countRests_51 : decode cX1_countRests 51 = .ok (.goto (-37), 3) := by decide +kernel
theorem dX1_countRests_54 : decode cX1_countRests 54 = .ok (.iinc 2 1, 3) := by decide +kernel
theorem dX1_countRests_57 : decode cX1_countRests 57 = .ok (.goto (-53), 3) := by decide +kernel
theorem dX1_countRests_60 : decode cX1_countRests 60 = .ok (.iload_n 1, 1) := by decide +kernel
theorem dX1_countRests_61 : decode cX1_countRests 61 = .ok (.ireturn, 1) := by decide +kernel
set_option maxRecDepth 20000 in
theorem ggX1_isRest_X1_hasFirst : GoodIn wsX1_isRest wsX1_hasFirst := goodIn_r _ [7, 8, 9, 17, 18, 19, 20, 21, 22] (by decide +kernel) (by decide +kernel)
set_option maxRecDepth 20000 in
theorem gX1_isRest_X1_hasFirst : GoodIn wsX1_isRest (wsV RX1 61 RX1 yX1_hasFirst wsX1_hasFirst) := goodIn_app (goodIn_of _ (by decide +kernel)) ggX1_isRest_X1_hasFirst
set_option maxRecDepth 20000 in
theorem ggX1_isRest_X1_isBetter : GoodIn wsX1_isRest wsX1_isBetter := goodIn_r _ [12] (by decide +kernel) (by decide +kernel)
set_option maxRecDepth 20000 in
theorem gX1_isRest_X1_isBetter : GoodIn wsX1_isRest (va_wsS RX1 64 yX1_isBetter wsX1_isBetter) := goodIn_app (goodIn_of _ (by decide +kernel)) ggX1_isRest_X1_isBetter
set_option maxRecDepth 20000 in
theorem ggX1_isRest_X1_hasOther : GoodIn wsX1_isRest wsX1_hasOther := goodIn_r _ [16, 9, 8, 17, 18, 19, 20, 21, 22] (by decide +kernel) (by decide +kernel)
set_option maxRecDepth 20000 in
theorem gX1_isRest_X1_hasOther : GoodIn wsX1_isRest (wsV RX1 68 RX1 yX1_hasOther wsX1_hasOther) := goodIn_app (goodIn_of _ (by decide +kernel)) ggX1_isRest_X1_hasOther
theorem dX1_isRest_0 : decode cX1_isRest 0 = .ok (.aload_n 0, 1) := by decide +kernel
theorem dX1_isRest_1 : decode cX1_isRest 1 = .ok (.iload_n 1, 1) := by decide +kernel
theorem dX1_isRest_2 : decode cX1_isRest 2 = .ok (.iload_n 2, 1) := by decide +kernel
theorem dX1_isRest_3 : decode cX1_isRest 3 = .ok (.invokevirtual 61, 3) := by decide +kernel
theorem dX1_isRest_6 : decode cX1_isRest 6 = .ok (.istore_n 3, 1) := by decide +kernel
theorem dX1_isRest_7 : decode cX1_isRest 7 = .ok (.iconst 0, 1) := by decide +kernel
theorem dX1_isRest_8 : decode cX1_isRest 8 = .ok (.istore 4, 2) := by decide +kernel
theorem dX1_isRest_10 : decode cX1_isRest 10 = .ok (.iload 4, 2) := by decide +kernel
theorem dX1_isRest_12 : decode cX1_isRest 12 = .ok (.aload_n 0, 1) := by decide +kernel
theorem dX1_isRest_13 : decode cX1_isRest 13 = .ok (.getfield 25, 3) := by decide +kernel
theorem dX1_isRest_16 : decode cX1_isRest 16 = .ok (.if_icmp .gt 28, 3) := by decide +kernel
theorem dX1_isRest_19 : decode cX1_isRest 19 = .ok (.aload_n 0, 1) := by decide +kernel
theorem dX1_isRest_20 : decode cX1_isRest 20 = .ok (.iload 4, 2) := by decide +kernel
theorem dX1_isRest_22 : decode cX1_isRest 22 = .ok (.iload_n 2, 1) := by decide +kernel
theorem dX1_isRest_23 : decode cX1_isRest 23 = .ok (.invokevirtual 61, 3) := by decide +kernel
theorem dX1_isRest_26 : decode cX1_isRest 26 = .ok (.iload 4, 2) := by decide +kernel
theorem dX1_isRest_28 : decode cX1_isRest 28 = .ok (.iload_n 3, 1) := by decide +kernel
theorem dX1_isRest_29 : decode cX1_isRest 29 = .ok (.iload_n 1, 1) := by decide +kernel
theorem dX1_isRest_30 : decode cX1_isRest 30 = .ok (.invokestatic 64, 3) := by decide +kernel
theorem dX1_isRest_33 : decode cX1_isRest 33 = .ok (.ifCond .eq 5, 3) := by decide +kernel
theorem dX1_isRest_36 : decode cX1_isRest 36 = .ok (.iconst 0, 1) := by decide +kernel
theorem dX1_isRest_37 : decode cX1_isRest 37 = .ok (.ireturn, 1) := by decide +kernel
theorem dX1_isRest_38 : decode cX1_isRest 38 = .ok (.iinc 4 1, 3) := by decide +kernel
theorem dX1_isRest_41 : decode cX1_isRest 41 = .ok (.goto (-31), 3) := by decide +kernel
theorem dX1_isRest_44 : decode cX1_isRest 44 = .ok (.aload_n 0, 1) := by decide +kernel
theorem dX1_isRest_45 : decode cX1_isRest 45 = .ok (.iload_n 1, 1) := by decide +kernel
theorem dX1_isRest_46 : decode cX1_isRest 46 = .ok (.iload_n 2, 1) := by decide +kernel
theorem dX1_isRest_47 : decode cX1_isRest 47 = .ok (.invokevirtual 68, 3) := by decide +kernel
theorem dX1_isRest_50 : decode cX1_isRest 50 = .ok (.istore 4, 2) := by decide +kernel
theorem dX1_isRest_52 : decode cX1_isRest 52 = .ok (.iconst 0, 1) := by decide +kernel
theorem dX1_isRest_53 : decode cX1_isRest 53 = .ok (.istore 5, 2) := by decide +kernel
theorem dX1_isRest_55 : decode cX1_isRest 55 = .ok (.iload 5, 2) := by decide +kernel
theorem dX1_isRest_57 : decode cX1_isRest 57 = .ok (.aload_n 0, 1) := by decide +kernel
theorem dX1_isRest_58 : decode cX1_isRest 58 = .ok (.getfield 28, 3) := by decide +kernel
theorem dX1_isRest_61 : decode cX1_isRest 61 = .ok (.if_icmp .gt 29, 3) := by decide +kernel
theorem dX1_isRest_64 : decode cX1_isRest 64 = .ok (.aload_n 0, 1) := by decide +kernel
theorem dX1_isRest_65 : decode cX1_isRest 65 = .ok (.iload_n 1, 1) := by decide +kernel
theorem dX1_isRest_66 : decode cX1_isRest 66 = .ok (.iload 5, 2) := by decide +kernel
theorem dX1_isRest_68 : decode cX1_isRest 68 = .ok (.invokevirtual 68, 3) := by decide +kernel
theorem dX1_isRest_71 : decode cX1_isRest 71 = .ok (.iload 5, 2) := by decide +kernel
theorem dX1_isRest_73 : decode cX1_isRest 73 = .ok (.iload 4, 2) := by decide +kernel
theorem dX1_isRest_75 : decode cX1_isRest 75 = .ok (.iload_n 2, 1) := by decide +kernel
theorem dX1_isRest_76 : decode cX1_isRest 76 = .ok (.invokestatic 64, 3) := by decide +kernel
theorem dX1_isRest_79 : decode cX1_isRest 79 = .ok (.ifCond .eq 5, 3) := by decide +kernel
theorem dX1_isRest_82 : decode cX1_isRest 82 = .ok (.iconst 0, 1) := by decide +kernel
theorem dX1_isRest_83 : decode cX1_isRest 83 = .ok (.ireturn, 1) := by decide +kernel
theorem dX1_isRest_84 : decode cX1_isRest 84 = .ok (.iinc 5 1, 3) := by decide +kernel
theorem dX1_isRest_87 : decode cX1_isRest 87 = .ok (.goto (-32), 3) := by decide +kernel
theorem dX1_isRest_90 : decode cX1_isRest 90 = .ok (.iconst 1, 1) := by decide +kernel
theorem dX1_isRest_91 : decode cX1_isRest 91 = .ok (.ireturn, 1) := by decide +kernel
theorem dX1_isBetter_0 : decode cX1_isBetter 0 = .ok (.iload_n 0, 1) := by decide +kernel
theorem dX1_isBetter_1 : decode cX1_isBetter 1 = .ok (.iload_n 2, 1) := by decide +kernel
theorem dX1_isBetter_2 : decode cX1_isBetter 2 = .ok (.if_icmp .ne 16, 3) := by decide +kernel
theorem dX1_isBetter_5 : decode cX1_isBetter 5 = .ok (.iload_n 1, 1) := by decide +kernel
theorem dX1_isBetter_6 : decode cX1_isBetter 6 = .ok (.iload_n 3, 1) := by decide +kernel
theorem dX1_isBetter_7 : decode cX1_isBetter 7 = .ok (.if_icmp .ge 7, 3) := by decide +kernel
theorem dX1_isBetter_10 : decode cX1_isBetter 10 = .ok (.iconst 1, 1) := by decide +kernel
theorem dX1_isBetter_11 : decode cX1_isBetter 11 = .ok (.goto 8, 3) := by decide +kernel
theorem dX1_isBetter_14 : decode cX1_isBetter 14 = .ok (.iconst 0, 1) := by decide +kernel
theorem dX1_isBetter_15 : decode cX1_isBetter 15 = .ok (.goto 4, 3) := by decide +kernel
theorem dX1_isBetter_18 : decode cX1_isBetter 18 = .ok (.iload_n 0, 1) := by decide +kernel
theorem dX1_isBetter_19 : decode cX1_isBetter 19 = .ok (.ireturn, 1) := by decide +kernel
theorem dX1_hasFirst_0 : decode cX1_hasFirst 0 = .ok (.aload_n 0, 1) := by decide +kernel
theorem dX1_hasFirst_1 : decode cX1_hasFirst 1 = .ok (.getfield 18, 3) := by decide +kernel
theorem dX1_hasFirst_4 : decode cX1_hasFirst 4 = .ok (.iload_n 1, 1) := by decide +kernel
theorem dX1_hasFirst_5 : decode cX1_hasFirst 5 = .ok (.iaload, 1) := by decide +kernel
theorem dX1_hasFirst_6 : decode cX1_hasFirst 6 = .ok (.ifCond .le 22, 3) := by decide +kernel
theorem dX1_hasFirst_9 : decode cX1_hasFirst 9 = .ok (.aload_n 0, 1) := by decide +kernel
theorem dX1_hasFirst_10 : decode cX1_hasFirst 10 = .ok (.getfield 18, 3) := by decide +kernel
theorem dX1_hasFirst_13 : decode cX1_hasFirst 13 = .ok (.iload_n 1, 1) := by decide +kernel
theorem dX1_hasFirst_14 : decode cX1_hasFirst 14 = .ok (.iaload, 1) := by decide +kernel
theorem dX1_hasFirst_15 : decode cX1_hasFirst 15 = .ok (.aload_n 0, 1) := by decide +kernel
theorem dX1_hasFirst_16 : decode cX1_hasFirst 16 = .ok (.getfield 22, 3) := by decide +kernel
theorem dX1_hasFirst_19 : decode cX1_hasFirst 19 = .ok (.iload_n 2, 1) := by decide +kernel
theorem dX1_hasFirst_20 : decode cX1_hasFirst 20 = .ok (.iaload, 1) := by decide +kernel
theorem dX1_hasFirst_21 : decode cX1_hasFirst 21 = .ok (.if_icmp .lt 7, 3) := by decide +kernel
theorem dX1_hasFirst_24 : decode cX1_hasFirst 24 = .ok (.iconst 1, 1) := by decide +kernel
theorem dX1_hasFirst_25 : decode cX1_hasFirst 25 = .ok (.goto 4, 3) := by decide +kernel
theorem dX1_hasFirst_28 : decode cX1_hasFirst 28 = .ok (.iconst 0, 1) := by decide +kernel
theorem dX1_hasFirst_29 : decode cX1_hasFirst 29 = .ok (.ireturn, 1) := by decide +kernel
theorem dX1_hasOther_0 : decode cX1_hasOther 0 = .ok (.aload_n 0, 1) := by decide +kernel
theorem dX1_hasOther_1 : decode cX1_hasOther 1 = .ok (.getfield 22, 3) := by decide +kernel
theorem dX1_hasOther_4 : decode cX1_hasOther 4 = .ok (.iload_n 2, 1) := by decide +kernel
theorem dX1_hasOther_5 : decode cX1_hasOther 5 = .ok (.iaload, 1) := by decide +kernel
theorem dX1_hasOther_6 : decode cX1_hasOther 6 = .ok (.ifCond .le 22, 3) := by decide +kernel
theorem dX1_hasOther_9 : decode cX1_hasOther 9 = .ok (.aload_n 0, 1) := by decide +kernel
theorem dX1_hasOther_10 : decode cX1_hasOther 10 = .ok (.getfield 22, 3) := by decide +kernel
theorem dX1_hasOther_13 : decode cX1_hasOther 13 = .ok (.iload_n 2, 1) := by decide +kernel
theorem dX1_hasOther_14 : decode cX1_hasOther 14 = .ok (.iaload, 1) := by decide +kernel
theorem dX1_hasOther_15 : decode cX1_hasOther 15 = .ok (.aload_n 0, 1) := by decide +kernel
theorem dX1_hasOther_16 : decode cX1_hasOther 16 = .ok (.getfield 18, 3) := by decide +kernel
theorem dX1_hasOther_19 : decode cX1_hasOther 19 = .ok (.iload_n 1, 1) := by decide +kernel
theorem dX1_hasOther_20 : decode cX1_hasOther 20 = .ok (.iaload, 1) := by decide +kernel
theorem dX1_hasOther_21 : decode cX1_hasOther 21 = .ok (.if_icmp .le 7, 3) := by decide +kernel
theorem dX1_hasOther_24 : decode cX1_hasOther 24 = .ok (.iconst 1, 1) := by decide +kernel
theorem dX1_hasOther_25 : decode cX1_hasOther 25 = .ok (.goto 4, 3) := by decide +kernel
theorem dX1_hasOther_28 : decode cX1_hasOther 28 = .ok (.iconst 0, 1) := by decide +kernel
theorem dX1_hasOther_29 : decode cX1_hasOther 29 = .ok (.ireturn, 1) := by decide +kernel
set_option maxRecDepth 20000 in
theorem ggX3_solve_X3_weigh : GoodIn wsX3_solve wsX3_weigh := goodIn_r _ [10, 2, 4, 11, 12, 13, 14, 15, 16, 17, 18, 19, 20, 21, 22, 23, 24, 25, 26, 27, 28, 29, 30, 31, 32, 33, 34, 35, 36, 37, 38, 39, 40, 41, 42, 43, 44, 45, 46, 47, 48, 49, 50, 51, 52, 53, 54, 55, 56, 57, 58, 59, 60, 61, 62, 63, 84, 85, 86, 87, 88, 89, 90, 91, 92, 93, 94, 95, 73, 74, 75, 76, 77, 78, 79, 80, 81, 82, 83, 96, 97, 98] (by decide +kernel) (by decide +kernel)
set_option maxRecDepth 20000 in
theorem gX3_solve_X3_weigh : GoodIn wsX3_solve (wsV RX3 29 RX3 yX3_weigh wsX3_weigh) := goodIn_app (goodIn_of _ (by decide +kernel)) ggX3_solve_X3_weigh
set_option maxRecDepth 20000 in
theorem ggX3_solve_X3_bestFor : GoodIn wsX3_solve wsX3_bestFor := goodIn_r _ [67, 5, 4, 16, 17, 14, 18, 68, 69, 70, 9, 71, 11, 72, 84, 85, 86, 87] (by decide +kernel) (by decide +kernel)
set_option maxRecDepth 20000 in
theorem gX3_solve_X3_bestFor : GoodIn wsX3_solve (wsV RX3 33 RX3 yX3_bestFor wsX3_bestFor) := goodIn_app (goodIn_of _ (by decide +kernel)) ggX3_solve_X3_bestFor
theorem dX3_solve_0 : decode cX3_solve 0 = .ok (.aload_n 0, 1) := by decide +kernel
theorem dX3_solve_1 : decode cX3_solve 1 = .ok (.aload_n 1, 1) := by decide +kernel
theorem dX3_solve_2 : decode cX3_solve 2 = .ok (.getfield 25, 3) := by decide +kernel
theorem dX3_solve_5 : decode cX3_solve 5 = .ok (.putfield 18, 3) := by decide +kernel
theorem dX3_solve_8 : decode cX3_solve 8 = .ok (.aload_n 0, 1) := by decide +kernel
theorem dX3_solve_9 : decode cX3_solve 9 = .ok (.aload_n 1, 1) := by decide +kernel
theorem dX3_solve_10 : decode cX3_solve 10 = .ok (.getfield 28, 3) := by decide +kernel
theorem dX3_solve_13 : decode cX3_solve 13 = .ok (.putfield 22, 3) := by decide +kernel
theorem dX3_solve_16 : decode cX3_solve 16 = .ok (.aload_n 0, 1) := by decide +kernel
theorem dX3_solve_17 : decode cX3_solve 17 = .ok (.aload_n 1, 1) := by decide +kernel
theorem dX3_solve_18 : decode cX3_solve 18 = .ok (.aload_n 2, 1) := by decide +kernel
theorem dX3_solve_19 : decode cX3_solve 19 = .ok (.invokevirtual 29, 3) := by decide +kernel
theorem dX3_solve_22 : decode cX3_solve 22 = .ok (.iconst 1, 1) := by decide +kernel
theorem dX3_solve_23 : decode cX3_solve 23 = .ok (.aload_n 0, 1) := by decide +kernel
theorem dX3_solve_24 : decode cX3_solve 24 = .ok (.getfield 22, 3) := by decide +kernel
theorem dX3_solve_27 : decode cX3_solve 27 = .ok (.ishl, 1) := by decide +kernel
theorem dX3_solve_28 : decode cX3_solve 28 = .ok (.istore_n 3, 1) := by decide +kernel
theorem dX3_solve_29 : decode cX3_solve 29 = .ok (.iconst 0, 1) := by decide +kernel
theorem dX3_solve_30 : decode cX3_solve 30 = .ok (.istore 4, 2) := by decide +kernel
theorem dX3_solve_32 : decode cX3_solve 32 = .ok (.iload 4, 2) := by decide +kernel
theorem dX3_solve_34 : decode cX3_solve 34 = .ok (.iload_n 3, 1) := by decide +kernel
theorem dX3_solve_35 : decode cX3_solve 35 = .ok (.if_icmp .ge 26, 3) := by decide +kernel
theorem dX3_solve_38 : decode cX3_solve 38 = .ok (.aload_n 0, 1) := by decide +kernel
theorem dX3_solve_39 : decode cX3_solve 39 = .ok (.getfield 15, 3) := by decide +kernel
theorem dX3_solve_42 : decode cX3_solve 42 = .ok (.aload_n 0, 1) := by decide +kernel
theorem dX3_solve_43 : decode cX3_solve 43 = .ok (.getfield 18, 3) := by decide +kernel
theorem dX3_solve_46 : decode cX3_solve 46 = .ok (.sipush 256, 3) := by decide +kernel
theorem dX3_solve_49 : decode cX3_solve 49 = .ok (.imul, 1) := by decide +kernel
theorem dX3_solve_50 : decode cX3_solve 50 = .ok (.iload 4, 2) := by decide +kernel
theorem dX3_solve_52 : decode cX3_solve 52 = .ok (.iadd, 1) := by decide +kernel
theorem dX3_solve_53 : decode cX3_solve 53 = .ok (.iconst 0, 1) := by decide +kernel
theorem dX3_solve_54 : decode cX3_solve 54 = .ok (.iastore, 1) := by decide +kernel
theorem dX3_solve_55 : decode cX3_solve 55 = .ok (.iinc 4 1, 3) := by decide +kernel
theorem dX3_solve_58 : decode cX3_solve 58 = .ok (.goto (-26), 3) := by decide +kernel
theorem dX3_solve_61 : decode cX3_solve 61 = .ok (.aload_n 0, 1) := by decide +kernel
theorem dX3_solve_62 : decode cX3_solve 62 = .ok (.getfield 18, 3) := by decide +kernel
theorem dX3_solve_65 : decode cX3_solve 65 = .ok (.iconst 1, 1) := by decide +kernel
theorem dX3_solve_66 : decode cX3_solve 66 = .ok (.isub, 1) := by decide +kernel
theorem dX3_solve_67 : decode cX3_solve 67 = .ok (.istore 4, 2) := by decide +kernel
theorem dX3_solve_69 : decode cX3_solve 69 = .ok (.iload 4, 2) := by decide +kernel
theorem dX3_solve_71 : decode cX3_solve 71 = .ok (.ifCond .lt 46, 3) := by decide +kernel
theorem dX3_solve_74 : decode cX3_solve 74 = .ok (.iconst 0, 1) := by decide +kernel
theorem dX3_solve_75 : decode cX3_solve 75 = .ok (.istore 5, 2) := by decide +kernel
theorem dX3_solve_77 : decode cX3_solve 77 = .ok (.iload 5, 2) := by decide +kernel
theorem dX3_solve_79 : decode cX3_solve 79 = .ok (.iload_n 3, 1) := by decide +kernel
theorem dX3_solve_80 : decode cX3_solve 80 = .ok (.if_icmp .ge 31, 3) := by decide +kernel
theorem dX3_solve_83 : decode cX3_solve 83 = .ok (.aload_n 0, 1) := by decide +kernel
theorem dX3_solve_84 : decode cX3_solve 84 = .ok (.getfield 15, 3) := by decide +kernel
theorem dX3_solve_87 : decode cX3_solve 87 = .ok (.iload 4, 2) := by decide +kernel
theorem dX3_solve_89 : decode cX3_solve 89 = .ok (.sipush 256, 3) := by decide +kernel
theorem dX3_solve_92 : decode cX3_solve 92 = .ok (.imul, 1) := by decide +kernel
theorem dX3_solve_93 : decode cX3_solve 93 = .ok (.iload 5, 2) := by decide +kernel
theorem dX3_solve_95 : decode cX3_solve 95 = .ok (.iadd, 1) := by decide +kernel
theorem dX3_solve_96 : decode cX3_solve 96 = .ok (.aload_n 0, 1) := by decide +kernel
theorem dX3_solve_97 : decode cX3_solve 97 = .ok (.iload 4, 2) := by decide +kernel
theorem dX3_solve_99 : decode cX3_solve 99 = .ok (.iload 5, 2) := by decide +kernel
theorem dX3_solve_101 : decode cX3_solve 101 = .ok (.invokevirtual 33, 3) := by decide +kernel
theorem dX3_solve_104 : decode cX3_solve 104 = .ok (.iastore, 1) := by decide +kernel
theorem dX3_solve_105 : decode cX3_solve 105 = .ok (.iinc 5 1, 3) := by decide +kernel
theorem dX3_solve_108 : decode cX3_solve 108 = .ok (.goto (-31), 3) := by decide +kernel
theorem dX3_solve_111 : decode cX3_solve 111 = .ok (.iinc 4 (-1), 3) := by decide +kernel
theorem dX3_solve_114 : decode cX3_solve 114 = .ok (.goto (-45), 3) := by decide +kernel
theorem dX3_solve_117 : decode cX3_solve 117 = .ok (.return_, 1) := by decide +kernel
set_option maxRecDepth 20000 in
theorem ggX3_weigh_X7_isKept : GoodIn wsX3_weigh wsX7_isKept := goodIn_r _ [15, 16, 60, 61, 62, 63, 64, 65, 66, 67] (by decide +kernel) (by decide +kernel)
set_option maxRecDepth 20000 in
theorem gX3_weigh_X7_isKept : GoodIn wsX3_weigh (wsV RX3 37 RX7 yX7_isKept wsX7_isKept) := goodIn_app (goodIn_of _ (by decide +kernel)) ggX3_weigh_X7_isKept
set_option maxRecDepth 20000 in
theorem ggX3_weigh_X4_likes : GoodIn wsX3_weigh wsX4_likes := goodIn_r _ [21, 22, 23, 24, 25, 26, 20, 27, 28, 29, 30, 31, 32, 33, 34, 35, 36, 37, 12, 13, 14, 15, 16, 38, 39, 40, 41, 42, 43, 44, 45, 46, 47, 48, 49, 50, 51, 52, 53, 54, 55, 68, 69, 70, 71, 72, 73, 74, 75, 76, 77, 78, 60, 61, 62, 63, 64, 65, 66, 67, 79, 80, 81] (by decide +kernel) (by decide +kernel)
set_option maxRecDepth 20000 in
theorem gX3_weigh_X4_likes : GoodIn wsX3_weigh (wsV RX3 43 RX4 yX4_likes wsX4_likes) := goodIn_app (goodIn_of _ (by decide +kernel)) ggX3_weigh_X4_likes
theorem dX3_weigh_0 : decode cX3_weigh 0 = .ok (.iconst 0, 1) := by decide +kernel
theorem dX3_weigh_1 : decode cX3_weigh 1 = .ok (.istore_n 3, 1) := by decide +kernel
theorem dX3_weigh_2 : decode cX3_weigh 2 = .ok (.iload_n 3, 1) := by decide +kernel
theorem dX3_weigh_3 : decode cX3_weigh 3 = .ok (.aload_n 0, 1) := by decide +kernel
theorem dX3_weigh_4 : decode cX3_weigh 4 = .ok (.getfield 18, 3) := by decide +kernel
theorem dX3_weigh_7 : decode cX3_weigh 7 = .ok (.if_icmp .ge 74, 3) := by decide +kernel
theorem dX3_weigh_10 : decode cX3_weigh 10 = .ok (.iconst 0, 1) := by decide +kernel
theorem dX3_weigh_11 : decode cX3_weigh 11 = .ok (.istore 4, 2) := by decide +kernel
theorem dX3_weigh_13 : decode cX3_weigh 13 = .ok (.iload 4, 2) := by decide +kernel
theorem dX3_weigh_15 : decode cX3_weigh 15 = .ok (.aload_n 0, 1) := by decide +kernel
theorem dX3_weigh_16 : decode cX3_weigh 16 = .ok (.getfield 22, 3) := by decide +kernel
theorem dX3_weigh_19 : decode cX3_weigh 19 = .ok (.if_icmp .ge 56, 3) := by decide +kernel
theorem dX3_weigh_22 : decode cX3_weigh 22 = .ok (.aload_n 2, 1) := by decide +kernel
theorem dX3_weigh_23 : decode cX3_weigh 23 = .ok (.iload 4, 2) := by decide +kernel
theorem dX3_weigh_25 : decode cX3_weigh 25 = .ok (.invokevirtual 37, 3) := by decide +kernel
theorem dX3_weigh_28 : decode cX3_weigh 28 = .ok (.ifCond .eq 14, 3) := by decide +kernel
theorem dX3_weigh_31 : decode cX3_weigh 31 = .ok (.aload_n 1, 1) := by decide +kernel
theorem dX3_weigh_32 : decode cX3_weigh 32 = .ok (.aload_n 2, 1) := by decide +kernel
theorem dX3_weigh_33 : decode cX3_weigh 33 = .ok (.iload_n 3, 1) := by decide +kernel
theorem dX3_weigh_34 : decode cX3_weigh 34 = .ok (.iload 4, 2) := by decide +kernel
theorem dX3_weigh_36 : decode cX3_weigh 36 = .ok (.invokevirtual 43, 3) := by decide +kernel
theorem dX3_weigh_39 : decode cX3_weigh 39 = .ok (.goto 4, 3) := by decide +kernel
theorem dX3_weigh_42 : decode cX3_weigh 42 = .ok (.iconst 0, 1) := by decide +kernel
theorem dX3_weigh_43 : decode cX3_weigh 43 = .ok (.istore 5, 2) := by decide +kernel
theorem dX3_weigh_45 : decode cX3_weigh 45 = .ok (.aload_n 0, 1) := by decide +kernel
theorem dX3_weigh_46 : decode cX3_weigh 46 = .ok (.getfield 9, 3) := by decide +kernel
theorem dX3_weigh_49 : decode cX3_weigh 49 = .ok (.iload_n 3, 1) := by decide +kernel
theorem dX3_weigh_50 : decode cX3_weigh 50 = .ok (.bipush 8, 2) := by decide +kernel
theorem dX3_weigh_52 : decode cX3_weigh 52 = .ok (.imul, 1) := by decide +kernel
theorem dX3_weigh_53 : decode cX3_weigh 53 = .ok (.iload 4, 2) := by decide +kernel
theorem dX3_weigh_55 : decode cX3_weigh 55 = .ok (.iadd, 1) := by decide +kernel
theorem dX3_weigh_56 : decode cX3_weigh 56 = .ok (.iconst 0, 1) := by decide +kernel
theorem dX3_weigh_57 : decode cX3_weigh 57 = .ok (.sipush 9999, 3) := by decide +kernel
theorem dX3_weigh_60 : decode cX3_weigh 60 = .ok (.iload 5, 2) := by decide +kernel
theorem dX3_weigh_62 : decode cX3_weigh 62 = .ok (.invokestatic 47, 3) := by decide +kernel
theorem dX3_weigh_65 : decode cX3_weigh 65 = .ok (.invokestatic 52, 3) := by decide +kernel
theorem dX3_weigh_68 : decode cX3_weigh 68 = .ok (.iastore, 1) := by decide +kernel
theorem dX3_weigh_69 : decode cX3_weigh 69 = .ok (.iinc 4 1, 3) := by decide +kernel
theorem dX3_weigh_72 : decode cX3_weigh 72 = .ok (.goto (-59), 3) := by decide +kernel
theorem dX3_weigh_75 : decode cX3_weigh 75 = .ok (.iinc 3 1, 3) := by decide +kernel
theorem dX3_weigh_78 : decode cX3_weigh 78 = .ok (.goto (-76), 3) := by decide +kernel
theorem dX3_weigh_81 : decode cX3_weigh 81 = .ok (.return_, 1) := by decide +kernel
set_option maxRecDepth 20000 in
theorem ggX3_bestFor_X3_withRoom : GoodIn wsX3_bestFor wsX3_withRoom := goodIn_r _ [11, 12, 1, 13, 14, 15, 16, 17] (by decide +kernel) (by decide +kernel)
set_option maxRecDepth 20000 in
theorem gX3_bestFor_X3_withRoom : GoodIn wsX3_bestFor (wsV RX3 55 RX3 yX3_withRoom wsX3_withRoom) := goodIn_app (goodIn_of _ (by decide +kernel)) ggX3_bestFor_X3_withRoom
theorem dX3_bestFor_0 : decode cX3_bestFor 0 = .ok (.aload_n 0, 1) := by decide +kernel
theorem dX3_bestFor_1 : decode cX3_bestFor 1 = .ok (.getfield 15, 3) := by decide +kernel
theorem dX3_bestFor_4 : decode cX3_bestFor 4 = .ok (.iload_n 1, 1) := by decide +kernel
theorem dX3_bestFor_5 : decode cX3_bestFor 5 = .ok (.iconst 1, 1) := by decide +kernel
theorem dX3_bestFor_6 : decode cX3_bestFor 6 = .ok (.iadd, 1) := by decide +kernel
theorem dX3_bestFor_7 : decode cX3_bestFor 7 = .ok (.sipush 256, 3) := by decide +kernel
theorem dX3_bestFor_10 : decode cX3_bestFor 10 = .ok (.imul, 1) := by decide +kernel
theorem dX3_bestFor_11 : decode cX3_bestFor 11 = .ok (.iload_n 2, 1) := by decide +kernel
theorem dX3_bestFor_12 : decode cX3_bestFor 12 = .ok (.iadd, 1) := by decide +kernel
theorem dX3_bestFor_13 : decode cX3_bestFor 13 = .ok (.iaload, 1) := by decide +kernel
theorem dX3_bestFor_14 : decode cX3_bestFor 14 = .ok (.istore_n 3, 1) := by decide +kernel
theorem dX3_bestFor_15 : decode cX3_bestFor 15 = .ok (.iconst 0, 1) := by decide +kernel
theorem dX3_bestFor_16 : decode cX3_bestFor 16 = .ok (.istore 4, 2) := by decide +kernel
theorem dX3_bestFor_18 : decode cX3_bestFor 18 = .ok (.iload 4, 2) := by decide +kernel
theorem dX3_bestFor_20 : decode cX3_bestFor 20 = .ok (.aload_n 0, 1) := by decide +kernel
theorem dX3_bestFor_21 : decode cX3_bestFor 21 = .ok (.getfield 22, 3) := by decide +kernel
theorem dX3_bestFor_24 : decode cX3_bestFor 24 = .ok (.if_icmp .ge 22, 3) := by decide +kernel
theorem dX3_bestFor_27 : decode cX3_bestFor 27 = .ok (.iload_n 3, 1) := by decide +kernel
theorem dX3_bestFor_28 : decode cX3_bestFor 28 = .ok (.aload_n 0, 1) := by decide +kernel
theorem dX3_bestFor_29 : decode cX3_bestFor 29 = .ok (.iload_n 1, 1) := by decide +kernel
theorem dX3_bestFor_30 : decode cX3_bestFor 30 = .ok (.iload_n 2, 1) := by decide +kernel
theorem dX3_bestFor_31 : decode cX3_bestFor 31 = .ok (.iload 4, 2) := by decide +kernel
theorem dX3_bestFor_33 : decode cX3_bestFor 33 = .ok (.invokevirtual 55, 3) := by decide +kernel
theorem dX3_bestFor_36 : decode cX3_bestFor 36 = .ok (.invokestatic 52, 3) := by decide +kernel
theorem dX3_bestFor_39 : decode cX3_bestFor 39 = .ok (.istore_n 3, 1) := by decide +kernel
theorem dX3_bestFor_40 : decode cX3_bestFor 40 = .ok (.iinc 4 1, 3) := by decide +kernel
theorem dX3_bestFor_43 : decode cX3_bestFor 43 = .ok (.goto (-25), 3) := by decide +kernel
theorem dX3_bestFor_46 : decode cX3_bestFor 46 = .ok (.iload_n 3, 1) := by decide +kernel
theorem dX3_bestFor_47 : decode cX3_bestFor 47 = .ok (.ireturn, 1) := by decide +kernel
theorem dX3_withRoom_0 : decode cX3_withRoom 0 = .ok (.aload_n 0, 1) := by decide +kernel
theorem dX3_withRoom_1 : decode cX3_withRoom 1 = .ok (.getfield 9, 3) := by decide +kernel
theorem dX3_withRoom_4 : decode cX3_withRoom 4 = .ok (.iload_n 1, 1) := by decide +kernel
theorem dX3_withRoom_5 : decode cX3_withRoom 5 = .ok (.bipush 8, 2) := by decide +kernel
theorem dX3_withRoom_7 : decode cX3_withRoom 7 = .ok (.imul, 1) := by decide +kernel
theorem dX3_withRoom_8 : decode cX3_withRoom 8 = .ok (.iload_n 3, 1) := by decide +kernel
theorem dX3_withRoom_9 : decode cX3_withRoom 9 = .ok (.iadd, 1) := by decide +kernel
theorem dX3_withRoom_10 : decode cX3_withRoom 10 = .ok (.iaload, 1) := by decide +kernel
theorem dX3_withRoom_11 : decode cX3_withRoom 11 = .ok (.istore 4, 2) := by decide +kernel
theorem dX3_withRoom_13 : decode cX3_withRoom 13 = .ok (.iload 4, 2) := by decide +kernel
theorem dX3_withRoom_15 : decode cX3_withRoom 15 = .ok (.ifCond .eq 11, 3) := by decide +kernel
theorem dX3_withRoom_18 : decode cX3_withRoom 18 = .ok (.iload_n 2, 1) := by decide +kernel
theorem dX3_withRoom_19 : decode cX3_withRoom 19 = .ok (.iload_n 3, 1) := by decide +kernel
theorem dX3_withRoom_20 : decode cX3_withRoom 20 = .ok (.ishr, 1) := by decide +kernel
theorem dX3_withRoom_21 : decode cX3_withRoom 21 = .ok (.iconst 1, 1) := by decide +kernel
theorem dX3_withRoom_22 : decode cX3_withRoom 22 = .ok (.iand, 1) := by decide +kernel
theorem dX3_withRoom_23 : decode cX3_withRoom 23 = .ok (.ifCond .eq 5, 3) := by decide +kernel
theorem dX3_withRoom_26 : decode cX3_withRoom 26 = .ok (.iconst (-1), 1) := by decide +kernel
theorem dX3_withRoom_27 : decode cX3_withRoom 27 = .ok (.ireturn, 1) := by decide +kernel
theorem dX3_withRoom_28 : decode cX3_withRoom 28 = .ok (.aload_n 0, 1) := by decide +kernel
theorem dX3_withRoom_29 : decode cX3_withRoom 29 = .ok (.getfield 15, 3) := by decide +kernel
theorem dX3_withRoom_32 : decode cX3_withRoom 32 = .ok (.iload_n 1, 1) := by decide +kernel
theorem dX3_withRoom_33 : decode cX3_withRoom 33 = .ok (.iconst 1, 1) := by decide +kernel
theorem dX3_withRoom_34 : decode cX3_withRoom 34 = .ok (.iadd, 1) := by decide +kernel
theorem dX3_withRoom_35 : decode cX3_withRoom 35 = .ok (.sipush 256, 3) := by decide +kernel
theorem dX3_withRoom_38 : decode cX3_withRoom 38 = .ok (.imul, 1) := by decide +kernel
theorem dX3_withRoom_39 : decode cX3_withRoom 39 = .ok (.iload_n 2, 1) := by decide +kernel
theorem dX3_withRoom_40 : decode cX3_withRoom 40 = .ok (.iconst 1, 1) := by decide +kernel
theorem dX3_withRoom_41 : decode cX3_withRoom 41 = .ok (.iload_n 3, 1) := by decide +kernel
theorem dX3_withRoom_42 : decode cX3_withRoom 42 = .ok (.ishl, 1) := by decide +kernel
theorem dX3_withRoom_43 : decode cX3_withRoom 43 = .ok (.ior, 1) := by decide +kernel
theorem dX3_withRoom_44 : decode cX3_withRoom 44 = .ok (.iadd, 1) := by decide +kernel
theorem dX3_withRoom_45 : decode cX3_withRoom 45 = .ok (.iaload, 1) := by decide +kernel
theorem dX3_withRoom_46 : decode cX3_withRoom 46 = .ok (.ldc 59, 2) := by decide +kernel
theorem dX3_withRoom_48 : decode cX3_withRoom 48 = .ok (.iadd, 1) := by decide +kernel
theorem dX3_withRoom_49 : decode cX3_withRoom 49 = .ok (.iload 4, 2) := by decide +kernel
theorem dX3_withRoom_51 : decode cX3_withRoom 51 = .ok (.iadd, 1) := by decide +kernel
theorem dX3_withRoom_52 : decode cX3_withRoom 52 = .ok (.ireturn, 1) := by decide +kernel
theorem dX3_count_0 : decode cX3_count 0 = .ok (.aload_n 0, 1) := by decide +kernel
theorem dX3_count_1 : decode cX3_count 1 = .ok (.getfield 15, 3) := by decide +kernel
theorem dX3_count_4 : decode cX3_count 4 = .ok (.iconst 0, 1) := by decide +kernel
theorem dX3_count_5 : decode cX3_count 5 = .ok (.iaload, 1) := by decide +kernel
theorem dX3_count_6 : decode cX3_count 6 = .ok (.ldc 59, 2) := by decide +kernel
theorem dX3_count_8 : decode cX3_count 8 = .ok (.idiv, 1) := by decide +kernel
theorem dX3_count_9 : decode cX3_count 9 = .ok (.ireturn, 1) := by decide +kernel
theorem dX3_together_0 : decode cX3_together 0 = .ok (.aload_n 0, 1) := by decide +kernel
theorem dX3_together_1 : decode cX3_together 1 = .ok (.getfield 15, 3) := by decide +kernel
theorem dX3_together_4 : decode cX3_together 4 = .ok (.iconst 0, 1) := by decide +kernel
theorem dX3_together_5 : decode cX3_together 5 = .ok (.iaload, 1) := by decide +kernel
theorem dX3_together_6 : decode cX3_together 6 = .ok (.ldc 59, 2) := by decide +kernel
theorem dX3_together_8 : decode cX3_together 8 = .ok (.irem, 1) := by decide +kernel
theorem dX3_together_9 : decode cX3_together 9 = .ok (.ireturn, 1) := by decide +kernel
set_option maxRecDepth 20000 in
theorem ggX3_tell_X3_withRoom : GoodIn wsX3_tell wsX3_withRoom := goodIn_r _ [8, 9, 3, 10, 11, 12, 13, 14] (by decide +kernel) (by decide +kernel)
set_option maxRecDepth 20000 in
theorem gX3_tell_X3_withRoom : GoodIn wsX3_tell (wsV RX3 55 RX3 yX3_withRoom wsX3_withRoom) := goodIn_app (goodIn_of _ (by decide +kernel)) ggX3_tell_X3_withRoom
theorem dX3_tell_0 : decode cX3_tell 0 = .ok (.iconst 0, 1) := by decide +kernel
theorem dX3_tell_1 : decode cX3_tell 1 = .ok (.istore_n 3, 1) := by decide +kernel
theorem dX3_tell_2 : decode cX3_tell 2 = .ok (.iconst 0, 1) := by decide +kernel
theorem dX3_tell_3 : decode cX3_tell 3 = .ok (.istore 4, 2) := by decide +kernel
theorem dX3_tell_5 : decode cX3_tell 5 = .ok (.iload 4, 2) := by decide +kernel
theorem dX3_tell_7 : decode cX3_tell 7 = .ok (.aload_n 0, 1) := by decide +kernel
theorem dX3_tell_8 : decode cX3_tell 8 = .ok (.getfield 18, 3) := by decide +kernel
theorem dX3_tell_11 : decode cX3_tell 11 = .ok (.if_icmp .ge 101, 3) := by decide +kernel
theorem dX3_tell_14 : decode cX3_tell 14 = .ok (.iload 4, 2) := by decide +kernel
theorem dX3_tell_16 : decode cX3_tell 16 = .ok (.iload_n 2, 1) := by decide +kernel
theorem dX3_tell_17 : decode cX3_tell 17 = .ok (.if_icmp .ge 95, 3) := by decide +kernel
theorem dX3_tell_20 : decode cX3_tell 20 = .ok (.iload 4, 2) := by decide +kernel
theorem dX3_tell_22 : decode cX3_tell 22 = .ok (.aload_n 1, 1) := by decide +kernel
theorem dX3_tell_23 : decode cX3_tell 23 = .ok (.arraylength, 1) := by decide +kernel
theorem dX3_tell_24 : decode cX3_tell 24 = .ok (.if_icmp .ge 88, 3) := by decide +kernel
theorem dX3_tell_27 : decode cX3_tell 27 = .ok (.aload_n 1, 1) := by decide +kernel
theorem dX3_tell_28 : decode cX3_tell 28 = .ok (.iload 4, 2) := by decide +kernel
theorem dX3_tell_30 : decode cX3_tell 30 = .ok (.iconst (-1), 1) := by decide +kernel
theorem dX3_tell_31 : decode cX3_tell 31 = .ok (.iastore, 1) := by decide +kernel
theorem dX3_tell_32 : decode cX3_tell 32 = .ok (.iconst 0, 1) := by decide +kernel
theorem dX3_tell_33 : decode cX3_tell 33 = .ok (.istore 5, 2) := by decide +kernel
theorem dX3_tell_35 : decode cX3_tell 35 = .ok (.iload 5, 2) := by decide +kernel
theorem dX3_tell_37 : decode cX3_tell 37 = .ok (.aload_n 0, 1) := by decide +kernel
theorem dX3_tell_38 : decode cX3_tell 38 = .ok (.getfield 22, 3) := by decide +kernel
theorem dX3_tell_41 : decode cX3_tell 41 = .ok (.if_icmp .ge 48, 3) := by decide +kernel
theorem dX3_tell_44 : decode cX3_tell 44 = .ok (.aload_n 1, 1) := by decide +kernel
theorem dX3_tell_45 : decode cX3_tell 45 = .ok (.iload 4, 2) := by decide +kernel
theorem dX3_tell_47 : decode cX3_tell 47 = .ok (.iaload, 1) := by decide +kernel
theorem dX3_tell_48 : decode cX3_tell 48 = .ok (.iconst (-1), 1) := by decide +kernel
theorem dX3_tell_49 : decode cX3_tell 49 = .ok (.if_icmp .ne 40, 3) := by decide +kernel
theorem dX3_tell_52 : decode cX3_tell 52 = .ok (.aload_n 0, 1) := by decide +kernel
theorem dX3_tell_53 : decode cX3_tell 53 = .ok (.iload 4, 2) := by decide +kernel
theorem dX3_tell_55 : decode cX3_tell 55 = .ok (.iload_n 3, 1) := by decide +kernel
theorem dX3_tell_56 : decode cX3_tell 56 = .ok (.iload 5, 2) := by decide +kernel
theorem dX3_tell_58 : decode cX3_tell 58 = .ok (.invokevirtual 55, 3) := by decide +kernel
theorem dX3_tell_61 : decode cX3_tell 61 = .ok (.aload_n 0, 1) := by decide +kernel
theorem dX3_tell_62 : decode cX3_tell 62 = .ok (.getfield 15, 3) := by decide +kernel
theorem dX3_tell_65 : decode cX3_tell 65 = .ok (.iload 4, 2) := by decide +kernel
theorem dX3_tell_67 : decode cX3_tell 67 = .ok (.sipush 256, 3) := by decide +kernel
theorem dX3_tell_70 : decode cX3_tell 70 = .ok (.imul, 1) := by decide +kernel
theorem dX3_tell_71 : decode cX3_tell 71 = .ok (.iload_n 3, 1) := by decide +kernel
theorem dX3_tell_72 : decode cX3_tell 72 = .ok (.iadd, 1) := by decide +kernel
theorem dX3_tell_73 : decode cX3_tell 73 = .ok (.iaload, 1) := by decide +kernel
theorem dX3_tell_74 : decode cX3_tell 74 = .ok (.if_icmp .ne 9, 3) := by decide +kernel
theorem dX3_tell_77 : decode cX3_tell 77 = .ok (.aload_n 1, 1) := by decide +kernel
theorem dX3_tell_78 : decode cX3_tell 78 = .ok (.iload 4, 2) := by decide +kernel
theorem dX3_tell_80 : decode cX3_tell 80 = .ok (.iload 5, 2) := by decide +kernel
theorem dX3_tell_82 : decode cX3_tell 82 = .ok (.iastore, 1) := by decide +kernel
theorem dX3_tell_83 : decode cX3_tell 83 = .ok (.iinc 5 1, 3) := by decide +kernel
theorem dX3_tell_86 : decode cX3_tell 86 = .ok (.goto (-51), 3) := by decide +kernel
theorem dX3_tell_89 : decode cX3_tell 89 = .ok (.aload_n 1, 1) := by decide +kernel
theorem dX3_tell_90 : decode cX3_tell 90 = .ok (.iload 4, 2) := by decide +kernel
theorem dX3_tell_92 : decode cX3_tell 92 = .ok (.iaload, 1) := by decide +kernel
theorem dX3_tell_93 : decode cX3_tell 93 = .ok (.iconst (-1), 1) := by decide +kernel
theorem dX3_tell_94 : decode cX3_tell 94 = .ok (.if_icmp .eq 12, 3) := by decide +kernel
theorem dX3_tell_97 : decode cX3_tell 97 = .ok (.iload_n 3, 1) := by decide +kernel
theorem dX3_tell_98 : decode cX3_tell 98 = .ok (.iconst 1, 1) := by decide +kernel
theorem dX3_tell_99 : decode cX3_tell 99 = .ok (.aload_n 1, 1) := by decide +kernel
theorem dX3_tell_100 : decode cX3_tell 100 = .ok (.iload 4, 2) := by decide +kernel
theorem dX3_tell_102 : decode cX3_tell 102 = .ok (.iaload, 1) := by decide +kernel
theorem dX3_tell_103 : decode cX3_tell 103 = .ok (.ishl, 1) := by decide +kernel
theorem dX3_tell_104 : decode cX3_tell 104 = .ok (.ior, 1) := by decide +kernel
theorem dX3_tell_105 : decode cX3_tell 105 = .ok (.istore_n 3, 1) := by decide +kernel
theorem dX3_tell_106 : decode cX3_tell 106 = .ok (.iinc 4 1, 3) := by decide +kernel
theorem dX3_tell_109 : decode cX3_tell 109 = .ok (.goto (-104), 3) := by decide +kernel
theorem dX3_tell_112 : decode cX3_tell 112 = .ok (.return_, 1) := by decide +kernel
set_option maxRecDepth 20000 in
theorem ggX4_empty_X7_empty : GoodIn wsX4_empty wsX7_empty := goodIn_r _ [12, 13, 14, 15, 16, 17, 18, 19, 20, 21, 22, 23, 24, 42, 43, 44, 45, 46, 47, 48, 49] (by decide +kernel) (by decide +kernel)
set_option maxRecDepth 20000 in
theorem gX4_empty_X7_empty : GoodIn wsX4_empty (wsV RX4 54 RX7 yX7_empty wsX7_empty) := goodIn_app (goodIn_of _ (by decide +kernel)) ggX4_empty_X7_empty
set_option maxRecDepth 20000 in
theorem ggX4_empty_X2_empty : GoodIn wsX4_empty wsX2_empty := goodIn_r _ [29, 30, 50, 51, 52] (by decide +kernel) (by decide +kernel)
set_option maxRecDepth 20000 in
theorem gX4_empty_X2_empty : GoodIn wsX4_empty (wsV RX4 57 RX2 yX2_empty wsX2_empty) := goodIn_app (goodIn_of _ (by decide +kernel)) ggX4_empty_X2_empty
theorem dX4_empty_0 : decode cX4_empty 0 = .ok (.aload_n 0, 1) := by decide +kernel
theorem dX4_empty_1 : decode cX4_empty 1 = .ok (.iconst 0, 1) := by decide +kernel
theorem dX4_empty_2 : decode cX4_empty 2 = .ok (.putfield 9, 3) := by decide +kernel
theorem dX4_empty_5 : decode cX4_empty 5 = .ok (.aload_n 0, 1) := by decide +kernel
theorem dX4_empty_6 : decode cX4_empty 6 = .ok (.iconst 0, 1) := by decide +kernel
theorem dX4_empty_7 : decode cX4_empty 7 = .ok (.putfield 15, 3) := by decide +kernel
theorem dX4_empty_10 : decode cX4_empty 10 = .ok (.aload_n 0, 1) := by decide +kernel
theorem dX4_empty_11 : decode cX4_empty 11 = .ok (.iconst 0, 1) := by decide +kernel
theorem dX4_empty_12 : decode cX4_empty 12 = .ok (.putfield 18, 3) := by decide +kernel
theorem dX4_empty_15 : decode cX4_empty 15 = .ok (.aload_n 0, 1) := by decide +kernel
theorem dX4_empty_16 : decode cX4_empty 16 = .ok (.iconst 0, 1) := by decide +kernel
theorem dX4_empty_17 : decode cX4_empty 17 = .ok (.putfield 21, 3) := by decide +kernel
theorem dX4_empty_20 : decode cX4_empty 20 = .ok (.aload_n 0, 1) := by decide +kernel
theorem dX4_empty_21 : decode cX4_empty 21 = .ok (.iconst 0, 1) := by decide +kernel
theorem dX4_empty_22 : decode cX4_empty 22 = .ok (.putfield 24, 3) := by decide +kernel
theorem dX4_empty_25 : decode cX4_empty 25 = .ok (.aload_n 0, 1) := by decide +kernel
theorem dX4_empty_26 : decode cX4_empty 26 = .ok (.getfield 40, 3) := by decide +kernel
theorem dX4_empty_29 : decode cX4_empty 29 = .ok (.invokevirtual 54, 3) := by decide +kernel
theorem dX4_empty_32 : decode cX4_empty 32 = .ok (.aload_n 0, 1) := by decide +kernel
theorem dX4_empty_33 : decode cX4_empty 33 = .ok (.getfield 47, 3) := by decide +kernel
theorem dX4_empty_36 : decode cX4_empty 36 = .ok (.invokevirtual 57, 3) := by decide +kernel
theorem dX4_empty_39 : decode cX4_empty 39 = .ok (.return_, 1) := by decide +kernel
theorem dX4_roomsOf_0 : decode cX4_roomsOf 0 = .ok (.iconst 0, 1) := by decide +kernel
theorem dX4_roomsOf_1 : decode cX4_roomsOf 1 = .ok (.istore_n 3, 1) := by decide +kernel
theorem dX4_roomsOf_2 : decode cX4_roomsOf 2 = .ok (.iconst 0, 1) := by decide +kernel
theorem dX4_roomsOf_3 : decode cX4_roomsOf 3 = .ok (.istore 4, 2) := by decide +kernel
theorem dX4_roomsOf_5 : decode cX4_roomsOf 5 = .ok (.iload 4, 2) := by decide +kernel
theorem dX4_roomsOf_7 : decode cX4_roomsOf 7 = .ok (.aload_n 0, 1) := by decide +kernel
theorem dX4_roomsOf_8 : decode cX4_roomsOf 8 = .ok (.getfield 15, 3) := by decide +kernel
theorem dX4_roomsOf_11 : decode cX4_roomsOf 11 = .ok (.if_icmp .ge 27, 3) := by decide +kernel
theorem dX4_roomsOf_14 : decode cX4_roomsOf 14 = .ok (.aload_n 1, 1) := by decide +kernel
theorem dX4_roomsOf_15 : decode cX4_roomsOf 15 = .ok (.getfield 58, 3) := by decide +kernel
theorem dX4_roomsOf_18 : decode cX4_roomsOf 18 = .ok (.iload 4, 2) := by decide +kernel
theorem dX4_roomsOf_20 : decode cX4_roomsOf 20 = .ok (.iaload, 1) := by decide +kernel
theorem dX4_roomsOf_21 : decode cX4_roomsOf 21 = .ok (.iload_n 2, 1) := by decide +kernel
theorem dX4_roomsOf_22 : decode cX4_roomsOf 22 = .ok (.if_icmp .ne 10, 3) := by decide +kernel
theorem dX4_roomsOf_25 : decode cX4_roomsOf 25 = .ok (.iload_n 3, 1) := by decide +kernel
theorem dX4_roomsOf_26 : decode cX4_roomsOf 26 = .ok (.iconst 1, 1) := by decide +kernel
theorem dX4_roomsOf_27 : decode cX4_roomsOf 27 = .ok (.iload 4, 2) := by decide +kernel
theorem dX4_roomsOf_29 : decode cX4_roomsOf 29 = .ok (.ishl, 1) := by decide +kernel
theorem dX4_roomsOf_30 : decode cX4_roomsOf 30 = .ok (.ior, 1) := by decide +kernel
theorem dX4_roomsOf_31 : decode cX4_roomsOf 31 = .ok (.istore_n 3, 1) := by decide +kernel
theorem dX4_roomsOf_32 : decode cX4_roomsOf 32 = .ok (.iinc 4 1, 3) := by decide +kernel
theorem dX4_roomsOf_35 : decode cX4_roomsOf 35 = .ok (.goto (-30), 3) := by decide +kernel
theorem dX4_roomsOf_38 : decode cX4_roomsOf 38 = .ok (.iload_n 3, 1) := by decide +kernel
theorem dX4_roomsOf_39 : decode cX4_roomsOf 39 = .ok (.ireturn, 1) := by decide +kernel
set_option maxRecDepth 20000 in
theorem ggX4_tenantsOf_X7_isKept : GoodIn wsX4_tenantsOf wsX7_isKept := goodIn_r _ [8, 9, 21, 22, 23, 24, 25, 26, 27, 28] (by decide +kernel) (by decide +kernel)
set_option maxRecDepth 20000 in
theorem gX4_tenantsOf_X7_isKept : GoodIn wsX4_tenantsOf (wsV RX4 64 RX7 yX7_isKept wsX7_isKept) := goodIn_app (goodIn_of _ (by decide +kernel)) ggX4_tenantsOf_X7_isKept
theorem dX4_tenantsOf_0 : decode cX4_tenantsOf 0 = .ok (.iconst 0, 1) := by decide +kernel
theorem dX4_tenantsOf_1 : decode cX4_tenantsOf 1 = .ok (.istore_n 3, 1) := by decide +kernel
theorem dX4_tenantsOf_2 : decode cX4_tenantsOf 2 = .ok (.iconst 0, 1) := by decide +kernel
theorem dX4_tenantsOf_3 : decode cX4_tenantsOf 3 = .ok (.istore 4, 2) := by decide +kernel
theorem dX4_tenantsOf_5 : decode cX4_tenantsOf 5 = .ok (.iload 4, 2) := by decide +kernel
theorem dX4_tenantsOf_7 : decode cX4_tenantsOf 7 = .ok (.aload_n 0, 1) := by decide +kernel
theorem dX4_tenantsOf_8 : decode cX4_tenantsOf 8 = .ok (.getfield 18, 3) := by decide +kernel
theorem dX4_tenantsOf_11 : decode cX4_tenantsOf 11 = .ok (.if_icmp .ge 45, 3) := by decide +kernel
theorem dX4_tenantsOf_14 : decode cX4_tenantsOf 14 = .ok (.aload_n 1, 1) := by decide +kernel
theorem dX4_tenantsOf_15 : decode cX4_tenantsOf 15 = .ok (.getfield 61, 3) := by decide +kernel
theorem dX4_tenantsOf_18 : decode cX4_tenantsOf 18 = .ok (.iload 4, 2) := by decide +kernel
theorem dX4_tenantsOf_20 : decode cX4_tenantsOf 20 = .ok (.iaload, 1) := by decide +kernel
theorem dX4_tenantsOf_21 : decode cX4_tenantsOf 21 = .ok (.istore 5, 2) := by decide +kernel
theorem dX4_tenantsOf_23 : decode cX4_tenantsOf 23 = .ok (.aload_n 1, 1) := by decide +kernel
theorem dX4_tenantsOf_24 : decode cX4_tenantsOf 24 = .ok (.iload 5, 2) := by decide +kernel
theorem dX4_tenantsOf_26 : decode cX4_tenantsOf 26 = .ok (.invokevirtual 64, 3) := by decide +kernel
theorem dX4_tenantsOf_29 : decode cX4_tenantsOf 29 = .ok (.ifCond .eq 21, 3) := by decide +kernel
theorem dX4_tenantsOf_32 : decode cX4_tenantsOf 32 = .ok (.aload_n 1, 1) := by decide +kernel
theorem dX4_tenantsOf_33 : decode cX4_tenantsOf 33 = .ok (.getfield 58, 3) := by decide +kernel
theorem dX4_tenantsOf_36 : decode cX4_tenantsOf 36 = .ok (.iload 5, 2) := by decide +kernel
theorem dX4_tenantsOf_38 : decode cX4_tenantsOf 38 = .ok (.iaload, 1) := by decide +kernel
theorem dX4_tenantsOf_39 : decode cX4_tenantsOf 39 = .ok (.iload_n 2, 1) := by decide +kernel
theorem dX4_tenantsOf_40 : decode cX4_tenantsOf 40 = .ok (.if_icmp .ne 10, 3) := by decide +kernel
theorem dX4_tenantsOf_43 : decode cX4_tenantsOf 43 = .ok (.iload_n 3, 1) := by decide +kernel
theorem dX4_tenantsOf_44 : decode cX4_tenantsOf 44 = .ok (.iconst 1, 1) := by decide +kernel
theorem dX4_tenantsOf_45 : decode cX4_tenantsOf 45 = .ok (.iload 4, 2) := by decide +kernel
theorem dX4_tenantsOf_47 : decode cX4_tenantsOf 47 = .ok (.ishl, 1) := by decide +kernel
theorem dX4_tenantsOf_48 : decode cX4_tenantsOf 48 = .ok (.ior, 1) := by decide +kernel
theorem dX4_tenantsOf_49 : decode cX4_tenantsOf 49 = .ok (.istore_n 3, 1) := by decide +kernel
theorem dX4_tenantsOf_50 : decode cX4_tenantsOf 50 = .ok (.iinc 4 1, 3) := by decide +kernel
theorem dX4_tenantsOf_53 : decode cX4_tenantsOf 53 = .ok (.goto (-48), 3) := by decide +kernel
theorem dX4_tenantsOf_56 : decode cX4_tenantsOf 56 = .ok (.iload_n 3, 1) := by decide +kernel
theorem dX4_tenantsOf_57 : decode cX4_tenantsOf 57 = .ok (.ireturn, 1) := by decide +kernel
theorem dX4_whoIsIn_0 : decode cX4_whoIsIn 0 = .ok (.iconst 0, 1) := by decide +kernel
theorem dX4_whoIsIn_1 : decode cX4_whoIsIn 1 = .ok (.istore_n 3, 1) := by decide +kernel
theorem dX4_whoIsIn_2 : decode cX4_whoIsIn 2 = .ok (.iload_n 3, 1) := by decide +kernel
theorem dX4_whoIsIn_3 : decode cX4_whoIsIn 3 = .ok (.aload_n 0, 1) := by decide +kernel
theorem dX4_whoIsIn_4 : decode cX4_whoIsIn 4 = .ok (.getfield 18, 3) := by decide +kernel
theorem dX4_whoIsIn_7 : decode cX4_whoIsIn 7 = .ok (.if_icmp .ge 21, 3) := by decide +kernel
theorem dX4_whoIsIn_10 : decode cX4_whoIsIn 10 = .ok (.aload_n 1, 1) := by decide +kernel
theorem dX4_whoIsIn_11 : decode cX4_whoIsIn 11 = .ok (.getfield 61, 3) := by decide +kernel
theorem dX4_whoIsIn_14 : decode cX4_whoIsIn 14 = .ok (.iload_n 3, 1) := by decide +kernel
theorem dX4_whoIsIn_15 : decode cX4_whoIsIn 15 = .ok (.iaload, 1) := by decide +kernel
theorem dX4_whoIsIn_16 : decode cX4_whoIsIn 16 = .ok (.iload_n 2, 1) := by decide +kernel
theorem dX4_whoIsIn_17 : decode cX4_whoIsIn 17 = .ok (.if_icmp .ne 5, 3) := by decide +kernel
theorem dX4_whoIsIn_20 : decode cX4_whoIsIn 20 = .ok (.iload_n 3, 1) := by decide +kernel
theorem dX4_whoIsIn_21 : decode cX4_whoIsIn 21 = .ok (.ireturn, 1) := by decide +kernel
theorem dX4_whoIsIn_22 : decode cX4_whoIsIn 22 = .ok (.iinc 3 1, 3) := by decide +kernel
theorem dX4_whoIsIn_25 : decode cX4_whoIsIn 25 = .ok (.goto (-23), 3) := by decide +kernel
theorem dX4_whoIsIn_28 : decode cX4_whoIsIn 28 = .ok (.iconst (-1), 1) := by decide +kernel
theorem dX4_whoIsIn_29 : decode cX4_whoIsIn 29 = .ok (.ireturn, 1) := by decide +kernel
theorem dX4_whoIsOut_0 : decode cX4_whoIsOut 0 = .ok (.iconst 0, 1) := by decide +kernel
theorem dX4_whoIsOut_1 : decode cX4_whoIsOut 1 = .ok (.istore_n 2, 1) := by decide +kernel
theorem dX4_whoIsOut_2 : decode cX4_whoIsOut 2 = .ok (.iconst 0, 1) := by decide +kernel
theorem dX4_whoIsOut_3 : decode cX4_whoIsOut 3 = .ok (.istore_n 3, 1) := by decide +kernel
theorem dX4_whoIsOut_4 : decode cX4_whoIsOut 4 = .ok (.iload_n 3, 1) := by decide +kernel
theorem dX4_whoIsOut_5 : decode cX4_whoIsOut 5 = .ok (.aload_n 0, 1) := by decide +kernel
theorem dX4_whoIsOut_6 : decode cX4_whoIsOut 6 = .ok (.getfield 18, 3) := by decide +kernel
theorem dX4_whoIsOut_9 : decode cX4_whoIsOut 9 = .ok (.if_icmp .ge 25, 3) := by decide +kernel
theorem dX4_whoIsOut_12 : decode cX4_whoIsOut 12 = .ok (.aload_n 1, 1) := by decide +kernel
theorem dX4_whoIsOut_13 : decode cX4_whoIsOut 13 = .ok (.getfield 61, 3) := by decide +kernel
theorem dX4_whoIsOut_16 : decode cX4_whoIsOut 16 = .ok (.iload_n 3, 1) := by decide +kernel
theorem dX4_whoIsOut_17 : decode cX4_whoIsOut 17 = .ok (.iaload, 1) := by decide +kernel
theorem dX4_whoIsOut_18 : decode cX4_whoIsOut 18 = .ok (.iconst (-1), 1) := by decide +kernel
theorem dX4_whoIsOut_19 : decode cX4_whoIsOut 19 = .ok (.if_icmp .ne 9, 3) := by decide +kernel
theorem dX4_whoIsOut_22 : decode cX4_whoIsOut 22 = .ok (.iload_n 2, 1) := by decide +kernel
theorem dX4_whoIsOut_23 : decode cX4_whoIsOut 23 = .ok (.iconst 1, 1) := by decide +kernel
theorem dX4_whoIsOut_24 : decode cX4_whoIsOut 24 = .ok (.iload_n 3, 1) := by decide +kernel
theorem dX4_whoIsOut_25 : decode cX4_whoIsOut 25 = .ok (.ishl, 1) := by decide +kernel
theorem dX4_whoIsOut_26 : decode cX4_whoIsOut 26 = .ok (.ior, 1) := by decide +kernel
theorem dX4_whoIsOut_27 : decode cX4_whoIsOut 27 = .ok (.istore_n 2, 1) := by decide +kernel
theorem dX4_whoIsOut_28 : decode cX4_whoIsOut 28 = .ok (.iinc 3 1, 3) := by decide +kernel
theorem dX4_whoIsOut_31 : decode cX4_whoIsOut 31 = .ok (.goto (-27), 3) := by decide +kernel
theorem dX4_whoIsOut_34 : decode cX4_whoIsOut 34 = .ok (.iload_n 2, 1) := by decide +kernel
theorem dX4_whoIsOut_35 : decode cX4_whoIsOut 35 = .ok (.ireturn, 1) := by decide +kernel
set_option maxRecDepth 20000 in
theorem ggX4_consider_X7_isKept : GoodIn wsX4_consider wsX7_isKept := goodIn_r _ [15, 16, 32, 33, 34, 35, 36, 37, 38, 39] (by decide +kernel) (by decide +kernel)
set_option maxRecDepth 20000 in
theorem gX4_consider_X7_isKept : GoodIn wsX4_consider (wsV RX4 64 RX7 yX7_isKept wsX7_isKept) := goodIn_app (goodIn_of _ (by decide +kernel)) ggX4_consider_X7_isKept
set_option maxRecDepth 20000 in
theorem ggX4_consider_X7_roomCount : GoodIn wsX4_consider wsX7_roomCount := goodIn_r _ [20, 16, 32, 33, 34, 35, 36, 37, 38, 39] (by decide +kernel) (by decide +kernel)
set_option maxRecDepth 20000 in
theorem gX4_consider_X7_roomCount : GoodIn wsX4_consider (wsV RX4 77 RX7 yX7_roomCount wsX7_roomCount) := goodIn_app (goodIn_of _ (by decide +kernel)) ggX4_consider_X7_roomCount
theorem dX4_consider_0 : decode cX4_consider 0 = .ok (.iload_n 2, 1) := by decide +kernel
theorem dX4_consider_1 : decode cX4_consider 1 = .ok (.ifCond .lt 19, 3) := by decide +kernel
theorem dX4_consider_4 : decode cX4_consider 4 = .ok (.iload_n 2, 1) := by decide +kernel
theorem dX4_consider_5 : decode cX4_consider 5 = .ok (.aload_n 0, 1) := by decide +kernel
theorem dX4_consider_6 : decode cX4_consider 6 = .ok (.getfield 18, 3) := by decide +kernel
theorem dX4_consider_9 : decode cX4_consider 9 = .ok (.if_icmp .ge 11, 3) := by decide +kernel
theorem dX4_consider_12 : decode cX4_consider 12 = .ok (.aload_n 1, 1) := by decide +kernel
theorem dX4_consider_13 : decode cX4_consider 13 = .ok (.iload_n 3, 1) := by decide +kernel
theorem dX4_consider_14 : decode cX4_consider 14 = .ok (.invokevirtual 64, 3) := by decide +kernel
theorem dX4_consider_17 : decode cX4_consider 17 = .ok (.ifCond .ne 4, 3) := by decide +kernel
theorem dX4_consider_20 : decode cX4_consider 20 = .ok (.return_, 1) := by decide +kernel
theorem dX4_consider_21 : decode cX4_consider 21 = .ok (.aload_n 1, 1) := by decide +kernel
theorem dX4_consider_22 : decode cX4_consider 22 = .ok (.getfield 58, 3) := by decide +kernel
theorem dX4_consider_25 : decode cX4_consider 25 = .ok (.iload_n 3, 1) := by decide +kernel
theorem dX4_consider_26 : decode cX4_consider 26 = .ok (.iaload, 1) := by decide +kernel
theorem dX4_consider_27 : decode cX4_consider 27 = .ok (.istore 4, 2) := by decide +kernel
theorem dX4_consider_29 : decode cX4_consider 29 = .ok (.aload_n 0, 1) := by decide +kernel
theorem dX4_consider_30 : decode cX4_consider 30 = .ok (.getfield 51, 3) := by decide +kernel
theorem dX4_consider_33 : decode cX4_consider 33 = .ok (.iconst 0, 1) := by decide +kernel
theorem dX4_consider_34 : decode cX4_consider 34 = .ok (.aload_n 1, 1) := by decide +kernel
theorem dX4_consider_35 : decode cX4_consider 35 = .ok (.getfield 68, 3) := by decide +kernel
theorem dX4_consider_38 : decode cX4_consider 38 = .ok (.iload_n 2, 1) := by decide +kernel
theorem dX4_consider_39 : decode cX4_consider 39 = .ok (.iaload, 1) := by decide +kernel
theorem dX4_consider_40 : decode cX4_consider 40 = .ok (.iastore, 1) := by decide +kernel
theorem dX4_consider_41 : decode cX4_consider 41 = .ok (.aload_n 0, 1) := by decide +kernel
theorem dX4_consider_42 : decode cX4_consider 42 = .ok (.getfield 51, 3) := by decide +kernel
theorem dX4_consider_45 : decode cX4_consider 45 = .ok (.iconst 1, 1) := by decide +kernel
theorem dX4_consider_46 : decode cX4_consider 46 = .ok (.iload 4, 2) := by decide +kernel
theorem dX4_consider_48 : decode cX4_consider 48 = .ok (.aload_n 0, 1) := by decide +kernel
theorem dX4_consider_49 : decode cX4_consider 49 = .ok (.getfield 27, 3) := by decide +kernel
theorem dX4_consider_52 : decode cX4_consider 52 = .ok (.arraylength, 1) := by decide +kernel
theorem dX4_consider_53 : decode cX4_consider 53 = .ok (.if_icmp .ge 13, 3) := by decide +kernel
theorem dX4_consider_56 : decode cX4_consider 56 = .ok (.aload_n 0, 1) := by decide +kernel
theorem dX4_consider_57 : decode cX4_consider 57 = .ok (.getfield 27, 3) := by decide +kernel
theorem dX4_consider_60 : decode cX4_consider 60 = .ok (.iload 4, 2) := by decide +kernel
theorem dX4_consider_62 : decode cX4_consider 62 = .ok (.iaload, 1) := by decide +kernel
theorem dX4_consider_63 : decode cX4_consider 63 = .ok (.goto 4, 3) := by decide +kernel
theorem dX4_consider_67 : decode cX4_consider 67 = .ok (.iastore, 1) := by decide +kernel
theorem dX4_consider_68 : decode cX4_consider 68 = .ok (.aload_n 0, 1) := by decide +kernel
theorem dX4_consider_69 : decode cX4_consider 69 = .ok (.getfield 51, 3) := by decide +kernel
theorem dX4_consider_72 : decode cX4_consider 72 = .ok (.iconst 2, 1) := by decide +kernel
theorem dX4_consider_73 : decode cX4_consider 73 = .ok (.aload_n 0, 1) := by decide +kernel
theorem dX4_consider_74 : decode cX4_consider 74 = .ok (.getfield 34, 3) := by decide +kernel
theorem dX4_consider_77 : decode cX4_consider 77 = .ok (.iload_n 2, 1) := by decide +kernel
theorem dX4_consider_78 : decode cX4_consider 78 = .ok (.iaload, 1) := by decide +kernel
theorem dX4_consider_79 : decode cX4_consider 79 = .ok (.iastore, 1) := by decide +kernel
theorem dX4_consider_80 : decode cX4_consider 80 = .ok (.aload_n 0, 1) := by decide +kernel
theorem dX4_consider_81 : decode cX4_consider 81 = .ok (.getfield 51, 3) := by decide +kernel
theorem dX4_consider_84 : decode cX4_consider 84 = .ok (.iconst 3, 1) := by decide +kernel
theorem dX4_consider_85 : decode cX4_consider 85 = .ok (.aload_n 1, 1) := by decide +kernel
theorem dX4_consider_86 : decode cX4_consider 86 = .ok (.getfield 71, 3) := by decide +kernel
theorem dX4_consider_89 : decode cX4_consider 89 = .ok (.iload_n 2, 1) := by decide +kernel
theorem dX4_consider_90 : decode cX4_consider 90 = .ok (.iaload, 1) := by decide +kernel
theorem dX4_consider_91 : decode cX4_consider 91 = .ok (.iastore, 1) := by decide +kernel
theorem dX4_consider_92 : decode cX4_consider 92 = .ok (.aload_n 0, 1) := by decide +kernel
theorem dX4_consider_93 : decode cX4_consider 93 = .ok (.getfield 51, 3) := by decide +kernel
theorem dX4_consider_96 : decode cX4_consider 96 = .ok (.iconst 4, 1) := by decide +kernel
theorem dX4_consider_97 : decode cX4_consider 97 = .ok (.aload_n 1, 1) := by decide +kernel
theorem dX4_consider_98 : decode cX4_consider 98 = .ok (.getfield 61, 3) := by decide +kernel
theorem dX4_consider_101 : decode cX4_consider 101 = .ok (.iload_n 2, 1) := by decide +kernel
theorem dX4_consider_102 : decode cX4_consider 102 = .ok (.iaload, 1) := by decide +kernel
theorem dX4_consider_103 : decode cX4_consider 103 = .ok (.iload_n 3, 1) := by decide +kernel
theorem dX4_consider_104 : decode cX4_consider 104 = .ok (.if_icmp .ne 12, 3) := by decide +kernel
theorem dX4_consider_107 : decode cX4_consider 107 = .ok (.aload_n 1, 1) := by decide +kernel
theorem dX4_consider_108 : decode cX4_consider 108 = .ok (.getfield 74, 3) := by decide +kernel
theorem dX4_consider_111 : decode cX4_consider 111 = .ok (.iload_n 2, 1) := by decide +kernel
theorem dX4_consider_112 : decode cX4_consider 112 = .ok (.iaload, 1) := by decide +kernel
theorem dX4_consider_113 : decode cX4_consider 113 = .ok (.goto 4, 3) := by decide +kernel
theorem dX4_consider_116 : decode cX4_consider 116 = .ok (.iconst 0, 1) := by decide +kernel
theorem dX4_consider_117 : decode cX4_consider 117 = .ok (.iastore, 1) := by decide +kernel
theorem dX4_consider_118 : decode cX4_consider 118 = .ok (.aload_n 0, 1) := by decide +kernel
theorem dX4_consider_119 : decode cX4_consider 119 = .ok (.getfield 51, 3) := by decide +kernel
theorem dX4_consider_122 : decode cX4_consider 122 = .ok (.iconst 5, 1) := by decide +kernel
theorem dX4_consider_123 : decode cX4_consider 123 = .ok (.aload_n 1, 1) := by decide +kernel
theorem dX4_consider_124 : decode cX4_consider 124 = .ok (.iload 4, 2) := by decide +kernel
theorem dX4_consider_126 : decode cX4_consider 126 = .ok (.invokevirtual 77, 3) := by decide +kernel
theorem dX4_consider_129 : decode cX4_consider 129 = .ok (.iastore, 1) := by decide +kernel
theorem dX4_consider_130 : decode cX4_consider 130 = .ok (.aload_n 0, 1) := by decide +kernel
theorem dX4_consider_131 : decode cX4_consider 131 = .ok (.getfield 51, 3) := by decide +kernel
theorem dX4_consider_134 : decode cX4_consider 134 = .ok (.bipush 6, 2) := by decide +kernel
theorem dX4_consider_136 : decode cX4_consider 136 = .ok (.aload_n 1, 1) := by decide +kernel
theorem dX4_consider_137 : decode cX4_consider 137 = .ok (.getfield 81, 3) := by decide +kernel
theorem dX4_consider_140 : decode cX4_consider 140 = .ok (.iastore, 1) := by decide +kernel
theorem dX4_consider_141 : decode cX4_consider 141 = .ok (.return_, 1) := by decide +kernel
set_option maxRecDepth 20000 in
theorem ggX4_likes_X4_consider : GoodIn wsX4_likes wsX4_consider := goodIn_r _ [7, 8, 9, 2, 10, 11, 12, 13, 14, 15, 16, 17, 18, 19, 20, 21, 22, 23, 24, 25, 26, 41, 42, 43, 44, 45, 46, 47, 48, 49, 50, 51, 52, 53, 54, 55, 56, 57, 58, 59] (by decide +kernel) (by decide +kernel)
set_option maxRecDepth 20000 in
theorem gX4_likes_X4_consider : GoodIn wsX4_likes (wsV RX4 84 RX4 yX4_consider wsX4_consider) := goodIn_app (goodIn_of _ (by decide +kernel)) ggX4_likes_X4_consider
set_option maxRecDepth 20000 in
theorem ggX4_likes_X2_value : GoodIn wsX4_likes wsX2_value := goodIn_r _ [31, 32, 33, 34, 35, 36, 30, 37, 38, 39, 40, 60, 61, 62] (by decide +kernel) (by decide +kernel)
set_option maxRecDepth 20000 in
theorem gX4_likes_X2_value : GoodIn wsX4_likes (wsV RX4 88 RX2 yX2_value wsX2_value) := goodIn_app (goodIn_of _ (by decide +kernel)) ggX4_likes_X2_value
theorem dX4_likes_0 : decode cX4_likes 0 = .ok (.aload_n 0, 1) := by decide +kernel
theorem dX4_likes_1 : decode cX4_likes 1 = .ok (.aload_n 1, 1) := by decide +kernel
theorem dX4_likes_2 : decode cX4_likes 2 = .ok (.iload_n 2, 1) := by decide +kernel
theorem dX4_likes_3 : decode cX4_likes 3 = .ok (.iload_n 3, 1) := by decide +kernel
theorem dX4_likes_4 : decode cX4_likes 4 = .ok (.invokevirtual 84, 3) := by decide +kernel
theorem dX4_likes_7 : decode cX4_likes 7 = .ok (.aload_n 0, 1) := by decide +kernel
theorem dX4_likes_8 : decode cX4_likes 8 = .ok (.getfield 47, 3) := by decide +kernel
theorem dX4_likes_11 : decode cX4_likes 11 = .ok (.aload_n 0, 1) := by decide +kernel
theorem dX4_likes_12 : decode cX4_likes 12 = .ok (.getfield 51, 3) := by decide +kernel
theorem dX4_likes_15 : decode cX4_likes 15 = .ok (.invokevirtual 88, 3) := by decide +kernel
theorem dX4_likes_18 : decode cX4_likes 18 = .ok (.ireturn, 1) := by decide +kernel
set_option maxRecDepth 20000 in
theorem ggX4_likesBy_X2_value : GoodIn wsX4_likesBy wsX2_value := goodIn_r _ [7, 8, 9, 10, 11, 12, 6, 13, 14, 15, 16, 28, 29, 30] (by decide +kernel) (by decide +kernel)
set_option maxRecDepth 20000 in
theorem gX4_likesBy_X2_value : GoodIn wsX4_likesBy (wsV RX4 88 RX2 yX2_value wsX2_value) := goodIn_app (goodIn_of _ (by decide +kernel)) ggX4_likesBy_X2_value
theorem dX4_likesBy_0 : decode cX4_likesBy 0 = .ok (.iload_n 1, 1) := by decide +kernel
theorem dX4_likesBy_1 : decode cX4_likesBy 1 = .ok (.ifCond .lt 19, 3) := by decide +kernel
theorem dX4_likesBy_4 : decode cX4_likesBy 4 = .ok (.iload_n 1, 1) := by decide +kernel
theorem dX4_likesBy_5 : decode cX4_likesBy 5 = .ok (.aload_n 0, 1) := by decide +kernel
theorem dX4_likesBy_6 : decode cX4_likesBy 6 = .ok (.getfield 51, 3) := by decide +kernel
theorem dX4_likesBy_9 : decode cX4_likesBy 9 = .ok (.arraylength, 1) := by decide +kernel
theorem dX4_likesBy_10 : decode cX4_likesBy 10 = .ok (.if_icmp .ge 10, 3) := by decide +kernel
theorem dX4_likesBy_13 : decode cX4_likesBy 13 = .ok (.aload_n 0, 1) := by decide +kernel
theorem dX4_likesBy_14 : decode cX4_likesBy 14 = .ok (.getfield 51, 3) := by decide +kernel
theorem dX4_likesBy_17 : decode cX4_likesBy 17 = .ok (.iload_n 1, 1) := by decide +kernel
theorem dX4_likesBy_18 : decode cX4_likesBy 18 = .ok (.iload_n 2, 1) := by decide +kernel
theorem dX4_likesBy_19 : decode cX4_likesBy 19 = .ok (.iastore, 1) := by decide +kernel
theorem dX4_likesBy_20 : decode cX4_likesBy 20 = .ok (.aload_n 0, 1) := by decide +kernel
theorem dX4_likesBy_21 : decode cX4_likesBy 21 = .ok (.getfield 47, 3) := by decide +kernel
theorem dX4_likesBy_24 : decode cX4_likesBy 24 = .ok (.aload_n 0, 1) := by decide +kernel
theorem dX4_likesBy_25 : decode cX4_likesBy 25 = .ok (.getfield 51, 3) := by decide +kernel
theorem dX4_likesBy_28 : decode cX4_likesBy 28 = .ok (.invokevirtual 88, 3) := by decide +kernel
theorem dX4_likesBy_31 : decode cX4_likesBy 31 = .ok (.ireturn, 1) := by decide +kernel
set_option maxRecDepth 20000 in
theorem ggX4_thrownOut_X7_isKept : GoodIn wsX4_thrownOut wsX7_isKept := goodIn_r _ [7, 8, 56, 57, 58, 59, 60, 61, 62, 63] (by decide +kernel) (by decide +kernel)
set_option maxRecDepth 20000 in
theorem gX4_thrownOut_X7_isKept : GoodIn wsX4_thrownOut (wsV RX4 64 RX7 yX7_isKept wsX7_isKept) := goodIn_app (goodIn_of _ (by decide +kernel)) ggX4_thrownOut_X7_isKept
set_option maxRecDepth 20000 in
theorem ggX4_thrownOut_X4_likes : GoodIn wsX4_thrownOut wsX4_likes := goodIn_r _ [13, 14, 15, 16, 17, 18, 12, 19, 1, 20, 21, 22, 23, 24, 2, 25, 26, 3, 4, 5, 6, 7, 8, 27, 28, 29, 30, 31, 32, 33, 34, 35, 36, 37, 38, 39, 40, 41, 42, 43, 44, 45, 46, 47, 48, 49, 50, 51, 52, 53, 54, 55, 56, 57, 58, 59, 60, 61, 62, 63, 64, 65, 66] (by decide +kernel) (by decide +kernel)
set_option maxRecDepth 20000 in
theorem gX4_thrownOut_X4_likes : GoodIn wsX4_thrownOut (wsV RX4 92 RX4 yX4_likes wsX4_likes) := goodIn_app (goodIn_of _ (by decide +kernel)) ggX4_thrownOut_X4_likes
theorem dX4_thrownOut_0 : decode cX4_thrownOut 0 = .ok (.iconst 0, 1) := by decide +kernel
theorem dX4_thrownOut_1 : decode cX4_thrownOut 1 = .ok (.istore_n 2, 1) := by decide +kernel
theorem dX4_thrownOut_2 : decode cX4_thrownOut 2 = .ok (.iconst 0, 1) := by decide +kernel
theorem dX4_thrownOut_3 : decode cX4_thrownOut 3 = .ok (.istore_n 3, 1) := by decide +kernel
theorem dX4_thrownOut_4 : decode cX4_thrownOut 4 = .ok (.iload_n 3, 1) := by decide +kernel
theorem dX4_thrownOut_5 : decode cX4_thrownOut 5 = .ok (.aload_n 0, 1) := by decide +kernel
theorem dX4_thrownOut_6 : decode cX4_thrownOut 6 = .ok (.getfield 18, 3) := by decide +kernel
theorem dX4_thrownOut_9 : decode cX4_thrownOut 9 = .ok (.if_icmp .ge 43, 3) := by decide +kernel
theorem dX4_thrownOut_12 : decode cX4_thrownOut 12 = .ok (.aload_n 1, 1) := by decide +kernel
theorem dX4_thrownOut_13 : decode cX4_thrownOut 13 = .ok (.getfield 61, 3) := by decide +kernel
theorem dX4_thrownOut_16 : decode cX4_thrownOut 16 = .ok (.iload_n 3, 1) := by decide +kernel
theorem dX4_thrownOut_17 : decode cX4_thrownOut 17 = .ok (.iaload, 1) := by decide +kernel
theorem dX4_thrownOut_18 : decode cX4_thrownOut 18 = .ok (.istore 4, 2) := by decide +kernel
theorem dX4_thrownOut_20 : decode cX4_thrownOut 20 = .ok (.aload_n 1, 1) := by decide +kernel
theorem dX4_thrownOut_21 : decode cX4_thrownOut 21 = .ok (.iload 4, 2) := by decide +kernel
theorem dX4_thrownOut_23 : decode cX4_thrownOut 23 = .ok (.invokevirtual 64, 3) := by decide +kernel
theorem dX4_thrownOut_26 : decode cX4_thrownOut 26 = .ok (.ifCond .eq 20, 3) := by decide +kernel
theorem dX4_thrownOut_29 : decode cX4_thrownOut 29 = .ok (.aload_n 0, 1) := by decide +kernel
theorem dX4_thrownOut_30 : decode cX4_thrownOut 30 = .ok (.aload_n 1, 1) := by decide +kernel
theorem dX4_thrownOut_31 : decode cX4_thrownOut 31 = .ok (.iload_n 3, 1) := by decide +kernel
theorem dX4_thrownOut_32 : decode cX4_thrownOut 32 = .ok (.iload 4, 2) := by decide +kernel
theorem dX4_thrownOut_34 : decode cX4_thrownOut 34 = .ok (.invokevirtual 92, 3) := by decide +kernel
theorem dX4_thrownOut_37 : decode cX4_thrownOut 37 = .ok (.ifCond .gt 9, 3) := by decide +kernel
theorem dX4_thrownOut_40 : decode cX4_thrownOut 40 = .ok (.iload_n 2, 1) := by decide +kernel
theorem dX4_thrownOut_41 : decode cX4_thrownOut 41 = .ok (.iconst 1, 1) := by decide +kernel
theorem dX4_thrownOut_42 : decode cX4_thrownOut 42 = .ok (.iload_n 3, 1) := by decide +kernel
theorem dX4_thrownOut_43 : decode cX4_thrownOut 43 = .ok (.ishl, 1) := by decide +kernel
theorem dX4_thrownOut_44 : decode cX4_thrownOut 44 = .ok (.ior, 1) := by decide +kernel
theorem dX4_thrownOut_45 : decode cX4_thrownOut 45 = .ok (.istore_n 2, 1) := by decide +kernel
theorem dX4_thrownOut_46 : decode cX4_thrownOut 46 = .ok (.iinc 3 1, 3) := by decide +kernel
theorem dX4_thrownOut_49 : decode cX4_thrownOut 49 = .ok (.goto (-45), 3) := by decide +kernel
theorem dX4_thrownOut_52 : decode cX4_thrownOut 52 = .ok (.iload_n 2, 1) := by decide +kernel
theorem dX4_thrownOut_53 : decode cX4_thrownOut 53 = .ok (.ireturn, 1) := by decide +kernel
set_option maxRecDepth 20000 in
theorem ggX4_thrownOutAt_X4_consider : GoodIn wsX4_thrownOutAt wsX4_consider := goodIn_r _ [7, 1, 8, 9, 10, 11, 12, 13, 2, 14, 15, 16, 17, 18, 19, 20, 21, 22, 23, 24, 25, 45, 46, 47, 48, 49, 50, 51, 52, 53, 54, 55, 56, 57, 58, 59, 60, 61, 62, 63] (by decide +kernel) (by decide +kernel)
set_option maxRecDepth 20000 in
theorem gX4_thrownOutAt_X4_consider : GoodIn wsX4_thrownOutAt (wsV RX4 84 RX4 yX4_consider wsX4_consider) := goodIn_app (goodIn_of _ (by decide +kernel)) ggX4_thrownOutAt_X4_consider
set_option maxRecDepth 20000 in
theorem ggX4_thrownOutAt_X7_isKept : GoodIn wsX4_thrownOutAt wsX7_isKept := goodIn_r _ [20, 21, 56, 57, 58, 59, 60, 61, 62, 63] (by decide +kernel) (by decide +kernel)
set_option maxRecDepth 20000 in
theorem gX4_thrownOutAt_X7_isKept : GoodIn wsX4_thrownOutAt (wsV RX4 64 RX7 yX7_isKept wsX7_isKept) := goodIn_app (goodIn_of _ (by decide +kernel)) ggX4_thrownOutAt_X7_isKept
set_option maxRecDepth 20000 in
theorem ggX4_thrownOutAt_X4_likesBy : GoodIn wsX4_thrownOutAt wsX4_likesBy := goodIn_r _ [29, 9, 30, 31, 32, 33, 34, 35, 36, 37, 38, 39, 40, 41, 42, 43, 44, 45, 46, 47, 48, 49, 50, 51, 52, 53, 54, 55, 64, 65, 66] (by decide +kernel) (by decide +kernel)
set_option maxRecDepth 20000 in
theorem gX4_thrownOutAt_X4_likesBy : GoodIn wsX4_thrownOutAt (wsV RX4 96 RX4 yX4_likesBy wsX4_likesBy) := goodIn_app (goodIn_of _ (by decide +kernel)) ggX4_thrownOutAt_X4_likesBy
theorem dX4_thrownOutAt_0 : decode cX4_thrownOutAt 0 = .ok (.iconst 0, 1) := by decide +kernel
theorem dX4_thrownOutAt_1 : decode cX4_thrownOutAt 1 = .ok (.istore_n 3, 1) := by decide +kernel
theorem dX4_thrownOutAt_2 : decode cX4_thrownOutAt 2 = .ok (.iconst 0, 1) := by decide +kernel
theorem dX4_thrownOutAt_3 : decode cX4_thrownOutAt 3 = .ok (.istore 4, 2) := by decide +kernel
theorem dX4_thrownOutAt_5 : decode cX4_thrownOutAt 5 = .ok (.iload 4, 2) := by decide +kernel
theorem dX4_thrownOutAt_7 : decode cX4_thrownOutAt 7 = .ok (.aload_n 0, 1) := by decide +kernel
theorem dX4_thrownOutAt_8 : decode cX4_thrownOutAt 8 = .ok (.getfield 18, 3) := by decide +kernel
theorem dX4_thrownOutAt_11 : decode cX4_thrownOutAt 11 = .ok (.if_icmp .ge 52, 3) := by decide +kernel
theorem dX4_thrownOutAt_14 : decode cX4_thrownOutAt 14 = .ok (.aload_n 1, 1) := by decide +kernel
theorem dX4_thrownOutAt_15 : decode cX4_thrownOutAt 15 = .ok (.getfield 61, 3) := by decide +kernel
theorem dX4_thrownOutAt_18 : decode cX4_thrownOutAt 18 = .ok (.iload 4, 2) := by decide +kernel
theorem dX4_thrownOutAt_20 : decode cX4_thrownOutAt 20 = .ok (.iaload, 1) := by decide +kernel
theorem dX4_thrownOutAt_21 : decode cX4_thrownOutAt 21 = .ok (.istore 5, 2) := by decide +kernel
theorem dX4_thrownOutAt_23 : decode cX4_thrownOutAt 23 = .ok (.aload_n 0, 1) := by decide +kernel
theorem dX4_thrownOutAt_24 : decode cX4_thrownOutAt 24 = .ok (.aload_n 1, 1) := by decide +kernel
theorem dX4_thrownOutAt_25 : decode cX4_thrownOutAt 25 = .ok (.iload 4, 2) := by decide +kernel
theorem dX4_thrownOutAt_27 : decode cX4_thrownOutAt 27 = .ok (.iload 5, 2) := by decide +kernel
theorem dX4_thrownOutAt_29 : decode cX4_thrownOutAt 29 = .ok (.invokevirtual 84, 3) := by decide +kernel
theorem dX4_thrownOutAt_32 : decode cX4_thrownOutAt 32 = .ok (.aload_n 1, 1) := by decide +kernel
theorem dX4_thrownOutAt_33 : decode cX4_thrownOutAt 33 = .ok (.iload 5, 2) := by decide +kernel
theorem dX4_thrownOutAt_35 : decode cX4_thrownOutAt 35 = .ok (.invokevirtual 64, 3) := by decide +kernel
theorem dX4_thrownOutAt_38 : decode cX4_thrownOutAt 38 = .ok (.ifCond .eq 19, 3) := by decide +kernel
theorem dX4_thrownOutAt_41 : decode cX4_thrownOutAt 41 = .ok (.aload_n 0, 1) := by decide +kernel
theorem dX4_thrownOutAt_42 : decode cX4_thrownOutAt 42 = .ok (.iconst 1, 1) := by decide +kernel
theorem dX4_thrownOutAt_43 : decode cX4_thrownOutAt 43 = .ok (.iload_n 2, 1) := by decide +kernel
theorem dX4_thrownOutAt_44 : decode cX4_thrownOutAt 44 = .ok (.invokevirtual 96, 3) := by decide +kernel
theorem dX4_thrownOutAt_47 : decode cX4_thrownOutAt 47 = .ok (.ifCond .gt 10, 3) := by decide +kernel
theorem dX4_thrownOutAt_50 : decode cX4_thrownOutAt 50 = .ok (.iload_n 3, 1) := by decide +kernel
theorem dX4_thrownOutAt_51 : decode cX4_thrownOutAt 51 = .ok (.iconst 1, 1) := by decide +kernel
theorem dX4_thrownOutAt_52 : decode cX4_thrownOutAt 52 = .ok (.iload 4, 2) := by decide +kernel
theorem dX4_thrownOutAt_54 : decode cX4_thrownOutAt 54 = .ok (.ishl, 1) := by decide +kernel
theorem dX4_thrownOutAt_55 : decode cX4_thrownOutAt 55 = .ok (.ior, 1) := by decide +kernel
theorem dX4_thrownOutAt_56 : decode cX4_thrownOutAt 56 = .ok (.istore_n 3, 1) := by decide +kernel
theorem dX4_thrownOutAt_57 : decode cX4_thrownOutAt 57 = .ok (.iinc 4 1, 3) := by decide +kernel
theorem dX4_thrownOutAt_60 : decode cX4_thrownOutAt 60 = .ok (.goto (-55), 3) := by decide +kernel
theorem dX4_thrownOutAt_63 : decode cX4_thrownOutAt 63 = .ok (.iload_n 3, 1) := by decide +kernel
theorem dX4_thrownOutAt_64 : decode cX4_thrownOutAt 64 = .ok (.ireturn, 1) := by decide +kernel
set_option maxRecDepth 20000 in
theorem ggX4_pass_X4_thrownOut : GoodIn wsX4_pass wsX4_thrownOut := goodIn_r _ [9, 1, 2, 10, 11, 12, 13, 14, 15, 16, 17, 18, 8, 19, 20, 21, 22, 23, 24, 25, 26, 27, 28, 29, 30, 3, 4, 31, 32, 33, 34, 35, 36, 37, 38, 39, 40, 41, 42, 43, 44, 45, 46, 47, 48, 78, 79, 80, 81, 82, 83, 84, 85, 86, 87, 88, 89, 90, 91, 92, 93, 94, 95, 96, 97, 98, 99] (by decide +kernel) (by decide +kernel)
set_option maxRecDepth 20000 in
theorem gX4_pass_X4_thrownOut : GoodIn wsX4_pass (wsV RX4 100 RX4 yX4_thrownOut wsX4_thrownOut) := goodIn_app (goodIn_of _ (by decide +kernel)) ggX4_pass_X4_thrownOut
set_option maxRecDepth 20000 in
theorem ggX4_pass_X7_place : GoodIn wsX4_pass wsX7_place := goodIn_r _ [52, 53, 54, 89, 90, 91, 92, 93, 94, 95, 96] (by decide +kernel) (by decide +kernel)
set_option maxRecDepth 20000 in
theorem gX4_pass_X7_place : GoodIn wsX4_pass (wsV RX4 104 RX7 yX7_place wsX7_place) := goodIn_app (goodIn_of _ (by decide +kernel)) ggX4_pass_X7_place
set_option maxRecDepth 20000 in
theorem ggX4_pass_X4_draw : GoodIn wsX4_pass wsX4_draw := goodIn_r _ [58, 59, 60, 61, 62, 63, 64, 13, 65, 66, 78, 79, 80, 81, 82, 83, 84, 85, 86, 87, 88, 89, 90, 91, 92, 93, 94, 95, 96] (by decide +kernel) (by decide +kernel)
set_option maxRecDepth 20000 in
theorem gX4_pass_X4_draw : GoodIn wsX4_pass (wsV RX4 108 RX4 yX4_draw wsX4_draw) := goodIn_app (goodIn_of _ (by decide +kernel)) ggX4_pass_X4_draw
set_option maxRecDepth 20000 in
theorem ggX4_pass_X4_die : GoodIn wsX4_pass wsX4_die := goodIn_r _ [70, 71, 72, 26, 73, 74, 75, 8, 76, 59, 77, 89, 90, 91, 92, 93, 94, 95, 96, 78, 79, 80, 81, 82, 83, 84, 85, 86, 87, 88] (by decide +kernel) (by decide +kernel)
set_option maxRecDepth 20000 in
theorem gX4_pass_X4_die : GoodIn wsX4_pass (wsV RX4 111 RX4 yX4_die wsX4_die) := goodIn_app (goodIn_of _ (by decide +kernel)) ggX4_pass_X4_die
theorem dX4_pass_0 : decode cX4_pass 0 = .ok (.aload_n 0, 1) := by decide +kernel
theorem dX4_pass_1 : decode cX4_pass 1 = .ok (.aload_n 1, 1) := by decide +kernel
theorem dX4_pass_2 : decode cX4_pass 2 = .ok (.invokevirtual 100, 3) := by decide +kernel
theorem dX4_pass_5 : decode cX4_pass 5 = .ok (.istore_n 2, 1) := by decide +kernel
theorem dX4_pass_6 : decode cX4_pass 6 = .ok (.iconst 0, 1) := by decide +kernel
theorem dX4_pass_7 : decode cX4_pass 7 = .ok (.istore_n 3, 1) := by decide +kernel
theorem dX4_pass_8 : decode cX4_pass 8 = .ok (.iload_n 3, 1) := by decide +kernel
theorem dX4_pass_9 : decode cX4_pass 9 = .ok (.aload_n 0, 1) := by decide +kernel
theorem dX4_pass_10 : decode cX4_pass 10 = .ok (.getfield 18, 3) := by decide +kernel
theorem dX4_pass_13 : decode cX4_pass 13 = .ok (.if_icmp .ge 58, 3) := by decide +kernel
theorem dX4_pass_16 : decode cX4_pass 16 = .ok (.iload_n 2, 1) := by decide +kernel
theorem dX4_pass_17 : decode cX4_pass 17 = .ok (.iload_n 3, 1) := by decide +kernel
theorem dX4_pass_18 : decode cX4_pass 18 = .ok (.ishr, 1) := by decide +kernel
theorem dX4_pass_19 : decode cX4_pass 19 = .ok (.iconst 1, 1) := by decide +kernel
theorem dX4_pass_20 : decode cX4_pass 20 = .ok (.iand, 1) := by decide +kernel
theorem dX4_pass_21 : decode cX4_pass 21 = .ok (.ifCond .eq 12, 3) := by decide +kernel
theorem dX4_pass_24 : decode cX4_pass 24 = .ok (.aload_n 1, 1) := by decide +kernel
theorem dX4_pass_25 : decode cX4_pass 25 = .ok (.iload_n 3, 1) := by decide +kernel
theorem dX4_pass_26 : decode cX4_pass 26 = .ok (.iconst (-1), 1) := by decide +kernel
theorem dX4_pass_27 : decode cX4_pass 27 = .ok (.invokevirtual 104, 3) := by decide +kernel
theorem dX4_pass_30 : decode cX4_pass 30 = .ok (.goto 35, 3) := by decide +kernel
theorem dX4_pass_33 : decode cX4_pass 33 = .ok (.aload_n 1, 1) := by decide +kernel
theorem dX4_pass_34 : decode cX4_pass 34 = .ok (.getfield 61, 3) := by decide +kernel
theorem dX4_pass_37 : decode cX4_pass 37 = .ok (.iload_n 3, 1) := by decide +kernel
theorem dX4_pass_38 : decode cX4_pass 38 = .ok (.iaload, 1) := by decide +kernel
theorem dX4_pass_39 : decode cX4_pass 39 = .ok (.iconst (-1), 1) := by decide +kernel
theorem dX4_pass_40 : decode cX4_pass 40 = .ok (.if_icmp .eq 25, 3) := by decide +kernel
theorem dX4_pass_43 : decode cX4_pass 43 = .ok (.aload_n 1, 1) := by decide +kernel
theorem dX4_pass_44 : decode cX4_pass 44 = .ok (.getfield 74, 3) := by decide +kernel
theorem dX4_pass_47 : decode cX4_pass 47 = .ok (.iload_n 3, 1) := by decide +kernel
theorem dX4_pass_48 : decode cX4_pass 48 = .ok (.iaload, 1) := by decide +kernel
theorem dX4_pass_49 : decode cX4_pass 49 = .ok (.sipush 999, 3) := by decide +kernel
theorem dX4_pass_52 : decode cX4_pass 52 = .ok (.if_icmp .ge 13, 3) := by decide +kernel
theorem dX4_pass_55 : decode cX4_pass 55 = .ok (.aload_n 1, 1) := by decide +kernel
theorem dX4_pass_56 : decode cX4_pass 56 = .ok (.getfield 74, 3) := by decide +kernel
theorem dX4_pass_59 : decode cX4_pass 59 = .ok (.iload_n 3, 1) := by decide +kernel
theorem dX4_pass_60 : decode cX4_pass 60 = .ok (.dup2, 1) := by decide +kernel
theorem dX4_pass_61 : decode cX4_pass 61 = .ok (.iaload, 1) := by decide +kernel
theorem dX4_pass_62 : decode cX4_pass 62 = .ok (.iconst 1, 1) := by decide +kernel
theorem dX4_pass_63 : decode cX4_pass 63 = .ok (.iadd, 1) := by decide +kernel
theorem dX4_pass_64 : decode cX4_pass 64 = .ok (.iastore, 1) := by decide +kernel
theorem dX4_pass_65 : decode cX4_pass 65 = .ok (.iinc 3 1, 3) := by decide +kernel
theorem dX4_pass_68 : decode cX4_pass 68 = .ok (.goto (-60), 3) := by decide +kernel
theorem dX4_pass_71 : decode cX4_pass 71 = .ok (.aload_n 0, 1) := by decide +kernel
theorem dX4_pass_72 : decode cX4_pass 72 = .ok (.aload_n 1, 1) := by decide +kernel
theorem dX4_pass_73 : decode cX4_pass 73 = .ok (.aload_n 0, 1) := by decide +kernel
theorem dX4_pass_74 : decode cX4_pass 74 = .ok (.aload_n 1, 1) := by decide +kernel
theorem dX4_pass_75 : decode cX4_pass 75 = .ok (.invokevirtual 108, 3) := by decide +kernel
theorem dX4_pass_78 : decode cX4_pass 78 = .ok (.invokevirtual 111, 3) := by decide +kernel
theorem dX4_pass_81 : decode cX4_pass 81 = .ok (.aload_n 1, 1) := by decide +kernel
theorem dX4_pass_82 : decode cX4_pass 82 = .ok (.dup, 1) := by decide +kernel
theorem dX4_pass_83 : decode cX4_pass 83 = .ok (.getfield 81, 3) := by decide +kernel
theorem dX4_pass_86 : decode cX4_pass 86 = .ok (.iconst 1, 1) := by decide +kernel
theorem dX4_pass_87 : decode cX4_pass 87 = .ok (.iadd, 1) := by decide +kernel
theorem dX4_pass_88 : decode cX4_pass 88 = .ok (.putfield 81, 3) := by decide +kernel
theorem dX4_pass_91 : decode cX4_pass 91 = .ok (.iload_n 2, 1) := by decide +kernel
theorem dX4_pass_92 : decode cX4_pass 92 = .ok (.ireturn, 1) := by decide +kernel
set_option maxRecDepth 20000 in
theorem ggX4_draw_X7_isLiving : GoodIn wsX4_draw wsX7_isLiving := goodIn_r _ [8, 9, 21, 22, 23, 24, 25, 26, 27, 28] (by decide +kernel) (by decide +kernel)
set_option maxRecDepth 20000 in
theorem gX4_draw_X7_isLiving : GoodIn wsX4_draw (wsV RX4 115 RX7 yX7_isLiving wsX7_isLiving) := goodIn_app (goodIn_of _ (by decide +kernel)) ggX4_draw_X7_isLiving
theorem dX4_draw_0 : decode cX4_draw 0 = .ok (.iconst 0, 1) := by decide +kernel
theorem dX4_draw_1 : decode cX4_draw 1 = .ok (.istore_n 2, 1) := by decide +kernel
theorem dX4_draw_2 : decode cX4_draw 2 = .ok (.iconst 0, 1) := by decide +kernel
theorem dX4_draw_3 : decode cX4_draw 3 = .ok (.istore_n 3, 1) := by decide +kernel
theorem dX4_draw_4 : decode cX4_draw 4 = .ok (.iload_n 3, 1) := by decide +kernel
theorem dX4_draw_5 : decode cX4_draw 5 = .ok (.aload_n 0, 1) := by decide +kernel
theorem dX4_draw_6 : decode cX4_draw 6 = .ok (.getfield 9, 3) := by decide +kernel
theorem dX4_draw_9 : decode cX4_draw 9 = .ok (.if_icmp .ge 56, 3) := by decide +kernel
theorem dX4_draw_12 : decode cX4_draw 12 = .ok (.aload_n 1, 1) := by decide +kernel
theorem dX4_draw_13 : decode cX4_draw 13 = .ok (.iload_n 3, 1) := by decide +kernel
theorem dX4_draw_14 : decode cX4_draw 14 = .ok (.invokevirtual 115, 3) := by decide +kernel
theorem dX4_draw_17 : decode cX4_draw 17 = .ok (.ifCond .eq 42, 3) := by decide +kernel
theorem dX4_draw_20 : decode cX4_draw 20 = .ok (.aload_n 1, 1) := by decide +kernel
theorem dX4_draw_21 : decode cX4_draw 21 = .ok (.aload_n 1, 1) := by decide +kernel
theorem dX4_draw_22 : decode cX4_draw 22 = .ok (.getfield 118, 3) := by decide +kernel
theorem dX4_draw_25 : decode cX4_draw 25 = .ok (.sipush 137, 3) := by decide +kernel
theorem dX4_draw_28 : decode cX4_draw 28 = .ok (.imul, 1) := by decide +kernel
theorem dX4_draw_29 : decode cX4_draw 29 = .ok (.bipush 71, 2) := by decide +kernel
theorem dX4_draw_31 : decode cX4_draw 31 = .ok (.iadd, 1) := by decide +kernel
theorem dX4_draw_32 : decode cX4_draw 32 = .ok (.sipush 1000, 3) := by decide +kernel
theorem dX4_draw_35 : decode cX4_draw 35 = .ok (.irem, 1) := by decide +kernel
theorem dX4_draw_36 : decode cX4_draw 36 = .ok (.putfield 118, 3) := by decide +kernel
theorem dX4_draw_39 : decode cX4_draw 39 = .ok (.aload_n 1, 1) := by decide +kernel
theorem dX4_draw_40 : decode cX4_draw 40 = .ok (.getfield 118, 3) := by decide +kernel
theorem dX4_draw_43 : decode cX4_draw 43 = .ok (.bipush 100, 2) := by decide +kernel
theorem dX4_draw_45 : decode cX4_draw 45 = .ok (.irem, 1) := by decide +kernel
theorem dX4_draw_46 : decode cX4_draw 46 = .ok (.aload_n 0, 1) := by decide +kernel
theorem dX4_draw_47 : decode cX4_draw 47 = .ok (.getfield 21, 3) := by decide +kernel
theorem dX4_draw_50 : decode cX4_draw 50 = .ok (.if_icmp .ge 9, 3) := by decide +kernel
theorem dX4_draw_53 : decode cX4_draw 53 = .ok (.iload_n 2, 1) := by decide +kernel
theorem dX4_draw_54 : decode cX4_draw 54 = .ok (.iconst 1, 1) := by decide +kernel
theorem dX4_draw_55 : decode cX4_draw 55 = .ok (.iload_n 3, 1) := by decide +kernel
theorem dX4_draw_56 : decode cX4_draw 56 = .ok (.ishl, 1) := by decide +kernel
theorem dX4_draw_57 : decode cX4_draw 57 = .ok (.ior, 1) := by decide +kernel
theorem dX4_draw_58 : decode cX4_draw 58 = .ok (.istore_n 2, 1) := by decide +kernel
theorem dX4_draw_59 : decode cX4_draw 59 = .ok (.iinc 3 1, 3) := by decide +kernel
theorem dX4_draw_62 : decode cX4_draw 62 = .ok (.goto (-58), 3) := by decide +kernel
theorem dX4_draw_65 : decode cX4_draw 65 = .ok (.iload_n 2, 1) := by decide +kernel
theorem dX4_draw_66 : decode cX4_draw 66 = .ok (.ireturn, 1) := by decide +kernel
set_option maxRecDepth 20000 in
theorem ggX4_die_X4_livingHeir : GoodIn wsX4_die wsX4_livingHeir := goodIn_r _ [8, 9, 10, 19, 20, 21, 22, 23, 24, 25, 26, 27, 28, 29] (by decide +kernel) (by decide +kernel)
set_option maxRecDepth 20000 in
theorem gX4_die_X4_livingHeir : GoodIn wsX4_die (wsV RX4 124 RX4 yX4_livingHeir wsX4_livingHeir) := goodIn_app (goodIn_of _ (by decide +kernel)) ggX4_die_X4_livingHeir
theorem dX4_die_0 : decode cX4_die 0 = .ok (.aload_n 1, 1) := by decide +kernel
theorem dX4_die_1 : decode cX4_die 1 = .ok (.dup, 1) := by decide +kernel
theorem dX4_die_2 : decode cX4_die 2 = .ok (.getfield 121, 3) := by decide +kernel
theorem dX4_die_5 : decode cX4_die 5 = .ok (.iload_n 2, 1) := by decide +kernel
theorem dX4_die_6 : decode cX4_die 6 = .ok (.iconst (-1), 1) := by decide +kernel
theorem dX4_die_7 : decode cX4_die 7 = .ok (.ixor, 1) := by decide +kernel
theorem dX4_die_8 : decode cX4_die 8 = .ok (.iand, 1) := by decide +kernel
theorem dX4_die_9 : decode cX4_die 9 = .ok (.putfield 121, 3) := by decide +kernel
theorem dX4_die_12 : decode cX4_die 12 = .ok (.iconst 0, 1) := by decide +kernel
theorem dX4_die_13 : decode cX4_die 13 = .ok (.istore_n 3, 1) := by decide +kernel
theorem dX4_die_14 : decode cX4_die 14 = .ok (.iload_n 3, 1) := by decide +kernel
theorem dX4_die_15 : decode cX4_die 15 = .ok (.aload_n 0, 1) := by decide +kernel
theorem dX4_die_16 : decode cX4_die 16 = .ok (.getfield 15, 3) := by decide +kernel
theorem dX4_die_19 : decode cX4_die 19 = .ok (.if_icmp .ge 29, 3) := by decide +kernel
theorem dX4_die_22 : decode cX4_die 22 = .ok (.aload_n 1, 1) := by decide +kernel
theorem dX4_die_23 : decode cX4_die 23 = .ok (.getfield 58, 3) := by decide +kernel
theorem dX4_die_26 : decode cX4_die 26 = .ok (.iload_n 3, 1) := by decide +kernel
theorem dX4_die_27 : decode cX4_die 27 = .ok (.aload_n 0, 1) := by decide +kernel
theorem dX4_die_28 : decode cX4_die 28 = .ok (.aload_n 1, 1) := by decide +kernel
theorem dX4_die_29 : decode cX4_die 29 = .ok (.getfield 58, 3) := by decide +kernel
theorem dX4_die_32 : decode cX4_die 32 = .ok (.iload_n 3, 1) := by decide +kernel
theorem dX4_die_33 : decode cX4_die 33 = .ok (.iaload, 1) := by decide +kernel
theorem dX4_die_34 : decode cX4_die 34 = .ok (.aload_n 1, 1) := by decide +kernel
theorem dX4_die_35 : decode cX4_die 35 = .ok (.getfield 121, 3) := by decide +kernel
theorem dX4_die_38 : decode cX4_die 38 = .ok (.invokevirtual 124, 3) := by decide +kernel
theorem dX4_die_41 : decode cX4_die 41 = .ok (.iastore, 1) := by decide +kernel
theorem dX4_die_42 : decode cX4_die 42 = .ok (.iinc 3 1, 3) := by decide +kernel
theorem dX4_die_45 : decode cX4_die 45 = .ok (.goto (-31), 3) := by decide +kernel
theorem dX4_die_48 : decode cX4_die 48 = .ok (.return_, 1) := by decide +kernel
theorem dX4_livingHeir_0 : decode cX4_livingHeir 0 = .ok (.iload_n 1, 1) := by decide +kernel
theorem dX4_livingHeir_1 : decode cX4_livingHeir 1 = .ok (.istore_n 3, 1) := by decide +kernel
theorem dX4_livingHeir_2 : decode cX4_livingHeir 2 = .ok (.iconst 0, 1) := by decide +kernel
theorem dX4_livingHeir_3 : decode cX4_livingHeir 3 = .ok (.istore 4, 2) := by decide +kernel
theorem dX4_livingHeir_5 : decode cX4_livingHeir 5 = .ok (.iload 4, 2) := by decide +kernel
theorem dX4_livingHeir_7 : decode cX4_livingHeir 7 = .ok (.bipush 6, 2) := by decide +kernel
theorem dX4_livingHeir_9 : decode cX4_livingHeir 9 = .ok (.if_icmp .gt 40, 3) := by decide +kernel
theorem dX4_livingHeir_12 : decode cX4_livingHeir 12 = .ok (.iload_n 3, 1) := by decide +kernel
theorem dX4_livingHeir_13 : decode cX4_livingHeir 13 = .ok (.ifCond .lt 11, 3) := by decide +kernel
theorem dX4_livingHeir_16 : decode cX4_livingHeir 16 = .ok (.iload_n 3, 1) := by decide +kernel
theorem dX4_livingHeir_17 : decode cX4_livingHeir 17 = .ok (.aload_n 0, 1) := by decide +kernel
theorem dX4_livingHeir_18 : decode cX4_livingHeir 18 = .ok (.getfield 9, 3) := by decide +kernel
theorem dX4_livingHeir_21 : decode cX4_livingHeir 21 = .ok (.if_icmp .lt 5, 3) := by decide +kernel
theorem dX4_livingHeir_24 : decode cX4_livingHeir 24 = .ok (.iconst (-1), 1) := by decide +kernel
theorem dX4_livingHeir_25 : decode cX4_livingHeir 25 = .ok (.ireturn, 1) := by decide +kernel
theorem dX4_livingHeir_26 : decode cX4_livingHeir 26 = .ok (.iload_n 2, 1) := by decide +kernel
theorem dX4_livingHeir_27 : decode cX4_livingHeir 27 = .ok (.iload_n 3, 1) := by decide +kernel
theorem dX4_livingHeir_28 : decode cX4_livingHeir 28 = .ok (.ishr, 1) := by decide +kernel
theorem dX4_livingHeir_29 : decode cX4_livingHeir 29 = .ok (.iconst 1, 1) := by decide +kernel
theorem dX4_livingHeir_30 : decode cX4_livingHeir 30 = .ok (.iand, 1) := by decide +kernel
theorem dX4_livingHeir_31 : decode cX4_livingHeir 31 = .ok (.ifCond .eq 5, 3) := by decide +kernel
theorem dX4_livingHeir_34 : decode cX4_livingHeir 34 = .ok (.iload_n 3, 1) := by decide +kernel
theorem dX4_livingHeir_35 : decode cX4_livingHeir 35 = .ok (.ireturn, 1) := by decide +kernel
theorem dX4_livingHeir_36 : decode cX4_livingHeir 36 = .ok (.aload_n 0, 1) := by decide +kernel
theorem dX4_livingHeir_37 : decode cX4_livingHeir 37 = .ok (.getfield 31, 3) := by decide +kernel
theorem dX4_livingHeir_40 : decode cX4_livingHeir 40 = .ok (.iload_n 3, 1) := by decide +kernel
theorem dX4_livingHeir_41 : decode cX4_livingHeir 41 = .ok (.iaload, 1) := by decide +kernel
theorem dX4_livingHeir_42 : decode cX4_livingHeir 42 = .ok (.istore_n 3, 1) := by decide +kernel
theorem dX4_livingHeir_43 : decode cX4_livingHeir 43 = .ok (.iinc 4 1, 3) := by decide +kernel
theorem dX4_livingHeir_46 : decode cX4_livingHeir 46 = .ok (.goto (-41), 3) := by decide +kernel
theorem dX4_livingHeir_49 : decode cX4_livingHeir 49 = .ok (.iconst (-1), 1) := by decide +kernel
theorem dX4_livingHeir_50 : decode cX4_livingHeir 50 = .ok (.ireturn, 1) := by decide +kernel
set_option maxRecDepth 20000 in
theorem ggX4_outBehind_X4_consider : GoodIn wsX4_outBehind wsX4_consider := goodIn_r _ [6, 7, 8, 9, 10, 11, 12, 13, 1, 14, 15, 16, 17, 18, 19, 20, 21, 22, 23, 24, 25, 57, 58, 59, 60, 61, 62, 63, 64, 65, 66, 67, 49, 50, 51, 52, 53, 54, 55, 56] (by decide +kernel) (by decide +kernel)
set_option maxRecDepth 20000 in
theorem gX4_outBehind_X4_consider : GoodIn wsX4_outBehind (wsV RX4 84 RX4 yX4_consider wsX4_consider) := goodIn_app (goodIn_of _ (by decide +kernel)) ggX4_outBehind_X4_consider
set_option maxRecDepth 20000 in
theorem ggX4_outBehind_X4_outBehindAsConsidered : GoodIn wsX4_outBehind wsX4_outBehindAsConsidered := goodIn_r _ [29, 1, 9, 14, 30, 31, 32, 33, 15, 34, 16, 17, 18, 19, 20, 21, 35, 36, 37, 38, 39, 40, 41, 42, 43, 44, 45, 46, 47, 48, 49, 50, 51, 52, 53, 54, 55, 56, 57, 58, 59, 60, 61, 62, 63, 64, 65, 66, 67, 68, 69, 70] (by decide +kernel) (by decide +kernel)
set_option maxRecDepth 20000 in
theorem gX4_outBehind_X4_outBehindAsConsidered : GoodIn wsX4_outBehind (wsV RX4 127 RX4 yX4_outBehindAsConsidered wsX4_outBehindAsConsidered) := goodIn_app (goodIn_of _ (by decide +kernel)) ggX4_outBehind_X4_outBehindAsConsidered
theorem dX4_outBehind_0 : decode cX4_outBehind 0 = .ok (.aload_n 0, 1) := by decide +kernel
theorem dX4_outBehind_1 : decode cX4_outBehind 1 = .ok (.aload_n 1, 1) := by decide +kernel
theorem dX4_outBehind_2 : decode cX4_outBehind 2 = .ok (.iload_n 2, 1) := by decide +kernel
theorem dX4_outBehind_3 : decode cX4_outBehind 3 = .ok (.aload_n 1, 1) := by decide +kernel
theorem dX4_outBehind_4 : decode cX4_outBehind 4 = .ok (.getfield 61, 3) := by decide +kernel
theorem dX4_outBehind_7 : decode cX4_outBehind 7 = .ok (.iload_n 2, 1) := by decide +kernel
theorem dX4_outBehind_8 : decode cX4_outBehind 8 = .ok (.iaload, 1) := by decide +kernel
theorem dX4_outBehind_9 : decode cX4_outBehind 9 = .ok (.invokevirtual 84, 3) := by decide +kernel
theorem dX4_outBehind_12 : decode cX4_outBehind 12 = .ok (.aload_n 0, 1) := by decide +kernel
theorem dX4_outBehind_13 : decode cX4_outBehind 13 = .ok (.aload_n 1, 1) := by decide +kernel
theorem dX4_outBehind_14 : decode cX4_outBehind 14 = .ok (.iload_n 2, 1) := by decide +kernel
theorem dX4_outBehind_15 : decode cX4_outBehind 15 = .ok (.iload_n 3, 1) := by decide +kernel
theorem dX4_outBehind_16 : decode cX4_outBehind 16 = .ok (.invokevirtual 127, 3) := by decide +kernel
theorem dX4_outBehind_19 : decode cX4_outBehind 19 = .ok (.ireturn, 1) := by decide +kernel
set_option maxRecDepth 20000 in
theorem ggX4_outBehindAtWants_X4_consider : GoodIn wsX4_outBehindAtWants wsX4_consider := goodIn_r _ [7, 8, 9, 2, 10, 11, 12, 13, 1, 14, 15, 16, 17, 18, 19, 20, 21, 22, 23, 24, 25, 57, 58, 59, 60, 61, 62, 63, 64, 65, 66, 67, 49, 50, 51, 52, 53, 54, 55, 56] (by decide +kernel) (by decide +kernel)
set_option maxRecDepth 20000 in
theorem gX4_outBehindAtWants_X4_consider : GoodIn wsX4_outBehindAtWants (wsV RX4 84 RX4 yX4_consider wsX4_consider) := goodIn_app (goodIn_of _ (by decide +kernel)) ggX4_outBehindAtWants_X4_consider
set_option maxRecDepth 20000 in
theorem ggX4_outBehindAtWants_X4_outBehindAsConsidered : GoodIn wsX4_outBehindAtWants wsX4_outBehindAsConsidered := goodIn_r _ [29, 1, 2, 14, 30, 31, 32, 33, 15, 34, 16, 17, 18, 19, 20, 21, 35, 36, 37, 38, 39, 40, 41, 42, 43, 44, 45, 46, 47, 48, 49, 50, 51, 52, 53, 54, 55, 56, 57, 58, 59, 60, 61, 62, 63, 64, 65, 66, 67, 68, 69, 70] (by decide +kernel) (by decide +kernel)
set_option maxRecDepth 20000 in
theorem gX4_outBehindAtWants_X4_outBehindAsConsidered : GoodIn wsX4_outBehindAtWants (wsV RX4 127 RX4 yX4_outBehindAsConsidered wsX4_outBehindAsConsidered) := goodIn_app (goodIn_of _ (by decide +kernel)) ggX4_outBehindAtWants_X4_outBehindAsConsidered
theorem dX4_outBehindAtWants_0 : decode cX4_outBehindAtWants 0 = .ok (.aload_n 0, 1) := by decide +kernel
theorem dX4_outBehindAtWants_1 : decode cX4_outBehindAtWants 1 = .ok (.aload_n 1, 1) := by decide +kernel
theorem dX4_outBehindAtWants_2 : decode cX4_outBehindAtWants 2 = .ok (.iload_n 2, 1) := by decide +kernel
theorem dX4_outBehindAtWants_3 : decode cX4_outBehindAtWants 3 = .ok (.aload_n 1, 1) := by decide +kernel
theorem dX4_outBehindAtWants_4 : decode cX4_outBehindAtWants 4 = .ok (.getfield 61, 3) := by decide +kernel
theorem dX4_outBehindAtWants_7 : decode cX4_outBehindAtWants 7 = .ok (.iload_n 2, 1) := by decide +kernel
theorem dX4_outBehindAtWants_8 : decode cX4_outBehindAtWants 8 = .ok (.iaload, 1) := by decide +kernel
theorem dX4_outBehindAtWants_9 : decode cX4_outBehindAtWants 9 = .ok (.invokevirtual 84, 3) := by decide +kernel
theorem dX4_outBehindAtWants_12 : decode cX4_outBehindAtWants 12 = .ok (.aload_n 0, 1) := by decide +kernel
theorem dX4_outBehindAtWants_13 : decode cX4_outBehindAtWants 13 = .ok (.getfield 51, 3) := by decide +kernel
theorem dX4_outBehindAtWants_16 : decode cX4_outBehindAtWants 16 = .ok (.iconst 1, 1) := by decide +kernel
theorem dX4_outBehindAtWants_17 : decode cX4_outBehindAtWants 17 = .ok (.iload_n 3, 1) := by decide +kernel
theorem dX4_outBehindAtWants_18 : decode cX4_outBehindAtWants 18 = .ok (.iastore, 1) := by decide +kernel
theorem dX4_outBehindAtWants_19 : decode cX4_outBehindAtWants 19 = .ok (.aload_n 0, 1) := by decide +kernel
theorem dX4_outBehindAtWants_20 : decode cX4_outBehindAtWants 20 = .ok (.aload_n 1, 1) := by decide +kernel
theorem dX4_outBehindAtWants_21 : decode cX4_outBehindAtWants 21 = .ok (.iload_n 2, 1) := by decide +kernel
theorem dX4_outBehindAtWants_22 : decode cX4_outBehindAtWants 22 = .ok (.iload 4, 2) := by decide +kernel
theorem dX4_outBehindAtWants_24 : decode cX4_outBehindAtWants 24 = .ok (.invokevirtual 127, 3) := by decide +kernel
theorem dX4_outBehindAtWants_27 : decode cX4_outBehindAtWants 27 = .ok (.ireturn, 1) := by decide +kernel
set_option maxRecDepth 20000 in
theorem ggX4_outBehindAsConsidered_X7_isKept : GoodIn wsX4_outBehindAsConsidered wsX7_isKept := goodIn_r _ [14, 15, 30, 31, 32, 33, 34, 35, 36, 37] (by decide +kernel) (by decide +kernel)
set_option maxRecDepth 20000 in
theorem gX4_outBehindAsConsidered_X7_isKept : GoodIn wsX4_outBehindAsConsidered (wsV RX4 64 RX7 yX7_isKept wsX7_isKept) := goodIn_app (goodIn_of _ (by decide +kernel)) ggX4_outBehindAsConsidered_X7_isKept
set_option maxRecDepth 20000 in
theorem ggX4_outBehindAsConsidered_X2_value : GoodIn wsX4_outBehindAsConsidered wsX2_value := goodIn_r _ [20, 21, 22, 23, 24, 25, 19, 26, 27, 28, 29, 49, 50, 51] (by decide +kernel) (by decide +kernel)
set_option maxRecDepth 20000 in
theorem gX4_outBehindAsConsidered_X2_value : GoodIn wsX4_outBehindAsConsidered (wsV RX4 88 RX2 yX2_value wsX2_value) := goodIn_app (goodIn_of _ (by decide +kernel)) ggX4_outBehindAsConsidered_X2_value
theorem dX4_outBehindAsConsidered_0 : decode cX4_outBehindAsConsidered 0 = .ok (.aload_n 1, 1) := by decide +kernel
theorem dX4_outBehindAsConsidered_1 : decode cX4_outBehindAsConsidered 1 = .ok (.getfield 61, 3) := by decide +kernel
theorem dX4_outBehindAsConsidered_4 : decode cX4_outBehindAsConsidered 4 = .ok (.iload_n 2, 1) := by decide +kernel
theorem dX4_outBehindAsConsidered_5 : decode cX4_outBehindAsConsidered 5 = .ok (.iaload, 1) := by decide +kernel
theorem dX4_outBehindAsConsidered_6 : decode cX4_outBehindAsConsidered 6 = .ok (.iconst (-1), 1) := by decide +kernel
theorem dX4_outBehindAsConsidered_7 : decode cX4_outBehindAsConsidered 7 = .ok (.if_icmp .ne 5, 3) := by decide +kernel
theorem dX4_outBehindAsConsidered_10 : decode cX4_outBehindAsConsidered 10 = .ok (.iconst 0, 1) := by decide +kernel
theorem dX4_outBehindAsConsidered_11 : decode cX4_outBehindAsConsidered 11 = .ok (.ireturn, 1) := by decide +kernel
theorem dX4_outBehindAsConsidered_12 : decode cX4_outBehindAsConsidered 12 = .ok (.aload_n 1, 1) := by decide +kernel
theorem dX4_outBehindAsConsidered_13 : decode cX4_outBehindAsConsidered 13 = .ok (.aload_n 1, 1) := by decide +kernel
theorem dX4_outBehindAsConsidered_14 : decode cX4_outBehindAsConsidered 14 = .ok (.getfield 61, 3) := by decide +kernel
theorem dX4_outBehindAsConsidered_17 : decode cX4_outBehindAsConsidered 17 = .ok (.iload_n 2, 1) := by decide +kernel
theorem dX4_outBehindAsConsidered_18 : decode cX4_outBehindAsConsidered 18 = .ok (.iaload, 1) := by decide +kernel
theorem dX4_outBehindAsConsidered_19 : decode cX4_outBehindAsConsidered 19 = .ok (.invokevirtual 64, 3) := by decide +kernel
theorem dX4_outBehindAsConsidered_22 : decode cX4_outBehindAsConsidered 22 = .ok (.ifCond .ne 7, 3) := by decide +kernel
theorem dX4_outBehindAsConsidered_25 : decode cX4_outBehindAsConsidered 25 = .ok (.iload_n 3, 1) := by decide +kernel
theorem dX4_outBehindAsConsidered_26 : decode cX4_outBehindAsConsidered 26 = .ok (.iconst 1, 1) := by decide +kernel
theorem dX4_outBehindAsConsidered_27 : decode cX4_outBehindAsConsidered 27 = .ok (.iadd, 1) := by decide +kernel
theorem dX4_outBehindAsConsidered_28 : decode cX4_outBehindAsConsidered 28 = .ok (.ireturn, 1) := by decide +kernel
theorem dX4_outBehindAsConsidered_29 : decode cX4_outBehindAsConsidered 29 = .ok (.iconst 0, 1) := by decide +kernel
theorem dX4_outBehindAsConsidered_30 : decode cX4_outBehindAsConsidered 30 = .ok (.istore 4, 2) := by decide +kernel
theorem dX4_outBehindAsConsidered_32 : decode cX4_outBehindAsConsidered 32 = .ok (.iload 4, 2) := by decide +kernel
theorem dX4_outBehindAsConsidered_34 : decode cX4_outBehindAsConsidered 34 = .ok (.iload_n 3, 1) := by decide +kernel
theorem dX4_outBehindAsConsidered_35 : decode cX4_outBehindAsConsidered 35 = .ok (.if_icmp .ge 63, 3) := by decide +kernel
theorem dX4_outBehindAsConsidered_38 : decode cX4_outBehindAsConsidered 38 = .ok (.aload_n 0, 1) := by decide +kernel
theorem dX4_outBehindAsConsidered_39 : decode cX4_outBehindAsConsidered 39 = .ok (.getfield 51, 3) := by decide +kernel
theorem dX4_outBehindAsConsidered_42 : decode cX4_outBehindAsConsidered 42 = .ok (.iconst 4, 1) := by decide +kernel
theorem dX4_outBehindAsConsidered_43 : decode cX4_outBehindAsConsidered 43 = .ok (.sipush 999, 3) := by decide +kernel
theorem dX4_outBehindAsConsidered_46 : decode cX4_outBehindAsConsidered 46 = .ok (.aload_n 1, 1) := by decide +kernel
theorem dX4_outBehindAsConsidered_47 : decode cX4_outBehindAsConsidered 47 = .ok (.getfield 74, 3) := by decide +kernel
theorem dX4_outBehindAsConsidered_50 : decode cX4_outBehindAsConsidered 50 = .ok (.iload_n 2, 1) := by decide +kernel
theorem dX4_outBehindAsConsidered_51 : decode cX4_outBehindAsConsidered 51 = .ok (.iaload, 1) := by decide +kernel
theorem dX4_outBehindAsConsidered_52 : decode cX4_outBehindAsConsidered 52 = .ok (.iload 4, 2) := by decide +kernel
theorem dX4_outBehindAsConsidered_54 : decode cX4_outBehindAsConsidered 54 = .ok (.iadd, 1) := by decide +kernel
theorem dX4_outBehindAsConsidered_55 : decode cX4_outBehindAsConsidered 55 = .ok (.invokestatic 130, 3) := by decide +kernel
theorem dX4_outBehindAsConsidered_58 : decode cX4_outBehindAsConsidered 58 = .ok (.iastore, 1) := by decide +kernel
theorem dX4_outBehindAsConsidered_59 : decode cX4_outBehindAsConsidered 59 = .ok (.aload_n 0, 1) := by decide +kernel
theorem dX4_outBehindAsConsidered_60 : decode cX4_outBehindAsConsidered 60 = .ok (.getfield 51, 3) := by decide +kernel
theorem dX4_outBehindAsConsidered_63 : decode cX4_outBehindAsConsidered 63 = .ok (.bipush 6, 2) := by decide +kernel
theorem dX4_outBehindAsConsidered_65 : decode cX4_outBehindAsConsidered 65 = .ok (.aload_n 1, 1) := by decide +kernel
theorem dX4_outBehindAsConsidered_66 : decode cX4_outBehindAsConsidered 66 = .ok (.getfield 81, 3) := by decide +kernel
theorem dX4_outBehindAsConsidered_69 : decode cX4_outBehindAsConsidered 69 = .ok (.iload 4, 2) := by decide +kernel
theorem dX4_outBehindAsConsidered_71 : decode cX4_outBehindAsConsidered 71 = .ok (.iadd, 1) := by decide +kernel
theorem dX4_outBehindAsConsidered_72 : decode cX4_outBehindAsConsidered 72 = .ok (.iastore, 1) := by decide +kernel
theorem dX4_outBehindAsConsidered_73 : decode cX4_outBehindAsConsidered 73 = .ok (.aload_n 0, 1) := by decide +kernel
theorem dX4_outBehindAsConsidered_74 : decode cX4_outBehindAsConsidered 74 = .ok (.getfield 47, 3) := by decide +kernel
theorem dX4_outBehindAsConsidered_77 : decode cX4_outBehindAsConsidered 77 = .ok (.aload_n 0, 1) := by decide +kernel
theorem dX4_outBehindAsConsidered_78 : decode cX4_outBehindAsConsidered 78 = .ok (.getfield 51, 3) := by decide +kernel
theorem dX4_outBehindAsConsidered_81 : decode cX4_outBehindAsConsidered 81 = .ok (.invokevirtual 88, 3) := by decide +kernel
theorem dX4_outBehindAsConsidered_84 : decode cX4_outBehindAsConsidered 84 = .ok (.ifCond .gt 8, 3) := by decide +kernel
theorem dX4_outBehindAsConsidered_87 : decode cX4_outBehindAsConsidered 87 = .ok (.iload 4, 2) := by decide +kernel
theorem dX4_outBehindAsConsidered_89 : decode cX4_outBehindAsConsidered 89 = .ok (.iconst 1, 1) := by decide +kernel
theorem dX4_outBehindAsConsidered_90 : decode cX4_outBehindAsConsidered 90 = .ok (.iadd, 1) := by decide +kernel
theorem dX4_outBehindAsConsidered_91 : decode cX4_outBehindAsConsidered 91 = .ok (.ireturn, 1) := by decide +kernel
theorem dX4_outBehindAsConsidered_92 : decode cX4_outBehindAsConsidered 92 = .ok (.iinc 4 1, 3) := by decide +kernel
theorem dX4_outBehindAsConsidered_95 : decode cX4_outBehindAsConsidered 95 = .ok (.goto (-63), 3) := by decide +kernel
theorem dX4_outBehindAsConsidered_98 : decode cX4_outBehindAsConsidered 98 = .ok (.iload_n 3, 1) := by decide +kernel
theorem dX4_outBehindAsConsidered_99 : decode cX4_outBehindAsConsidered 99 = .ok (.iconst 1, 1) := by decide +kernel
theorem dX4_outBehindAsConsidered_100 : decode cX4_outBehindAsConsidered 100 = .ok (.iadd, 1) := by decide +kernel
theorem dX4_outBehindAsConsidered_101 : decode cX4_outBehindAsConsidered 101 = .ok (.ireturn, 1) := by decide +kernel
theorem dX6_forget_0 : decode cX6_forget 0 = .ok (.aload_n 0, 1) := by decide +kernel
theorem dX6_forget_1 : decode cX6_forget 1 = .ok (.iconst 0, 1) := by decide +kernel
theorem dX6_forget_2 : decode cX6_forget 2 = .ok (.putfield 9, 3) := by decide +kernel
theorem dX6_forget_5 : decode cX6_forget 5 = .ok (.aload_n 0, 1) := by decide +kernel
theorem dX6_forget_6 : decode cX6_forget 6 = .ok (.iconst 0, 1) := by decide +kernel
theorem dX6_forget_7 : decode cX6_forget 7 = .ok (.putfield 35, 3) := by decide +kernel
theorem dX6_forget_10 : decode cX6_forget 10 = .ok (.return_, 1) := by decide +kernel
theorem dX6_add_0 : decode cX6_add 0 = .ok (.aload_n 0, 1) := by decide +kernel
theorem dX6_add_1 : decode cX6_add 1 = .ok (.getfield 9, 3) := by decide +kernel
theorem dX6_add_4 : decode cX6_add 4 = .ok (.bipush 30, 2) := by decide +kernel
theorem dX6_add_6 : decode cX6_add 6 = .ok (.if_icmp .lt 5, 3) := by decide +kernel
theorem dX6_add_9 : decode cX6_add 9 = .ok (.iconst (-1), 1) := by decide +kernel
theorem dX6_add_10 : decode cX6_add 10 = .ok (.ireturn, 1) := by decide +kernel
theorem dX6_add_11 : decode cX6_add 11 = .ok (.aload_n 0, 1) := by decide +kernel
theorem dX6_add_12 : decode cX6_add 12 = .ok (.getfield 15, 3) := by decide +kernel
theorem dX6_add_15 : decode cX6_add 15 = .ok (.aload_n 0, 1) := by decide +kernel
theorem dX6_add_16 : decode cX6_add 16 = .ok (.getfield 9, 3) := by decide +kernel
theorem dX6_add_19 : decode cX6_add 19 = .ok (.iload_n 1, 1) := by decide +kernel
theorem dX6_add_20 : decode cX6_add 20 = .ok (.iastore, 1) := by decide +kernel
theorem dX6_add_21 : decode cX6_add 21 = .ok (.aload_n 0, 1) := by decide +kernel
theorem dX6_add_22 : decode cX6_add 22 = .ok (.getfield 19, 3) := by decide +kernel
theorem dX6_add_25 : decode cX6_add 25 = .ok (.aload_n 0, 1) := by decide +kernel
theorem dX6_add_26 : decode cX6_add 26 = .ok (.getfield 9, 3) := by decide +kernel
theorem dX6_add_29 : decode cX6_add 29 = .ok (.iload_n 2, 1) := by decide +kernel
theorem dX6_add_30 : decode cX6_add 30 = .ok (.iastore, 1) := by decide +kernel
theorem dX6_add_31 : decode cX6_add 31 = .ok (.aload_n 0, 1) := by decide +kernel
theorem dX6_add_32 : decode cX6_add 32 = .ok (.getfield 22, 3) := by decide +kernel
theorem dX6_add_35 : decode cX6_add 35 = .ok (.aload_n 0, 1) := by decide +kernel
theorem dX6_add_36 : decode cX6_add 36 = .ok (.getfield 9, 3) := by decide +kernel
theorem dX6_add_39 : decode cX6_add 39 = .ok (.iload_n 3, 1) := by decide +kernel
theorem dX6_add_40 : decode cX6_add 40 = .ok (.bastore, 1) := by decide +kernel
theorem dX6_add_41 : decode cX6_add 41 = .ok (.aload_n 0, 1) := by decide +kernel
theorem dX6_add_42 : decode cX6_add 42 = .ok (.getfield 26, 3) := by decide +kernel
theorem dX6_add_45 : decode cX6_add 45 = .ok (.aload_n 0, 1) := by decide +kernel
theorem dX6_add_46 : decode cX6_add 46 = .ok (.getfield 9, 3) := by decide +kernel
theorem dX6_add_49 : decode cX6_add 49 = .ok (.iload 4, 2) := by decide +kernel
theorem dX6_add_51 : decode cX6_add 51 = .ok (.iastore, 1) := by decide +kernel
theorem dX6_add_52 : decode cX6_add 52 = .ok (.aload_n 0, 1) := by decide +kernel
theorem dX6_add_53 : decode cX6_add 53 = .ok (.getfield 29, 3) := by decide +kernel
theorem dX6_add_56 : decode cX6_add 56 = .ok (.aload_n 0, 1) := by decide +kernel
theorem dX6_add_57 : decode cX6_add 57 = .ok (.getfield 9, 3) := by decide +kernel
theorem dX6_add_60 : decode cX6_add 60 = .ok (.iconst (-1), 1) := by decide +kernel
theorem dX6_add_61 : decode cX6_add 61 = .ok (.iastore, 1) := by decide +kernel
theorem dX6_add_62 : decode cX6_add 62 = .ok (.aload_n 0, 1) := by decide +kernel
theorem dX6_add_63 : decode cX6_add 63 = .ok (.dup, 1) := by decide +kernel
theorem dX6_add_64 : decode cX6_add 64 = .ok (.getfield 9, 3) := by decide +kernel
theorem dX6_add_67 : decode cX6_add 67 = .ok (.iconst 1, 1) := by decide +kernel
theorem dX6_add_68 : decode cX6_add 68 = .ok (.iadd, 1) := by decide +kernel
theorem dX6_add_69 : decode cX6_add 69 = .ok (.putfield 9, 3) := by decide +kernel
theorem dX6_add_72 : decode cX6_add 72 = .ok (.aload_n 0, 1) := by decide +kernel
theorem dX6_add_73 : decode cX6_add 73 = .ok (.getfield 9, 3) := by decide +kernel
theorem dX6_add_76 : decode cX6_add 76 = .ok (.iconst 1, 1) := by decide +kernel
theorem dX6_add_77 : decode cX6_add 77 = .ok (.isub, 1) := by decide +kernel
theorem dX6_add_78 : decode cX6_add 78 = .ok (.ireturn, 1) := by decide +kernel
theorem dX6_takeBack_0 : decode cX6_takeBack 0 = .ok (.iload_n 1, 1) := by decide +kernel
theorem dX6_takeBack_1 : decode cX6_takeBack 1 = .ok (.ifCond .lt 21, 3) := by decide +kernel
theorem dX6_takeBack_4 : decode cX6_takeBack 4 = .ok (.iload_n 1, 1) := by decide +kernel
theorem dX6_takeBack_5 : decode cX6_takeBack 5 = .ok (.aload_n 0, 1) := by decide +kernel
theorem dX6_takeBack_6 : decode cX6_takeBack 6 = .ok (.getfield 9, 3) := by decide +kernel
theorem dX6_takeBack_9 : decode cX6_takeBack 9 = .ok (.if_icmp .ge 13, 3) := by decide +kernel
theorem dX6_takeBack_12 : decode cX6_takeBack 12 = .ok (.aload_n 0, 1) := by decide +kernel
theorem dX6_takeBack_13 : decode cX6_takeBack 13 = .ok (.getfield 29, 3) := by decide +kernel
theorem dX6_takeBack_16 : decode cX6_takeBack 16 = .ok (.iload_n 1, 1) := by decide +kernel
theorem dX6_takeBack_17 : decode cX6_takeBack 17 = .ok (.iaload, 1) := by decide +kernel
theorem dX6_takeBack_18 : decode cX6_takeBack 18 = .ok (.iconst (-1), 1) := by decide +kernel
theorem dX6_takeBack_19 : decode cX6_takeBack 19 = .ok (.if_icmp .eq 5, 3) := by decide +kernel
theorem dX6_takeBack_22 : decode cX6_takeBack 22 = .ok (.iconst 0, 1) := by decide +kernel
theorem dX6_takeBack_23 : decode cX6_takeBack 23 = .ok (.ireturn, 1) := by decide +kernel
theorem dX6_takeBack_24 : decode cX6_takeBack 24 = .ok (.aload_n 0, 1) := by decide +kernel
theorem dX6_takeBack_25 : decode cX6_takeBack 25 = .ok (.getfield 29, 3) := by decide +kernel
theorem dX6_takeBack_28 : decode cX6_takeBack 28 = .ok (.iload_n 1, 1) := by decide +kernel
theorem dX6_takeBack_29 : decode cX6_takeBack 29 = .ok (.iload_n 2, 1) := by decide +kernel
theorem dX6_takeBack_30 : decode cX6_takeBack 30 = .ok (.iastore, 1) := by decide +kernel
theorem dX6_takeBack_31 : decode cX6_takeBack 31 = .ok (.iconst 1, 1) := by decide +kernel
theorem dX6_takeBack_32 : decode cX6_takeBack 32 = .ok (.ireturn, 1) := by decide +kernel
set_option maxRecDepth 20000 in
theorem ggX6_foresee_X7_isKept : GoodIn wsX6_foresee wsX7_isKept := goodIn_r _ [13, 14, 86, 87, 88, 89, 90, 91, 92, 93] (by decide +kernel) (by decide +kernel)
set_option maxRecDepth 20000 in
theorem gX6_foresee_X7_isKept : GoodIn wsX6_foresee (wsV RX6 58 RX7 yX7_isKept wsX7_isKept) := goodIn_app (goodIn_of _ (by decide +kernel)) ggX6_foresee_X7_isKept
set_option maxRecDepth 20000 in
theorem ggX6_foresee_X4_outBehind : GoodIn wsX6_foresee wsX4_outBehind := goodIn_r _ [19, 20, 21, 22, 23, 18, 24, 25, 26, 27, 28, 29, 30, 31, 32, 33, 34, 10, 11, 12, 13, 14, 35, 36, 37, 38, 39, 40, 41, 42, 43, 44, 45, 46, 47, 48, 49, 50, 51, 52, 53, 54, 55, 56, 57, 58, 59, 60, 61, 86, 87, 88, 89, 90, 91, 92, 93, 75, 76, 77, 78, 79, 80, 81, 82, 83, 84, 85, 94, 95, 96] (by decide +kernel) (by decide +kernel)
set_option maxRecDepth 20000 in
theorem gX6_foresee_X4_outBehind : GoodIn wsX6_foresee (wsV RX6 65 RX4 yX4_outBehind wsX4_outBehind) := goodIn_app (goodIn_of _ (by decide +kernel)) ggX6_foresee_X4_outBehind
set_option maxRecDepth 20000 in
theorem ggX6_foresee_X4_outBehindAtWants : GoodIn wsX6_foresee wsX4_outBehindAtWants := goodIn_r _ [65, 20, 27, 21, 22, 23, 18, 24, 25, 26, 28, 29, 30, 31, 32, 33, 34, 10, 11, 12, 13, 14, 35, 36, 37, 38, 39, 40, 41, 42, 43, 44, 45, 46, 47, 48, 49, 50, 51, 52, 53, 54, 55, 56, 57, 58, 59, 60, 61, 86, 87, 88, 89, 90, 91, 92, 93, 75, 76, 77, 78, 79, 80, 81, 82, 83, 84, 85, 94, 95, 96] (by decide +kernel) (by decide +kernel)
set_option maxRecDepth 20000 in
theorem gX6_foresee_X4_outBehindAtWants : GoodIn wsX6_foresee (wsV RX6 68 RX4 yX4_outBehindAtWants wsX4_outBehindAtWants) := goodIn_app (goodIn_of _ (by decide +kernel)) ggX6_foresee_X4_outBehindAtWants
theorem dX6_foresee_0 : decode cX6_foresee 0 = .ok (.aload_n 0, 1) := by decide +kernel
theorem dX6_foresee_1 : decode cX6_foresee 1 = .ok (.getfield 35, 3) := by decide +kernel
theorem dX6_foresee_4 : decode cX6_foresee 4 = .ok (.ifCond .eq 4, 3) := by decide +kernel
theorem dX6_foresee_7 : decode cX6_foresee 7 = .ok (.return_, 1) := by decide +kernel
theorem dX6_foresee_8 : decode cX6_foresee 8 = .ok (.aload_n 0, 1) := by decide +kernel
theorem dX6_foresee_9 : decode cX6_foresee 9 = .ok (.iconst 1, 1) := by decide +kernel
theorem dX6_foresee_10 : decode cX6_foresee 10 = .ok (.putfield 35, 3) := by decide +kernel
theorem dX6_foresee_13 : decode cX6_foresee 13 = .ok (.aload_n 0, 1) := by decide +kernel
theorem dX6_foresee_14 : decode cX6_foresee 14 = .ok (.aload_n 1, 1) := by decide +kernel
theorem dX6_foresee_15 : decode cX6_foresee 15 = .ok (.getfield 42, 3) := by decide +kernel
theorem dX6_foresee_18 : decode cX6_foresee 18 = .ok (.ifCond .le 7, 3) := by decide +kernel
theorem dX6_foresee_21 : decode cX6_foresee 21 = .ok (.iconst 1, 1) := by decide +kernel
theorem dX6_foresee_22 : decode cX6_foresee 22 = .ok (.goto 4, 3) := by decide +kernel
theorem dX6_foresee_25 : decode cX6_foresee 25 = .ok (.iconst 0, 1) := by decide +kernel
theorem dX6_foresee_26 : decode cX6_foresee 26 = .ok (.putfield 39, 3) := by decide +kernel
theorem dX6_foresee_29 : decode cX6_foresee 29 = .ok (.iconst 0, 1) := by decide +kernel
theorem dX6_foresee_30 : decode cX6_foresee 30 = .ok (.istore_n 2, 1) := by decide +kernel
theorem dX6_foresee_31 : decode cX6_foresee 31 = .ok (.iload_n 2, 1) := by decide +kernel
theorem dX6_foresee_32 : decode cX6_foresee 32 = .ok (.aload_n 1, 1) := by decide +kernel
theorem dX6_foresee_33 : decode cX6_foresee 33 = .ok (.getfield 47, 3) := by decide +kernel
theorem dX6_foresee_36 : decode cX6_foresee 36 = .ok (.if_icmp .ge 119, 3) := by decide +kernel
theorem dX6_foresee_39 : decode cX6_foresee 39 = .ok (.aload_n 1, 1) := by decide +kernel
theorem dX6_foresee_40 : decode cX6_foresee 40 = .ok (.getfield 49, 3) := by decide +kernel
theorem dX6_foresee_43 : decode cX6_foresee 43 = .ok (.getfield 53, 3) := by decide +kernel
theorem dX6_foresee_46 : decode cX6_foresee 46 = .ok (.iload_n 2, 1) := by decide +kernel
theorem dX6_foresee_47 : decode cX6_foresee 47 = .ok (.iaload, 1) := by decide +kernel
theorem dX6_foresee_48 : decode cX6_foresee 48 = .ok (.istore_n 3, 1) := by decide +kernel
theorem dX6_foresee_49 : decode cX6_foresee 49 = .ok (.aload_n 1, 1) := by decide +kernel
theorem dX6_foresee_50 : decode cX6_foresee 50 = .ok (.getfield 49, 3) := by decide +kernel
theorem dX6_foresee_53 : decode cX6_foresee 53 = .ok (.iload_n 3, 1) := by decide +kernel
theorem dX6_foresee_54 : decode cX6_foresee 54 = .ok (.invokevirtual 58, 3) := by decide +kernel
theorem dX6_foresee_57 : decode cX6_foresee 57 = .ok (.ifCond .eq 25, 3) := by decide +kernel
theorem dX6_foresee_60 : decode cX6_foresee 60 = .ok (.aload_n 1, 1) := by decide +kernel
theorem dX6_foresee_61 : decode cX6_foresee 61 = .ok (.getfield 49, 3) := by decide +kernel
theorem dX6_foresee_64 : decode cX6_foresee 64 = .ok (.getfield 62, 3) := by decide +kernel
theorem dX6_foresee_67 : decode cX6_foresee 67 = .ok (.iload_n 3, 1) := by decide +kernel
theorem dX6_foresee_68 : decode cX6_foresee 68 = .ok (.iaload, 1) := by decide +kernel
theorem dX6_foresee_69 : decode cX6_foresee 69 = .ok (.aload_n 1, 1) := by decide +kernel
theorem dX6_foresee_70 : decode cX6_foresee 70 = .ok (.getfield 42, 3) := by decide +kernel
theorem dX6_foresee_73 : decode cX6_foresee 73 = .ok (.iconst 1, 1) := by decide +kernel
theorem dX6_foresee_74 : decode cX6_foresee 74 = .ok (.isub, 1) := by decide +kernel
theorem dX6_foresee_75 : decode cX6_foresee 75 = .ok (.if_icmp .ne 7, 3) := by decide +kernel
theorem dX6_foresee_78 : decode cX6_foresee 78 = .ok (.iconst 1, 1) := by decide +kernel
theorem dX6_foresee_79 : decode cX6_foresee 79 = .ok (.goto 4, 3) := by decide +kernel
theorem dX6_foresee_82 : decode cX6_foresee 82 = .ok (.iconst 0, 1) := by decide +kernel
theorem dX6_foresee_83 : decode cX6_foresee 83 = .ok (.istore 4, 2) := by decide +kernel
theorem dX6_foresee_85 : decode cX6_foresee 85 = .ok (.aload_n 1, 1) := by decide +kernel
theorem dX6_foresee_86 : decode cX6_foresee 86 = .ok (.aload_n 1, 1) := by decide +kernel
theorem dX6_foresee_87 : decode cX6_foresee 87 = .ok (.getfield 49, 3) := by decide +kernel
theorem dX6_foresee_90 : decode cX6_foresee 90 = .ok (.iload_n 2, 1) := by decide +kernel
theorem dX6_foresee_91 : decode cX6_foresee 91 = .ok (.bipush 9, 2) := by decide +kernel
theorem dX6_foresee_93 : decode cX6_foresee 93 = .ok (.invokevirtual 65, 3) := by decide +kernel
theorem dX6_foresee_96 : decode cX6_foresee 96 = .ok (.istore 5, 2) := by decide +kernel
theorem dX6_foresee_98 : decode cX6_foresee 98 = .ok (.iconst 0, 1) := by decide +kernel
theorem dX6_foresee_99 : decode cX6_foresee 99 = .ok (.istore 6, 2) := by decide +kernel
theorem dX6_foresee_101 : decode cX6_foresee 101 = .ok (.iload 6, 2) := by decide +kernel
theorem dX6_foresee_103 : decode cX6_foresee 103 = .ok (.bipush 100, 2) := by decide +kernel
theorem dX6_foresee_105 : decode cX6_foresee 105 = .ok (.if_icmp .ge 44, 3) := by decide +kernel
theorem dX6_foresee_108 : decode cX6_foresee 108 = .ok (.aload_n 0, 1) := by decide +kernel
theorem dX6_foresee_109 : decode cX6_foresee 109 = .ok (.getfield 32, 3) := by decide +kernel
theorem dX6_foresee_112 : decode cX6_foresee 112 = .ok (.iload 6, 2) := by decide +kernel
theorem dX6_foresee_114 : decode cX6_foresee 114 = .ok (.bipush 7, 2) := by decide +kernel
theorem dX6_foresee_116 : decode cX6_foresee 116 = .ok (.imul, 1) := by decide +kernel
theorem dX6_foresee_117 : decode cX6_foresee 117 = .ok (.iload_n 2, 1) := by decide +kernel
theorem dX6_foresee_118 : decode cX6_foresee 118 = .ok (.iadd, 1) := by decide +kernel
theorem dX6_foresee_119 : decode cX6_foresee 119 = .ok (.iload 4, 2) := by decide +kernel
theorem dX6_foresee_121 : decode cX6_foresee 121 = .ok (.ifCond .eq 19, 3) := by decide +kernel
theorem dX6_foresee_124 : decode cX6_foresee 124 = .ok (.aload_n 1, 1) := by decide +kernel
theorem dX6_foresee_125 : decode cX6_foresee 125 = .ok (.aload_n 1, 1) := by decide +kernel
theorem dX6_foresee_126 : decode cX6_foresee 126 = .ok (.getfield 49, 3) := by decide +kernel
theorem dX6_foresee_129 : decode cX6_foresee 129 = .ok (.iload_n 2, 1) := by decide +kernel
theorem dX6_foresee_130 : decode cX6_foresee 130 = .ok (.iload 6, 2) := by decide +kernel
theorem dX6_foresee_132 : decode cX6_foresee 132 = .ok (.bipush 9, 2) := by decide +kernel
theorem dX6_foresee_134 : decode cX6_foresee 134 = .ok (.invokevirtual 68, 3) := by decide +kernel
theorem dX6_foresee_137 : decode cX6_foresee 137 = .ok (.goto 5, 3) := by decide +kernel
theorem dX6_foresee_140 : decode cX6_foresee 140 = .ok (.iload 5, 2) := by decide +kernel
theorem dX6_foresee_142 : decode cX6_foresee 142 = .ok (.iastore, 1) := by decide +kernel
theorem dX6_foresee_143 : decode cX6_foresee 143 = .ok (.iinc 6 1, 3) := by decide +kernel
theorem dX6_foresee_146 : decode cX6_foresee 146 = .ok (.goto (-45), 3) := by decide +kernel
theorem dX6_foresee_149 : decode cX6_foresee 149 = .ok (.iinc 2 1, 3) := by decide +kernel
theorem dX6_foresee_152 : decode cX6_foresee 152 = .ok (.goto (-121), 3) := by decide +kernel
theorem dX6_foresee_155 : decode cX6_foresee 155 = .ok (.return_, 1) := by decide +kernel
set_option maxRecDepth 20000 in
theorem ggX6_allow_X6_counts : GoodIn wsX6_allow wsX6_counts := goodIn_r _ [10, 11, 12, 18, 19, 20, 21, 22, 23, 24, 25, 26] (by decide +kernel) (by decide +kernel)
set_option maxRecDepth 20000 in
theorem gX6_allow_X6_counts : GoodIn wsX6_allow (wsV RX6 72 RX6 yX6_counts wsX6_counts) := goodIn_app (goodIn_of _ (by decide +kernel)) ggX6_allow_X6_counts
set_option maxRecDepth 20000 in
theorem ggX6_allow_X6_isInside : GoodIn wsX6_allow wsX6_isInside := goodIn_r _ [16, 17, 18, 19, 20, 21, 22, 23, 24, 25, 26] (by decide +kernel) (by decide +kernel)
set_option maxRecDepth 20000 in
theorem gX6_allow_X6_isInside : GoodIn wsX6_allow (wsV RX6 76 RX6 yX6_isInside wsX6_isInside) := goodIn_app (goodIn_of _ (by decide +kernel)) ggX6_allow_X6_isInside
theorem dX6_allow_0 : decode cX6_allow 0 = .ok (.iconst 0, 1) := by decide +kernel
theorem dX6_allow_1 : decode cX6_allow 1 = .ok (.istore_n 3, 1) := by decide +kernel
theorem dX6_allow_2 : decode cX6_allow 2 = .ok (.iload_n 3, 1) := by decide +kernel
theorem dX6_allow_3 : decode cX6_allow 3 = .ok (.aload_n 0, 1) := by decide +kernel
theorem dX6_allow_4 : decode cX6_allow 4 = .ok (.getfield 9, 3) := by decide +kernel
theorem dX6_allow_7 : decode cX6_allow 7 = .ok (.if_icmp .ge 46, 3) := by decide +kernel
theorem dX6_allow_10 : decode cX6_allow 10 = .ok (.aload_n 0, 1) := by decide +kernel
theorem dX6_allow_11 : decode cX6_allow 11 = .ok (.iload_n 3, 1) := by decide +kernel
theorem dX6_allow_12 : decode cX6_allow 12 = .ok (.iload_n 2, 1) := by decide +kernel
theorem dX6_allow_13 : decode cX6_allow 13 = .ok (.invokevirtual 72, 3) := by decide +kernel
theorem dX6_allow_16 : decode cX6_allow 16 = .ok (.ifCond .eq 31, 3) := by decide +kernel
theorem dX6_allow_19 : decode cX6_allow 19 = .ok (.aload_n 0, 1) := by decide +kernel
theorem dX6_allow_20 : decode cX6_allow 20 = .ok (.iload_n 1, 1) := by decide +kernel
theorem dX6_allow_21 : decode cX6_allow 21 = .ok (.aload_n 0, 1) := by decide +kernel
theorem dX6_allow_22 : decode cX6_allow 22 = .ok (.getfield 19, 3) := by decide +kernel
theorem dX6_allow_25 : decode cX6_allow 25 = .ok (.iload_n 3, 1) := by decide +kernel
theorem dX6_allow_26 : decode cX6_allow 26 = .ok (.iaload, 1) := by decide +kernel
theorem dX6_allow_27 : decode cX6_allow 27 = .ok (.aload_n 0, 1) := by decide +kernel
theorem dX6_allow_28 : decode cX6_allow 28 = .ok (.getfield 15, 3) := by decide +kernel
theorem dX6_allow_31 : decode cX6_allow 31 = .ok (.iload_n 3, 1) := by decide +kernel
theorem dX6_allow_32 : decode cX6_allow 32 = .ok (.iaload, 1) := by decide +kernel
theorem dX6_allow_33 : decode cX6_allow 33 = .ok (.invokevirtual 76, 3) := by decide +kernel
theorem dX6_allow_36 : decode cX6_allow 36 = .ok (.aload_n 0, 1) := by decide +kernel
theorem dX6_allow_37 : decode cX6_allow 37 = .ok (.getfield 22, 3) := by decide +kernel
theorem dX6_allow_40 : decode cX6_allow 40 = .ok (.iload_n 3, 1) := by decide +kernel
theorem dX6_allow_41 : decode cX6_allow 41 = .ok (.baload, 1) := by decide +kernel
theorem dX6_allow_42 : decode cX6_allow 42 = .ok (.if_icmp .eq 5, 3) := by decide +kernel
theorem dX6_allow_45 : decode cX6_allow 45 = .ok (.iconst 0, 1) := by decide +kernel
theorem dX6_allow_46 : decode cX6_allow 46 = .ok (.ireturn, 1) := by decide +kernel
theorem dX6_allow_47 : decode cX6_allow 47 = .ok (.iinc 3 1, 3) := by decide +kernel
theorem dX6_allow_50 : decode cX6_allow 50 = .ok (.goto (-48), 3) := by decide +kernel
theorem dX6_allow_53 : decode cX6_allow 53 = .ok (.aload_n 0, 1) := by decide +kernel
theorem dX6_allow_54 : decode cX6_allow 54 = .ok (.getfield 39, 3) := by decide +kernel
theorem dX6_allow_57 : decode cX6_allow 57 = .ok (.ireturn, 1) := by decide +kernel
set_option maxRecDepth 20000 in
theorem ggX6_countInside_X6_isInside : GoodIn wsX6_countInside wsX6_isInside := goodIn_r _ [5, 6, 22, 23, 24, 25, 26, 27, 28, 29, 30] (by decide +kernel) (by decide +kernel)
set_option maxRecDepth 20000 in
theorem gX6_countInside_X6_isInside : GoodIn wsX6_countInside (wsV RX6 76 RX6 yX6_isInside wsX6_isInside) := goodIn_app (goodIn_of _ (by decide +kernel)) ggX6_countInside_X6_isInside
set_option maxRecDepth 20000 in
theorem ggX6_countInside_X6_allow : GoodIn wsX6_countInside wsX6_allow := goodIn_r _ [10, 11, 12, 13, 14, 15, 16, 17, 18, 4, 19, 20, 21, 1, 2, 3, 5, 6, 22, 23, 24, 25, 26, 27, 28, 29, 30] (by decide +kernel) (by decide +kernel)
set_option maxRecDepth 20000 in
theorem gX6_countInside_X6_allow : GoodIn wsX6_countInside (wsV RX6 80 RX6 yX6_allow wsX6_allow) := goodIn_app (goodIn_of _ (by decide +kernel)) ggX6_countInside_X6_allow
theorem dX6_countInside_0 : decode cX6_countInside 0 = .ok (.iconst 0, 1) := by decide +kernel
theorem dX6_countInside_1 : decode cX6_countInside 1 = .ok (.istore 4, 2) := by decide +kernel
theorem dX6_countInside_3 : decode cX6_countInside 3 = .ok (.iconst 0, 1) := by decide +kernel
theorem dX6_countInside_4 : decode cX6_countInside 4 = .ok (.istore 5, 2) := by decide +kernel
theorem dX6_countInside_6 : decode cX6_countInside 6 = .ok (.iload 5, 2) := by decide +kernel
theorem dX6_countInside_8 : decode cX6_countInside 8 = .ok (.bipush 100, 2) := by decide +kernel
theorem dX6_countInside_10 : decode cX6_countInside 10 = .ok (.if_icmp .ge 33, 3) := by decide +kernel
theorem dX6_countInside_13 : decode cX6_countInside 13 = .ok (.aload_n 0, 1) := by decide +kernel
theorem dX6_countInside_14 : decode cX6_countInside 14 = .ok (.iload 5, 2) := by decide +kernel
theorem dX6_countInside_16 : decode cX6_countInside 16 = .ok (.iload_n 1, 1) := by decide +kernel
theorem dX6_countInside_17 : decode cX6_countInside 17 = .ok (.iload_n 2, 1) := by decide +kernel
theorem dX6_countInside_18 : decode cX6_countInside 18 = .ok (.invokevirtual 76, 3) := by decide +kernel
theorem dX6_countInside_21 : decode cX6_countInside 21 = .ok (.ifCond .eq 16, 3) := by decide +kernel
theorem dX6_countInside_24 : decode cX6_countInside 24 = .ok (.aload_n 0, 1) := by decide +kernel
theorem dX6_countInside_25 : decode cX6_countInside 25 = .ok (.iload 5, 2) := by decide +kernel
theorem dX6_countInside_27 : decode cX6_countInside 27 = .ok (.iload_n 3, 1) := by decide +kernel
theorem dX6_countInside_28 : decode cX6_countInside 28 = .ok (.invokevirtual 80, 3) := by decide +kernel
theorem dX6_countInside_31 : decode cX6_countInside 31 = .ok (.ifCond .eq 6, 3) := by decide +kernel
theorem dX6_countInside_34 : decode cX6_countInside 34 = .ok (.iinc 4 1, 3) := by decide +kernel
theorem dX6_countInside_37 : decode cX6_countInside 37 = .ok (.iinc 5 1, 3) := by decide +kernel
theorem dX6_countInside_40 : decode cX6_countInside 40 = .ok (.goto (-34), 3) := by decide +kernel
theorem dX6_countInside_43 : decode cX6_countInside 43 = .ok (.iload 4, 2) := by decide +kernel
theorem dX6_countInside_45 : decode cX6_countInside 45 = .ok (.ireturn, 1) := by decide +kernel
theorem dX6_counts_0 : decode cX6_counts 0 = .ok (.aload_n 0, 1) := by decide +kernel
theorem dX6_counts_1 : decode cX6_counts 1 = .ok (.getfield 26, 3) := by decide +kernel
theorem dX6_counts_4 : decode cX6_counts 4 = .ok (.iload_n 1, 1) := by decide +kernel
theorem dX6_counts_5 : decode cX6_counts 5 = .ok (.iaload, 1) := by decide +kernel
theorem dX6_counts_6 : decode cX6_counts 6 = .ok (.iload_n 2, 1) := by decide +kernel
theorem dX6_counts_7 : decode cX6_counts 7 = .ok (.if_icmp .gt 27, 3) := by decide +kernel
theorem dX6_counts_10 : decode cX6_counts 10 = .ok (.aload_n 0, 1) := by decide +kernel
theorem dX6_counts_11 : decode cX6_counts 11 = .ok (.getfield 29, 3) := by decide +kernel
theorem dX6_counts_14 : decode cX6_counts 14 = .ok (.iload_n 1, 1) := by decide +kernel
theorem dX6_counts_15 : decode cX6_counts 15 = .ok (.iaload, 1) := by decide +kernel
theorem dX6_counts_16 : decode cX6_counts 16 = .ok (.iconst (-1), 1) := by decide +kernel
theorem dX6_counts_17 : decode cX6_counts 17 = .ok (.if_icmp .eq 13, 3) := by decide +kernel
theorem dX6_counts_20 : decode cX6_counts 20 = .ok (.aload_n 0, 1) := by decide +kernel
theorem dX6_counts_21 : decode cX6_counts 21 = .ok (.getfield 29, 3) := by decide +kernel
theorem dX6_counts_24 : decode cX6_counts 24 = .ok (.iload_n 1, 1) := by decide +kernel
theorem dX6_counts_25 : decode cX6_counts 25 = .ok (.iaload, 1) := by decide +kernel
theorem dX6_counts_26 : decode cX6_counts 26 = .ok (.iload_n 2, 1) := by decide +kernel
theorem dX6_counts_27 : decode cX6_counts 27 = .ok (.if_icmp .le 7, 3) := by decide +kernel
theorem dX6_counts_30 : decode cX6_counts 30 = .ok (.iconst 1, 1) := by decide +kernel
theorem dX6_counts_31 : decode cX6_counts 31 = .ok (.goto 4, 3) := by decide +kernel
theorem dX6_counts_34 : decode cX6_counts 34 = .ok (.iconst 0, 1) := by decide +kernel
theorem dX6_counts_35 : decode cX6_counts 35 = .ok (.ireturn, 1) := by decide +kernel
theorem dX6_isInside_0 : decode cX6_isInside 0 = .ok (.aload_n 0, 1) := by decide +kernel
theorem dX6_isInside_1 : decode cX6_isInside 1 = .ok (.getfield 32, 3) := by decide +kernel
theorem dX6_isInside_4 : decode cX6_isInside 4 = .ok (.iload_n 1, 1) := by decide +kernel
theorem dX6_isInside_5 : decode cX6_isInside 5 = .ok (.bipush 7, 2) := by decide +kernel
theorem dX6_isInside_7 : decode cX6_isInside 7 = .ok (.imul, 1) := by decide +kernel
theorem dX6_isInside_8 : decode cX6_isInside 8 = .ok (.iload_n 2, 1) := by decide +kernel
theorem dX6_isInside_9 : decode cX6_isInside 9 = .ok (.iadd, 1) := by decide +kernel
theorem dX6_isInside_10 : decode cX6_isInside 10 = .ok (.iaload, 1) := by decide +kernel
theorem dX6_isInside_11 : decode cX6_isInside 11 = .ok (.iload_n 3, 1) := by decide +kernel
theorem dX6_isInside_12 : decode cX6_isInside 12 = .ok (.if_icmp .le 7, 3) := by decide +kernel
theorem dX6_isInside_15 : decode cX6_isInside 15 = .ok (.iconst 1, 1) := by decide +kernel
theorem dX6_isInside_16 : decode cX6_isInside 16 = .ok (.goto 4, 3) := by decide +kernel
theorem dX6_isInside_19 : decode cX6_isInside 19 = .ok (.iconst 0, 1) := by decide +kernel
theorem dX6_isInside_20 : decode cX6_isInside 20 = .ok (.ireturn, 1) := by decide +kernel
set_option maxRecDepth 20000 in
theorem ggX7_empty_J7_fill_53178 : GoodIn wsX7_empty wsJ7_fill_53178 := goodIn_r _ [12] (by decide +kernel) (by decide +kernel)
set_option maxRecDepth 20000 in
theorem gX7_empty_J7_fill_53178 : GoodIn wsX7_empty (va_wsS RX7 37 yJ7_fill_53178 wsJ7_fill_53178) := goodIn_app (goodIn_of _ (by decide +kernel)) ggX7_empty_J7_fill_53178
theorem dX7_empty_0 : decode cX7_empty 0 = .ok (.aload_n 0, 1) := by decide +kernel
theorem dX7_empty_1 : decode cX7_empty 1 = .ok (.getfield 9, 3) := by decide +kernel
theorem dX7_empty_4 : decode cX7_empty 4 = .ok (.iconst (-1), 1) := by decide +kernel
theorem dX7_empty_5 : decode cX7_empty 5 = .ok (.invokestatic 37, 3) := by decide +kernel
theorem dX7_empty_8 : decode cX7_empty 8 = .ok (.aload_n 0, 1) := by decide +kernel
theorem dX7_empty_9 : decode cX7_empty 9 = .ok (.getfield 15, 3) := by decide +kernel
theorem dX7_empty_12 : decode cX7_empty 12 = .ok (.iconst (-1), 1) := by decide +kernel
theorem dX7_empty_13 : decode cX7_empty 13 = .ok (.invokestatic 37, 3) := by decide +kernel
theorem dX7_empty_16 : decode cX7_empty 16 = .ok (.aload_n 0, 1) := by decide +kernel
theorem dX7_empty_17 : decode cX7_empty 17 = .ok (.getfield 18, 3) := by decide +kernel
theorem dX7_empty_20 : decode cX7_empty 20 = .ok (.iconst 0, 1) := by decide +kernel
theorem dX7_empty_21 : decode cX7_empty 21 = .ok (.invokestatic 37, 3) := by decide +kernel
theorem dX7_empty_24 : decode cX7_empty 24 = .ok (.aload_n 0, 1) := by decide +kernel
theorem dX7_empty_25 : decode cX7_empty 25 = .ok (.getfield 21, 3) := by decide +kernel
theorem dX7_empty_28 : decode cX7_empty 28 = .ok (.iconst 0, 1) := by decide +kernel
theorem dX7_empty_29 : decode cX7_empty 29 = .ok (.invokestatic 37, 3) := by decide +kernel
theorem dX7_empty_32 : decode cX7_empty 32 = .ok (.aload_n 0, 1) := by decide +kernel
theorem dX7_empty_33 : decode cX7_empty 33 = .ok (.getfield 24, 3) := by decide +kernel
theorem dX7_empty_36 : decode cX7_empty 36 = .ok (.iconst 0, 1) := by decide +kernel
theorem dX7_empty_37 : decode cX7_empty 37 = .ok (.invokestatic 37, 3) := by decide +kernel
theorem dX7_empty_40 : decode cX7_empty 40 = .ok (.aload_n 0, 1) := by decide +kernel
theorem dX7_empty_41 : decode cX7_empty 41 = .ok (.iconst 0, 1) := by decide +kernel
theorem dX7_empty_42 : decode cX7_empty 42 = .ok (.putfield 27, 3) := by decide +kernel
theorem dX7_empty_45 : decode cX7_empty 45 = .ok (.aload_n 0, 1) := by decide +kernel
theorem dX7_empty_46 : decode cX7_empty 46 = .ok (.iconst 0, 1) := by decide +kernel
theorem dX7_empty_47 : decode cX7_empty 47 = .ok (.putfield 31, 3) := by decide +kernel
theorem dX7_empty_50 : decode cX7_empty 50 = .ok (.aload_n 0, 1) := by decide +kernel
theorem dX7_empty_51 : decode cX7_empty 51 = .ok (.iconst 0, 1) := by decide +kernel
theorem dX7_empty_52 : decode cX7_empty 52 = .ok (.putfield 34, 3) := by decide +kernel
theorem dX7_empty_55 : decode cX7_empty 55 = .ok (.return_, 1) := by decide +kernel
theorem dJ6_bitCount_0f7a4_0 : decode cJ6_bitCount_0f7a4 0 = .ok (.iload_n 0, 1) := by decide +kernel
theorem dJ6_bitCount_0f7a4_1 : decode cJ6_bitCount_0f7a4 1 = .ok (.iload_n 0, 1) := by decide +kernel
theorem dJ6_bitCount_0f7a4_2 : decode cJ6_bitCount_0f7a4 2 = .ok (.iconst 1, 1) := by decide +kernel
theorem dJ6_bitCount_0f7a4_3 : decode cJ6_bitCount_0f7a4 3 = .ok (.iushr, 1) := by decide +kernel
theorem dJ6_bitCount_0f7a4_4 : decode cJ6_bitCount_0f7a4 4 = .ok (.ldc_w 265, 3) := by decide +kernel
theorem dJ6_bitCount_0f7a4_7 : decode cJ6_bitCount_0f7a4 7 = .ok (.iand, 1) := by decide +kernel
theorem dJ6_bitCount_0f7a4_8 : decode cJ6_bitCount_0f7a4 8 = .ok (.isub, 1) := by decide +kernel
theorem dJ6_bitCount_0f7a4_9 : decode cJ6_bitCount_0f7a4 9 = .ok (.istore_n 0, 1) := by decide +kernel
theorem dJ6_bitCount_0f7a4_10 : decode cJ6_bitCount_0f7a4 10 = .ok (.iload_n 0, 1) := by decide +kernel
theorem dJ6_bitCount_0f7a4_11 : decode cJ6_bitCount_0f7a4 11 = .ok (.ldc_w 266, 3) := by decide +kernel
theorem dJ6_bitCount_0f7a4_14 : decode cJ6_bitCount_0f7a4 14 = .ok (.iand, 1) := by decide +kernel
theorem dJ6_bitCount_0f7a4_15 : decode cJ6_bitCount_0f7a4 15 = .ok (.iload_n 0, 1) := by decide +kernel
theorem dJ6_bitCount_0f7a4_16 : decode cJ6_bitCount_0f7a4 16 = .ok (.iconst 2, 1) := by decide +kernel
theorem dJ6_bitCount_0f7a4_17 : decode cJ6_bitCount_0f7a4 17 = .ok (.iushr, 1) := by decide +kernel
theorem dJ6_bitCount_0f7a4_18 : decode cJ6_bitCount_0f7a4 18 = .ok (.ldc_w 266, 3) := by decide +kernel
theorem dJ6_bitCount_0f7a4_21 : decode cJ6_bitCount_0f7a4 21 = .ok (.iand, 1) := by decide +kernel
theorem dJ6_bitCount_0f7a4_22 : decode cJ6_bitCount_0f7a4 22 = .ok (.iadd, 1) := by decide +kernel
theorem dJ6_bitCount_0f7a4_23 : decode cJ6_bitCount_0f7a4 23 = .ok (.istore_n 0, 1) := by decide +kernel
theorem dJ6_bitCount_0f7a4_24 : decode cJ6_bitCount_0f7a4 24 = .ok (.iload_n 0, 1) := by decide +kernel
theorem dJ6_bitCount_0f7a4_25 : decode cJ6_bitCount_0f7a4 25 = .ok (.iload_n 0, 1) := by decide +kernel
theorem dJ6_bitCount_0f7a4_26 : decode cJ6_bitCount_0f7a4 26 = .ok (.iconst 4, 1) := by decide +kernel
theorem dJ6_bitCount_0f7a4_27 : decode cJ6_bitCount_0f7a4 27 = .ok (.iushr, 1) := by decide +kernel
theorem dJ6_bitCount_0f7a4_28 : decode cJ6_bitCount_0f7a4 28 = .ok (.iadd, 1) := by decide +kernel
theorem dJ6_bitCount_0f7a4_29 : decode cJ6_bitCount_0f7a4 29 = .ok (.ldc_w 267, 3) := by decide +kernel
theorem dJ6_bitCount_0f7a4_32 : decode cJ6_bitCount_0f7a4 32 = .ok (.iand, 1) := by decide +kernel
theorem dJ6_bitCount_0f7a4_33 : decode cJ6_bitCount_0f7a4 33 = .ok (.istore_n 0, 1) := by decide +kernel
theorem dJ6_bitCount_0f7a4_34 : decode cJ6_bitCount_0f7a4 34 = .ok (.iload_n 0, 1) := by decide +kernel
theorem dJ6_bitCount_0f7a4_35 : decode cJ6_bitCount_0f7a4 35 = .ok (.iload_n 0, 1) := by decide +kernel
theorem dJ6_bitCount_0f7a4_36 : decode cJ6_bitCount_0f7a4 36 = .ok (.bipush 8, 2) := by decide +kernel
theorem dJ6_bitCount_0f7a4_38 : decode cJ6_bitCount_0f7a4 38 = .ok (.iushr, 1) := by decide +kernel
theorem dJ6_bitCount_0f7a4_39 : decode cJ6_bitCount_0f7a4 39 = .ok (.iadd, 1) := by decide +kernel
theorem dJ6_bitCount_0f7a4_40 : decode cJ6_bitCount_0f7a4 40 = .ok (.istore_n 0, 1) := by decide +kernel
theorem dJ6_bitCount_0f7a4_41 : decode cJ6_bitCount_0f7a4 41 = .ok (.iload_n 0, 1) := by decide +kernel
theorem dJ6_bitCount_0f7a4_42 : decode cJ6_bitCount_0f7a4 42 = .ok (.iload_n 0, 1) := by decide +kernel
theorem dJ6_bitCount_0f7a4_43 : decode cJ6_bitCount_0f7a4 43 = .ok (.bipush 16, 2) := by decide +kernel
theorem dJ6_bitCount_0f7a4_45 : decode cJ6_bitCount_0f7a4 45 = .ok (.iushr, 1) := by decide +kernel
theorem dJ6_bitCount_0f7a4_46 : decode cJ6_bitCount_0f7a4 46 = .ok (.iadd, 1) := by decide +kernel
theorem dJ6_bitCount_0f7a4_47 : decode cJ6_bitCount_0f7a4 47 = .ok (.istore_n 0, 1) := by decide +kernel
theorem dJ6_bitCount_0f7a4_48 : decode cJ6_bitCount_0f7a4 48 = .ok (.iload_n 0, 1) := by decide +kernel
theorem dJ6_bitCount_0f7a4_49 : decode cJ6_bitCount_0f7a4 49 = .ok (.bipush 63, 2) := by decide +kernel
theorem dJ6_bitCount_0f7a4_51 : decode cJ6_bitCount_0f7a4 51 = .ok (.iand, 1) := by decide +kernel
theorem dJ6_bitCount_0f7a4_52 : decode cJ6_bitCount_0f7a4 52 = .ok (.ireturn, 1) := by decide +kernel
theorem dJ7_fill_53178_0 : decode cJ7_fill_53178 0 = .ok (.iconst 0, 1) := by decide +kernel
theorem dJ7_fill_53178_1 : decode cJ7_fill_53178 1 = .ok (.istore_n 2, 1) := by decide +kernel
theorem dJ7_fill_53178_2 : decode cJ7_fill_53178 2 = .ok (.aload_n 0, 1) := by decide +kernel
theorem dJ7_fill_53178_3 : decode cJ7_fill_53178 3 = .ok (.arraylength, 1) := by decide +kernel
theorem dJ7_fill_53178_4 : decode cJ7_fill_53178 4 = .ok (.istore_n 3, 1) := by decide +kernel
theorem dJ7_fill_53178_5 : decode cJ7_fill_53178 5 = .ok (.iload_n 2, 1) := by decide +kernel
theorem dJ7_fill_53178_6 : decode cJ7_fill_53178 6 = .ok (.iload_n 3, 1) := by decide +kernel
theorem dJ7_fill_53178_7 : decode cJ7_fill_53178 7 = .ok (.if_icmp .ge 13, 3) := by decide +kernel
theorem dJ7_fill_53178_10 : decode cJ7_fill_53178 10 = .ok (.aload_n 0, 1) := by decide +kernel
theorem dJ7_fill_53178_11 : decode cJ7_fill_53178 11 = .ok (.iload_n 2, 1) := by decide +kernel
theorem dJ7_fill_53178_12 : decode cJ7_fill_53178 12 = .ok (.iload_n 1, 1) := by decide +kernel
theorem dJ7_fill_53178_13 : decode cJ7_fill_53178 13 = .ok (.iastore, 1) := by decide +kernel
theorem dJ7_fill_53178_14 : decode cJ7_fill_53178 14 = .ok (.iinc 2 1, 3) := by decide +kernel
theorem dJ7_fill_53178_17 : decode cJ7_fill_53178 17 = .ok (.goto (-12), 3) := by decide +kernel
theorem dJ7_fill_53178_20 : decode cJ7_fill_53178 20 = .ok (.return_, 1) := by decide +kernel
theorem iX7_empty_X7 : ∀ w ∈ wsX70, w ∈ wsX7_empty := (fun _ h => List.mem_cons_of_mem _ (List.mem_append_right _ h))
theorem iX4_empty_X4 : ∀ w ∈ wsX40, w ∈ wsX4_empty := (fun _ h => List.mem_cons_of_mem _ (List.mem_append_left _ (List.mem_append_left _ (List.mem_append_right _ h))))
theorem iX4_roomsOf_X4 : ∀ w ∈ wsX40, w ∈ wsX4_roomsOf := (fun _ h => List.mem_cons_of_mem _ (List.mem_append_left _ (List.mem_append_right _ h)))
theorem iX4_roomsOf_X7 : ∀ w ∈ wsX70, w ∈ wsX4_roomsOf := (fun _ h => List.mem_cons_of_mem _ (List.mem_append_right _ h))
theorem iX4_tenantsOf_X4 : ∀ w ∈ wsX40, w ∈ wsX4_tenantsOf := (fun _ h => List.mem_cons_of_mem _ (List.mem_append_left _ (List.mem_append_right _ h)))
theorem iX4_tenantsOf_X7 : ∀ w ∈ wsX70, w ∈ wsX4_tenantsOf := (fun _ h => List.mem_cons_of_mem _ (List.mem_append_right _ h))
theorem iX4_whoIsIn_X4 : ∀ w ∈ wsX40, w ∈ wsX4_whoIsIn := (fun _ h => List.mem_cons_of_mem _ (List.mem_append_left _ (List.mem_append_right _ h)))
theorem iX4_whoIsIn_X7 : ∀ w ∈ wsX70, w ∈ wsX4_whoIsIn := (fun _ h => List.mem_cons_of_mem _ (List.mem_append_right _ h))
theorem iX4_whoIsOut_X4 : ∀ w ∈ wsX40, w ∈ wsX4_whoIsOut := (fun _ h => List.mem_cons_of_mem _ (List.mem_append_left _ (List.mem_append_right _ h)))
theorem iX4_whoIsOut_X7 : ∀ w ∈ wsX70, w ∈ wsX4_whoIsOut := (fun _ h => List.mem_cons_of_mem _ (List.mem_append_right _ h))
theorem iX4_consider_X4 : ∀ w ∈ wsX40, w ∈ wsX4_consider := (fun _ h => List.mem_cons_of_mem _ (List.mem_append_left _ (List.mem_append_right _ h)))
theorem iX4_consider_X7 : ∀ w ∈ wsX70, w ∈ wsX4_consider := (fun _ h => List.mem_cons_of_mem _ (List.mem_append_right _ h))
theorem iX4_likes_X4 : ∀ w ∈ wsX40, w ∈ wsX4_likes := (fun _ h => List.mem_cons_of_mem _ (List.mem_append_left _ (List.mem_append_left _ (List.mem_append_right _ h))))
theorem iX4_likesBy_X4 : ∀ w ∈ wsX40, w ∈ wsX4_likesBy := (fun _ h => List.mem_cons_of_mem _ (List.mem_append_left _ (List.mem_append_right _ h)))
theorem iX4_thrownOut_X4 : ∀ w ∈ wsX40, w ∈ wsX4_thrownOut := (fun _ h => List.mem_cons_of_mem _ (List.mem_append_left _ (List.mem_append_left _ (List.mem_append_right _ h))))
theorem iX4_thrownOut_X7 : ∀ w ∈ wsX70, w ∈ wsX4_thrownOut := (fun _ h => List.mem_cons_of_mem _ (List.mem_append_left _ (List.mem_append_right _ h)))
theorem iX4_thrownOutAt_X4 : ∀ w ∈ wsX40, w ∈ wsX4_thrownOutAt := (fun _ h => List.mem_cons_of_mem _ (List.mem_append_left _ (List.mem_append_left _ (List.mem_append_right _ h))))
theorem iX4_thrownOutAt_X7 : ∀ w ∈ wsX70, w ∈ wsX4_thrownOutAt := (fun _ h => List.mem_cons_of_mem _ (List.mem_append_left _ (List.mem_append_right _ h)))
theorem iX4_livingHeir_X4 : ∀ w ∈ wsX40, w ∈ wsX4_livingHeir := (fun _ h => List.mem_cons_of_mem _ (List.mem_append_right _ h))
theorem iX4_die_X7 : ∀ w ∈ wsX70, w ∈ wsX4_die := (fun _ h => List.mem_cons_of_mem _ (List.mem_append_left _ (List.mem_append_right _ h)))
theorem iX4_die_X4 : ∀ w ∈ wsX40, w ∈ wsX4_die := (fun _ h => List.mem_cons_of_mem _ (List.mem_append_right _ h))
theorem iX4_draw_X4 : ∀ w ∈ wsX40, w ∈ wsX4_draw := (fun _ h => List.mem_cons_of_mem _ (List.mem_append_left _ (List.mem_append_right _ h)))
theorem iX4_draw_X7 : ∀ w ∈ wsX70, w ∈ wsX4_draw := (fun _ h => List.mem_cons_of_mem _ (List.mem_append_right _ h))
theorem iX4_pass_X4 : ∀ w ∈ wsX40, w ∈ wsX4_pass := (fun _ h => List.mem_cons_of_mem _ (List.mem_append_left _ (List.mem_append_left _ (List.mem_append_right _ h))))
theorem iX4_pass_X7 : ∀ w ∈ wsX70, w ∈ wsX4_pass := (fun _ h => List.mem_cons_of_mem _ (List.mem_append_left _ (List.mem_append_right _ h)))
theorem iX4_outBehindAsConsidered_X7 : ∀ w ∈ wsX70, w ∈ wsX4_outBehindAsConsidered := (fun _ h => List.mem_cons_of_mem _ (List.mem_append_left _ (List.mem_append_left _ (List.mem_append_right _ h))))
theorem iX4_outBehindAsConsidered_X4 : ∀ w ∈ wsX40, w ∈ wsX4_outBehindAsConsidered := (fun _ h => List.mem_cons_of_mem _ (List.mem_append_left _ (List.mem_append_right _ h)))
theorem iX4_outBehind_X7 : ∀ w ∈ wsX70, w ∈ wsX4_outBehind := (fun _ h => List.mem_cons_of_mem _ (List.mem_append_left _ (List.mem_append_left _ (List.mem_append_right _ h))))
theorem iX4_outBehindAtWants_X7 : ∀ w ∈ wsX70, w ∈ wsX4_outBehindAtWants := (fun _ h => List.mem_cons_of_mem _ (List.mem_append_left _ (List.mem_append_left _ (List.mem_append_right _ h))))
theorem iX4_outBehindAtWants_X4 : ∀ w ∈ wsX40, w ∈ wsX4_outBehindAtWants := (fun _ h => List.mem_cons_of_mem _ (List.mem_append_left _ (List.mem_append_right _ h)))
theorem iX3_withRoom_X3 : ∀ w ∈ wsX30, w ∈ wsX3_withRoom := (fun _ h => List.mem_cons_of_mem _ (List.mem_append_right _ h))
theorem iX3_bestFor_X3 : ∀ w ∈ wsX30, w ∈ wsX3_bestFor := (fun _ h => List.mem_cons_of_mem _ (List.mem_append_right _ h))
theorem iX3_weigh_X3 : ∀ w ∈ wsX30, w ∈ wsX3_weigh := (fun _ h => List.mem_cons_of_mem _ (List.mem_append_left _ (List.mem_append_left _ (List.mem_append_left _ (List.mem_append_right _ h)))))
theorem iX3_solve_X4 : ∀ w ∈ wsX40, w ∈ wsX3_solve := (fun _ h => List.mem_cons_of_mem _ (List.mem_append_left _ (List.mem_append_left _ (List.mem_append_left _ (List.mem_append_right _ h)))))
theorem iX3_solve_X3 : ∀ w ∈ wsX30, w ∈ wsX3_solve := (fun _ h => List.mem_cons_of_mem _ (List.mem_append_left _ (List.mem_append_left _ (List.mem_append_right _ h))))
theorem iX3_count_X3 : ∀ w ∈ wsX30, w ∈ wsX3_count := (fun _ h => List.mem_cons_of_mem _ (List.mem_append_right _ h))
theorem iX3_together_X3 : ∀ w ∈ wsX30, w ∈ wsX3_together := (fun _ h => List.mem_cons_of_mem _ (List.mem_append_right _ h))
theorem iX3_tell_X3 : ∀ w ∈ wsX30, w ∈ wsX3_tell := (fun _ h => List.mem_cons_of_mem _ (List.mem_append_right _ h))
theorem iX1_hasFirst_X1 : ∀ w ∈ wsX10, w ∈ wsX1_hasFirst := (fun _ h => List.mem_cons_of_mem _ (List.mem_append_right _ h))
theorem iX1_hasOther_X1 : ∀ w ∈ wsX10, w ∈ wsX1_hasOther := (fun _ h => List.mem_cons_of_mem _ (List.mem_append_right _ h))
theorem iX1_isRest_X1 : ∀ w ∈ wsX10, w ∈ wsX1_isRest := (fun _ h => List.mem_cons_of_mem _ (List.mem_append_right _ h))
theorem iX1_countRests_X1 : ∀ w ∈ wsX10, w ∈ wsX1_countRests := (fun _ h => List.mem_cons_of_mem _ (List.mem_append_right _ h))
theorem iX1_weigh_X7 : ∀ w ∈ wsX70, w ∈ wsX1_weigh := (fun _ h => List.mem_cons_of_mem _ (List.mem_append_left _ (List.mem_append_left _ (List.mem_append_right _ h))))
theorem iX1_open_X1 : ∀ w ∈ wsX10, w ∈ wsX1_open := (fun _ h => List.mem_cons_of_mem _ (List.mem_append_left _ (List.mem_append_left _ (List.mem_append_left _ (List.mem_append_right _ h)))))
theorem iX6_forget_X6 : ∀ w ∈ wsX60, w ∈ wsX6_forget := (fun _ h => List.mem_cons_of_mem _ (List.mem_append_right _ h))
theorem iX6_add_X6 : ∀ w ∈ wsX60, w ∈ wsX6_add := (fun _ h => List.mem_cons_of_mem _ (List.mem_append_right _ h))
theorem iX6_takeBack_X6 : ∀ w ∈ wsX60, w ∈ wsX6_takeBack := (fun _ h => List.mem_cons_of_mem _ (List.mem_append_right _ h))
theorem iX6_foresee_X6 : ∀ w ∈ wsX60, w ∈ wsX6_foresee := (fun _ h => List.mem_cons_of_mem _ (List.mem_append_left _ (List.mem_append_left _ (List.mem_append_left _ (List.mem_append_right _ h)))))
theorem iX6_foresee_X4 : ∀ w ∈ wsX40, w ∈ wsX6_foresee := (fun _ h => List.mem_cons_of_mem _ (List.mem_append_left _ (List.mem_append_left _ (List.mem_append_right _ h))))
theorem iX6_foresee_X7 : ∀ w ∈ wsX70, w ∈ wsX6_foresee := (fun _ h => List.mem_cons_of_mem _ (List.mem_append_left _ (List.mem_append_right _ h)))
theorem iX6_counts_X6 : ∀ w ∈ wsX60, w ∈ wsX6_counts := (fun _ h => List.mem_cons_of_mem _ (List.mem_append_right _ h))
theorem iX6_isInside_X6 : ∀ w ∈ wsX60, w ∈ wsX6_isInside := (fun _ h => List.mem_cons_of_mem _ (List.mem_append_right _ h))
theorem iX6_allow_X6 : ∀ w ∈ wsX60, w ∈ wsX6_allow := (fun _ h => List.mem_cons_of_mem _ (List.mem_append_right _ h))
