theorem dX8_wouldBothGain_49 : decode cX8_wouldBothGain 49 = .ok (.iload_n 1, 1) := by decide +kernel
theorem dX8_wouldBothGain_50 : decode cX8_wouldBothGain 50 = .ok (.iload 5, 2) := by decide +kernel
theorem dX8_wouldBothGain_52 : decode cX8_wouldBothGain 52 = .ok (.invokevirtual 166, 3) := by decide +kernel
theorem dX8_wouldBothGain_55 : decode cX8_wouldBothGain 55 = .ok (.aload_n 0, 1) := by decide +kernel
theorem dX8_wouldBothGain_56 : decode cX8_wouldBothGain 56 = .ok (.getfield 27, 3) := by decide +kernel
theorem dX8_wouldBothGain_59 : decode cX8_wouldBothGain 59 = .ok (.aload_n 3, 1) := by decide +kernel
theorem dX8_wouldBothGain_60 : decode cX8_wouldBothGain 60 = .ok (.iload_n 1, 1) := by decide +kernel
theorem dX8_wouldBothGain_61 : decode cX8_wouldBothGain 61 = .ok (.iload 4, 2) := by decide +kernel
theorem dX8_wouldBothGain_63 : decode cX8_wouldBothGain 63 = .ok (.invokevirtual 166, 3) := by decide +kernel
theorem dX8_wouldBothGain_66 : decode cX8_wouldBothGain 66 = .ok (.if_icmp .le 32, 3) := by decide +kernel
theorem dX8_wouldBothGain_69 : decode cX8_wouldBothGain 69 = .ok (.aload_n 0, 1) := by decide +kernel
theorem dX8_wouldBothGain_70 : decode cX8_wouldBothGain 70 = .ok (.getfield 27, 3) := by decide +kernel
theorem dX8_wouldBothGain_73 : decode cX8_wouldBothGain 73 = .ok (.aload_n 3, 1) := by decide +kernel
theorem dX8_wouldBothGain_74 : decode cX8_wouldBothGain 74 = .ok (.iload_n 2, 1) := by decide +kernel
theorem dX8_wouldBothGain_75 : decode cX8_wouldBothGain 75 = .ok (.iload 4, 2) := by decide +kernel
theorem dX8_wouldBothGain_77 : decode cX8_wouldBothGain 77 = .ok (.invokevirtual 166, 3) := by decide +kernel
theorem dX8_wouldBothGain_80 : decode cX8_wouldBothGain 80 = .ok (.aload_n 0, 1) := by decide +kernel
theorem dX8_wouldBothGain_81 : decode cX8_wouldBothGain 81 = .ok (.getfield 27, 3) := by decide +kernel
theorem dX8_wouldBothGain_84 : decode cX8_wouldBothGain 84 = .ok (.aload_n 3, 1) := by decide +kernel
theorem dX8_wouldBothGain_85 : decode cX8_wouldBothGain 85 = .ok (.iload_n 2, 1) := by decide +kernel
theorem dX8_wouldBothGain_86 : decode cX8_wouldBothGain 86 = .ok (.iload 5, 2) := by decide +kernel
theorem dX8_wouldBothGain_88 : decode cX8_wouldBothGain 88 = .ok (.invokevirtual 166, 3) := by decide +kernel
theorem dX8_wouldBothGain_91 : decode cX8_wouldBothGain 91 = .ok (.if_icmp .le 7, 3) := by decide +kernel
theorem dX8_wouldBothGain_94 : decode cX8_wouldBothGain 94 = .ok (.iconst 1, 1) := by decide +kernel
theorem dX8_wouldBothGain_95 : decode cX8_wouldBothGain 95 = .ok (.goto 4, 3) := by decide +kernel
theorem dX8_wouldBothGain_98 : decode cX8_wouldBothGain 98 = .ok (.iconst 0, 1) := by decide +kernel
theorem dX8_wouldBothGain_99 : decode cX8_wouldBothGain 99 = .ok (.ireturn, 1) := by decide +kernel
set_option maxRecDepth 20000 in
theorem ggX8_keeper_X8_isRoom : GoodIn wsX8_keeper wsX8_isRoom := goodIn_r _ [9, 2, 10, 30, 31, 32, 33, 34, 35, 36, 37, 38, 39, 40, 41, 42, 43, 52, 53, 54, 55, 56, 57, 58, 59, 60, 61, 62] rfl (by decide +kernel)
set_option maxRecDepth 20000 in
theorem gX8_keeper_X8_isRoom : GoodIn wsX8_keeper (wsV RX8 135 RX8 yX8_isRoom wsX8_isRoom) := goodIn_app (goodIn_r _ [5, 6, 7, 8] rfl (by decide +kernel)) ggX8_keeper_X8_isRoom
set_option maxRecDepth 20000 in
theorem ggX8_keeper_X8_areCats : GoodIn wsX8_keeper wsX8_areCats := goodIn_r _ [14, 2, 15, 30, 31, 32, 33, 34, 35, 36, 37, 38, 39, 40, 41, 42, 43, 52, 53, 54, 55, 56, 57, 58, 59, 60, 61, 62] rfl (by decide +kernel)
set_option maxRecDepth 20000 in
theorem gX8_keeper_X8_areCats : GoodIn wsX8_keeper (wsV RX8 296 RX8 yX8_areCats wsX8_areCats) := goodIn_app (goodIn_r _ [11, 12, 13, 8] rfl (by decide +kernel)) ggX8_keeper_X8_areCats
set_option maxRecDepth 20000 in
theorem ggX8_keeper_X0_current : GoodIn wsX8_keeper wsX0_current := goodIn_r _ [20, 21, 22, 63, 64, 65, 66] rfl (by decide +kernel)
set_option maxRecDepth 20000 in
theorem gX8_keeper_X0_current : GoodIn wsX8_keeper (wsV RX8 115 RX0 yX0_current wsX0_current) := goodIn_app (goodIn_r _ [16, 17, 18, 19] rfl (by decide +kernel)) ggX8_keeper_X0_current
set_option maxRecDepth 20000 in
theorem ggX8_keeper_X4_livingHeir : GoodIn wsX8_keeper wsX4_livingHeir := goodIn_r _ [27, 28, 29, 52, 53, 54, 55, 56, 57, 58, 59, 60, 61, 62] rfl (by decide +kernel)
set_option maxRecDepth 20000 in
theorem gX8_keeper_X4_livingHeir : GoodIn wsX8_keeper (wsV RX8 302 RX4 yX4_livingHeir wsX4_livingHeir) := goodIn_app (goodIn_r _ [23, 24, 25, 26] rfl (by decide +kernel)) ggX8_keeper_X4_livingHeir
theorem dX8_keeper_0 : decode cX8_keeper 0 = .ok (.aload_n 0, 1) := by decide +kernel
theorem dX8_keeper_1 : decode cX8_keeper 1 = .ok (.iload_n 1, 1) := by decide +kernel
theorem dX8_keeper_2 : decode cX8_keeper 2 = .ok (.invokevirtual 135, 3) := by decide +kernel
theorem dX8_keeper_5 : decode cX8_keeper 5 = .ok (.ifCond .eq 11, 3) := by decide +kernel
theorem dX8_keeper_8 : decode cX8_keeper 8 = .ok (.aload_n 0, 1) := by decide +kernel
theorem dX8_keeper_9 : decode cX8_keeper 9 = .ok (.iload_n 2, 1) := by decide +kernel
theorem dX8_keeper_10 : decode cX8_keeper 10 = .ok (.invokevirtual 296, 3) := by decide +kernel
theorem dX8_keeper_13 : decode cX8_keeper 13 = .ok (.ifCond .ne 6, 3) := by decide +kernel
theorem dX8_keeper_16 : decode cX8_keeper 16 = .ok (.bipush (-2), 2) := by decide +kernel
theorem dX8_keeper_18 : decode cX8_keeper 18 = .ok (.ireturn, 1) := by decide +kernel
theorem dX8_keeper_19 : decode cX8_keeper 19 = .ok (.aload_n 0, 1) := by decide +kernel
theorem dX8_keeper_20 : decode cX8_keeper 20 = .ok (.getfield 34, 3) := by decide +kernel
theorem dX8_keeper_23 : decode cX8_keeper 23 = .ok (.invokevirtual 115, 3) := by decide +kernel
theorem dX8_keeper_26 : decode cX8_keeper 26 = .ok (.astore_n 3, 1) := by decide +kernel
theorem dX8_keeper_27 : decode cX8_keeper 27 = .ok (.aload_n 0, 1) := by decide +kernel
theorem dX8_keeper_28 : decode cX8_keeper 28 = .ok (.getfield 27, 3) := by decide +kernel
theorem dX8_keeper_31 : decode cX8_keeper 31 = .ok (.aload_n 3, 1) := by decide +kernel
theorem dX8_keeper_32 : decode cX8_keeper 32 = .ok (.getfield 138, 3) := by decide +kernel
theorem dX8_keeper_35 : decode cX8_keeper 35 = .ok (.iload_n 1, 1) := by decide +kernel
theorem dX8_keeper_36 : decode cX8_keeper 36 = .ok (.iaload, 1) := by decide +kernel
theorem dX8_keeper_37 : decode cX8_keeper 37 = .ok (.aload_n 3, 1) := by decide +kernel
theorem dX8_keeper_38 : decode cX8_keeper 38 = .ok (.getfield 299, 3) := by decide +kernel
theorem dX8_keeper_41 : decode cX8_keeper 41 = .ok (.iload_n 2, 1) := by decide +kernel
theorem dX8_keeper_42 : decode cX8_keeper 42 = .ok (.iconst (-1), 1) := by decide +kernel
theorem dX8_keeper_43 : decode cX8_keeper 43 = .ok (.ixor, 1) := by decide +kernel
theorem dX8_keeper_44 : decode cX8_keeper 44 = .ok (.iand, 1) := by decide +kernel
theorem dX8_keeper_45 : decode cX8_keeper 45 = .ok (.invokevirtual 302, 3) := by decide +kernel
theorem dX8_keeper_48 : decode cX8_keeper 48 = .ok (.ireturn, 1) := by decide +kernel
set_option maxRecDepth 20000 in
theorem ggX8_probate_X8_areCats : GoodIn wsX8_probate wsX8_areCats := goodIn_r _ [10, 2, 11, 26, 27, 28, 29, 30, 31, 32, 33, 34, 35, 36, 37, 38, 39, 40, 41, 42, 43, 44, 45, 46, 47, 48, 49, 50] rfl (by decide +kernel)
set_option maxRecDepth 20000 in
theorem gX8_probate_X8_areCats : GoodIn wsX8_probate (wsV RX8 296 RX8 yX8_areCats wsX8_areCats) := goodIn_app (goodIn_r _ [6, 7, 8, 9] rfl (by decide +kernel)) ggX8_probate_X8_areCats
set_option maxRecDepth 20000 in
theorem ggX8_probate_X0_current : GoodIn wsX8_probate wsX0_current := goodIn_r _ [16, 17, 18, 59, 60, 61, 62] rfl (by decide +kernel)
set_option maxRecDepth 20000 in
theorem gX8_probate_X0_current : GoodIn wsX8_probate (wsV RX8 115 RX0 yX0_current wsX0_current) := goodIn_app (goodIn_r _ [12, 13, 14, 15] rfl (by decide +kernel)) ggX8_probate_X0_current
set_option maxRecDepth 20000 in
theorem ggX8_probate_X4_livingHeir : GoodIn wsX8_probate wsX4_livingHeir := goodIn_r _ [23, 24, 25, 40, 41, 42, 43, 44, 45, 46, 47, 48, 49, 50] rfl (by decide +kernel)
set_option maxRecDepth 20000 in
theorem gX8_probate_X4_livingHeir : GoodIn wsX8_probate (wsV RX8 302 RX4 yX4_livingHeir wsX4_livingHeir) := goodIn_app (goodIn_r _ [19, 20, 21, 22] rfl (by decide +kernel)) ggX8_probate_X4_livingHeir
theorem dX8_probate_0 : decode cX8_probate 0 = .ok (.aload_n 0, 1) := by decide +kernel
theorem dX8_probate_1 : decode cX8_probate 1 = .ok (.iload_n 1, 1) := by decide +kernel
theorem dX8_probate_2 : decode cX8_probate 2 = .ok (.invokevirtual 296, 3) := by decide +kernel
theorem dX8_probate_5 : decode cX8_probate 5 = .ok (.ifCond .ne 5, 3) := by decide +kernel
theorem dX8_probate_8 : decode cX8_probate 8 = .ok (.iconst (-1), 1) := by decide +kernel
theorem dX8_probate_9 : decode cX8_probate 9 = .ok (.ireturn, 1) := by decide +kernel
theorem dX8_probate_10 : decode cX8_probate 10 = .ok (.aload_n 0, 1) := by decide +kernel
theorem dX8_probate_11 : decode cX8_probate 11 = .ok (.getfield 34, 3) := by decide +kernel
theorem dX8_probate_14 : decode cX8_probate 14 = .ok (.invokevirtual 115, 3) := by decide +kernel
theorem dX8_probate_17 : decode cX8_probate 17 = .ok (.astore_n 2, 1) := by decide +kernel
theorem dX8_probate_18 : decode cX8_probate 18 = .ok (.iconst 0, 1) := by decide +kernel
theorem dX8_probate_19 : decode cX8_probate 19 = .ok (.istore_n 3, 1) := by decide +kernel
theorem dX8_probate_20 : decode cX8_probate 20 = .ok (.iconst 0, 1) := by decide +kernel
theorem dX8_probate_21 : decode cX8_probate 21 = .ok (.istore 4, 2) := by decide +kernel
theorem dX8_probate_23 : decode cX8_probate 23 = .ok (.iload 4, 2) := by decide +kernel
theorem dX8_probate_25 : decode cX8_probate 25 = .ok (.aload_n 0, 1) := by decide +kernel
theorem dX8_probate_26 : decode cX8_probate 26 = .ok (.getfield 27, 3) := by decide +kernel
theorem dX8_probate_29 : decode cX8_probate 29 = .ok (.getfield 173, 3) := by decide +kernel
theorem dX8_probate_32 : decode cX8_probate 32 = .ok (.if_icmp .ge 38, 3) := by decide +kernel
theorem dX8_probate_35 : decode cX8_probate 35 = .ok (.aload_n 0, 1) := by decide +kernel
theorem dX8_probate_36 : decode cX8_probate 36 = .ok (.getfield 27, 3) := by decide +kernel
theorem dX8_probate_39 : decode cX8_probate 39 = .ok (.aload_n 2, 1) := by decide +kernel
theorem dX8_probate_40 : decode cX8_probate 40 = .ok (.getfield 138, 3) := by decide +kernel
theorem dX8_probate_43 : decode cX8_probate 43 = .ok (.iload 4, 2) := by decide +kernel
theorem dX8_probate_45 : decode cX8_probate 45 = .ok (.iaload, 1) := by decide +kernel
theorem dX8_probate_46 : decode cX8_probate 46 = .ok (.aload_n 2, 1) := by decide +kernel
theorem dX8_probate_47 : decode cX8_probate 47 = .ok (.getfield 299, 3) := by decide +kernel
theorem dX8_probate_50 : decode cX8_probate 50 = .ok (.iload_n 1, 1) := by decide +kernel
theorem dX8_probate_51 : decode cX8_probate 51 = .ok (.iconst (-1), 1) := by decide +kernel
theorem dX8_probate_52 : decode cX8_probate 52 = .ok (.ixor, 1) := by decide +kernel
theorem dX8_probate_53 : decode cX8_probate 53 = .ok (.iand, 1) := by decide +kernel
theorem dX8_probate_54 : decode cX8_probate 54 = .ok (.invokevirtual 302, 3) := by decide +kernel
theorem dX8_probate_57 : decode cX8_probate 57 = .ok (.iconst (-1), 1) := by decide +kernel
theorem dX8_probate_58 : decode cX8_probate 58 = .ok (.if_icmp .ne 6, 3) := by decide +kernel
theorem dX8_probate_61 : decode cX8_probate 61 = .ok (.iinc 3 1, 3) := by decide +kernel
theorem dX8_probate_64 : decode cX8_probate 64 = .ok (.iinc 4 1, 3) := by decide +kernel
theorem dX8_probate_67 : decode cX8_probate 67 = .ok (.goto (-44), 3) := by decide +kernel
theorem dX8_probate_70 : decode cX8_probate 70 = .ok (.iload_n 3, 1) := by decide +kernel
theorem dX8_probate_71 : decode cX8_probate 71 = .ok (.ireturn, 1) := by decide +kernel
set_option maxRecDepth 20000 in
theorem ggX8_crowd_X8_isLivingCat : GoodIn wsX8_crowd wsX8_isLivingCat := goodIn_r _ [5, 6, 7, 8, 9, 4, 10, 11, 12, 13, 14, 15, 16, 17, 18, 19, 20, 21, 22, 23, 24, 25, 79, 80, 81, 82, 83, 84, 85, 86, 87, 88, 89, 90, 91, 92, 93, 94, 95, 96, 97, 98, 99, 100, 101, 102, 103, 104, 105, 106, 107, 108, 109, 110, 111, 112, 113, 114, 115] rfl (by decide +kernel)
set_option maxRecDepth 20000 in
theorem gX8_crowd_X8_isLivingCat : GoodIn wsX8_crowd (wsV RX8 193 RX8 yX8_isLivingCat wsX8_isLivingCat) := goodIn_app (goodIn_r _ [1, 2, 3, 4] rfl (by decide +kernel)) ggX8_crowd_X8_isLivingCat
set_option maxRecDepth 20000 in
theorem ggX8_crowd_X8_likesAllBy : GoodIn wsX8_crowd wsX8_likesAllBy := goodIn_r _ [29, 6, 11, 30, 31, 13, 14, 15, 16, 17, 18, 19, 32, 33, 34, 35, 36, 37, 38, 39, 40, 41, 42, 23, 43, 44, 45, 46, 47, 48, 49, 50, 51, 52, 53, 54, 55, 56, 57, 58, 59, 60, 61, 62, 63, 64, 65, 66, 67, 68, 69, 70, 71, 72, 73, 74, 75, 76, 77, 78, 79, 80, 81, 82, 83, 84, 85, 86, 87, 88, 89, 90, 91, 92, 93, 94, 95, 96, 97, 98, 99, 100, 101, 102, 103, 108, 109, 110, 111, 112, 113, 114, 115, 104, 105, 106, 107, 116, 117, 118] rfl (by decide +kernel)
set_option maxRecDepth 20000 in
theorem gX8_crowd_X8_likesAllBy : GoodIn wsX8_crowd (wsV RX8 305 RX8 yX8_likesAllBy wsX8_likesAllBy) := goodIn_app (goodIn_r _ [26, 27, 28, 4] rfl (by decide +kernel)) ggX8_crowd_X8_likesAllBy
theorem dX8_crowd_0 : decode cX8_crowd 0 = .ok (.aload_n 0, 1) := by decide +kernel
theorem dX8_crowd_1 : decode cX8_crowd 1 = .ok (.iload_n 1, 1) := by decide +kernel
theorem dX8_crowd_2 : decode cX8_crowd 2 = .ok (.invokevirtual 193, 3) := by decide +kernel
theorem dX8_crowd_5 : decode cX8_crowd 5 = .ok (.ifCond .ne 5, 3) := by decide +kernel
theorem dX8_crowd_8 : decode cX8_crowd 8 = .ok (.iconst (-1), 1) := by decide +kernel
theorem dX8_crowd_9 : decode cX8_crowd 9 = .ok (.ireturn, 1) := by decide +kernel
theorem dX8_crowd_10 : decode cX8_crowd 10 = .ok (.bipush 8, 2) := by decide +kernel
theorem dX8_crowd_12 : decode cX8_crowd 12 = .ok (.istore_n 2, 1) := by decide +kernel
theorem dX8_crowd_13 : decode cX8_crowd 13 = .ok (.iload_n 2, 1) := by decide +kernel
theorem dX8_crowd_14 : decode cX8_crowd 14 = .ok (.ifCond .lt 20, 3) := by decide +kernel
theorem dX8_crowd_17 : decode cX8_crowd 17 = .ok (.aload_n 0, 1) := by decide +kernel
theorem dX8_crowd_18 : decode cX8_crowd 18 = .ok (.iload_n 1, 1) := by decide +kernel
theorem dX8_crowd_19 : decode cX8_crowd 19 = .ok (.iload_n 2, 1) := by decide +kernel
theorem dX8_crowd_20 : decode cX8_crowd 20 = .ok (.invokevirtual 305, 3) := by decide +kernel
theorem dX8_crowd_23 : decode cX8_crowd 23 = .ok (.ifCond .eq 5, 3) := by decide +kernel
theorem dX8_crowd_26 : decode cX8_crowd 26 = .ok (.iload_n 2, 1) := by decide +kernel
theorem dX8_crowd_27 : decode cX8_crowd 27 = .ok (.ireturn, 1) := by decide +kernel
theorem dX8_crowd_28 : decode cX8_crowd 28 = .ok (.iinc 2 (-1), 3) := by decide +kernel
theorem dX8_crowd_31 : decode cX8_crowd 31 = .ok (.goto (-18), 3) := by decide +kernel
theorem dX8_crowd_34 : decode cX8_crowd 34 = .ok (.iconst (-1), 1) := by decide +kernel
theorem dX8_crowd_35 : decode cX8_crowd 35 = .ok (.ireturn, 1) := by decide +kernel
set_option maxRecDepth 20000 in
theorem ggX8_fondest_X0_current : GoodIn wsX8_fondest wsX0_current := goodIn_r _ [8, 9, 10, 98, 99, 100, 101] rfl (by decide +kernel)
set_option maxRecDepth 20000 in
theorem gX8_fondest_X0_current : GoodIn wsX8_fondest (wsV RX8 115 RX0 yX0_current wsX0_current) := goodIn_app (goodIn_r _ [4, 5, 6, 7] rfl (by decide +kernel)) ggX8_fondest_X0_current
set_option maxRecDepth 20000 in
theorem ggX8_fondest_X4_tenantsOf : GoodIn wsX8_fondest wsX4_tenantsOf := goodIn_r _ [15, 16, 17, 18, 19, 20, 21, 22, 23, 24, 87, 88, 89, 90, 91, 92, 93, 94, 95, 96, 97, 102, 103, 104, 105, 106, 107, 108, 109] rfl (by decide +kernel)
set_option maxRecDepth 20000 in
theorem gX8_fondest_X4_tenantsOf : GoodIn wsX8_fondest (wsV RX8 132 RX4 yX4_tenantsOf wsX4_tenantsOf) := goodIn_app (goodIn_r _ [11, 12, 13, 14] rfl (by decide +kernel)) ggX8_fondest_X4_tenantsOf
set_option maxRecDepth 20000 in
theorem ggX8_fondest_X8_likingTogether : GoodIn wsX8_fondest wsX8_likingTogether := goodIn_r _ [29, 1, 2, 30, 31, 32, 33, 34, 35, 36, 37, 38, 4, 5, 6, 7, 8, 9, 10, 39, 40, 41, 14, 42, 43, 44, 45, 46, 47, 48, 16, 18, 49, 50, 51, 52, 17, 53, 54, 19, 20, 21, 22, 23, 24, 55, 56, 57, 58, 59, 60, 61, 62, 63, 64, 65, 66, 67, 68, 69, 70, 71, 72, 73, 74, 75, 76, 77, 78, 79, 80, 81, 82, 83, 84, 85, 86, 87, 88, 89, 90, 91, 92, 93, 94, 95, 96, 97, 102, 103, 104, 105, 106, 107, 108, 109, 98, 99, 100, 101, 110, 111, 112] rfl (by decide +kernel)
set_option maxRecDepth 20000 in
theorem gX8_fondest_X8_likingTogether : GoodIn wsX8_fondest (wsV RX8 308 RX8 yX8_likingTogether wsX8_likingTogether) := goodIn_app (goodIn_r _ [25, 26, 27, 28] rfl (by decide +kernel)) ggX8_fondest_X8_likingTogether
theorem dX8_fondest_0 : decode cX8_fondest 0 = .ok (.aload_n 0, 1) := by decide +kernel
theorem dX8_fondest_1 : decode cX8_fondest 1 = .ok (.getfield 34, 3) := by decide +kernel
theorem dX8_fondest_4 : decode cX8_fondest 4 = .ok (.invokevirtual 115, 3) := by decide +kernel
theorem dX8_fondest_7 : decode cX8_fondest 7 = .ok (.astore_n 1, 1) := by decide +kernel
theorem dX8_fondest_8 : decode cX8_fondest 8 = .ok (.iconst (-1), 1) := by decide +kernel
theorem dX8_fondest_9 : decode cX8_fondest 9 = .ok (.istore_n 2, 1) := by decide +kernel
theorem dX8_fondest_10 : decode cX8_fondest 10 = .ok (.iconst 0, 1) := by decide +kernel
theorem dX8_fondest_11 : decode cX8_fondest 11 = .ok (.istore_n 3, 1) := by decide +kernel
theorem dX8_fondest_12 : decode cX8_fondest 12 = .ok (.iconst 0, 1) := by decide +kernel
theorem dX8_fondest_13 : decode cX8_fondest 13 = .ok (.istore 4, 2) := by decide +kernel
theorem dX8_fondest_15 : decode cX8_fondest 15 = .ok (.iload 4, 2) := by decide +kernel
theorem dX8_fondest_17 : decode cX8_fondest 17 = .ok (.aload_n 0, 1) := by decide +kernel
theorem dX8_fondest_18 : decode cX8_fondest 18 = .ok (.getfield 27, 3) := by decide +kernel
theorem dX8_fondest_21 : decode cX8_fondest 21 = .ok (.getfield 170, 3) := by decide +kernel
theorem dX8_fondest_24 : decode cX8_fondest 24 = .ok (.if_icmp .ge 51, 3) := by decide +kernel
theorem dX8_fondest_27 : decode cX8_fondest 27 = .ok (.aload_n 0, 1) := by decide +kernel
theorem dX8_fondest_28 : decode cX8_fondest 28 = .ok (.getfield 27, 3) := by decide +kernel
theorem dX8_fondest_31 : decode cX8_fondest 31 = .ok (.aload_n 1, 1) := by decide +kernel
theorem dX8_fondest_32 : decode cX8_fondest 32 = .ok (.iload 4, 2) := by decide +kernel
theorem dX8_fondest_34 : decode cX8_fondest 34 = .ok (.invokevirtual 132, 3) := by decide +kernel
theorem dX8_fondest_37 : decode cX8_fondest 37 = .ok (.istore 5, 2) := by decide +kernel
theorem dX8_fondest_39 : decode cX8_fondest 39 = .ok (.iload 5, 2) := by decide +kernel
theorem dX8_fondest_41 : decode cX8_fondest 41 = .ok (.ifCond .eq 28, 3) := by decide +kernel
theorem dX8_fondest_44 : decode cX8_fondest 44 = .ok (.aload_n 0, 1) := by decide +kernel
theorem dX8_fondest_45 : decode cX8_fondest 45 = .ok (.iload 5, 2) := by decide +kernel
theorem dX8_fondest_47 : decode cX8_fondest 47 = .ok (.invokevirtual 308, 3) := by decide +kernel
theorem dX8_fondest_50 : decode cX8_fondest 50 = .ok (.istore 6, 2) := by decide +kernel
theorem dX8_fondest_52 : decode cX8_fondest 52 = .ok (.iload_n 2, 1) := by decide +kernel
theorem dX8_fondest_53 : decode cX8_fondest 53 = .ok (.iconst (-1), 1) := by decide +kernel
theorem dX8_fondest_54 : decode cX8_fondest 54 = .ok (.if_icmp .eq 9, 3) := by decide +kernel
theorem dX8_fondest_57 : decode cX8_fondest 57 = .ok (.iload 6, 2) := by decide +kernel
theorem dX8_fondest_59 : decode cX8_fondest 59 = .ok (.iload_n 3, 1) := by decide +kernel
theorem dX8_fondest_60 : decode cX8_fondest 60 = .ok (.if_icmp .le 9, 3) := by decide +kernel
theorem dX8_fondest_63 : decode cX8_fondest 63 = .ok (.iload 4, 2) := by decide +kernel
theorem dX8_fondest_65 : decode cX8_fondest 65 = .ok (.istore_n 2, 1) := by decide +kernel
theorem dX8_fondest_66 : decode cX8_fondest 66 = .ok (.iload 6, 2) := by decide +kernel
theorem dX8_fondest_68 : decode cX8_fondest 68 = .ok (.istore_n 3, 1) := by decide +kernel
theorem dX8_fondest_69 : decode cX8_fondest 69 = .ok (.iinc 4 1, 3) := by decide +kernel
theorem dX8_fondest_72 : decode cX8_fondest 72 = .ok (.goto (-57), 3) := by decide +kernel
theorem dX8_fondest_75 : decode cX8_fondest 75 = .ok (.iload_n 2, 1) := by decide +kernel
theorem dX8_fondest_76 : decode cX8_fondest 76 = .ok (.ireturn, 1) := by decide +kernel
set_option maxRecDepth 20000 in
theorem ggX8_nobodys_X8_isLikedAnywhere : GoodIn wsX8_nobodys wsX8_isLikedAnywhere := goodIn_r _ [7, 8, 1, 9, 10, 11, 12, 13, 14, 15, 16, 17, 18, 19, 20, 21, 22, 23, 24, 25, 26, 27, 28, 29, 30, 31, 32, 33, 34, 35, 36, 37, 38, 39, 40, 41, 42, 43, 44, 45, 46, 47, 48, 49, 50, 51, 52, 53, 54, 55, 56, 57, 58, 59, 60, 61, 62, 63, 64, 65, 66, 67, 68, 69, 70, 71, 72, 73, 74, 75, 76, 77, 78, 79, 80, 81, 82, 83, 84, 85, 86, 87, 88, 89, 90, 91, 92, 93, 94, 95, 96, 97, 98, 99, 100, 101] rfl (by decide +kernel)
set_option maxRecDepth 20000 in
theorem gX8_nobodys_X8_isLikedAnywhere : GoodIn wsX8_nobodys (wsV RX8 311 RX8 yX8_isLikedAnywhere wsX8_isLikedAnywhere) := goodIn_app (goodIn_r _ [3, 4, 5, 6] rfl (by decide +kernel)) ggX8_nobodys_X8_isLikedAnywhere
theorem dX8_nobodys_0 : decode cX8_nobodys 0 = .ok (.iconst 0, 1) := by decide +kernel
theorem dX8_nobodys_1 : decode cX8_nobodys 1 = .ok (.istore_n 1, 1) := by decide +kernel
theorem dX8_nobodys_2 : decode cX8_nobodys 2 = .ok (.iconst 0, 1) := by decide +kernel
theorem dX8_nobodys_3 : decode cX8_nobodys 3 = .ok (.istore_n 2, 1) := by decide +kernel
theorem dX8_nobodys_4 : decode cX8_nobodys 4 = .ok (.iload_n 2, 1) := by decide +kernel
theorem dX8_nobodys_5 : decode cX8_nobodys 5 = .ok (.aload_n 0, 1) := by decide +kernel
theorem dX8_nobodys_6 : decode cX8_nobodys 6 = .ok (.getfield 27, 3) := by decide +kernel
theorem dX8_nobodys_9 : decode cX8_nobodys 9 = .ok (.getfield 102, 3) := by decide +kernel
theorem dX8_nobodys_12 : decode cX8_nobodys 12 = .ok (.if_icmp .ge 23, 3) := by decide +kernel
theorem dX8_nobodys_15 : decode cX8_nobodys 15 = .ok (.aload_n 0, 1) := by decide +kernel
theorem dX8_nobodys_16 : decode cX8_nobodys 16 = .ok (.iload_n 2, 1) := by decide +kernel
theorem dX8_nobodys_17 : decode cX8_nobodys 17 = .ok (.invokevirtual 311, 3) := by decide +kernel
theorem dX8_nobodys_20 : decode cX8_nobodys 20 = .ok (.ifCond .ne 9, 3) := by decide +kernel
theorem dX8_nobodys_23 : decode cX8_nobodys 23 = .ok (.iload_n 1, 1) := by decide +kernel
theorem dX8_nobodys_24 : decode cX8_nobodys 24 = .ok (.iconst 1, 1) := by decide +kernel
theorem dX8_nobodys_25 : decode cX8_nobodys 25 = .ok (.iload_n 2, 1) := by decide +kernel
theorem dX8_nobodys_26 : decode cX8_nobodys 26 = .ok (.ishl, 1) := by decide +kernel
theorem dX8_nobodys_27 : decode cX8_nobodys 27 = .ok (.ior, 1) := by decide +kernel
theorem dX8_nobodys_28 : decode cX8_nobodys 28 = .ok (.istore_n 1, 1) := by decide +kernel
theorem dX8_nobodys_29 : decode cX8_nobodys 29 = .ok (.iinc 2 1, 3) := by decide +kernel
theorem dX8_nobodys_32 : decode cX8_nobodys 32 = .ok (.goto (-28), 3) := by decide +kernel
theorem dX8_nobodys_35 : decode cX8_nobodys 35 = .ok (.iload_n 1, 1) := by decide +kernel
theorem dX8_nobodys_36 : decode cX8_nobodys 36 = .ok (.ireturn, 1) := by decide +kernel
set_option maxRecDepth 20000 in
theorem ggX8_purse_X8_isCat : GoodIn wsX8_purse wsX8_isCat := goodIn_r _ [11, 3, 12, 34, 35, 36, 37, 38, 39, 40, 41, 42, 43, 44, 45, 46, 47, 48, 49, 50, 51, 52, 53, 54, 55, 56, 57, 58] rfl (by decide +kernel)
set_option maxRecDepth 20000 in
theorem gX8_purse_X8_isCat : GoodIn wsX8_purse (wsV RX8 111 RX8 yX8_isCat wsX8_isCat) := goodIn_app (goodIn_r _ [7, 8, 9, 10] rfl (by decide +kernel)) ggX8_purse_X8_isCat
set_option maxRecDepth 20000 in
theorem ggX8_purse_X0_current : GoodIn wsX8_purse wsX0_current := goodIn_r _ [17, 18, 19, 67, 68, 69, 70] rfl (by decide +kernel)
set_option maxRecDepth 20000 in
theorem gX8_purse_X0_current : GoodIn wsX8_purse (wsV RX8 115 RX0 yX0_current wsX0_current) := goodIn_app (goodIn_r _ [13, 14, 15, 16] rfl (by decide +kernel)) ggX8_purse_X0_current
set_option maxRecDepth 20000 in
theorem ggX8_purse_X4_tenantsOf : GoodIn wsX8_purse wsX4_tenantsOf := goodIn_r _ [24, 25, 26, 27, 28, 29, 30, 31, 32, 33, 48, 49, 50, 51, 52, 53, 54, 55, 56, 57, 58, 59, 60, 61, 62, 63, 64, 65, 66] rfl (by decide +kernel)
set_option maxRecDepth 20000 in
theorem gX8_purse_X4_tenantsOf : GoodIn wsX8_purse (wsV RX8 132 RX4 yX4_tenantsOf wsX4_tenantsOf) := goodIn_app (goodIn_r _ [20, 21, 22, 23] rfl (by decide +kernel)) ggX8_purse_X4_tenantsOf
theorem dX8_purse_0 : decode cX8_purse 0 = .ok (.aload_n 0, 1) := by decide +kernel
theorem dX8_purse_1 : decode cX8_purse 1 = .ok (.iload_n 1, 1) := by decide +kernel
theorem dX8_purse_2 : decode cX8_purse 2 = .ok (.invokevirtual 111, 3) := by decide +kernel
theorem dX8_purse_5 : decode cX8_purse 5 = .ok (.ifCond .ne 7, 3) := by decide +kernel
theorem dX8_purse_8 : decode cX8_purse 8 = .ok (.ldc_w 314, 3) := by decide +kernel
theorem dX8_purse_11 : decode cX8_purse 11 = .ok (.ireturn, 1) := by decide +kernel
theorem dX8_purse_12 : decode cX8_purse 12 = .ok (.aload_n 0, 1) := by decide +kernel
theorem dX8_purse_13 : decode cX8_purse 13 = .ok (.getfield 34, 3) := by decide +kernel
theorem dX8_purse_16 : decode cX8_purse 16 = .ok (.invokevirtual 115, 3) := by decide +kernel
theorem dX8_purse_19 : decode cX8_purse 19 = .ok (.astore_n 2, 1) := by decide +kernel
theorem dX8_purse_20 : decode cX8_purse 20 = .ok (.aload_n 0, 1) := by decide +kernel
theorem dX8_purse_21 : decode cX8_purse 21 = .ok (.getfield 27, 3) := by decide +kernel
theorem dX8_purse_24 : decode cX8_purse 24 = .ok (.aload_n 2, 1) := by decide +kernel
theorem dX8_purse_25 : decode cX8_purse 25 = .ok (.iload_n 1, 1) := by decide +kernel
theorem dX8_purse_26 : decode cX8_purse 26 = .ok (.invokevirtual 132, 3) := by decide +kernel
theorem dX8_purse_29 : decode cX8_purse 29 = .ok (.istore_n 3, 1) := by decide +kernel
theorem dX8_purse_30 : decode cX8_purse 30 = .ok (.iconst 0, 1) := by decide +kernel
theorem dX8_purse_31 : decode cX8_purse 31 = .ok (.istore 4, 2) := by decide +kernel
theorem dX8_purse_33 : decode cX8_purse 33 = .ok (.iconst 0, 1) := by decide +kernel
theorem dX8_purse_34 : decode cX8_purse 34 = .ok (.istore 5, 2) := by decide +kernel
theorem dX8_purse_36 : decode cX8_purse 36 = .ok (.iload 5, 2) := by decide +kernel
theorem dX8_purse_38 : decode cX8_purse 38 = .ok (.aload_n 0, 1) := by decide +kernel
theorem dX8_purse_39 : decode cX8_purse 39 = .ok (.getfield 27, 3) := by decide +kernel
theorem dX8_purse_42 : decode cX8_purse 42 = .ok (.getfield 102, 3) := by decide +kernel
theorem dX8_purse_45 : decode cX8_purse 45 = .ok (.if_icmp .ge 40, 3) := by decide +kernel
theorem dX8_purse_48 : decode cX8_purse 48 = .ok (.iload_n 3, 1) := by decide +kernel
theorem dX8_purse_49 : decode cX8_purse 49 = .ok (.iload 5, 2) := by decide +kernel
theorem dX8_purse_51 : decode cX8_purse 51 = .ok (.ishr, 1) := by decide +kernel
theorem dX8_purse_52 : decode cX8_purse 52 = .ok (.iconst 1, 1) := by decide +kernel
theorem dX8_purse_53 : decode cX8_purse 53 = .ok (.iand, 1) := by decide +kernel
theorem dX8_purse_54 : decode cX8_purse 54 = .ok (.ifCond .eq 25, 3) := by decide +kernel
theorem dX8_purse_57 : decode cX8_purse 57 = .ok (.iload 4, 2) := by decide +kernel
theorem dX8_purse_59 : decode cX8_purse 59 = .ok (.aload_n 2, 1) := by decide +kernel
theorem dX8_purse_60 : decode cX8_purse 60 = .ok (.getfield 150, 3) := by decide +kernel
theorem dX8_purse_63 : decode cX8_purse 63 = .ok (.iload 5, 2) := by decide +kernel
theorem dX8_purse_65 : decode cX8_purse 65 = .ok (.iaload, 1) := by decide +kernel
theorem dX8_purse_66 : decode cX8_purse 66 = .ok (.aload_n 0, 1) := by decide +kernel
theorem dX8_purse_67 : decode cX8_purse 67 = .ok (.getfield 27, 3) := by decide +kernel
theorem dX8_purse_70 : decode cX8_purse 70 = .ok (.getfield 122, 3) := by decide +kernel
theorem dX8_purse_73 : decode cX8_purse 73 = .ok (.iload_n 1, 1) := by decide +kernel
theorem dX8_purse_74 : decode cX8_purse 74 = .ok (.iaload, 1) := by decide +kernel
theorem dX8_purse_75 : decode cX8_purse 75 = .ok (.isub, 1) := by decide +kernel
theorem dX8_purse_76 : decode cX8_purse 76 = .ok (.iadd, 1) := by decide +kernel
theorem dX8_purse_77 : decode cX8_purse 77 = .ok (.istore 4, 2) := by decide +kernel
theorem dX8_purse_79 : decode cX8_purse 79 = .ok (.iinc 5 1, 3) := by decide +kernel
theorem dX8_purse_82 : decode cX8_purse 82 = .ok (.goto (-46), 3) := by decide +kernel
theorem dX8_purse_85 : decode cX8_purse 85 = .ok (.iload 4, 2) := by decide +kernel
theorem dX8_purse_87 : decode cX8_purse 87 = .ok (.ireturn, 1) := by decide +kernel
set_option maxRecDepth 20000 in
theorem ggX8_likesAllBy_X0_current : GoodIn wsX8_likesAllBy wsX0_current := goodIn_r _ [9, 10, 11, 93, 94, 95, 96] rfl (by decide +kernel)
set_option maxRecDepth 20000 in
theorem gX8_likesAllBy_X0_current : GoodIn wsX8_likesAllBy (wsV RX8 115 RX0 yX0_current wsX0_current) := goodIn_app (goodIn_r _ [5, 6, 7, 8] rfl (by decide +kernel)) ggX8_likesAllBy_X0_current
set_option maxRecDepth 20000 in
theorem ggX8_likesAllBy_X4_tenantsOf : GoodIn wsX8_likesAllBy wsX4_tenantsOf := goodIn_r _ [16, 17, 18, 19, 20, 21, 22, 23, 24, 25, 74, 75, 76, 77, 78, 79, 80, 81, 82, 83, 84, 85, 86, 87, 88, 89, 90, 91, 92] rfl (by decide +kernel)
set_option maxRecDepth 20000 in
theorem gX8_likesAllBy_X4_tenantsOf : GoodIn wsX8_likesAllBy (wsV RX8 132 RX4 yX4_tenantsOf wsX4_tenantsOf) := goodIn_app (goodIn_r _ [12, 13, 14, 15] rfl (by decide +kernel)) ggX8_likesAllBy_X4_tenantsOf
set_option maxRecDepth 20000 in
theorem ggX8_likesAllBy_X4_consider : GoodIn wsX8_likesAllBy wsX4_consider := goodIn_r _ [29, 17, 19, 30, 31, 32, 33, 34, 18, 35, 36, 20, 21, 22, 23, 24, 25, 37, 38, 39, 40, 74, 75, 76, 77, 78, 79, 80, 81, 82, 83, 84, 85, 86, 87, 88, 89, 90, 91, 92] rfl (by decide +kernel)
set_option maxRecDepth 20000 in
theorem gX8_likesAllBy_X4_consider : GoodIn wsX8_likesAllBy (wsV RX8 271 RX4 yX4_consider wsX4_consider) := goodIn_app (goodIn_r _ [26, 27, 28, 15] rfl (by decide +kernel)) ggX8_likesAllBy_X4_consider
set_option maxRecDepth 20000 in
theorem ggX8_likesAllBy_X4_likesBy : GoodIn wsX8_likesAllBy wsX4_likesBy := goodIn_r _ [44, 30, 45, 46, 47, 48, 49, 50, 51, 52, 53, 54, 55, 56, 57, 58, 59, 74, 75, 76, 77, 78, 79, 80, 81, 82, 83, 84, 97, 98, 99] rfl (by decide +kernel)
set_option maxRecDepth 20000 in
theorem gX8_likesAllBy_X4_likesBy : GoodIn wsX8_likesAllBy (wsV RX8 277 RX4 yX4_likesBy wsX4_likesBy) := goodIn_app (goodIn_r _ [41, 42, 43, 15] rfl (by decide +kernel)) ggX8_likesAllBy_X4_likesBy
theorem dX8_likesAllBy_0 : decode cX8_likesAllBy 0 = .ok (.aload_n 0, 1) := by decide +kernel
theorem dX8_likesAllBy_1 : decode cX8_likesAllBy 1 = .ok (.getfield 34, 3) := by decide +kernel
theorem dX8_likesAllBy_4 : decode cX8_likesAllBy 4 = .ok (.invokevirtual 115, 3) := by decide +kernel
theorem dX8_likesAllBy_7 : decode cX8_likesAllBy 7 = .ok (.astore_n 3, 1) := by decide +kernel
theorem dX8_likesAllBy_8 : decode cX8_likesAllBy 8 = .ok (.aload_n 0, 1) := by decide +kernel
theorem dX8_likesAllBy_9 : decode cX8_likesAllBy 9 = .ok (.getfield 27, 3) := by decide +kernel
theorem dX8_likesAllBy_12 : decode cX8_likesAllBy 12 = .ok (.aload_n 3, 1) := by decide +kernel
theorem dX8_likesAllBy_13 : decode cX8_likesAllBy 13 = .ok (.iload_n 1, 1) := by decide +kernel
theorem dX8_likesAllBy_14 : decode cX8_likesAllBy 14 = .ok (.invokevirtual 132, 3) := by decide +kernel
theorem dX8_likesAllBy_17 : decode cX8_likesAllBy 17 = .ok (.istore 4, 2) := by decide +kernel
theorem dX8_likesAllBy_19 : decode cX8_likesAllBy 19 = .ok (.iconst 0, 1) := by decide +kernel
theorem dX8_likesAllBy_20 : decode cX8_likesAllBy 20 = .ok (.istore 5, 2) := by decide +kernel
theorem dX8_likesAllBy_22 : decode cX8_likesAllBy 22 = .ok (.iload 5, 2) := by decide +kernel
theorem dX8_likesAllBy_24 : decode cX8_likesAllBy 24 = .ok (.aload_n 0, 1) := by decide +kernel
theorem dX8_likesAllBy_25 : decode cX8_likesAllBy 25 = .ok (.getfield 27, 3) := by decide +kernel
theorem dX8_likesAllBy_28 : decode cX8_likesAllBy 28 = .ok (.getfield 102, 3) := by decide +kernel
theorem dX8_likesAllBy_31 : decode cX8_likesAllBy 31 = .ok (.if_icmp .ge 50, 3) := by decide +kernel
theorem dX8_likesAllBy_34 : decode cX8_likesAllBy 34 = .ok (.iload 4, 2) := by decide +kernel
theorem dX8_likesAllBy_36 : decode cX8_likesAllBy 36 = .ok (.iload 5, 2) := by decide +kernel
theorem dX8_likesAllBy_38 : decode cX8_likesAllBy 38 = .ok (.ishr, 1) := by decide +kernel
theorem dX8_likesAllBy_39 : decode cX8_likesAllBy 39 = .ok (.iconst 1, 1) := by decide +kernel
theorem dX8_likesAllBy_40 : decode cX8_likesAllBy 40 = .ok (.iand, 1) := by decide +kernel
theorem dX8_likesAllBy_41 : decode cX8_likesAllBy 41 = .ok (.ifCond .eq 34, 3) := by decide +kernel
theorem dX8_likesAllBy_44 : decode cX8_likesAllBy 44 = .ok (.aload_n 0, 1) := by decide +kernel
theorem dX8_likesAllBy_45 : decode cX8_likesAllBy 45 = .ok (.getfield 27, 3) := by decide +kernel
theorem dX8_likesAllBy_48 : decode cX8_likesAllBy 48 = .ok (.aload_n 3, 1) := by decide +kernel
theorem dX8_likesAllBy_49 : decode cX8_likesAllBy 49 = .ok (.iload 5, 2) := by decide +kernel
theorem dX8_likesAllBy_51 : decode cX8_likesAllBy 51 = .ok (.aload_n 3, 1) := by decide +kernel
theorem dX8_likesAllBy_52 : decode cX8_likesAllBy 52 = .ok (.getfield 147, 3) := by decide +kernel
theorem dX8_likesAllBy_55 : decode cX8_likesAllBy 55 = .ok (.iload 5, 2) := by decide +kernel
theorem dX8_likesAllBy_57 : decode cX8_likesAllBy 57 = .ok (.iaload, 1) := by decide +kernel
theorem dX8_likesAllBy_58 : decode cX8_likesAllBy 58 = .ok (.invokevirtual 271, 3) := by decide +kernel
theorem dX8_likesAllBy_61 : decode cX8_likesAllBy 61 = .ok (.aload_n 0, 1) := by decide +kernel
theorem dX8_likesAllBy_62 : decode cX8_likesAllBy 62 = .ok (.getfield 27, 3) := by decide +kernel
theorem dX8_likesAllBy_65 : decode cX8_likesAllBy 65 = .ok (.iconst 5, 1) := by decide +kernel
theorem dX8_likesAllBy_66 : decode cX8_likesAllBy 66 = .ok (.iload_n 2, 1) := by decide +kernel
theorem dX8_likesAllBy_67 : decode cX8_likesAllBy 67 = .ok (.invokevirtual 277, 3) := by decide +kernel
theorem dX8_likesAllBy_70 : decode cX8_likesAllBy 70 = .ok (.ifCond .gt 5, 3) := by decide +kernel
theorem dX8_likesAllBy_73 : decode cX8_likesAllBy 73 = .ok (.iconst 0, 1) := by decide +kernel
theorem dX8_likesAllBy_74 : decode cX8_likesAllBy 74 = .ok (.ireturn, 1) := by decide +kernel
theorem dX8_likesAllBy_75 : decode cX8_likesAllBy 75 = .ok (.iinc 5 1, 3) := by decide +kernel
theorem dX8_likesAllBy_78 : decode cX8_likesAllBy 78 = .ok (.goto (-56), 3) := by decide +kernel
theorem dX8_likesAllBy_81 : decode cX8_likesAllBy 81 = .ok (.iconst 1, 1) := by decide +kernel
theorem dX8_likesAllBy_82 : decode cX8_likesAllBy 82 = .ok (.ireturn, 1) := by decide +kernel
set_option maxRecDepth 20000 in
theorem ggX8_likingTogether_X0_current : GoodIn wsX8_likingTogether wsX0_current := goodIn_r _ [16, 17, 18, 96, 97, 98, 99] rfl (by decide +kernel)
set_option maxRecDepth 20000 in
theorem gX8_likingTogether_X0_current : GoodIn wsX8_likingTogether (wsV RX8 115 RX0 yX0_current wsX0_current) := goodIn_app (goodIn_r _ [12, 13, 14, 15] rfl (by decide +kernel)) ggX8_likingTogether_X0_current
set_option maxRecDepth 20000 in
theorem ggX8_likingTogether_X4_likes : GoodIn wsX8_likingTogether wsX4_likes := goodIn_r _ [23, 24, 25, 26, 27, 28, 22, 29, 30, 31, 32, 33, 34, 35, 36, 37, 38, 39, 40, 41, 42, 43, 44, 45, 46, 47, 48, 49, 50, 51, 52, 53, 54, 55, 56, 57, 58, 59, 60, 61, 62, 77, 78, 79, 80, 81, 82, 83, 84, 85, 86, 87, 88, 89, 90, 91, 92, 93, 94, 95, 100, 101, 102] rfl (by decide +kernel)
set_option maxRecDepth 20000 in
theorem gX8_likingTogether_X4_likes : GoodIn wsX8_likingTogether (wsV RX8 166 RX4 yX4_likes wsX4_likes) := goodIn_app (goodIn_r _ [19, 20, 21, 22] rfl (by decide +kernel)) ggX8_likingTogether_X4_likes
theorem dX8_likingTogether_0 : decode cX8_likingTogether 0 = .ok (.aload_n 0, 1) := by decide +kernel
theorem dX8_likingTogether_1 : decode cX8_likingTogether 1 = .ok (.getfield 34, 3) := by decide +kernel
theorem dX8_likingTogether_4 : decode cX8_likingTogether 4 = .ok (.invokevirtual 115, 3) := by decide +kernel
theorem dX8_likingTogether_7 : decode cX8_likingTogether 7 = .ok (.astore_n 2, 1) := by decide +kernel
theorem dX8_likingTogether_8 : decode cX8_likingTogether 8 = .ok (.iconst 0, 1) := by decide +kernel
theorem dX8_likingTogether_9 : decode cX8_likingTogether 9 = .ok (.istore_n 3, 1) := by decide +kernel
theorem dX8_likingTogether_10 : decode cX8_likingTogether 10 = .ok (.iconst 0, 1) := by decide +kernel
theorem dX8_likingTogether_11 : decode cX8_likingTogether 11 = .ok (.istore 4, 2) := by decide +kernel
theorem dX8_likingTogether_13 : decode cX8_likingTogether 13 = .ok (.iload 4, 2) := by decide +kernel
theorem dX8_likingTogether_15 : decode cX8_likingTogether 15 = .ok (.aload_n 0, 1) := by decide +kernel
theorem dX8_likingTogether_16 : decode cX8_likingTogether 16 = .ok (.getfield 27, 3) := by decide +kernel
theorem dX8_likingTogether_19 : decode cX8_likingTogether 19 = .ok (.getfield 102, 3) := by decide +kernel
theorem dX8_likingTogether_22 : decode cX8_likingTogether 22 = .ok (.if_icmp .ge 54, 3) := by decide +kernel
theorem dX8_likingTogether_25 : decode cX8_likingTogether 25 = .ok (.iload_n 1, 1) := by decide +kernel
theorem dX8_likingTogether_26 : decode cX8_likingTogether 26 = .ok (.iload 4, 2) := by decide +kernel
theorem dX8_likingTogether_28 : decode cX8_likingTogether 28 = .ok (.ishr, 1) := by decide +kernel
theorem dX8_likingTogether_29 : decode cX8_likingTogether 29 = .ok (.iconst 1, 1) := by decide +kernel
theorem dX8_likingTogether_30 : decode cX8_likingTogether 30 = .ok (.iand, 1) := by decide +kernel
theorem dX8_likingTogether_31 : decode cX8_likingTogether 31 = .ok (.ifCond .eq 39, 3) := by decide +kernel
theorem dX8_likingTogether_34 : decode cX8_likingTogether 34 = .ok (.aload_n 0, 1) := by decide +kernel
theorem dX8_likingTogether_35 : decode cX8_likingTogether 35 = .ok (.getfield 27, 3) := by decide +kernel
theorem dX8_likingTogether_38 : decode cX8_likingTogether 38 = .ok (.aload_n 2, 1) := by decide +kernel
theorem dX8_likingTogether_39 : decode cX8_likingTogether 39 = .ok (.iload 4, 2) := by decide +kernel
theorem dX8_likingTogether_41 : decode cX8_likingTogether 41 = .ok (.aload_n 2, 1) := by decide +kernel
theorem dX8_likingTogether_42 : decode cX8_likingTogether 42 = .ok (.getfield 147, 3) := by decide +kernel
theorem dX8_likingTogether_45 : decode cX8_likingTogether 45 = .ok (.iload 4, 2) := by decide +kernel
theorem dX8_likingTogether_47 : decode cX8_likingTogether 47 = .ok (.iaload, 1) := by decide +kernel
theorem dX8_likingTogether_48 : decode cX8_likingTogether 48 = .ok (.invokevirtual 166, 3) := by decide +kernel
theorem dX8_likingTogether_51 : decode cX8_likingTogether 51 = .ok (.istore 5, 2) := by decide +kernel
theorem dX8_likingTogether_53 : decode cX8_likingTogether 53 = .ok (.iload_n 3, 1) := by decide +kernel
theorem dX8_likingTogether_54 : decode cX8_likingTogether 54 = .ok (.sipush (-9999), 3) := by decide +kernel
theorem dX8_likingTogether_57 : decode cX8_likingTogether 57 = .ok (.sipush 9999, 3) := by decide +kernel
theorem dX8_likingTogether_60 : decode cX8_likingTogether 60 = .ok (.iload 5, 2) := by decide +kernel
theorem dX8_likingTogether_62 : decode cX8_likingTogether 62 = .ok (.invokestatic 246, 3) := by decide +kernel
theorem dX8_likingTogether_65 : decode cX8_likingTogether 65 = .ok (.invokestatic 241, 3) := by decide +kernel
theorem dX8_likingTogether_68 : decode cX8_likingTogether 68 = .ok (.iadd, 1) := by decide +kernel
theorem dX8_likingTogether_69 : decode cX8_likingTogether 69 = .ok (.istore_n 3, 1) := by decide +kernel
theorem dX8_likingTogether_70 : decode cX8_likingTogether 70 = .ok (.iinc 4 1, 3) := by decide +kernel
theorem dX8_likingTogether_73 : decode cX8_likingTogether 73 = .ok (.goto (-60), 3) := by decide +kernel
theorem dX8_likingTogether_76 : decode cX8_likingTogether 76 = .ok (.iload_n 3, 1) := by decide +kernel
theorem dX8_likingTogether_77 : decode cX8_likingTogether 77 = .ok (.ireturn, 1) := by decide +kernel
set_option maxRecDepth 20000 in
theorem ggX8_isLikedAnywhere_X0_current : GoodIn wsX8_isLikedAnywhere wsX0_current := goodIn_r _ [8, 9, 10, 81, 82, 83, 84] rfl (by decide +kernel)
set_option maxRecDepth 20000 in
theorem gX8_isLikedAnywhere_X0_current : GoodIn wsX8_isLikedAnywhere (wsV RX8 115 RX0 yX0_current wsX0_current) := goodIn_app (goodIn_r _ [4, 5, 6, 7] rfl (by decide +kernel)) ggX8_isLikedAnywhere_X0_current
set_option maxRecDepth 20000 in
theorem ggX8_isLikedAnywhere_X7_isKept : GoodIn wsX8_isLikedAnywhere wsX7_isKept := goodIn_r _ [15, 16, 85, 86, 87, 88, 89, 90, 91, 92] rfl (by decide +kernel)
set_option maxRecDepth 20000 in
theorem gX8_isLikedAnywhere_X7_isKept : GoodIn wsX8_isLikedAnywhere (wsV RX8 162 RX7 yX7_isKept wsX7_isKept) := goodIn_app (goodIn_r _ [11, 12, 13, 14] rfl (by decide +kernel)) ggX8_isLikedAnywhere_X7_isKept
set_option maxRecDepth 20000 in
theorem ggX8_isLikedAnywhere_X4_likes : GoodIn wsX8_isLikedAnywhere wsX4_likes := goodIn_r _ [21, 22, 23, 24, 25, 26, 20, 27, 28, 29, 30, 31, 32, 33, 34, 35, 36, 37, 12, 13, 14, 15, 16, 38, 39, 40, 41, 42, 43, 44, 45, 46, 47, 48, 49, 50, 51, 52, 53, 54, 55, 70, 71, 72, 73, 74, 75, 76, 77, 78, 79, 80, 85, 86, 87, 88, 89, 90, 91, 92, 93, 94, 95] rfl (by decide +kernel)
set_option maxRecDepth 20000 in
theorem gX8_isLikedAnywhere_X4_likes : GoodIn wsX8_isLikedAnywhere (wsV RX8 166 RX4 yX4_likes wsX4_likes) := goodIn_app (goodIn_r _ [17, 18, 19, 20] rfl (by decide +kernel)) ggX8_isLikedAnywhere_X4_likes
theorem dX8_isLikedAnywhere_0 : decode cX8_isLikedAnywhere 0 = .ok (.aload_n 0, 1) := by decide +kernel
theorem dX8_isLikedAnywhere_1 : decode cX8_isLikedAnywhere 1 = .ok (.getfield 34, 3) := by decide +kernel
theorem dX8_isLikedAnywhere_4 : decode cX8_isLikedAnywhere 4 = .ok (.invokevirtual 115, 3) := by decide +kernel
theorem dX8_isLikedAnywhere_7 : decode cX8_isLikedAnywhere 7 = .ok (.astore_n 2, 1) := by decide +kernel
theorem dX8_isLikedAnywhere_8 : decode cX8_isLikedAnywhere 8 = .ok (.iconst 0, 1) := by decide +kernel
theorem dX8_isLikedAnywhere_9 : decode cX8_isLikedAnywhere 9 = .ok (.istore_n 3, 1) := by decide +kernel
theorem dX8_isLikedAnywhere_10 : decode cX8_isLikedAnywhere 10 = .ok (.iload_n 3, 1) := by decide +kernel
theorem dX8_isLikedAnywhere_11 : decode cX8_isLikedAnywhere 11 = .ok (.aload_n 0, 1) := by decide +kernel
theorem dX8_isLikedAnywhere_12 : decode cX8_isLikedAnywhere 12 = .ok (.getfield 27, 3) := by decide +kernel
theorem dX8_isLikedAnywhere_15 : decode cX8_isLikedAnywhere 15 = .ok (.getfield 173, 3) := by decide +kernel
theorem dX8_isLikedAnywhere_18 : decode cX8_isLikedAnywhere 18 = .ok (.if_icmp .ge 32, 3) := by decide +kernel
theorem dX8_isLikedAnywhere_21 : decode cX8_isLikedAnywhere 21 = .ok (.aload_n 2, 1) := by decide +kernel
theorem dX8_isLikedAnywhere_22 : decode cX8_isLikedAnywhere 22 = .ok (.iload_n 3, 1) := by decide +kernel
theorem dX8_isLikedAnywhere_23 : decode cX8_isLikedAnywhere 23 = .ok (.invokevirtual 162, 3) := by decide +kernel
theorem dX8_isLikedAnywhere_26 : decode cX8_isLikedAnywhere 26 = .ok (.ifCond .eq 18, 3) := by decide +kernel
theorem dX8_isLikedAnywhere_29 : decode cX8_isLikedAnywhere 29 = .ok (.aload_n 0, 1) := by decide +kernel
theorem dX8_isLikedAnywhere_30 : decode cX8_isLikedAnywhere 30 = .ok (.getfield 27, 3) := by decide +kernel
theorem dX8_isLikedAnywhere_33 : decode cX8_isLikedAnywhere 33 = .ok (.aload_n 2, 1) := by decide +kernel
theorem dX8_isLikedAnywhere_34 : decode cX8_isLikedAnywhere 34 = .ok (.iload_n 1, 1) := by decide +kernel
theorem dX8_isLikedAnywhere_35 : decode cX8_isLikedAnywhere 35 = .ok (.iload_n 3, 1) := by decide +kernel
theorem dX8_isLikedAnywhere_36 : decode cX8_isLikedAnywhere 36 = .ok (.invokevirtual 166, 3) := by decide +kernel
theorem dX8_isLikedAnywhere_39 : decode cX8_isLikedAnywhere 39 = .ok (.ifCond .le 5, 3) := by decide +kernel
theorem dX8_isLikedAnywhere_42 : decode cX8_isLikedAnywhere 42 = .ok (.iconst 1, 1) := by decide +kernel
theorem dX8_isLikedAnywhere_43 : decode cX8_isLikedAnywhere 43 = .ok (.ireturn, 1) := by decide +kernel
theorem dX8_isLikedAnywhere_44 : decode cX8_isLikedAnywhere 44 = .ok (.iinc 3 1, 3) := by decide +kernel
theorem dX8_isLikedAnywhere_47 : decode cX8_isLikedAnywhere 47 = .ok (.goto (-37), 3) := by decide +kernel
theorem dX8_isLikedAnywhere_50 : decode cX8_isLikedAnywhere 50 = .ok (.iconst 0, 1) := by decide +kernel
theorem dX8_isLikedAnywhere_51 : decode cX8_isLikedAnywhere 51 = .ok (.ireturn, 1) := by decide +kernel
set_option maxRecDepth 20000 in
theorem ggX8_seen_X8_isSeenQuarter : GoodIn wsX8_seen wsX8_isSeenQuarter := goodIn_r _ [8] rfl (by decide +kernel)
set_option maxRecDepth 20000 in
theorem gX8_seen_X8_isSeenQuarter : GoodIn wsX8_seen (va_wsS RX8 315 yX8_isSeenQuarter wsX8_isSeenQuarter) := goodIn_app (goodIn_r _ [5, 6, 7] rfl (by decide +kernel)) ggX8_seen_X8_isSeenQuarter
set_option maxRecDepth 20000 in
theorem ggX8_seen_X8_isTenant : GoodIn wsX8_seen wsX8_isTenant := goodIn_r _ [12, 1, 13, 25, 26, 27, 28, 29, 30, 31, 32, 33, 34, 35, 36, 37, 38, 39, 40, 41, 42, 43, 44, 45, 46, 47, 48, 49] rfl (by decide +kernel)
set_option maxRecDepth 20000 in
theorem gX8_seen_X8_isTenant : GoodIn wsX8_seen (wsV RX8 144 RX8 yX8_isTenant wsX8_isTenant) := goodIn_app (goodIn_r _ [9, 10, 11, 7] rfl (by decide +kernel)) ggX8_seen_X8_isTenant
set_option maxRecDepth 20000 in
theorem ggX8_seen_X6_add : GoodIn wsX8_seen wsX6_add := goodIn_r _ [18, 19, 20, 21, 22, 23, 24, 50, 51, 52, 53, 54, 55, 56, 57, 58] rfl (by decide +kernel)
set_option maxRecDepth 20000 in
theorem gX8_seen_X6_add : GoodIn wsX8_seen (wsV RX8 318 RX6 yX6_add wsX6_add) := goodIn_app (goodIn_r _ [14, 15, 16, 17] rfl (by decide +kernel)) ggX8_seen_X6_add
theorem dX8_seen_0 : decode cX8_seen 0 = .ok (.iload_n 1, 1) := by decide +kernel
theorem dX8_seen_1 : decode cX8_seen 1 = .ok (.invokestatic 315, 3) := by decide +kernel
theorem dX8_seen_4 : decode cX8_seen 4 = .ok (.ifCond .eq 21, 3) := by decide +kernel
theorem dX8_seen_7 : decode cX8_seen 7 = .ok (.aload_n 0, 1) := by decide +kernel
theorem dX8_seen_8 : decode cX8_seen 8 = .ok (.iload_n 2, 1) := by decide +kernel
theorem dX8_seen_9 : decode cX8_seen 9 = .ok (.invokevirtual 144, 3) := by decide +kernel
theorem dX8_seen_12 : decode cX8_seen 12 = .ok (.ifCond .eq 13, 3) := by decide +kernel
theorem dX8_seen_15 : decode cX8_seen 15 = .ok (.aload_n 0, 1) := by decide +kernel
theorem dX8_seen_16 : decode cX8_seen 16 = .ok (.getfield 27, 3) := by decide +kernel
theorem dX8_seen_19 : decode cX8_seen 19 = .ok (.getfield 170, 3) := by decide +kernel
theorem dX8_seen_22 : decode cX8_seen 22 = .ok (.ifCond .ne 5, 3) := by decide +kernel
theorem dX8_seen_25 : decode cX8_seen 25 = .ok (.iconst (-1), 1) := by decide +kernel
theorem dX8_seen_26 : decode cX8_seen 26 = .ok (.ireturn, 1) := by decide +kernel
theorem dX8_seen_27 : decode cX8_seen 27 = .ok (.aload_n 0, 1) := by decide +kernel
theorem dX8_seen_28 : decode cX8_seen 28 = .ok (.getfield 76, 3) := by decide +kernel
theorem dX8_seen_31 : decode cX8_seen 31 = .ok (.iload_n 1, 1) := by decide +kernel
theorem dX8_seen_32 : decode cX8_seen 32 = .ok (.iload_n 2, 1) := by decide +kernel
theorem dX8_seen_33 : decode cX8_seen 33 = .ok (.iload_n 3, 1) := by decide +kernel
theorem dX8_seen_34 : decode cX8_seen 34 = .ok (.aload_n 0, 1) := by decide +kernel
theorem dX8_seen_35 : decode cX8_seen 35 = .ok (.getfield 80, 3) := by decide +kernel
theorem dX8_seen_38 : decode cX8_seen 38 = .ok (.invokevirtual 318, 3) := by decide +kernel
theorem dX8_seen_41 : decode cX8_seen 41 = .ok (.ireturn, 1) := by decide +kernel
set_option maxRecDepth 20000 in
theorem ggX8_untell_X6_takeBack : GoodIn wsX8_untell wsX6_takeBack := goodIn_r _ [7, 8, 9, 24, 25, 26, 27, 28, 29, 30, 31, 32] rfl (by decide +kernel)
set_option maxRecDepth 20000 in
theorem gX8_untell_X6_takeBack : GoodIn wsX8_untell (wsV RX8 322 RX6 yX6_takeBack wsX6_takeBack) := goodIn_app (goodIn_r _ [3, 4, 5, 6] rfl (by decide +kernel)) ggX8_untell_X6_takeBack
