theorem dX8_cat_61 : decode cX8_cat 61 = .ok (.ifCond .eq 7, 3) := by decide +kernel
theorem dX8_cat_64 : decode cX8_cat 64 = .ok (.iconst 1, 1) := by decide +kernel
theorem dX8_cat_65 : decode cX8_cat 65 = .ok (.goto 4, 3) := by decide +kernel
theorem dX8_cat_68 : decode cX8_cat 68 = .ok (.iconst 0, 1) := by decide +kernel
theorem dX8_cat_69 : decode cX8_cat 69 = .ok (.ireturn, 1) := by decide +kernel
theorem dX8_cat_70 : decode cX8_cat 70 = .ok (.aload_n 0, 1) := by decide +kernel
theorem dX8_cat_71 : decode cX8_cat 71 = .ok (.getfield 27, 3) := by decide +kernel
theorem dX8_cat_74 : decode cX8_cat 74 = .ok (.getfield 122, 3) := by decide +kernel
theorem dX8_cat_77 : decode cX8_cat 77 = .ok (.iload_n 1, 1) := by decide +kernel
theorem dX8_cat_78 : decode cX8_cat 78 = .ok (.iaload, 1) := by decide +kernel
theorem dX8_cat_79 : decode cX8_cat 79 = .ok (.ireturn, 1) := by decide +kernel
theorem dX8_cat_80 : decode cX8_cat 80 = .ok (.aload_n 0, 1) := by decide +kernel
theorem dX8_cat_81 : decode cX8_cat 81 = .ok (.getfield 27, 3) := by decide +kernel
theorem dX8_cat_84 : decode cX8_cat 84 = .ok (.getfield 125, 3) := by decide +kernel
theorem dX8_cat_87 : decode cX8_cat 87 = .ok (.iload_n 1, 1) := by decide +kernel
theorem dX8_cat_88 : decode cX8_cat 88 = .ok (.iaload, 1) := by decide +kernel
theorem dX8_cat_89 : decode cX8_cat 89 = .ok (.ireturn, 1) := by decide +kernel
theorem dX8_cat_90 : decode cX8_cat 90 = .ok (.aload_n 0, 1) := by decide +kernel
theorem dX8_cat_91 : decode cX8_cat 91 = .ok (.getfield 27, 3) := by decide +kernel
theorem dX8_cat_94 : decode cX8_cat 94 = .ok (.aload_n 3, 1) := by decide +kernel
theorem dX8_cat_95 : decode cX8_cat 95 = .ok (.iload_n 1, 1) := by decide +kernel
theorem dX8_cat_96 : decode cX8_cat 96 = .ok (.invokevirtual 128, 3) := by decide +kernel
theorem dX8_cat_99 : decode cX8_cat 99 = .ok (.ireturn, 1) := by decide +kernel
theorem dX8_cat_100 : decode cX8_cat 100 = .ok (.aload_n 0, 1) := by decide +kernel
theorem dX8_cat_101 : decode cX8_cat 101 = .ok (.getfield 27, 3) := by decide +kernel
theorem dX8_cat_104 : decode cX8_cat 104 = .ok (.aload_n 3, 1) := by decide +kernel
theorem dX8_cat_105 : decode cX8_cat 105 = .ok (.iload_n 1, 1) := by decide +kernel
theorem dX8_cat_106 : decode cX8_cat 106 = .ok (.invokevirtual 132, 3) := by decide +kernel
theorem dX8_cat_109 : decode cX8_cat 109 = .ok (.ireturn, 1) := by decide +kernel
theorem dX8_cat_110 : decode cX8_cat 110 = .ok (.bipush (-2), 2) := by decide +kernel
theorem dX8_cat_112 : decode cX8_cat 112 = .ok (.ireturn, 1) := by decide +kernel
set_option maxRecDepth 20000 in
theorem ggX8_room_X8_isRoom : GoodIn wsX8_room wsX8_isRoom := goodIn_r _ [8, 3, 9, 24, 25, 26, 27, 28, 29, 30, 31, 32, 33, 34, 35, 36, 37, 46, 47, 48, 49, 50, 51, 52, 53, 54, 55, 56] rfl (by decide +kernel)
set_option maxRecDepth 20000 in
theorem gX8_room_X8_isRoom : GoodIn wsX8_room (wsV RX8 135 RX8 yX8_isRoom wsX8_isRoom) := goodIn_app (goodIn_r _ [4, 5, 6, 7] rfl (by decide +kernel)) ggX8_room_X8_isRoom
set_option maxRecDepth 20000 in
theorem ggX8_room_X0_current : GoodIn wsX8_room wsX0_current := goodIn_r _ [14, 15, 16, 57, 58, 59, 60] rfl (by decide +kernel)
set_option maxRecDepth 20000 in
theorem gX8_room_X0_current : GoodIn wsX8_room (wsV RX8 115 RX0 yX0_current wsX0_current) := goodIn_app (goodIn_r _ [10, 11, 12, 13] rfl (by decide +kernel)) ggX8_room_X0_current
set_option maxRecDepth 20000 in
theorem ggX8_room_X4_whoIsIn : GoodIn wsX8_room wsX4_whoIsIn := goodIn_r _ [21, 22, 23, 46, 47, 48, 49, 50, 51, 52, 53, 54, 55, 56, 38, 39, 40, 41, 42, 43, 44, 45] rfl (by decide +kernel)
set_option maxRecDepth 20000 in
theorem gX8_room_X4_whoIsIn : GoodIn wsX8_room (wsV RX8 141 RX4 yX4_whoIsIn wsX4_whoIsIn) := goodIn_app (goodIn_r _ [17, 18, 19, 20] rfl (by decide +kernel)) ggX8_room_X4_whoIsIn
theorem dX8_room_0 : decode cX8_room 0 = .ok (.aload_n 0, 1) := by decide +kernel
theorem dX8_room_1 : decode cX8_room 1 = .ok (.iload_n 1, 1) := by decide +kernel
theorem dX8_room_2 : decode cX8_room 2 = .ok (.invokevirtual 135, 3) := by decide +kernel
theorem dX8_room_5 : decode cX8_room 5 = .ok (.ifCond .ne 6, 3) := by decide +kernel
theorem dX8_room_8 : decode cX8_room 8 = .ok (.bipush (-2), 2) := by decide +kernel
theorem dX8_room_10 : decode cX8_room 10 = .ok (.ireturn, 1) := by decide +kernel
theorem dX8_room_11 : decode cX8_room 11 = .ok (.aload_n 0, 1) := by decide +kernel
theorem dX8_room_12 : decode cX8_room 12 = .ok (.getfield 34, 3) := by decide +kernel
theorem dX8_room_15 : decode cX8_room 15 = .ok (.invokevirtual 115, 3) := by decide +kernel
theorem dX8_room_18 : decode cX8_room 18 = .ok (.astore_n 3, 1) := by decide +kernel
theorem dX8_room_19 : decode cX8_room 19 = .ok (.iload_n 2, 1) := by decide +kernel
theorem dX8_room_20 : decode cX8_room 20 = .ok (.lookupswitch 45 #[(0, 28), (1, 35)], 28) := by decide +kernel
theorem dX8_room_48 : decode cX8_room 48 = .ok (.aload_n 3, 1) := by decide +kernel
theorem dX8_room_49 : decode cX8_room 49 = .ok (.getfield 138, 3) := by decide +kernel
theorem dX8_room_52 : decode cX8_room 52 = .ok (.iload_n 1, 1) := by decide +kernel
theorem dX8_room_53 : decode cX8_room 53 = .ok (.iaload, 1) := by decide +kernel
theorem dX8_room_54 : decode cX8_room 54 = .ok (.ireturn, 1) := by decide +kernel
theorem dX8_room_55 : decode cX8_room 55 = .ok (.aload_n 0, 1) := by decide +kernel
theorem dX8_room_56 : decode cX8_room 56 = .ok (.getfield 27, 3) := by decide +kernel
theorem dX8_room_59 : decode cX8_room 59 = .ok (.aload_n 3, 1) := by decide +kernel
theorem dX8_room_60 : decode cX8_room 60 = .ok (.iload_n 1, 1) := by decide +kernel
theorem dX8_room_61 : decode cX8_room 61 = .ok (.invokevirtual 141, 3) := by decide +kernel
theorem dX8_room_64 : decode cX8_room 64 = .ok (.ireturn, 1) := by decide +kernel
theorem dX8_room_65 : decode cX8_room 65 = .ok (.bipush (-2), 2) := by decide +kernel
theorem dX8_room_67 : decode cX8_room 67 = .ok (.ireturn, 1) := by decide +kernel
set_option maxRecDepth 20000 in
theorem ggX8_tenant_X8_isTenant : GoodIn wsX8_tenant wsX8_isTenant := goodIn_r _ [12, 4, 13, 21, 22, 23, 24, 25, 26, 27, 28, 29, 30, 31, 32, 33, 34, 43, 44, 45, 46, 47, 48, 49, 50, 51, 52, 53] rfl (by decide +kernel)
set_option maxRecDepth 20000 in
theorem gX8_tenant_X8_isTenant : GoodIn wsX8_tenant (wsV RX8 144 RX8 yX8_isTenant wsX8_isTenant) := goodIn_app (goodIn_r _ [8, 9, 10, 11] rfl (by decide +kernel)) ggX8_tenant_X8_isTenant
set_option maxRecDepth 20000 in
theorem ggX8_tenant_X0_current : GoodIn wsX8_tenant wsX0_current := goodIn_r _ [18, 19, 20, 54, 55, 56, 57] rfl (by decide +kernel)
set_option maxRecDepth 20000 in
theorem gX8_tenant_X0_current : GoodIn wsX8_tenant (wsV RX8 115 RX0 yX0_current wsX0_current) := goodIn_app (goodIn_r _ [14, 15, 16, 17] rfl (by decide +kernel)) ggX8_tenant_X0_current
theorem dX8_tenant_0 : decode cX8_tenant 0 = .ok (.aload_n 0, 1) := by decide +kernel
theorem dX8_tenant_1 : decode cX8_tenant 1 = .ok (.iload_n 1, 1) := by decide +kernel
theorem dX8_tenant_2 : decode cX8_tenant 2 = .ok (.invokevirtual 144, 3) := by decide +kernel
theorem dX8_tenant_5 : decode cX8_tenant 5 = .ok (.ifCond .ne 6, 3) := by decide +kernel
theorem dX8_tenant_8 : decode cX8_tenant 8 = .ok (.bipush (-2), 2) := by decide +kernel
theorem dX8_tenant_10 : decode cX8_tenant 10 = .ok (.ireturn, 1) := by decide +kernel
theorem dX8_tenant_11 : decode cX8_tenant 11 = .ok (.aload_n 0, 1) := by decide +kernel
theorem dX8_tenant_12 : decode cX8_tenant 12 = .ok (.getfield 34, 3) := by decide +kernel
theorem dX8_tenant_15 : decode cX8_tenant 15 = .ok (.invokevirtual 115, 3) := by decide +kernel
theorem dX8_tenant_18 : decode cX8_tenant 18 = .ok (.astore_n 3, 1) := by decide +kernel
theorem dX8_tenant_19 : decode cX8_tenant 19 = .ok (.iload_n 2, 1) := by decide +kernel
theorem dX8_tenant_20 : decode cX8_tenant 20 = .ok (.tableswitch 74 0 4 #[36, 43, 50, 60, 67], 36) := by decide +kernel
theorem dX8_tenant_56 : decode cX8_tenant 56 = .ok (.aload_n 3, 1) := by decide +kernel
theorem dX8_tenant_57 : decode cX8_tenant 57 = .ok (.getfield 147, 3) := by decide +kernel
theorem dX8_tenant_60 : decode cX8_tenant 60 = .ok (.iload_n 1, 1) := by decide +kernel
theorem dX8_tenant_61 : decode cX8_tenant 61 = .ok (.iaload, 1) := by decide +kernel
theorem dX8_tenant_62 : decode cX8_tenant 62 = .ok (.ireturn, 1) := by decide +kernel
theorem dX8_tenant_63 : decode cX8_tenant 63 = .ok (.aload_n 3, 1) := by decide +kernel
theorem dX8_tenant_64 : decode cX8_tenant 64 = .ok (.getfield 150, 3) := by decide +kernel
theorem dX8_tenant_67 : decode cX8_tenant 67 = .ok (.iload_n 1, 1) := by decide +kernel
theorem dX8_tenant_68 : decode cX8_tenant 68 = .ok (.iaload, 1) := by decide +kernel
theorem dX8_tenant_69 : decode cX8_tenant 69 = .ok (.ireturn, 1) := by decide +kernel
theorem dX8_tenant_70 : decode cX8_tenant 70 = .ok (.aload_n 0, 1) := by decide +kernel
theorem dX8_tenant_71 : decode cX8_tenant 71 = .ok (.getfield 27, 3) := by decide +kernel
theorem dX8_tenant_74 : decode cX8_tenant 74 = .ok (.getfield 153, 3) := by decide +kernel
theorem dX8_tenant_77 : decode cX8_tenant 77 = .ok (.iload_n 1, 1) := by decide +kernel
theorem dX8_tenant_78 : decode cX8_tenant 78 = .ok (.iaload, 1) := by decide +kernel
theorem dX8_tenant_79 : decode cX8_tenant 79 = .ok (.ireturn, 1) := by decide +kernel
theorem dX8_tenant_80 : decode cX8_tenant 80 = .ok (.aload_n 3, 1) := by decide +kernel
theorem dX8_tenant_81 : decode cX8_tenant 81 = .ok (.getfield 156, 3) := by decide +kernel
theorem dX8_tenant_84 : decode cX8_tenant 84 = .ok (.iload_n 1, 1) := by decide +kernel
theorem dX8_tenant_85 : decode cX8_tenant 85 = .ok (.iaload, 1) := by decide +kernel
theorem dX8_tenant_86 : decode cX8_tenant 86 = .ok (.ireturn, 1) := by decide +kernel
theorem dX8_tenant_87 : decode cX8_tenant 87 = .ok (.aload_n 3, 1) := by decide +kernel
theorem dX8_tenant_88 : decode cX8_tenant 88 = .ok (.getfield 159, 3) := by decide +kernel
theorem dX8_tenant_91 : decode cX8_tenant 91 = .ok (.iload_n 1, 1) := by decide +kernel
theorem dX8_tenant_92 : decode cX8_tenant 92 = .ok (.iaload, 1) := by decide +kernel
theorem dX8_tenant_93 : decode cX8_tenant 93 = .ok (.ireturn, 1) := by decide +kernel
theorem dX8_tenant_94 : decode cX8_tenant 94 = .ok (.bipush (-2), 2) := by decide +kernel
theorem dX8_tenant_96 : decode cX8_tenant 96 = .ok (.ireturn, 1) := by decide +kernel
set_option maxRecDepth 20000 in
theorem ggX8_liking_X0_current : GoodIn wsX8_liking wsX0_current := goodIn_r _ [8, 9, 10, 81, 82, 83, 84] rfl (by decide +kernel)
set_option maxRecDepth 20000 in
theorem gX8_liking_X0_current : GoodIn wsX8_liking (wsV RX8 115 RX0 yX0_current wsX0_current) := goodIn_app (goodIn_r _ [4, 5, 6, 7] rfl (by decide +kernel)) ggX8_liking_X0_current
set_option maxRecDepth 20000 in
theorem ggX8_liking_X8_isTenant : GoodIn wsX8_liking wsX8_isTenant := goodIn_r _ [15, 3, 16, 67, 68, 69, 70, 71, 72, 73, 74, 75, 76, 77, 78, 79, 80, 85, 86, 87, 88, 89, 90, 91, 92, 93, 94, 95] rfl (by decide +kernel)
set_option maxRecDepth 20000 in
theorem gX8_liking_X8_isTenant : GoodIn wsX8_liking (wsV RX8 144 RX8 yX8_isTenant wsX8_isTenant) := goodIn_app (goodIn_r _ [11, 12, 13, 14] rfl (by decide +kernel)) ggX8_liking_X8_isTenant
set_option maxRecDepth 20000 in
theorem ggX8_liking_X8_isRoom : GoodIn wsX8_liking wsX8_isRoom := goodIn_r _ [20, 3, 21, 67, 68, 69, 70, 71, 72, 73, 74, 75, 76, 77, 78, 79, 80, 85, 86, 87, 88, 89, 90, 91, 92, 93, 94, 95] rfl (by decide +kernel)
set_option maxRecDepth 20000 in
theorem gX8_liking_X8_isRoom : GoodIn wsX8_liking (wsV RX8 135 RX8 yX8_isRoom wsX8_isRoom) := goodIn_app (goodIn_r _ [17, 18, 19, 14] rfl (by decide +kernel)) ggX8_liking_X8_isRoom
set_option maxRecDepth 20000 in
theorem ggX8_liking_X7_isKept : GoodIn wsX8_liking wsX7_isKept := goodIn_r _ [26, 27, 96, 97, 98, 99, 100, 101, 102, 103] rfl (by decide +kernel)
set_option maxRecDepth 20000 in
theorem gX8_liking_X7_isKept : GoodIn wsX8_liking (wsV RX8 162 RX7 yX7_isKept wsX7_isKept) := goodIn_app (goodIn_r _ [22, 23, 24, 25] rfl (by decide +kernel)) ggX8_liking_X7_isKept
set_option maxRecDepth 20000 in
theorem ggX8_liking_X4_likes : GoodIn wsX8_liking wsX4_likes := goodIn_r _ [32, 33, 34, 35, 36, 37, 31, 38, 39, 40, 41, 42, 43, 44, 45, 46, 47, 48, 23, 24, 25, 26, 27, 49, 50, 51, 52, 53, 54, 55, 56, 57, 58, 59, 60, 61, 62, 63, 64, 65, 66, 85, 86, 87, 88, 89, 90, 91, 92, 93, 94, 95, 96, 97, 98, 99, 100, 101, 102, 103, 104, 105, 106] rfl (by decide +kernel)
set_option maxRecDepth 20000 in
theorem gX8_liking_X4_likes : GoodIn wsX8_liking (wsV RX8 166 RX4 yX4_likes wsX4_likes) := goodIn_app (goodIn_r _ [28, 29, 30, 31] rfl (by decide +kernel)) ggX8_liking_X4_likes
theorem dX8_liking_0 : decode cX8_liking 0 = .ok (.aload_n 0, 1) := by decide +kernel
theorem dX8_liking_1 : decode cX8_liking 1 = .ok (.getfield 34, 3) := by decide +kernel
theorem dX8_liking_4 : decode cX8_liking 4 = .ok (.invokevirtual 115, 3) := by decide +kernel
theorem dX8_liking_7 : decode cX8_liking 7 = .ok (.astore_n 3, 1) := by decide +kernel
theorem dX8_liking_8 : decode cX8_liking 8 = .ok (.aload_n 0, 1) := by decide +kernel
theorem dX8_liking_9 : decode cX8_liking 9 = .ok (.iload_n 1, 1) := by decide +kernel
theorem dX8_liking_10 : decode cX8_liking 10 = .ok (.invokevirtual 144, 3) := by decide +kernel
theorem dX8_liking_13 : decode cX8_liking 13 = .ok (.ifCond .eq 19, 3) := by decide +kernel
theorem dX8_liking_16 : decode cX8_liking 16 = .ok (.aload_n 0, 1) := by decide +kernel
theorem dX8_liking_17 : decode cX8_liking 17 = .ok (.iload_n 2, 1) := by decide +kernel
theorem dX8_liking_18 : decode cX8_liking 18 = .ok (.invokevirtual 135, 3) := by decide +kernel
theorem dX8_liking_21 : decode cX8_liking 21 = .ok (.ifCond .eq 11, 3) := by decide +kernel
theorem dX8_liking_24 : decode cX8_liking 24 = .ok (.aload_n 3, 1) := by decide +kernel
theorem dX8_liking_25 : decode cX8_liking 25 = .ok (.iload_n 2, 1) := by decide +kernel
theorem dX8_liking_26 : decode cX8_liking 26 = .ok (.invokevirtual 162, 3) := by decide +kernel
theorem dX8_liking_29 : decode cX8_liking 29 = .ok (.ifCond .ne 6, 3) := by decide +kernel
theorem dX8_liking_32 : decode cX8_liking 32 = .ok (.ldc 165, 2) := by decide +kernel
theorem dX8_liking_34 : decode cX8_liking 34 = .ok (.ireturn, 1) := by decide +kernel
theorem dX8_liking_35 : decode cX8_liking 35 = .ok (.aload_n 0, 1) := by decide +kernel
theorem dX8_liking_36 : decode cX8_liking 36 = .ok (.getfield 27, 3) := by decide +kernel
theorem dX8_liking_39 : decode cX8_liking 39 = .ok (.aload_n 3, 1) := by decide +kernel
theorem dX8_liking_40 : decode cX8_liking 40 = .ok (.iload_n 1, 1) := by decide +kernel
theorem dX8_liking_41 : decode cX8_liking 41 = .ok (.iload_n 2, 1) := by decide +kernel
theorem dX8_liking_42 : decode cX8_liking 42 = .ok (.invokevirtual 166, 3) := by decide +kernel
theorem dX8_liking_45 : decode cX8_liking 45 = .ok (.ireturn, 1) := by decide +kernel
theorem dX8_isCat_0 : decode cX8_isCat 0 = .ok (.iload_n 1, 1) := by decide +kernel
theorem dX8_isCat_1 : decode cX8_isCat 1 = .ok (.ifCond .lt 18, 3) := by decide +kernel
theorem dX8_isCat_4 : decode cX8_isCat 4 = .ok (.iload_n 1, 1) := by decide +kernel
theorem dX8_isCat_5 : decode cX8_isCat 5 = .ok (.aload_n 0, 1) := by decide +kernel
theorem dX8_isCat_6 : decode cX8_isCat 6 = .ok (.getfield 27, 3) := by decide +kernel
theorem dX8_isCat_9 : decode cX8_isCat 9 = .ok (.getfield 170, 3) := by decide +kernel
theorem dX8_isCat_12 : decode cX8_isCat 12 = .ok (.if_icmp .ge 7, 3) := by decide +kernel
theorem dX8_isCat_15 : decode cX8_isCat 15 = .ok (.iconst 1, 1) := by decide +kernel
theorem dX8_isCat_16 : decode cX8_isCat 16 = .ok (.goto 4, 3) := by decide +kernel
theorem dX8_isCat_19 : decode cX8_isCat 19 = .ok (.iconst 0, 1) := by decide +kernel
theorem dX8_isCat_20 : decode cX8_isCat 20 = .ok (.ireturn, 1) := by decide +kernel
set_option maxRecDepth 20000 in
theorem ggX8_isLivingCat_X8_isCat : GoodIn wsX8_isLivingCat wsX8_isCat := goodIn_r _ [6, 7, 8, 22, 23, 24, 25, 26, 27, 28, 29, 30, 31, 32, 33, 34, 35, 36, 37, 38, 39, 40, 41, 42, 43, 44, 45, 46] rfl (by decide +kernel)
set_option maxRecDepth 20000 in
theorem gX8_isLivingCat_X8_isCat : GoodIn wsX8_isLivingCat (wsV RX8 111 RX8 yX8_isCat wsX8_isCat) := goodIn_app (goodIn_r _ [2, 3, 4, 5] rfl (by decide +kernel)) ggX8_isLivingCat_X8_isCat
set_option maxRecDepth 20000 in
theorem ggX8_isLivingCat_X0_current : GoodIn wsX8_isLivingCat wsX0_current := goodIn_r _ [13, 14, 15, 47, 48, 49, 50] rfl (by decide +kernel)
set_option maxRecDepth 20000 in
theorem gX8_isLivingCat_X0_current : GoodIn wsX8_isLivingCat (wsV RX8 115 RX0 yX0_current wsX0_current) := goodIn_app (goodIn_r _ [9, 10, 11, 12] rfl (by decide +kernel)) ggX8_isLivingCat_X0_current
set_option maxRecDepth 20000 in
theorem ggX8_isLivingCat_X7_isLiving : GoodIn wsX8_isLivingCat wsX7_isLiving := goodIn_r _ [20, 21, 51, 52, 53, 54, 55, 56, 57, 58] rfl (by decide +kernel)
set_option maxRecDepth 20000 in
theorem gX8_isLivingCat_X7_isLiving : GoodIn wsX8_isLivingCat (wsV RX8 119 RX7 yX7_isLiving wsX7_isLiving) := goodIn_app (goodIn_r _ [16, 17, 18, 19] rfl (by decide +kernel)) ggX8_isLivingCat_X7_isLiving
theorem dX8_isLivingCat_0 : decode cX8_isLivingCat 0 = .ok (.aload_n 0, 1) := by decide +kernel
theorem dX8_isLivingCat_1 : decode cX8_isLivingCat 1 = .ok (.iload_n 1, 1) := by decide +kernel
theorem dX8_isLivingCat_2 : decode cX8_isLivingCat 2 = .ok (.invokevirtual 111, 3) := by decide +kernel
theorem dX8_isLivingCat_5 : decode cX8_isLivingCat 5 = .ok (.ifCond .eq 21, 3) := by decide +kernel
theorem dX8_isLivingCat_8 : decode cX8_isLivingCat 8 = .ok (.aload_n 0, 1) := by decide +kernel
theorem dX8_isLivingCat_9 : decode cX8_isLivingCat 9 = .ok (.getfield 34, 3) := by decide +kernel
theorem dX8_isLivingCat_12 : decode cX8_isLivingCat 12 = .ok (.invokevirtual 115, 3) := by decide +kernel
theorem dX8_isLivingCat_15 : decode cX8_isLivingCat 15 = .ok (.iload_n 1, 1) := by decide +kernel
theorem dX8_isLivingCat_16 : decode cX8_isLivingCat 16 = .ok (.invokevirtual 119, 3) := by decide +kernel
theorem dX8_isLivingCat_19 : decode cX8_isLivingCat 19 = .ok (.ifCond .eq 7, 3) := by decide +kernel
theorem dX8_isLivingCat_22 : decode cX8_isLivingCat 22 = .ok (.iconst 1, 1) := by decide +kernel
theorem dX8_isLivingCat_23 : decode cX8_isLivingCat 23 = .ok (.goto 4, 3) := by decide +kernel
theorem dX8_isLivingCat_26 : decode cX8_isLivingCat 26 = .ok (.iconst 0, 1) := by decide +kernel
theorem dX8_isLivingCat_27 : decode cX8_isLivingCat 27 = .ok (.ireturn, 1) := by decide +kernel
theorem dX8_isRoom_0 : decode cX8_isRoom 0 = .ok (.iload_n 1, 1) := by decide +kernel
theorem dX8_isRoom_1 : decode cX8_isRoom 1 = .ok (.ifCond .lt 18, 3) := by decide +kernel
theorem dX8_isRoom_4 : decode cX8_isRoom 4 = .ok (.iload_n 1, 1) := by decide +kernel
theorem dX8_isRoom_5 : decode cX8_isRoom 5 = .ok (.aload_n 0, 1) := by decide +kernel
theorem dX8_isRoom_6 : decode cX8_isRoom 6 = .ok (.getfield 27, 3) := by decide +kernel
theorem dX8_isRoom_9 : decode cX8_isRoom 9 = .ok (.getfield 173, 3) := by decide +kernel
theorem dX8_isRoom_12 : decode cX8_isRoom 12 = .ok (.if_icmp .ge 7, 3) := by decide +kernel
theorem dX8_isRoom_15 : decode cX8_isRoom 15 = .ok (.iconst 1, 1) := by decide +kernel
theorem dX8_isRoom_16 : decode cX8_isRoom 16 = .ok (.goto 4, 3) := by decide +kernel
theorem dX8_isRoom_19 : decode cX8_isRoom 19 = .ok (.iconst 0, 1) := by decide +kernel
theorem dX8_isRoom_20 : decode cX8_isRoom 20 = .ok (.ireturn, 1) := by decide +kernel
theorem dX8_isTenant_0 : decode cX8_isTenant 0 = .ok (.iload_n 1, 1) := by decide +kernel
theorem dX8_isTenant_1 : decode cX8_isTenant 1 = .ok (.ifCond .lt 18, 3) := by decide +kernel
theorem dX8_isTenant_4 : decode cX8_isTenant 4 = .ok (.iload_n 1, 1) := by decide +kernel
theorem dX8_isTenant_5 : decode cX8_isTenant 5 = .ok (.aload_n 0, 1) := by decide +kernel
theorem dX8_isTenant_6 : decode cX8_isTenant 6 = .ok (.getfield 27, 3) := by decide +kernel
theorem dX8_isTenant_9 : decode cX8_isTenant 9 = .ok (.getfield 102, 3) := by decide +kernel
theorem dX8_isTenant_12 : decode cX8_isTenant 12 = .ok (.if_icmp .ge 7, 3) := by decide +kernel
theorem dX8_isTenant_15 : decode cX8_isTenant 15 = .ok (.iconst 1, 1) := by decide +kernel
theorem dX8_isTenant_16 : decode cX8_isTenant 16 = .ok (.goto 4, 3) := by decide +kernel
theorem dX8_isTenant_19 : decode cX8_isTenant 19 = .ok (.iconst 0, 1) := by decide +kernel
theorem dX8_isTenant_20 : decode cX8_isTenant 20 = .ok (.ireturn, 1) := by decide +kernel
theorem dX8_areCats_0 : decode cX8_areCats 0 = .ok (.iload_n 1, 1) := by decide +kernel
theorem dX8_areCats_1 : decode cX8_areCats 1 = .ok (.ifCond .lt 20, 3) := by decide +kernel
theorem dX8_areCats_4 : decode cX8_areCats 4 = .ok (.iload_n 1, 1) := by decide +kernel
theorem dX8_areCats_5 : decode cX8_areCats 5 = .ok (.iconst 1, 1) := by decide +kernel
theorem dX8_areCats_6 : decode cX8_areCats 6 = .ok (.aload_n 0, 1) := by decide +kernel
theorem dX8_areCats_7 : decode cX8_areCats 7 = .ok (.getfield 27, 3) := by decide +kernel
theorem dX8_areCats_10 : decode cX8_areCats 10 = .ok (.getfield 170, 3) := by decide +kernel
theorem dX8_areCats_13 : decode cX8_areCats 13 = .ok (.ishl, 1) := by decide +kernel
theorem dX8_areCats_14 : decode cX8_areCats 14 = .ok (.if_icmp .ge 7, 3) := by decide +kernel
theorem dX8_areCats_17 : decode cX8_areCats 17 = .ok (.iconst 1, 1) := by decide +kernel
theorem dX8_areCats_18 : decode cX8_areCats 18 = .ok (.goto 4, 3) := by decide +kernel
theorem dX8_areCats_21 : decode cX8_areCats 21 = .ok (.iconst 0, 1) := by decide +kernel
theorem dX8_areCats_22 : decode cX8_areCats 22 = .ok (.ireturn, 1) := by decide +kernel
set_option maxRecDepth 20000 in
theorem ggX8_isInKeptRoom_X0_current : GoodIn wsX8_isInKeptRoom wsX0_current := goodIn_r _ [7, 8, 9, 45, 46, 47, 48] rfl (by decide +kernel)
set_option maxRecDepth 20000 in
theorem gX8_isInKeptRoom_X0_current : GoodIn wsX8_isInKeptRoom (wsV RX8 115 RX0 yX0_current wsX0_current) := goodIn_app (goodIn_r _ [3, 4, 5, 6] rfl (by decide +kernel)) ggX8_isInKeptRoom_X0_current
set_option maxRecDepth 20000 in
theorem ggX8_isInKeptRoom_X8_isTenant : GoodIn wsX8_isInKeptRoom wsX8_isTenant := goodIn_r _ [14, 15, 16, 23, 24, 25, 26, 27, 28, 29, 30, 31, 32, 33, 34, 35, 36, 49, 50, 51, 52, 53, 54, 55, 56, 57, 58, 59] rfl (by decide +kernel)
set_option maxRecDepth 20000 in
theorem gX8_isInKeptRoom_X8_isTenant : GoodIn wsX8_isInKeptRoom (wsV RX8 144 RX8 yX8_isTenant wsX8_isTenant) := goodIn_app (goodIn_r _ [10, 11, 12, 13] rfl (by decide +kernel)) ggX8_isInKeptRoom_X8_isTenant
set_option maxRecDepth 20000 in
theorem ggX8_isInKeptRoom_X7_isKept : GoodIn wsX8_isInKeptRoom wsX7_isKept := goodIn_r _ [21, 22, 37, 38, 39, 40, 41, 42, 43, 44] rfl (by decide +kernel)
set_option maxRecDepth 20000 in
theorem gX8_isInKeptRoom_X7_isKept : GoodIn wsX8_isInKeptRoom (wsV RX8 162 RX7 yX7_isKept wsX7_isKept) := goodIn_app (goodIn_r _ [17, 18, 19, 20] rfl (by decide +kernel)) ggX8_isInKeptRoom_X7_isKept
theorem dX8_isInKeptRoom_0 : decode cX8_isInKeptRoom 0 = .ok (.aload_n 0, 1) := by decide +kernel
theorem dX8_isInKeptRoom_1 : decode cX8_isInKeptRoom 1 = .ok (.getfield 34, 3) := by decide +kernel
theorem dX8_isInKeptRoom_4 : decode cX8_isInKeptRoom 4 = .ok (.invokevirtual 115, 3) := by decide +kernel
theorem dX8_isInKeptRoom_7 : decode cX8_isInKeptRoom 7 = .ok (.astore_n 2, 1) := by decide +kernel
theorem dX8_isInKeptRoom_8 : decode cX8_isInKeptRoom 8 = .ok (.aload_n 0, 1) := by decide +kernel
theorem dX8_isInKeptRoom_9 : decode cX8_isInKeptRoom 9 = .ok (.iload_n 1, 1) := by decide +kernel
theorem dX8_isInKeptRoom_10 : decode cX8_isInKeptRoom 10 = .ok (.invokevirtual 144, 3) := by decide +kernel
theorem dX8_isInKeptRoom_13 : decode cX8_isInKeptRoom 13 = .ok (.ifCond .eq 20, 3) := by decide +kernel
theorem dX8_isInKeptRoom_16 : decode cX8_isInKeptRoom 16 = .ok (.aload_n 2, 1) := by decide +kernel
theorem dX8_isInKeptRoom_17 : decode cX8_isInKeptRoom 17 = .ok (.aload_n 2, 1) := by decide +kernel
theorem dX8_isInKeptRoom_18 : decode cX8_isInKeptRoom 18 = .ok (.getfield 147, 3) := by decide +kernel
theorem dX8_isInKeptRoom_21 : decode cX8_isInKeptRoom 21 = .ok (.iload_n 1, 1) := by decide +kernel
theorem dX8_isInKeptRoom_22 : decode cX8_isInKeptRoom 22 = .ok (.iaload, 1) := by decide +kernel
theorem dX8_isInKeptRoom_23 : decode cX8_isInKeptRoom 23 = .ok (.invokevirtual 162, 3) := by decide +kernel
theorem dX8_isInKeptRoom_26 : decode cX8_isInKeptRoom 26 = .ok (.ifCond .eq 7, 3) := by decide +kernel
theorem dX8_isInKeptRoom_29 : decode cX8_isInKeptRoom 29 = .ok (.iconst 1, 1) := by decide +kernel
theorem dX8_isInKeptRoom_30 : decode cX8_isInKeptRoom 30 = .ok (.goto 4, 3) := by decide +kernel
theorem dX8_isInKeptRoom_33 : decode cX8_isInKeptRoom 33 = .ok (.iconst 0, 1) := by decide +kernel
theorem dX8_isInKeptRoom_34 : decode cX8_isInKeptRoom 34 = .ok (.ireturn, 1) := by decide +kernel
set_option maxRecDepth 20000 in
theorem ggX8_quarter_X0_current : GoodIn wsX8_quarter wsX0_current := goodIn_r _ [8, 9, 10, 136, 137, 138, 139] rfl (by decide +kernel)
set_option maxRecDepth 20000 in
theorem gX8_quarter_X0_current : GoodIn wsX8_quarter (wsV RX8 115 RX0 yX0_current wsX0_current) := goodIn_app (goodIn_r _ [4, 5, 6, 7] rfl (by decide +kernel)) ggX8_quarter_X0_current
set_option maxRecDepth 20000 in
theorem ggX8_quarter_X0_begin : GoodIn wsX8_quarter wsX0_begin := goodIn_r _ [14, 9, 10, 15, 16, 17, 18, 19, 20, 21, 22, 23, 24, 25, 26, 27, 28, 29, 30, 31, 32, 33, 34, 35, 36, 37, 136, 137, 138, 139, 128, 129, 130, 131, 132, 133, 134, 135] rfl (by decide +kernel)
set_option maxRecDepth 20000 in
theorem gX8_quarter_X0_begin : GoodIn wsX8_quarter (wsV RX8 179 RX0 yX0_begin wsX0_begin) := goodIn_app (goodIn_r _ [11, 12, 13, 7] rfl (by decide +kernel)) ggX8_quarter_X0_begin
set_option maxRecDepth 20000 in
theorem ggX8_quarter_X4_pass : GoodIn wsX8_quarter wsX4_pass := goodIn_r _ [42, 43, 44, 45, 46, 47, 48, 49, 41, 50, 51, 52, 53, 24, 54, 26, 55, 56, 57, 58, 59, 60, 61, 62, 63, 64, 65, 66, 67, 68, 69, 70, 71, 72, 73, 74, 75, 76, 77, 78, 79, 80, 81, 82, 83, 84, 85, 86, 87, 88, 89, 90, 91, 31, 32, 92, 93, 94, 95, 96, 97, 98, 99, 100, 101, 102, 35, 103, 104, 105, 106, 107, 108, 109, 110, 111, 112, 113, 140, 141, 142, 143, 144, 145, 146, 147, 148, 149, 150, 128, 129, 130, 131, 132, 133, 134, 135, 151, 152, 153] rfl (by decide +kernel)
set_option maxRecDepth 20000 in
theorem gX8_quarter_X4_pass : GoodIn wsX8_quarter (wsV RX8 182 RX4 yX4_pass wsX4_pass) := goodIn_app (goodIn_r _ [38, 39, 40, 41] rfl (by decide +kernel)) ggX8_quarter_X4_pass
theorem dX8_quarter_0 : decode cX8_quarter 0 = .ok (.aload_n 0, 1) := by decide +kernel
theorem dX8_quarter_1 : decode cX8_quarter 1 = .ok (.getfield 34, 3) := by decide +kernel
theorem dX8_quarter_4 : decode cX8_quarter 4 = .ok (.invokevirtual 115, 3) := by decide +kernel
theorem dX8_quarter_7 : decode cX8_quarter 7 = .ok (.getfield 176, 3) := by decide +kernel
theorem dX8_quarter_10 : decode cX8_quarter 10 = .ok (.sipush 999, 3) := by decide +kernel
theorem dX8_quarter_13 : decode cX8_quarter 13 = .ok (.if_icmp .lt 5, 3) := by decide +kernel
theorem dX8_quarter_16 : decode cX8_quarter 16 = .ok (.iconst (-1), 1) := by decide +kernel
theorem dX8_quarter_17 : decode cX8_quarter 17 = .ok (.ireturn, 1) := by decide +kernel
theorem dX8_quarter_18 : decode cX8_quarter 18 = .ok (.aload_n 0, 1) := by decide +kernel
theorem dX8_quarter_19 : decode cX8_quarter 19 = .ok (.getfield 27, 3) := by decide +kernel
theorem dX8_quarter_22 : decode cX8_quarter 22 = .ok (.aload_n 0, 1) := by decide +kernel
theorem dX8_quarter_23 : decode cX8_quarter 23 = .ok (.getfield 34, 3) := by decide +kernel
theorem dX8_quarter_26 : decode cX8_quarter 26 = .ok (.invokevirtual 179, 3) := by decide +kernel
theorem dX8_quarter_29 : decode cX8_quarter 29 = .ok (.invokevirtual 182, 3) := by decide +kernel
theorem dX8_quarter_32 : decode cX8_quarter 32 = .ok (.ireturn, 1) := by decide +kernel
set_option maxRecDepth 20000 in
theorem ggX8_move_X8_isTenant : GoodIn wsX8_move wsX8_isTenant := goodIn_r _ [8, 1, 9, 60, 61, 62, 63, 64, 65, 66, 67, 68, 69, 70, 71, 72, 73, 82, 83, 84, 85, 86, 87, 88, 89, 90, 91, 92] rfl (by decide +kernel)
set_option maxRecDepth 20000 in
theorem gX8_move_X8_isTenant : GoodIn wsX8_move (wsV RX8 144 RX8 yX8_isTenant wsX8_isTenant) := goodIn_app (goodIn_r _ [4, 5, 6, 7] rfl (by decide +kernel)) ggX8_move_X8_isTenant
set_option maxRecDepth 20000 in
theorem ggX8_move_X8_isRoom : GoodIn wsX8_move wsX8_isRoom := goodIn_r _ [13, 1, 14, 60, 61, 62, 63, 64, 65, 66, 67, 68, 69, 70, 71, 72, 73, 82, 83, 84, 85, 86, 87, 88, 89, 90, 91, 92] rfl (by decide +kernel)
set_option maxRecDepth 20000 in
theorem gX8_move_X8_isRoom : GoodIn wsX8_move (wsV RX8 135 RX8 yX8_isRoom wsX8_isRoom) := goodIn_app (goodIn_r _ [10, 11, 12, 7] rfl (by decide +kernel)) ggX8_move_X8_isRoom
set_option maxRecDepth 20000 in
theorem ggX8_move_X0_current : GoodIn wsX8_move wsX0_current := goodIn_r _ [19, 20, 21, 93, 94, 95, 96] rfl (by decide +kernel)
set_option maxRecDepth 20000 in
theorem gX8_move_X0_current : GoodIn wsX8_move (wsV RX8 115 RX0 yX0_current wsX0_current) := goodIn_app (goodIn_r _ [15, 16, 17, 18] rfl (by decide +kernel)) ggX8_move_X0_current
set_option maxRecDepth 20000 in
theorem ggX8_move_X4_whoIsIn : GoodIn wsX8_move wsX4_whoIsIn := goodIn_r _ [26, 27, 28, 82, 83, 84, 85, 86, 87, 88, 89, 90, 91, 92, 74, 75, 76, 77, 78, 79, 80, 81] rfl (by decide +kernel)
set_option maxRecDepth 20000 in
theorem gX8_move_X4_whoIsIn : GoodIn wsX8_move (wsV RX8 141 RX4 yX4_whoIsIn wsX4_whoIsIn) := goodIn_app (goodIn_r _ [22, 23, 24, 25] rfl (by decide +kernel)) ggX8_move_X4_whoIsIn
set_option maxRecDepth 20000 in
theorem ggX8_move_X0_begin : GoodIn wsX8_move wsX0_begin := goodIn_r _ [32, 20, 21, 33, 34, 35, 36, 37, 38, 39, 40, 41, 42, 43, 44, 45, 46, 47, 48, 49, 50, 51, 52, 53, 54, 55, 93, 94, 95, 96, 74, 75, 76, 77, 78, 79, 80, 81] rfl (by decide +kernel)
set_option maxRecDepth 20000 in
theorem gX8_move_X0_begin : GoodIn wsX8_move (wsV RX8 179 RX0 yX0_begin wsX0_begin) := goodIn_app (goodIn_r _ [29, 30, 31, 18] rfl (by decide +kernel)) ggX8_move_X0_begin
set_option maxRecDepth 20000 in
theorem ggX8_move_X7_place : GoodIn wsX8_move wsX7_place := goodIn_r _ [59, 49, 50, 74, 75, 76, 77, 78, 79, 80, 81] rfl (by decide +kernel)
set_option maxRecDepth 20000 in
theorem gX8_move_X7_place : GoodIn wsX8_move (wsV RX8 186 RX7 yX7_place wsX7_place) := goodIn_app (goodIn_r _ [56, 57, 58, 42] rfl (by decide +kernel)) ggX8_move_X7_place
theorem dX8_move_0 : decode cX8_move 0 = .ok (.aload_n 0, 1) := by decide +kernel
theorem dX8_move_1 : decode cX8_move 1 = .ok (.iload_n 1, 1) := by decide +kernel
theorem dX8_move_2 : decode cX8_move 2 = .ok (.invokevirtual 144, 3) := by decide +kernel
theorem dX8_move_5 : decode cX8_move 5 = .ok (.ifCond .eq 30, 3) := by decide +kernel
theorem dX8_move_8 : decode cX8_move 8 = .ok (.aload_n 0, 1) := by decide +kernel
theorem dX8_move_9 : decode cX8_move 9 = .ok (.iload_n 2, 1) := by decide +kernel
theorem dX8_move_10 : decode cX8_move 10 = .ok (.invokevirtual 135, 3) := by decide +kernel
theorem dX8_move_13 : decode cX8_move 13 = .ok (.ifCond .eq 22, 3) := by decide +kernel
theorem dX8_move_16 : decode cX8_move 16 = .ok (.aload_n 0, 1) := by decide +kernel
theorem dX8_move_17 : decode cX8_move 17 = .ok (.getfield 27, 3) := by decide +kernel
theorem dX8_move_20 : decode cX8_move 20 = .ok (.aload_n 0, 1) := by decide +kernel
theorem dX8_move_21 : decode cX8_move 21 = .ok (.getfield 34, 3) := by decide +kernel
theorem dX8_move_24 : decode cX8_move 24 = .ok (.invokevirtual 115, 3) := by decide +kernel
theorem dX8_move_27 : decode cX8_move 27 = .ok (.iload_n 2, 1) := by decide +kernel
theorem dX8_move_28 : decode cX8_move 28 = .ok (.invokevirtual 141, 3) := by decide +kernel
theorem dX8_move_31 : decode cX8_move 31 = .ok (.iconst (-1), 1) := by decide +kernel
theorem dX8_move_32 : decode cX8_move 32 = .ok (.if_icmp .eq 6, 3) := by decide +kernel
theorem dX8_move_35 : decode cX8_move 35 = .ok (.bipush (-2), 2) := by decide +kernel
theorem dX8_move_37 : decode cX8_move 37 = .ok (.ireturn, 1) := by decide +kernel
theorem dX8_move_38 : decode cX8_move 38 = .ok (.aload_n 0, 1) := by decide +kernel
theorem dX8_move_39 : decode cX8_move 39 = .ok (.getfield 34, 3) := by decide +kernel
theorem dX8_move_42 : decode cX8_move 42 = .ok (.invokevirtual 179, 3) := by decide +kernel
theorem dX8_move_45 : decode cX8_move 45 = .ok (.astore_n 3, 1) := by decide +kernel
theorem dX8_move_46 : decode cX8_move 46 = .ok (.aload_n 3, 1) := by decide +kernel
theorem dX8_move_47 : decode cX8_move 47 = .ok (.getfield 147, 3) := by decide +kernel
theorem dX8_move_50 : decode cX8_move 50 = .ok (.iload_n 1, 1) := by decide +kernel
theorem dX8_move_51 : decode cX8_move 51 = .ok (.iaload, 1) := by decide +kernel
theorem dX8_move_52 : decode cX8_move 52 = .ok (.istore 4, 2) := by decide +kernel
theorem dX8_move_54 : decode cX8_move 54 = .ok (.aload_n 3, 1) := by decide +kernel
theorem dX8_move_55 : decode cX8_move 55 = .ok (.iload_n 1, 1) := by decide +kernel
theorem dX8_move_56 : decode cX8_move 56 = .ok (.iload_n 2, 1) := by decide +kernel
theorem dX8_move_57 : decode cX8_move 57 = .ok (.invokevirtual 186, 3) := by decide +kernel
theorem dX8_move_60 : decode cX8_move 60 = .ok (.iload 4, 2) := by decide +kernel
theorem dX8_move_62 : decode cX8_move 62 = .ok (.ireturn, 1) := by decide +kernel
set_option maxRecDepth 20000 in
theorem ggX8_leave_X8_isHoused : GoodIn wsX8_leave wsX8_isHoused := goodIn_r _ [7, 1, 2, 8, 9, 10, 6, 11, 12, 13, 14, 15, 16, 17, 18, 19, 20, 52, 53, 54, 55, 56, 57, 58, 59, 60, 61, 62, 63, 64, 65, 66, 67, 68, 69, 70, 71, 72, 73, 74, 75, 76, 77, 78, 79, 80, 81, 82, 83, 84, 85, 86, 87, 88] rfl (by decide +kernel)
set_option maxRecDepth 20000 in
theorem gX8_leave_X8_isHoused : GoodIn wsX8_leave (wsV RX8 190 RX8 yX8_isHoused wsX8_isHoused) := goodIn_app (goodIn_r _ [3, 4, 5, 6] rfl (by decide +kernel)) ggX8_leave_X8_isHoused
set_option maxRecDepth 20000 in
theorem ggX8_leave_X0_begin : GoodIn wsX8_leave wsX0_begin := goodIn_r _ [24, 19, 20, 25, 26, 27, 28, 29, 30, 31, 32, 33, 34, 35, 36, 37, 38, 39, 40, 41, 42, 43, 44, 45, 46, 47, 85, 86, 87, 88, 66, 67, 68, 69, 70, 71, 72, 73] rfl (by decide +kernel)
set_option maxRecDepth 20000 in
theorem gX8_leave_X0_begin : GoodIn wsX8_leave (wsV RX8 179 RX0 yX0_begin wsX0_begin) := goodIn_app (goodIn_r _ [21, 22, 23, 17] rfl (by decide +kernel)) ggX8_leave_X0_begin
set_option maxRecDepth 20000 in
theorem ggX8_leave_X7_place : GoodIn wsX8_leave wsX7_place := goodIn_r _ [51, 41, 42, 66, 67, 68, 69, 70, 71, 72, 73] rfl (by decide +kernel)
set_option maxRecDepth 20000 in
theorem gX8_leave_X7_place : GoodIn wsX8_leave (wsV RX8 186 RX7 yX7_place wsX7_place) := goodIn_app (goodIn_r _ [48, 49, 50, 34] rfl (by decide +kernel)) ggX8_leave_X7_place
theorem dX8_leave_0 : decode cX8_leave 0 = .ok (.aload_n 0, 1) := by decide +kernel
theorem dX8_leave_1 : decode cX8_leave 1 = .ok (.iload_n 1, 1) := by decide +kernel
theorem dX8_leave_2 : decode cX8_leave 2 = .ok (.invokevirtual 190, 3) := by decide +kernel
theorem dX8_leave_5 : decode cX8_leave 5 = .ok (.ifCond .ne 5, 3) := by decide +kernel
theorem dX8_leave_8 : decode cX8_leave 8 = .ok (.iconst (-1), 1) := by decide +kernel
theorem dX8_leave_9 : decode cX8_leave 9 = .ok (.ireturn, 1) := by decide +kernel
theorem dX8_leave_10 : decode cX8_leave 10 = .ok (.aload_n 0, 1) := by decide +kernel
theorem dX8_leave_11 : decode cX8_leave 11 = .ok (.getfield 34, 3) := by decide +kernel
theorem dX8_leave_14 : decode cX8_leave 14 = .ok (.invokevirtual 179, 3) := by decide +kernel
theorem dX8_leave_17 : decode cX8_leave 17 = .ok (.astore_n 2, 1) := by decide +kernel
theorem dX8_leave_18 : decode cX8_leave 18 = .ok (.aload_n 2, 1) := by decide +kernel
theorem dX8_leave_19 : decode cX8_leave 19 = .ok (.getfield 147, 3) := by decide +kernel
theorem dX8_leave_22 : decode cX8_leave 22 = .ok (.iload_n 1, 1) := by decide +kernel
theorem dX8_leave_23 : decode cX8_leave 23 = .ok (.iaload, 1) := by decide +kernel
theorem dX8_leave_24 : decode cX8_leave 24 = .ok (.istore_n 3, 1) := by decide +kernel
theorem dX8_leave_25 : decode cX8_leave 25 = .ok (.aload_n 2, 1) := by decide +kernel
theorem dX8_leave_26 : decode cX8_leave 26 = .ok (.iload_n 1, 1) := by decide +kernel
theorem dX8_leave_27 : decode cX8_leave 27 = .ok (.iconst (-1), 1) := by decide +kernel
theorem dX8_leave_28 : decode cX8_leave 28 = .ok (.invokevirtual 186, 3) := by decide +kernel
theorem dX8_leave_31 : decode cX8_leave 31 = .ok (.iload_n 3, 1) := by decide +kernel
theorem dX8_leave_32 : decode cX8_leave 32 = .ok (.ireturn, 1) := by decide +kernel
set_option maxRecDepth 20000 in
theorem ggX8_exchange_X8_isHoused : GoodIn wsX8_exchange wsX8_isHoused := goodIn_r _ [7, 1, 2, 8, 9, 10, 6, 11, 12, 13, 14, 15, 16, 17, 18, 19, 20, 52, 53, 54, 55, 56, 57, 58, 59, 60, 61, 62, 63, 64, 65, 66, 67, 68, 69, 70, 71, 72, 73, 74, 75, 76, 77, 78, 79, 80, 81, 82, 83, 84, 85, 86, 87, 88] rfl (by decide +kernel)
set_option maxRecDepth 20000 in
theorem gX8_exchange_X8_isHoused : GoodIn wsX8_exchange (wsV RX8 190 RX8 yX8_isHoused wsX8_isHoused) := goodIn_app (goodIn_r _ [3, 4, 5, 6] rfl (by decide +kernel)) ggX8_exchange_X8_isHoused
set_option maxRecDepth 20000 in
theorem ggX8_exchange_X0_begin : GoodIn wsX8_exchange wsX0_begin := goodIn_r _ [24, 19, 20, 25, 26, 27, 28, 29, 30, 31, 32, 33, 34, 35, 36, 37, 38, 39, 40, 41, 42, 43, 44, 45, 46, 47, 85, 86, 87, 88, 66, 67, 68, 69, 70, 71, 72, 73] rfl (by decide +kernel)
set_option maxRecDepth 20000 in
theorem gX8_exchange_X0_begin : GoodIn wsX8_exchange (wsV RX8 179 RX0 yX0_begin wsX0_begin) := goodIn_app (goodIn_r _ [21, 22, 23, 17] rfl (by decide +kernel)) ggX8_exchange_X0_begin
set_option maxRecDepth 20000 in
theorem ggX8_exchange_X7_place : GoodIn wsX8_exchange wsX7_place := goodIn_r _ [51, 41, 42, 66, 67, 68, 69, 70, 71, 72, 73] rfl (by decide +kernel)
set_option maxRecDepth 20000 in
theorem gX8_exchange_X7_place : GoodIn wsX8_exchange (wsV RX8 186 RX7 yX7_place wsX7_place) := goodIn_app (goodIn_r _ [48, 49, 50, 34] rfl (by decide +kernel)) ggX8_exchange_X7_place
theorem dX8_exchange_0 : decode cX8_exchange 0 = .ok (.iload_n 1, 1) := by decide +kernel
theorem dX8_exchange_1 : decode cX8_exchange 1 = .ok (.iload_n 2, 1) := by decide +kernel
theorem dX8_exchange_2 : decode cX8_exchange 2 = .ok (.if_icmp .eq 19, 3) := by decide +kernel
theorem dX8_exchange_5 : decode cX8_exchange 5 = .ok (.aload_n 0, 1) := by decide +kernel
theorem dX8_exchange_6 : decode cX8_exchange 6 = .ok (.iload_n 1, 1) := by decide +kernel
theorem dX8_exchange_7 : decode cX8_exchange 7 = .ok (.invokevirtual 190, 3) := by decide +kernel
theorem dX8_exchange_10 : decode cX8_exchange 10 = .ok (.ifCond .eq 11, 3) := by decide +kernel
theorem dX8_exchange_13 : decode cX8_exchange 13 = .ok (.aload_n 0, 1) := by decide +kernel
theorem dX8_exchange_14 : decode cX8_exchange 14 = .ok (.iload_n 2, 1) := by decide +kernel
theorem dX8_exchange_15 : decode cX8_exchange 15 = .ok (.invokevirtual 190, 3) := by decide +kernel
theorem dX8_exchange_18 : decode cX8_exchange 18 = .ok (.ifCond .ne 5, 3) := by decide +kernel
theorem dX8_exchange_21 : decode cX8_exchange 21 = .ok (.iconst (-1), 1) := by decide +kernel
theorem dX8_exchange_22 : decode cX8_exchange 22 = .ok (.ireturn, 1) := by decide +kernel
theorem dX8_exchange_23 : decode cX8_exchange 23 = .ok (.aload_n 0, 1) := by decide +kernel
theorem dX8_exchange_24 : decode cX8_exchange 24 = .ok (.getfield 34, 3) := by decide +kernel
theorem dX8_exchange_27 : decode cX8_exchange 27 = .ok (.invokevirtual 179, 3) := by decide +kernel
theorem dX8_exchange_30 : decode cX8_exchange 30 = .ok (.astore_n 3, 1) := by decide +kernel
theorem dX8_exchange_31 : decode cX8_exchange 31 = .ok (.aload_n 3, 1) := by decide +kernel
theorem dX8_exchange_32 : decode cX8_exchange 32 = .ok (.getfield 147, 3) := by decide +kernel
theorem dX8_exchange_35 : decode cX8_exchange 35 = .ok (.iload_n 1, 1) := by decide +kernel
theorem dX8_exchange_36 : decode cX8_exchange 36 = .ok (.iaload, 1) := by decide +kernel
theorem dX8_exchange_37 : decode cX8_exchange 37 = .ok (.istore 4, 2) := by decide +kernel
theorem dX8_exchange_39 : decode cX8_exchange 39 = .ok (.aload_n 3, 1) := by decide +kernel
theorem dX8_exchange_40 : decode cX8_exchange 40 = .ok (.iload_n 1, 1) := by decide +kernel
theorem dX8_exchange_41 : decode cX8_exchange 41 = .ok (.aload_n 3, 1) := by decide +kernel
theorem dX8_exchange_42 : decode cX8_exchange 42 = .ok (.getfield 147, 3) := by decide +kernel
theorem dX8_exchange_45 : decode cX8_exchange 45 = .ok (.iload_n 2, 1) := by decide +kernel
theorem dX8_exchange_46 : decode cX8_exchange 46 = .ok (.iaload, 1) := by decide +kernel
theorem dX8_exchange_47 : decode cX8_exchange 47 = .ok (.invokevirtual 186, 3) := by decide +kernel
theorem dX8_exchange_50 : decode cX8_exchange 50 = .ok (.aload_n 3, 1) := by decide +kernel
theorem dX8_exchange_51 : decode cX8_exchange 51 = .ok (.iload_n 2, 1) := by decide +kernel
theorem dX8_exchange_52 : decode cX8_exchange 52 = .ok (.iload 4, 2) := by decide +kernel
theorem dX8_exchange_54 : decode cX8_exchange 54 = .ok (.invokevirtual 186, 3) := by decide +kernel
theorem dX8_exchange_57 : decode cX8_exchange 57 = .ok (.aload_n 3, 1) := by decide +kernel
theorem dX8_exchange_58 : decode cX8_exchange 58 = .ok (.getfield 147, 3) := by decide +kernel
theorem dX8_exchange_61 : decode cX8_exchange 61 = .ok (.iload_n 1, 1) := by decide +kernel
theorem dX8_exchange_62 : decode cX8_exchange 62 = .ok (.iaload, 1) := by decide +kernel
theorem dX8_exchange_63 : decode cX8_exchange 63 = .ok (.ireturn, 1) := by decide +kernel
set_option maxRecDepth 20000 in
theorem ggX8_claim_X8_isRoom : GoodIn wsX8_claim wsX8_isRoom := goodIn_r _ [7, 8, 9, 65, 66, 67, 68, 69, 70, 71, 72, 73, 74, 75, 76, 77, 78, 87, 88, 89, 90, 91, 92, 93, 94, 95, 96, 97] rfl (by decide +kernel)
set_option maxRecDepth 20000 in
theorem gX8_claim_X8_isRoom : GoodIn wsX8_claim (wsV RX8 135 RX8 yX8_isRoom wsX8_isRoom) := goodIn_app (goodIn_r _ [3, 4, 5, 6] rfl (by decide +kernel)) ggX8_claim_X8_isRoom
set_option maxRecDepth 20000 in
theorem ggX8_claim_X8_isLivingCat : GoodIn wsX8_claim wsX8_isLivingCat := goodIn_r _ [13, 1, 14, 15, 16, 6, 17, 8, 18, 19, 20, 21, 22, 23, 24, 25, 26, 27, 28, 29, 30, 31, 65, 66, 67, 68, 69, 70, 71, 72, 73, 74, 75, 76, 77, 78, 87, 88, 89, 90, 91, 92, 93, 94, 95, 96, 97, 98, 99, 100, 101, 79, 80, 81, 82, 83, 84, 85, 86] rfl (by decide +kernel)
set_option maxRecDepth 20000 in
theorem gX8_claim_X8_isLivingCat : GoodIn wsX8_claim (wsV RX8 193 RX8 yX8_isLivingCat wsX8_isLivingCat) := goodIn_app (goodIn_r _ [10, 11, 12, 6] rfl (by decide +kernel)) ggX8_claim_X8_isLivingCat
set_option maxRecDepth 20000 in
theorem ggX8_claim_X0_current : GoodIn wsX8_claim wsX0_current := goodIn_r _ [23, 24, 25, 98, 99, 100, 101] rfl (by decide +kernel)
set_option maxRecDepth 20000 in
theorem gX8_claim_X0_current : GoodIn wsX8_claim (wsV RX8 115 RX0 yX0_current wsX0_current) := goodIn_app (goodIn_r _ [19, 20, 21, 22] rfl (by decide +kernel)) ggX8_claim_X0_current
set_option maxRecDepth 20000 in
theorem ggX8_claim_X7_isKept : GoodIn wsX8_claim wsX7_isKept := goodIn_r _ [35, 36, 79, 80, 81, 82, 83, 84, 85, 86] rfl (by decide +kernel)
set_option maxRecDepth 20000 in
theorem gX8_claim_X7_isKept : GoodIn wsX8_claim (wsV RX8 162 RX7 yX7_isKept wsX7_isKept) := goodIn_app (goodIn_r _ [32, 33, 34, 29] rfl (by decide +kernel)) ggX8_claim_X7_isKept
set_option maxRecDepth 20000 in
theorem ggX8_claim_X0_begin : GoodIn wsX8_claim wsX0_begin := goodIn_r _ [40, 24, 25, 41, 42, 43, 44, 45, 46, 47, 48, 49, 29, 50, 36, 51, 52, 53, 54, 55, 56, 57, 58, 31, 59, 60, 98, 99, 100, 101, 79, 80, 81, 82, 83, 84, 85, 86] rfl (by decide +kernel)
set_option maxRecDepth 20000 in
theorem gX8_claim_X0_begin : GoodIn wsX8_claim (wsV RX8 179 RX0 yX0_begin wsX0_begin) := goodIn_app (goodIn_r _ [37, 38, 39, 22] rfl (by decide +kernel)) ggX8_claim_X0_begin
set_option maxRecDepth 20000 in
theorem ggX8_claim_X7_roomCount : GoodIn wsX8_claim wsX7_roomCount := goodIn_r _ [64, 36, 79, 80, 81, 82, 83, 84, 85, 86] rfl (by decide +kernel)
set_option maxRecDepth 20000 in
theorem gX8_claim_X7_roomCount : GoodIn wsX8_claim (wsV RX8 196 RX7 yX7_roomCount wsX7_roomCount) := goodIn_app (goodIn_r _ [61, 62, 63, 29] rfl (by decide +kernel)) ggX8_claim_X7_roomCount
theorem dX8_claim_0 : decode cX8_claim 0 = .ok (.aload_n 0, 1) := by decide +kernel
theorem dX8_claim_1 : decode cX8_claim 1 = .ok (.iload_n 1, 1) := by decide +kernel
theorem dX8_claim_2 : decode cX8_claim 2 = .ok (.invokevirtual 135, 3) := by decide +kernel
theorem dX8_claim_5 : decode cX8_claim 5 = .ok (.ifCond .eq 25, 3) := by decide +kernel
theorem dX8_claim_8 : decode cX8_claim 8 = .ok (.aload_n 0, 1) := by decide +kernel
theorem dX8_claim_9 : decode cX8_claim 9 = .ok (.iload_n 2, 1) := by decide +kernel
theorem dX8_claim_10 : decode cX8_claim 10 = .ok (.invokevirtual 193, 3) := by decide +kernel
theorem dX8_claim_13 : decode cX8_claim 13 = .ok (.ifCond .eq 17, 3) := by decide +kernel
theorem dX8_claim_16 : decode cX8_claim 16 = .ok (.aload_n 0, 1) := by decide +kernel
theorem dX8_claim_17 : decode cX8_claim 17 = .ok (.getfield 34, 3) := by decide +kernel
theorem dX8_claim_20 : decode cX8_claim 20 = .ok (.invokevirtual 115, 3) := by decide +kernel
theorem dX8_claim_23 : decode cX8_claim 23 = .ok (.iload_n 1, 1) := by decide +kernel
theorem dX8_claim_24 : decode cX8_claim 24 = .ok (.invokevirtual 162, 3) := by decide +kernel
theorem dX8_claim_27 : decode cX8_claim 27 = .ok (.ifCond .eq 5, 3) := by decide +kernel
theorem dX8_claim_30 : decode cX8_claim 30 = .ok (.iconst (-1), 1) := by decide +kernel
theorem dX8_claim_31 : decode cX8_claim 31 = .ok (.ireturn, 1) := by decide +kernel
theorem dX8_claim_32 : decode cX8_claim 32 = .ok (.aload_n 0, 1) := by decide +kernel
theorem dX8_claim_33 : decode cX8_claim 33 = .ok (.getfield 34, 3) := by decide +kernel
theorem dX8_claim_36 : decode cX8_claim 36 = .ok (.invokevirtual 179, 3) := by decide +kernel
theorem dX8_claim_39 : decode cX8_claim 39 = .ok (.astore_n 3, 1) := by decide +kernel
theorem dX8_claim_40 : decode cX8_claim 40 = .ok (.aload_n 3, 1) := by decide +kernel
theorem dX8_claim_41 : decode cX8_claim 41 = .ok (.getfield 138, 3) := by decide +kernel
theorem dX8_claim_44 : decode cX8_claim 44 = .ok (.iload_n 1, 1) := by decide +kernel
theorem dX8_claim_45 : decode cX8_claim 45 = .ok (.iload_n 2, 1) := by decide +kernel
theorem dX8_claim_46 : decode cX8_claim 46 = .ok (.iastore, 1) := by decide +kernel
theorem dX8_claim_47 : decode cX8_claim 47 = .ok (.aload_n 3, 1) := by decide +kernel
theorem dX8_claim_48 : decode cX8_claim 48 = .ok (.iload_n 2, 1) := by decide +kernel
theorem dX8_claim_49 : decode cX8_claim 49 = .ok (.invokevirtual 196, 3) := by decide +kernel
theorem dX8_claim_52 : decode cX8_claim 52 = .ok (.ireturn, 1) := by decide +kernel
set_option maxRecDepth 20000 in
theorem ggX8_spend_X8_isTenant : GoodIn wsX8_spend wsX8_isTenant := goodIn_r _ [7, 8, 9, 44, 45, 46, 47, 48, 49, 50, 51, 52, 53, 54, 55, 56, 57, 66, 67, 68, 69, 70, 71, 72, 73, 74, 75, 76] rfl (by decide +kernel)
set_option maxRecDepth 20000 in
theorem gX8_spend_X8_isTenant : GoodIn wsX8_spend (wsV RX8 144 RX8 yX8_isTenant wsX8_isTenant) := goodIn_app (goodIn_r _ [3, 4, 5, 6] rfl (by decide +kernel)) ggX8_spend_X8_isTenant
set_option maxRecDepth 20000 in
theorem ggX8_spend_X0_current : GoodIn wsX8_spend wsX0_current := goodIn_r _ [14, 15, 16, 77, 78, 79, 80] rfl (by decide +kernel)
set_option maxRecDepth 20000 in
theorem gX8_spend_X0_current : GoodIn wsX8_spend (wsV RX8 115 RX0 yX0_current wsX0_current) := goodIn_app (goodIn_r _ [10, 11, 12, 13] rfl (by decide +kernel)) ggX8_spend_X0_current
set_option maxRecDepth 20000 in
theorem ggX8_spend_X0_begin : GoodIn wsX8_spend wsX0_begin := goodIn_r _ [20, 15, 16, 21, 22, 23, 24, 25, 26, 27, 28, 29, 30, 31, 32, 33, 34, 35, 36, 37, 38, 39, 40, 41, 42, 43, 77, 78, 79, 80, 58, 59, 60, 61, 62, 63, 64, 65] rfl (by decide +kernel)
set_option maxRecDepth 20000 in
theorem gX8_spend_X0_begin : GoodIn wsX8_spend (wsV RX8 179 RX0 yX0_begin wsX0_begin) := goodIn_app (goodIn_r _ [17, 18, 19, 13] rfl (by decide +kernel)) ggX8_spend_X0_begin
theorem dX8_spend_0 : decode cX8_spend 0 = .ok (.aload_n 0, 1) := by decide +kernel
theorem dX8_spend_1 : decode cX8_spend 1 = .ok (.iload_n 1, 1) := by decide +kernel
theorem dX8_spend_2 : decode cX8_spend 2 = .ok (.invokevirtual 144, 3) := by decide +kernel
