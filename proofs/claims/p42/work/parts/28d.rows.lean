set_option maxRecDepth 20000 in
theorem gX9_cat_X9_thoseIn : GoodIn wsX9_cat (wsV RX9 459 RX9 yX9_thoseIn wsX9_thoseIn) := goodIn_app (goodIn_r _ [31, 32, 33, 8] rfl (by decide +kernel)) ggX9_cat_X9_thoseIn
theorem dX9_cat_0 : decode cX9_cat 0 = .ok (.aload_n 0, 1) := by decide +kernel
theorem dX9_cat_1 : decode cX9_cat 1 = .ok (.iload_n 1, 1) := by decide +kernel
theorem dX9_cat_2 : decode cX9_cat 2 = .ok (.invokevirtual 456, 3) := by decide +kernel
theorem dX9_cat_5 : decode cX9_cat 5 = .ok (.ifCond .ne 6, 3) := by decide +kernel
theorem dX9_cat_8 : decode cX9_cat 8 = .ok (.bipush (-2), 2) := by decide +kernel
theorem dX9_cat_10 : decode cX9_cat 10 = .ok (.ireturn, 1) := by decide +kernel
theorem dX9_cat_11 : decode cX9_cat 11 = .ok (.iload_n 2, 1) := by decide +kernel
theorem dX9_cat_12 : decode cX9_cat 12 = .ok (.tableswitch 94 0 4 #[36, 48, 63, 78, 84], 36) := by decide +kernel
theorem dX9_cat_48 : decode cX9_cat 48 = .ok (.aload_n 0, 1) := by decide +kernel
theorem dX9_cat_49 : decode cX9_cat 49 = .ok (.getfield 94, 3) := by decide +kernel
theorem dX9_cat_52 : decode cX9_cat 52 = .ok (.bipush 36, 2) := by decide +kernel
theorem dX9_cat_54 : decode cX9_cat 54 = .ok (.iaload, 1) := by decide +kernel
theorem dX9_cat_55 : decode cX9_cat 55 = .ok (.iload_n 1, 1) := by decide +kernel
theorem dX9_cat_56 : decode cX9_cat 56 = .ok (.ishr, 1) := by decide +kernel
theorem dX9_cat_57 : decode cX9_cat 57 = .ok (.iconst 1, 1) := by decide +kernel
theorem dX9_cat_58 : decode cX9_cat 58 = .ok (.iand, 1) := by decide +kernel
theorem dX9_cat_59 : decode cX9_cat 59 = .ok (.ireturn, 1) := by decide +kernel
theorem dX9_cat_60 : decode cX9_cat 60 = .ok (.aload_n 0, 1) := by decide +kernel
theorem dX9_cat_61 : decode cX9_cat 61 = .ok (.getfield 42, 3) := by decide +kernel
theorem dX9_cat_64 : decode cX9_cat 64 = .ok (.bipush 6, 2) := by decide +kernel
theorem dX9_cat_66 : decode cX9_cat 66 = .ok (.aload_n 0, 1) := by decide +kernel
theorem dX9_cat_67 : decode cX9_cat 67 = .ok (.getfield 268, 3) := by decide +kernel
theorem dX9_cat_70 : decode cX9_cat 70 = .ok (.imul, 1) := by decide +kernel
theorem dX9_cat_71 : decode cX9_cat 71 = .ok (.iload_n 1, 1) := by decide +kernel
theorem dX9_cat_72 : decode cX9_cat 72 = .ok (.iadd, 1) := by decide +kernel
theorem dX9_cat_73 : decode cX9_cat 73 = .ok (.iaload, 1) := by decide +kernel
theorem dX9_cat_74 : decode cX9_cat 74 = .ok (.ireturn, 1) := by decide +kernel
theorem dX9_cat_75 : decode cX9_cat 75 = .ok (.aload_n 0, 1) := by decide +kernel
theorem dX9_cat_76 : decode cX9_cat 76 = .ok (.getfield 45, 3) := by decide +kernel
theorem dX9_cat_79 : decode cX9_cat 79 = .ok (.bipush 6, 2) := by decide +kernel
theorem dX9_cat_81 : decode cX9_cat 81 = .ok (.aload_n 0, 1) := by decide +kernel
theorem dX9_cat_82 : decode cX9_cat 82 = .ok (.getfield 268, 3) := by decide +kernel
theorem dX9_cat_85 : decode cX9_cat 85 = .ok (.imul, 1) := by decide +kernel
theorem dX9_cat_86 : decode cX9_cat 86 = .ok (.iload_n 1, 1) := by decide +kernel
theorem dX9_cat_87 : decode cX9_cat 87 = .ok (.iadd, 1) := by decide +kernel
theorem dX9_cat_88 : decode cX9_cat 88 = .ok (.iaload, 1) := by decide +kernel
theorem dX9_cat_89 : decode cX9_cat 89 = .ok (.ireturn, 1) := by decide +kernel
theorem dX9_cat_90 : decode cX9_cat 90 = .ok (.aload_n 0, 1) := by decide +kernel
theorem dX9_cat_91 : decode cX9_cat 91 = .ok (.iload_n 1, 1) := by decide +kernel
theorem dX9_cat_92 : decode cX9_cat 92 = .ok (.invokevirtual 413, 3) := by decide +kernel
theorem dX9_cat_95 : decode cX9_cat 95 = .ok (.ireturn, 1) := by decide +kernel
theorem dX9_cat_96 : decode cX9_cat 96 = .ok (.aload_n 0, 1) := by decide +kernel
theorem dX9_cat_97 : decode cX9_cat 97 = .ok (.aload_n 0, 1) := by decide +kernel
theorem dX9_cat_98 : decode cX9_cat 98 = .ok (.iload_n 1, 1) := by decide +kernel
theorem dX9_cat_99 : decode cX9_cat 99 = .ok (.invokevirtual 413, 3) := by decide +kernel
theorem dX9_cat_102 : decode cX9_cat 102 = .ok (.invokevirtual 459, 3) := by decide +kernel
theorem dX9_cat_105 : decode cX9_cat 105 = .ok (.ireturn, 1) := by decide +kernel
theorem dX9_cat_106 : decode cX9_cat 106 = .ok (.bipush (-2), 2) := by decide +kernel
theorem dX9_cat_108 : decode cX9_cat 108 = .ok (.ireturn, 1) := by decide +kernel
set_option maxRecDepth 20000 in
theorem ggX9_room_X9_isRoom : GoodIn wsX9_room wsX9_isRoom := goodIn_r _ [5, 6, 7, 8, 4, 9, 10, 11, 12, 13, 14, 29, 30, 31, 32, 33, 34, 35, 36, 37, 38, 39, 40, 41, 42, 43, 44, 45, 46, 47, 48, 49, 50, 51, 52, 53, 54, 55, 56, 57, 58, 59, 60, 61, 62, 63, 64, 65, 66, 67, 68, 69, 70, 71, 72, 73, 74, 75, 76, 77, 78, 79, 80, 81, 82, 83, 84, 85, 86, 87, 88, 89, 90, 91, 92, 93, 94, 95] rfl (by decide +kernel)
set_option maxRecDepth 20000 in
theorem gX9_room_X9_isRoom : GoodIn wsX9_room (wsV RX9 462 RX9 yX9_isRoom wsX9_isRoom) := goodIn_app (goodIn_r _ [1, 2, 3, 4] rfl (by decide +kernel)) ggX9_room_X9_isRoom
set_option maxRecDepth 20000 in
theorem ggX9_room_X9_keeperOf : GoodIn wsX9_room wsX9_keeperOf := goodIn_r _ [18, 19, 29, 30, 31, 32, 33, 34, 35, 36, 37, 38, 39, 40, 41, 42, 43, 44, 45, 46, 47, 48, 49, 50, 51, 52, 53, 54, 55, 56, 57, 58, 59, 60, 61, 62, 63, 64, 65, 66, 67, 68, 69, 70, 71, 72, 73, 74, 75, 76, 77, 78, 79, 80, 81, 82, 83, 84, 85, 86, 87, 88, 89, 90, 91, 92, 93, 94, 95] rfl (by decide +kernel)
set_option maxRecDepth 20000 in
theorem gX9_room_X9_keeperOf : GoodIn wsX9_room (wsV RX9 392 RX9 yX9_keeperOf wsX9_keeperOf) := goodIn_app (goodIn_r _ [15, 16, 17, 4] rfl (by decide +kernel)) ggX9_room_X9_keeperOf
set_option maxRecDepth 20000 in
theorem ggX9_room_X9_whoIn : GoodIn wsX9_room wsX9_whoIn := goodIn_r _ [23, 19, 24, 25, 26, 4, 27, 28, 11, 29, 30, 31, 32, 33, 34, 35, 36, 37, 38, 39, 40, 41, 42, 43, 44, 45, 46, 47, 48, 49, 50, 51, 52, 53, 54, 55, 56, 57, 58, 59, 60, 61, 62, 63, 64, 65, 66, 67, 68, 69, 70, 71, 72, 73, 74, 75, 76, 77, 78, 79, 80, 81, 82, 83, 84, 85, 86, 87, 88, 89, 90, 91, 92, 93, 94, 95] rfl (by decide +kernel)
set_option maxRecDepth 20000 in
theorem gX9_room_X9_whoIn : GoodIn wsX9_room (wsV RX9 465 RX9 yX9_whoIn wsX9_whoIn) := goodIn_app (goodIn_r _ [20, 21, 22, 4] rfl (by decide +kernel)) ggX9_room_X9_whoIn
theorem dX9_room_0 : decode cX9_room 0 = .ok (.aload_n 0, 1) := by decide +kernel
theorem dX9_room_1 : decode cX9_room 1 = .ok (.iload_n 1, 1) := by decide +kernel
theorem dX9_room_2 : decode cX9_room 2 = .ok (.invokevirtual 462, 3) := by decide +kernel
theorem dX9_room_5 : decode cX9_room 5 = .ok (.ifCond .ne 6, 3) := by decide +kernel
theorem dX9_room_8 : decode cX9_room 8 = .ok (.bipush (-2), 2) := by decide +kernel
theorem dX9_room_10 : decode cX9_room 10 = .ok (.ireturn, 1) := by decide +kernel
theorem dX9_room_11 : decode cX9_room 11 = .ok (.iload_n 2, 1) := by decide +kernel
theorem dX9_room_12 : decode cX9_room 12 = .ok (.lookupswitch 40 #[(0, 28), (1, 34)], 28) := by decide +kernel
theorem dX9_room_40 : decode cX9_room 40 = .ok (.aload_n 0, 1) := by decide +kernel
theorem dX9_room_41 : decode cX9_room 41 = .ok (.iload_n 1, 1) := by decide +kernel
theorem dX9_room_42 : decode cX9_room 42 = .ok (.invokevirtual 392, 3) := by decide +kernel
theorem dX9_room_45 : decode cX9_room 45 = .ok (.ireturn, 1) := by decide +kernel
theorem dX9_room_46 : decode cX9_room 46 = .ok (.aload_n 0, 1) := by decide +kernel
theorem dX9_room_47 : decode cX9_room 47 = .ok (.iload_n 1, 1) := by decide +kernel
theorem dX9_room_48 : decode cX9_room 48 = .ok (.invokevirtual 465, 3) := by decide +kernel
theorem dX9_room_51 : decode cX9_room 51 = .ok (.ireturn, 1) := by decide +kernel
theorem dX9_room_52 : decode cX9_room 52 = .ok (.bipush (-2), 2) := by decide +kernel
theorem dX9_room_54 : decode cX9_room 54 = .ok (.ireturn, 1) := by decide +kernel
set_option maxRecDepth 20000 in
theorem ggX9_tenant_X9_isTenant : GoodIn wsX9_tenant wsX9_isTenant := goodIn_r _ [8, 9, 10, 11, 7, 12, 13, 3, 14, 15, 16, 17, 18, 19, 20, 21, 22, 23, 24, 25, 26, 27, 28, 29, 30, 31, 32, 33, 34, 35, 36, 37, 38, 39, 40, 41, 42, 43, 44, 45, 46, 47, 48, 49, 50, 51, 52, 53, 54, 55, 56, 57, 58, 59, 60, 61, 62, 63, 64, 65, 66, 67, 68, 69, 70, 71, 72, 73, 74, 75, 76, 77, 78, 79, 80, 81, 82, 83] rfl (by decide +kernel)
set_option maxRecDepth 20000 in
theorem gX9_tenant_X9_isTenant : GoodIn wsX9_tenant (wsV RX9 386 RX9 yX9_isTenant wsX9_isTenant) := goodIn_app (goodIn_r _ [4, 5, 6, 7] rfl (by decide +kernel)) ggX9_tenant_X9_isTenant
theorem dX9_tenant_0 : decode cX9_tenant 0 = .ok (.aload_n 0, 1) := by decide +kernel
theorem dX9_tenant_1 : decode cX9_tenant 1 = .ok (.iload_n 1, 1) := by decide +kernel
theorem dX9_tenant_2 : decode cX9_tenant 2 = .ok (.invokevirtual 386, 3) := by decide +kernel
theorem dX9_tenant_5 : decode cX9_tenant 5 = .ok (.ifCond .ne 6, 3) := by decide +kernel
theorem dX9_tenant_8 : decode cX9_tenant 8 = .ok (.bipush (-2), 2) := by decide +kernel
theorem dX9_tenant_10 : decode cX9_tenant 10 = .ok (.ireturn, 1) := by decide +kernel
theorem dX9_tenant_11 : decode cX9_tenant 11 = .ok (.iload_n 2, 1) := by decide +kernel
theorem dX9_tenant_12 : decode cX9_tenant 12 = .ok (.tableswitch 90 0 4 #[36, 45, 55, 70, 80], 36) := by decide +kernel
theorem dX9_tenant_48 : decode cX9_tenant 48 = .ok (.aload_n 0, 1) := by decide +kernel
theorem dX9_tenant_49 : decode cX9_tenant 49 = .ok (.getfield 94, 3) := by decide +kernel
theorem dX9_tenant_52 : decode cX9_tenant 52 = .ok (.iconst 0, 1) := by decide +kernel
theorem dX9_tenant_53 : decode cX9_tenant 53 = .ok (.iload_n 1, 1) := by decide +kernel
theorem dX9_tenant_54 : decode cX9_tenant 54 = .ok (.iadd, 1) := by decide +kernel
theorem dX9_tenant_55 : decode cX9_tenant 55 = .ok (.iaload, 1) := by decide +kernel
theorem dX9_tenant_56 : decode cX9_tenant 56 = .ok (.ireturn, 1) := by decide +kernel
theorem dX9_tenant_57 : decode cX9_tenant 57 = .ok (.aload_n 0, 1) := by decide +kernel
theorem dX9_tenant_58 : decode cX9_tenant 58 = .ok (.getfield 94, 3) := by decide +kernel
theorem dX9_tenant_61 : decode cX9_tenant 61 = .ok (.bipush 22, 2) := by decide +kernel
theorem dX9_tenant_63 : decode cX9_tenant 63 = .ok (.iload_n 1, 1) := by decide +kernel
theorem dX9_tenant_64 : decode cX9_tenant 64 = .ok (.iadd, 1) := by decide +kernel
theorem dX9_tenant_65 : decode cX9_tenant 65 = .ok (.iaload, 1) := by decide +kernel
theorem dX9_tenant_66 : decode cX9_tenant 66 = .ok (.ireturn, 1) := by decide +kernel
theorem dX9_tenant_67 : decode cX9_tenant 67 = .ok (.aload_n 0, 1) := by decide +kernel
theorem dX9_tenant_68 : decode cX9_tenant 68 = .ok (.getfield 54, 3) := by decide +kernel
theorem dX9_tenant_71 : decode cX9_tenant 71 = .ok (.bipush 7, 2) := by decide +kernel
theorem dX9_tenant_73 : decode cX9_tenant 73 = .ok (.aload_n 0, 1) := by decide +kernel
theorem dX9_tenant_74 : decode cX9_tenant 74 = .ok (.getfield 268, 3) := by decide +kernel
theorem dX9_tenant_77 : decode cX9_tenant 77 = .ok (.imul, 1) := by decide +kernel
theorem dX9_tenant_78 : decode cX9_tenant 78 = .ok (.iload_n 1, 1) := by decide +kernel
theorem dX9_tenant_79 : decode cX9_tenant 79 = .ok (.iadd, 1) := by decide +kernel
theorem dX9_tenant_80 : decode cX9_tenant 80 = .ok (.iaload, 1) := by decide +kernel
theorem dX9_tenant_81 : decode cX9_tenant 81 = .ok (.ireturn, 1) := by decide +kernel
theorem dX9_tenant_82 : decode cX9_tenant 82 = .ok (.aload_n 0, 1) := by decide +kernel
theorem dX9_tenant_83 : decode cX9_tenant 83 = .ok (.getfield 94, 3) := by decide +kernel
theorem dX9_tenant_86 : decode cX9_tenant 86 = .ok (.bipush 29, 2) := by decide +kernel
theorem dX9_tenant_88 : decode cX9_tenant 88 = .ok (.iload_n 1, 1) := by decide +kernel
theorem dX9_tenant_89 : decode cX9_tenant 89 = .ok (.iadd, 1) := by decide +kernel
theorem dX9_tenant_90 : decode cX9_tenant 90 = .ok (.iaload, 1) := by decide +kernel
theorem dX9_tenant_91 : decode cX9_tenant 91 = .ok (.ireturn, 1) := by decide +kernel
theorem dX9_tenant_92 : decode cX9_tenant 92 = .ok (.aload_n 0, 1) := by decide +kernel
theorem dX9_tenant_93 : decode cX9_tenant 93 = .ok (.getfield 94, 3) := by decide +kernel
theorem dX9_tenant_96 : decode cX9_tenant 96 = .ok (.bipush 7, 2) := by decide +kernel
theorem dX9_tenant_98 : decode cX9_tenant 98 = .ok (.iload_n 1, 1) := by decide +kernel
theorem dX9_tenant_99 : decode cX9_tenant 99 = .ok (.iadd, 1) := by decide +kernel
theorem dX9_tenant_100 : decode cX9_tenant 100 = .ok (.iaload, 1) := by decide +kernel
theorem dX9_tenant_101 : decode cX9_tenant 101 = .ok (.ireturn, 1) := by decide +kernel
theorem dX9_tenant_102 : decode cX9_tenant 102 = .ok (.bipush (-2), 2) := by decide +kernel
theorem dX9_tenant_104 : decode cX9_tenant 104 = .ok (.ireturn, 1) := by decide +kernel
set_option maxRecDepth 20000 in
theorem ggX9_liking_X9_isTenant : GoodIn wsX9_liking wsX9_isTenant := goodIn_r _ [6, 7, 8, 9, 5, 10, 11, 12, 13, 14, 15, 86, 87, 88, 89, 90, 91, 92, 93, 94, 95, 96, 97, 98, 99, 100, 101, 102, 103, 104, 105, 106, 107, 108, 109, 110, 111, 112, 113, 114, 115, 116, 117, 118, 119, 120, 121, 122, 123, 124, 125, 126, 127, 128, 129, 130, 131, 132, 133, 134, 135, 136, 137, 138, 139, 140, 141, 142, 143, 144, 145, 146, 147, 148, 149, 150, 151, 152] rfl (by decide +kernel)
set_option maxRecDepth 20000 in
theorem gX9_liking_X9_isTenant : GoodIn wsX9_liking (wsV RX9 386 RX9 yX9_isTenant wsX9_isTenant) := goodIn_app (goodIn_r _ [2, 3, 4, 5] rfl (by decide +kernel)) ggX9_liking_X9_isTenant
set_option maxRecDepth 20000 in
theorem ggX9_liking_X9_isRoom : GoodIn wsX9_liking wsX9_isRoom := goodIn_r _ [19, 20, 21, 22, 5, 23, 24, 12, 13, 14, 15, 86, 87, 88, 89, 90, 91, 92, 93, 94, 95, 96, 97, 98, 99, 100, 101, 102, 103, 104, 105, 106, 107, 108, 109, 110, 111, 112, 113, 114, 115, 116, 117, 118, 119, 120, 121, 122, 123, 124, 125, 126, 127, 128, 129, 130, 131, 132, 133, 134, 135, 136, 137, 138, 139, 140, 141, 142, 143, 144, 145, 146, 147, 148, 149, 150, 151, 152] rfl (by decide +kernel)
set_option maxRecDepth 20000 in
theorem gX9_liking_X9_isRoom : GoodIn wsX9_liking (wsV RX9 462 RX9 yX9_isRoom wsX9_isRoom) := goodIn_app (goodIn_r _ [16, 17, 18, 5] rfl (by decide +kernel)) ggX9_liking_X9_isRoom
set_option maxRecDepth 20000 in
theorem ggX9_liking_X9_keeperOf : GoodIn wsX9_liking wsX9_keeperOf := goodIn_r _ [28, 29, 86, 87, 88, 89, 90, 91, 92, 93, 94, 95, 96, 97, 98, 99, 100, 101, 102, 103, 104, 105, 106, 107, 108, 109, 110, 111, 112, 113, 114, 115, 116, 117, 118, 119, 120, 121, 122, 123, 124, 125, 126, 127, 128, 129, 130, 131, 132, 133, 134, 135, 136, 137, 138, 139, 140, 141, 142, 143, 144, 145, 146, 147, 148, 149, 150, 151, 152] rfl (by decide +kernel)
set_option maxRecDepth 20000 in
theorem gX9_liking_X9_keeperOf : GoodIn wsX9_liking (wsV RX9 392 RX9 yX9_keeperOf wsX9_keeperOf) := goodIn_app (goodIn_r _ [25, 26, 27, 5] rfl (by decide +kernel)) ggX9_liking_X9_keeperOf
set_option maxRecDepth 20000 in
theorem ggX9_liking_X9_likingIn : GoodIn wsX9_liking wsX9_likingIn := goodIn_r _ [33, 29, 34, 35, 36, 5, 37, 38, 39, 40, 41, 42, 43, 12, 44, 25, 26, 27, 28, 45, 46, 47, 48, 49, 50, 51, 52, 53, 54, 55, 56, 57, 58, 59, 60, 20, 21, 22, 23, 24, 61, 62, 63, 64, 65, 66, 67, 68, 69, 70, 71, 72, 73, 74, 75, 76, 77, 78, 79, 80, 81, 82, 83, 84, 85, 86, 87, 88, 89, 90, 91, 92, 93, 94, 95, 96, 97, 98, 99, 100, 101, 102, 103, 104, 105, 106, 107, 108, 109, 110, 111, 112, 113, 114, 115, 116, 117, 118, 119, 120, 121, 122, 123, 124, 125, 126, 127, 128, 129, 130, 131, 132, 133, 134, 135, 136, 137, 138, 139, 140, 141, 142, 143, 144, 145, 146, 147, 148, 149, 150, 151, 152] rfl (by decide +kernel)
set_option maxRecDepth 20000 in
theorem gX9_liking_X9_likingIn : GoodIn wsX9_liking (wsV RX9 425 RX9 yX9_likingIn wsX9_likingIn) := goodIn_app (goodIn_r _ [30, 31, 32, 5] rfl (by decide +kernel)) ggX9_liking_X9_likingIn
theorem dX9_liking_0 : decode cX9_liking 0 = .ok (.aload_n 0, 1) := by decide +kernel
theorem dX9_liking_1 : decode cX9_liking 1 = .ok (.iload_n 1, 1) := by decide +kernel
theorem dX9_liking_2 : decode cX9_liking 2 = .ok (.invokevirtual 386, 3) := by decide +kernel
theorem dX9_liking_5 : decode cX9_liking 5 = .ok (.ifCond .eq 28, 3) := by decide +kernel
theorem dX9_liking_8 : decode cX9_liking 8 = .ok (.aload_n 0, 1) := by decide +kernel
theorem dX9_liking_9 : decode cX9_liking 9 = .ok (.iload_n 2, 1) := by decide +kernel
theorem dX9_liking_10 : decode cX9_liking 10 = .ok (.invokevirtual 462, 3) := by decide +kernel
theorem dX9_liking_13 : decode cX9_liking 13 = .ok (.ifCond .eq 20, 3) := by decide +kernel
theorem dX9_liking_16 : decode cX9_liking 16 = .ok (.aload_n 0, 1) := by decide +kernel
theorem dX9_liking_17 : decode cX9_liking 17 = .ok (.iload_n 2, 1) := by decide +kernel
theorem dX9_liking_18 : decode cX9_liking 18 = .ok (.invokevirtual 392, 3) := by decide +kernel
theorem dX9_liking_21 : decode cX9_liking 21 = .ok (.ifCond .lt 12, 3) := by decide +kernel
theorem dX9_liking_24 : decode cX9_liking 24 = .ok (.aload_n 0, 1) := by decide +kernel
theorem dX9_liking_25 : decode cX9_liking 25 = .ok (.iload_n 1, 1) := by decide +kernel
theorem dX9_liking_26 : decode cX9_liking 26 = .ok (.iload_n 2, 1) := by decide +kernel
theorem dX9_liking_27 : decode cX9_liking 27 = .ok (.invokevirtual 425, 3) := by decide +kernel
theorem dX9_liking_30 : decode cX9_liking 30 = .ok (.goto 6, 3) := by decide +kernel
theorem dX9_liking_33 : decode cX9_liking 33 = .ok (.ldc_w 468, 3) := by decide +kernel
theorem dX9_liking_36 : decode cX9_liking 36 = .ok (.ireturn, 1) := by decide +kernel
set_option maxRecDepth 20000 in
theorem ggX9_shaky_X9_thrown : GoodIn wsX9_shaky wsX9_thrown := goodIn_r _ [5, 6, 7, 8, 4, 9, 10, 11, 12, 13, 14, 15, 16, 17, 18, 19, 20, 21, 22, 23, 24, 25, 26, 27, 28, 29, 30, 31, 32, 33, 34, 35, 36, 37, 38, 39, 40, 41, 42, 43, 44, 45, 46, 47, 48, 49, 50, 51, 52, 53, 54, 55, 56, 57, 58, 59, 60, 61, 62, 63, 64, 65, 66, 67, 68, 69, 70, 71, 72, 73, 74, 75, 76, 77, 78, 79, 80, 81, 82, 83, 84, 85, 86, 87, 88, 89, 90, 91, 92, 93, 94, 95, 96, 97, 98, 99, 100, 101, 102, 103, 104, 105, 106, 107, 108, 109, 110, 111, 112, 113, 114, 115, 116, 117, 118, 119, 120, 121, 122, 123, 124, 125, 126, 127, 128, 129, 130, 131, 132, 133, 134, 135, 136, 137, 138, 139, 140, 141, 142, 143, 144, 145, 146, 147, 148, 149, 150, 151, 152, 153, 154, 155, 156, 157, 158, 159, 160, 161, 162, 163] rfl (by decide +kernel)
set_option maxRecDepth 20000 in
theorem gX9_shaky_X9_thrown : GoodIn wsX9_shaky (wsV RX9 443 RX9 yX9_thrown wsX9_thrown) := goodIn_app (goodIn_r _ [1, 2, 3, 4] rfl (by decide +kernel)) ggX9_shaky_X9_thrown
theorem dX9_shaky_0 : decode cX9_shaky 0 = .ok (.aload_n 0, 1) := by decide +kernel
theorem dX9_shaky_1 : decode cX9_shaky 1 = .ok (.invokevirtual 443, 3) := by decide +kernel
theorem dX9_shaky_4 : decode cX9_shaky 4 = .ok (.ireturn, 1) := by decide +kernel
set_option maxRecDepth 20000 in
theorem ggX9_law_X9_isIn : GoodIn wsX9_law wsX9_isIn := goodIn_r _ [5] rfl (by decide +kernel)
set_option maxRecDepth 20000 in
theorem gX9_law_X9_isIn : GoodIn wsX9_law (va_wsS RX9 376 yX9_isIn wsX9_isIn) := goodIn_app (goodIn_r _ [2, 3, 4] rfl (by decide +kernel)) ggX9_law_X9_isIn
set_option maxRecDepth 20000 in
theorem ggX9_law_X9_thrown : GoodIn wsX9_law wsX9_thrown := goodIn_r _ [9, 10, 11, 12, 4, 13, 14, 15, 16, 17, 18, 19, 20, 21, 22, 23, 24, 2, 3, 5, 25, 26, 27, 28, 29, 30, 31, 32, 33, 34, 35, 36, 37, 38, 39, 40, 41, 42, 43, 44, 45, 46, 47, 48, 49, 50, 51, 52, 53, 54, 55, 1, 56, 57, 58, 59, 60, 61, 62, 63, 64, 65, 66, 67, 68, 69, 70, 71, 72, 73, 74, 75, 76, 77, 78, 79, 80, 81, 82, 83, 84, 85, 86, 87, 88, 89, 90, 91, 92, 93, 94, 95, 96, 97, 98, 99, 100, 101, 102, 103, 104, 105, 106, 107, 108, 109, 110, 111, 112, 113, 114, 115, 116, 117, 118, 119, 120, 121, 122, 123, 124, 125, 126, 127, 128, 129, 130, 131, 132, 133, 134, 135, 136, 137, 138, 139, 140, 141, 142, 143, 144, 145, 146, 147, 148, 149, 150, 151, 152, 153, 154, 155, 156, 157, 158, 159, 160, 161, 162, 163] rfl (by decide +kernel)
set_option maxRecDepth 20000 in
theorem gX9_law_X9_thrown : GoodIn wsX9_law (wsV RX9 443 RX9 yX9_thrown wsX9_thrown) := goodIn_app (goodIn_r _ [6, 7, 8, 4] rfl (by decide +kernel)) ggX9_law_X9_thrown
set_option maxRecDepth 20000 in
theorem ggX9_law_X9_bitsOf : GoodIn wsX9_law wsX9_bitsOf := goodIn_r _ [74] rfl (by decide +kernel)
set_option maxRecDepth 20000 in
theorem gX9_law_X9_bitsOf : GoodIn wsX9_law (va_wsS RX9 416 yX9_bitsOf wsX9_bitsOf) := goodIn_app (goodIn_r _ [72, 73, 4] rfl (by decide +kernel)) ggX9_law_X9_bitsOf
theorem dX9_law_0 : decode cX9_law 0 = .ok (.iload_n 1, 1) := by decide +kernel
theorem dX9_law_1 : decode cX9_law 1 = .ok (.iconst 0, 1) := by decide +kernel
theorem dX9_law_2 : decode cX9_law 2 = .ok (.bipush 99, 2) := by decide +kernel
theorem dX9_law_4 : decode cX9_law 4 = .ok (.invokestatic 376, 3) := by decide +kernel
theorem dX9_law_7 : decode cX9_law 7 = .ok (.ifCond .ne 5, 3) := by decide +kernel
theorem dX9_law_10 : decode cX9_law 10 = .ok (.iconst (-1), 1) := by decide +kernel
theorem dX9_law_11 : decode cX9_law 11 = .ok (.ireturn, 1) := by decide +kernel
theorem dX9_law_12 : decode cX9_law 12 = .ok (.aload_n 0, 1) := by decide +kernel
theorem dX9_law_13 : decode cX9_law 13 = .ok (.iload_n 1, 1) := by decide +kernel
theorem dX9_law_14 : decode cX9_law 14 = .ok (.putfield 100, 3) := by decide +kernel
theorem dX9_law_17 : decode cX9_law 17 = .ok (.aload_n 0, 1) := by decide +kernel
theorem dX9_law_18 : decode cX9_law 18 = .ok (.invokevirtual 443, 3) := by decide +kernel
theorem dX9_law_21 : decode cX9_law 21 = .ok (.invokestatic 416, 3) := by decide +kernel
theorem dX9_law_24 : decode cX9_law 24 = .ok (.istore_n 2, 1) := by decide +kernel
theorem dX9_law_25 : decode cX9_law 25 = .ok (.aload_n 0, 1) := by decide +kernel
theorem dX9_law_26 : decode cX9_law 26 = .ok (.iconst (-1), 1) := by decide +kernel
theorem dX9_law_27 : decode cX9_law 27 = .ok (.putfield 100, 3) := by decide +kernel
theorem dX9_law_30 : decode cX9_law 30 = .ok (.iload_n 2, 1) := by decide +kernel
theorem dX9_law_31 : decode cX9_law 31 = .ok (.ireturn, 1) := by decide +kernel
set_option maxRecDepth 20000 in
theorem ggX9_purse_X9_isCat : GoodIn wsX9_purse wsX9_isCat := goodIn_r _ [9, 10, 11, 12, 8, 13, 14, 4, 15, 16, 17, 47, 48, 49, 50, 51, 52, 53, 54, 55, 56, 57, 58, 59, 60, 61, 62, 63, 64, 65, 66, 67, 68, 69, 70, 71, 72, 73, 74, 75, 76, 77, 78, 79, 80, 81, 82, 83, 84, 85, 86, 87, 88, 89, 90, 91, 92, 93, 94, 95, 96, 97, 98, 99, 100, 101, 102, 103, 104, 105, 106, 107, 108, 109, 110, 111, 112, 113] rfl (by decide +kernel)
set_option maxRecDepth 20000 in
theorem gX9_purse_X9_isCat : GoodIn wsX9_purse (wsV RX9 456 RX9 yX9_isCat wsX9_isCat) := goodIn_app (goodIn_r _ [5, 6, 7, 8] rfl (by decide +kernel)) ggX9_purse_X9_isCat
set_option maxRecDepth 20000 in
theorem ggX9_purse_X9_roomsOf : GoodIn wsX9_purse wsX9_roomsOf := goodIn_r _ [21, 22, 23, 24, 8, 25, 26, 4, 27, 28, 29, 30, 2, 47, 48, 49, 50, 51, 52, 53, 54, 55, 56, 57, 58, 59, 60, 61, 62, 63, 64, 65, 66, 67, 68, 69, 70, 71, 72, 73, 74, 75, 76, 77, 78, 79, 80, 81, 82, 83, 84, 85, 86, 87, 88, 89, 90, 91, 92, 93, 94, 95, 96, 97, 98, 99, 100, 101, 102, 103, 104, 105, 106, 107, 108, 109, 110, 111, 112, 113] rfl (by decide +kernel)
set_option maxRecDepth 20000 in
theorem gX9_purse_X9_roomsOf : GoodIn wsX9_purse (wsV RX9 413 RX9 yX9_roomsOf wsX9_roomsOf) := goodIn_app (goodIn_r _ [18, 19, 20, 8] rfl (by decide +kernel)) ggX9_purse_X9_roomsOf
set_option maxRecDepth 20000 in
theorem ggX9_purse_X9_thoseIn : GoodIn wsX9_purse wsX9_thoseIn := goodIn_r _ [34, 2, 35, 36, 37, 8, 38, 39, 4, 40, 41, 42, 43, 44, 45, 46, 47, 48, 49, 50, 51, 52, 53, 54, 55, 56, 57, 58, 59, 60, 61, 62, 63, 64, 65, 66, 67, 68, 69, 70, 71, 72, 73, 74, 75, 76, 77, 78, 79, 80, 81, 82, 83, 84, 85, 86, 87, 88, 89, 90, 91, 92, 93, 94, 95, 96, 97, 98, 99, 100, 101, 102, 103, 104, 105, 106, 107, 108, 109, 110, 111, 112, 113] rfl (by decide +kernel)
set_option maxRecDepth 20000 in
theorem gX9_purse_X9_thoseIn : GoodIn wsX9_purse (wsV RX9 459 RX9 yX9_thoseIn wsX9_thoseIn) := goodIn_app (goodIn_r _ [31, 32, 33, 8] rfl (by decide +kernel)) ggX9_purse_X9_thoseIn
set_option maxRecDepth 20000 in
theorem ggX9_purse_X9_many : GoodIn wsX9_purse wsX9_many := goodIn_r _ [38, 39, 4, 47, 48, 49, 50, 51, 52, 53, 54, 55, 56, 57, 58, 59, 60, 61, 62, 63, 64, 65, 66, 67, 68, 69, 70, 71, 72, 73, 74, 75, 76, 77, 78, 79, 80, 81, 82, 83, 84, 85, 86, 87, 88, 89, 90, 91, 92, 93, 94, 95, 96, 97, 98, 99, 100, 101, 102, 103, 104, 105, 106, 107, 108, 109, 110, 111, 112, 113] rfl (by decide +kernel)
set_option maxRecDepth 20000 in
theorem gX9_purse_X9_many : GoodIn wsX9_purse (wsV RX9 373 RX9 yX9_many wsX9_many) := goodIn_app (goodIn_r _ [35, 36, 37, 8] rfl (by decide +kernel)) ggX9_purse_X9_many
set_option maxRecDepth 20000 in
theorem ggX9_purse_X9_bit : GoodIn wsX9_purse wsX9_bit := goodIn_r _ [46] rfl (by decide +kernel)
set_option maxRecDepth 20000 in
theorem gX9_purse_X9_bit : GoodIn wsX9_purse (va_wsS RX9 274 yX9_bit wsX9_bit) := goodIn_app (goodIn_r _ [44, 45, 8] rfl (by decide +kernel)) ggX9_purse_X9_bit
theorem dX9_purse_0 : decode cX9_purse 0 = .ok (.aload_n 0, 1) := by decide +kernel
theorem dX9_purse_1 : decode cX9_purse 1 = .ok (.iload_n 1, 1) := by decide +kernel
theorem dX9_purse_2 : decode cX9_purse 2 = .ok (.invokevirtual 456, 3) := by decide +kernel
theorem dX9_purse_5 : decode cX9_purse 5 = .ok (.ifCond .ne 7, 3) := by decide +kernel
theorem dX9_purse_8 : decode cX9_purse 8 = .ok (.ldc_w 469, 3) := by decide +kernel
theorem dX9_purse_11 : decode cX9_purse 11 = .ok (.ireturn, 1) := by decide +kernel
theorem dX9_purse_12 : decode cX9_purse 12 = .ok (.aload_n 0, 1) := by decide +kernel
theorem dX9_purse_13 : decode cX9_purse 13 = .ok (.aload_n 0, 1) := by decide +kernel
theorem dX9_purse_14 : decode cX9_purse 14 = .ok (.iload_n 1, 1) := by decide +kernel
theorem dX9_purse_15 : decode cX9_purse 15 = .ok (.invokevirtual 413, 3) := by decide +kernel
theorem dX9_purse_18 : decode cX9_purse 18 = .ok (.invokevirtual 459, 3) := by decide +kernel
theorem dX9_purse_21 : decode cX9_purse 21 = .ok (.istore_n 2, 1) := by decide +kernel
theorem dX9_purse_22 : decode cX9_purse 22 = .ok (.iconst 0, 1) := by decide +kernel
theorem dX9_purse_23 : decode cX9_purse 23 = .ok (.istore_n 3, 1) := by decide +kernel
theorem dX9_purse_24 : decode cX9_purse 24 = .ok (.iconst 0, 1) := by decide +kernel
theorem dX9_purse_25 : decode cX9_purse 25 = .ok (.istore 4, 2) := by decide +kernel
theorem dX9_purse_27 : decode cX9_purse 27 = .ok (.iload 4, 2) := by decide +kernel
theorem dX9_purse_29 : decode cX9_purse 29 = .ok (.aload_n 0, 1) := by decide +kernel
theorem dX9_purse_30 : decode cX9_purse 30 = .ok (.invokevirtual 373, 3) := by decide +kernel
theorem dX9_purse_33 : decode cX9_purse 33 = .ok (.if_icmp .ge 50, 3) := by decide +kernel
theorem dX9_purse_36 : decode cX9_purse 36 = .ok (.iload_n 3, 1) := by decide +kernel
theorem dX9_purse_37 : decode cX9_purse 37 = .ok (.iload_n 2, 1) := by decide +kernel
theorem dX9_purse_38 : decode cX9_purse 38 = .ok (.iload 4, 2) := by decide +kernel
theorem dX9_purse_40 : decode cX9_purse 40 = .ok (.invokestatic 274, 3) := by decide +kernel
theorem dX9_purse_43 : decode cX9_purse 43 = .ok (.ifCond .eq 31, 3) := by decide +kernel
theorem dX9_purse_46 : decode cX9_purse 46 = .ok (.aload_n 0, 1) := by decide +kernel
theorem dX9_purse_47 : decode cX9_purse 47 = .ok (.getfield 94, 3) := by decide +kernel
theorem dX9_purse_50 : decode cX9_purse 50 = .ok (.bipush 22, 2) := by decide +kernel
theorem dX9_purse_52 : decode cX9_purse 52 = .ok (.iload 4, 2) := by decide +kernel
theorem dX9_purse_54 : decode cX9_purse 54 = .ok (.iadd, 1) := by decide +kernel
theorem dX9_purse_55 : decode cX9_purse 55 = .ok (.iaload, 1) := by decide +kernel
theorem dX9_purse_56 : decode cX9_purse 56 = .ok (.aload_n 0, 1) := by decide +kernel
theorem dX9_purse_57 : decode cX9_purse 57 = .ok (.getfield 42, 3) := by decide +kernel
theorem dX9_purse_60 : decode cX9_purse 60 = .ok (.bipush 6, 2) := by decide +kernel
theorem dX9_purse_62 : decode cX9_purse 62 = .ok (.aload_n 0, 1) := by decide +kernel
theorem dX9_purse_63 : decode cX9_purse 63 = .ok (.getfield 268, 3) := by decide +kernel
theorem dX9_purse_66 : decode cX9_purse 66 = .ok (.imul, 1) := by decide +kernel
theorem dX9_purse_67 : decode cX9_purse 67 = .ok (.iload_n 1, 1) := by decide +kernel
theorem dX9_purse_68 : decode cX9_purse 68 = .ok (.iadd, 1) := by decide +kernel
theorem dX9_purse_69 : decode cX9_purse 69 = .ok (.iaload, 1) := by decide +kernel
theorem dX9_purse_70 : decode cX9_purse 70 = .ok (.isub, 1) := by decide +kernel
theorem dX9_purse_71 : decode cX9_purse 71 = .ok (.goto 4, 3) := by decide +kernel
theorem dX9_purse_74 : decode cX9_purse 74 = .ok (.iconst 0, 1) := by decide +kernel
theorem dX9_purse_75 : decode cX9_purse 75 = .ok (.iadd, 1) := by decide +kernel
theorem dX9_purse_76 : decode cX9_purse 76 = .ok (.istore_n 3, 1) := by decide +kernel
theorem dX9_purse_77 : decode cX9_purse 77 = .ok (.iinc 4 1, 3) := by decide +kernel
theorem dX9_purse_80 : decode cX9_purse 80 = .ok (.goto (-53), 3) := by decide +kernel
theorem dX9_purse_83 : decode cX9_purse 83 = .ok (.iload_n 3, 1) := by decide +kernel
theorem dX9_purse_84 : decode cX9_purse 84 = .ok (.ireturn, 1) := by decide +kernel
set_option maxRecDepth 20000 in
theorem ggX9_fondest_X9_cattery : GoodIn wsX9_fondest wsX9_cattery := goodIn_r _ [5, 6, 7, 89, 90, 91, 92, 93, 94, 95, 96, 97, 98, 99, 100, 101, 102, 103, 104, 105, 106, 107, 108, 109, 110, 111, 112, 113, 114, 115, 116, 117, 118, 119, 120, 121, 122, 123, 124, 125, 126, 127, 128, 129, 130, 131, 132, 133, 134, 135, 136, 137, 138, 139, 140, 141, 142, 143, 144, 145, 146, 147, 148, 149, 150, 151, 152, 153, 154, 155] rfl (by decide +kernel)
set_option maxRecDepth 20000 in
theorem gX9_fondest_X9_cattery : GoodIn wsX9_fondest (wsV RX9 380 RX9 yX9_cattery wsX9_cattery) := goodIn_app (goodIn_r _ [1, 2, 3, 4] rfl (by decide +kernel)) ggX9_fondest_X9_cattery
set_option maxRecDepth 20000 in
theorem ggX9_fondest_X9_roomsOf : GoodIn wsX9_fondest wsX9_roomsOf := goodIn_r _ [11, 12, 13, 14, 4, 15, 16, 7, 17, 18, 19, 20, 21, 89, 90, 91, 92, 93, 94, 95, 96, 97, 98, 99, 100, 101, 102, 103, 104, 105, 106, 107, 108, 109, 110, 111, 112, 113, 114, 115, 116, 117, 118, 119, 120, 121, 122, 123, 124, 125, 126, 127, 128, 129, 130, 131, 132, 133, 134, 135, 136, 137, 138, 139, 140, 141, 142, 143, 144, 145, 146, 147, 148, 149, 150, 151, 152, 153, 154, 155] rfl (by decide +kernel)
set_option maxRecDepth 20000 in
theorem gX9_fondest_X9_roomsOf : GoodIn wsX9_fondest (wsV RX9 413 RX9 yX9_roomsOf wsX9_roomsOf) := goodIn_app (goodIn_r _ [8, 9, 10, 4] rfl (by decide +kernel)) ggX9_fondest_X9_roomsOf
set_option maxRecDepth 20000 in
theorem ggX9_fondest_X9_thoseIn : GoodIn wsX9_fondest wsX9_thoseIn := goodIn_r _ [25, 21, 26, 27, 28, 4, 29, 30, 7, 31, 32, 33, 34, 35, 36, 37, 89, 90, 91, 92, 93, 94, 95, 96, 97, 98, 99, 100, 101, 102, 103, 104, 105, 106, 107, 108, 109, 110, 111, 112, 113, 114, 115, 116, 117, 118, 119, 120, 121, 122, 123, 124, 125, 126, 127, 128, 129, 130, 131, 132, 133, 134, 135, 136, 137, 138, 139, 140, 141, 142, 143, 144, 145, 146, 147, 148, 149, 150, 151, 152, 153, 154, 155] rfl (by decide +kernel)
set_option maxRecDepth 20000 in
theorem gX9_fondest_X9_thoseIn : GoodIn wsX9_fondest (wsV RX9 459 RX9 yX9_thoseIn wsX9_thoseIn) := goodIn_app (goodIn_r _ [22, 23, 24, 4] rfl (by decide +kernel)) ggX9_fondest_X9_thoseIn
set_option maxRecDepth 20000 in
theorem ggX9_fondest_X9_many : GoodIn wsX9_fondest wsX9_many := goodIn_r _ [29, 30, 7, 89, 90, 91, 92, 93, 94, 95, 96, 97, 98, 99, 100, 101, 102, 103, 104, 105, 106, 107, 108, 109, 110, 111, 112, 113, 114, 115, 116, 117, 118, 119, 120, 121, 122, 123, 124, 125, 126, 127, 128, 129, 130, 131, 132, 133, 134, 135, 136, 137, 138, 139, 140, 141, 142, 143, 144, 145, 146, 147, 148, 149, 150, 151, 152, 153, 154, 155] rfl (by decide +kernel)
set_option maxRecDepth 20000 in
theorem gX9_fondest_X9_many : GoodIn wsX9_fondest (wsV RX9 373 RX9 yX9_many wsX9_many) := goodIn_app (goodIn_r _ [26, 27, 28, 4] rfl (by decide +kernel)) ggX9_fondest_X9_many
set_option maxRecDepth 20000 in
theorem ggX9_fondest_X9_bit : GoodIn wsX9_fondest wsX9_bit := goodIn_r _ [37] rfl (by decide +kernel)
set_option maxRecDepth 20000 in
theorem gX9_fondest_X9_bit : GoodIn wsX9_fondest (va_wsS RX9 274 yX9_bit wsX9_bit) := goodIn_app (goodIn_r _ [35, 36, 4] rfl (by decide +kernel)) ggX9_fondest_X9_bit
set_option maxRecDepth 20000 in
theorem ggX9_fondest_X9_likingNow : GoodIn wsX9_fondest wsX9_likingNow := goodIn_r _ [41, 21, 42, 43, 44, 4, 45, 46, 47, 48, 49, 50, 51, 52, 53, 54, 55, 7, 56, 17, 18, 19, 20, 57, 58, 59, 60, 61, 62, 63, 1, 2, 3, 5, 6, 8, 9, 10, 11, 12, 13, 14, 15, 16, 64, 65, 66, 35, 36, 37, 67, 68, 69, 70, 71, 72, 73, 74, 75, 76, 77, 78, 79, 80, 81, 82, 83, 84, 85, 89, 90, 91, 92, 93, 94, 95, 96, 97, 98, 99, 100, 101, 102, 103, 104, 105, 106, 107, 108, 109, 110, 111, 112, 113, 114, 115, 116, 117, 118, 119, 120, 121, 122, 123, 124, 125, 126, 127, 128, 129, 130, 131, 132, 133, 134, 135, 136, 137, 138, 139, 140, 141, 142, 143, 144, 145, 146, 147, 148, 149, 150, 151, 152, 153, 154, 155] rfl (by decide +kernel)
set_option maxRecDepth 20000 in
theorem gX9_fondest_X9_likingNow : GoodIn wsX9_fondest (wsV RX9 431 RX9 yX9_likingNow wsX9_likingNow) := goodIn_app (goodIn_r _ [38, 39, 40, 4] rfl (by decide +kernel)) ggX9_fondest_X9_likingNow
set_option maxRecDepth 20000 in
theorem ggX9_fondest_X9_held : GoodIn wsX9_fondest wsX9_held := goodIn_r _ [88] rfl (by decide +kernel)
set_option maxRecDepth 20000 in
theorem gX9_fondest_X9_held : GoodIn wsX9_fondest (va_wsS RX9 470 yX9_held wsX9_held) := goodIn_app (goodIn_r _ [86, 87, 4] rfl (by decide +kernel)) ggX9_fondest_X9_held
theorem dX9_fondest_0 : decode cX9_fondest 0 = .ok (.iconst (-1), 1) := by decide +kernel
theorem dX9_fondest_1 : decode cX9_fondest 1 = .ok (.istore_n 1, 1) := by decide +kernel
theorem dX9_fondest_2 : decode cX9_fondest 2 = .ok (.iconst 0, 1) := by decide +kernel
theorem dX9_fondest_3 : decode cX9_fondest 3 = .ok (.istore_n 2, 1) := by decide +kernel
theorem dX9_fondest_4 : decode cX9_fondest 4 = .ok (.iconst 0, 1) := by decide +kernel
theorem dX9_fondest_5 : decode cX9_fondest 5 = .ok (.istore_n 3, 1) := by decide +kernel
theorem dX9_fondest_6 : decode cX9_fondest 6 = .ok (.iload_n 3, 1) := by decide +kernel
theorem dX9_fondest_7 : decode cX9_fondest 7 = .ok (.aload_n 0, 1) := by decide +kernel
theorem dX9_fondest_8 : decode cX9_fondest 8 = .ok (.invokevirtual 380, 3) := by decide +kernel
theorem dX9_fondest_11 : decode cX9_fondest 11 = .ok (.if_icmp .ge 92, 3) := by decide +kernel
theorem dX9_fondest_14 : decode cX9_fondest 14 = .ok (.aload_n 0, 1) := by decide +kernel
theorem dX9_fondest_15 : decode cX9_fondest 15 = .ok (.aload_n 0, 1) := by decide +kernel
theorem dX9_fondest_16 : decode cX9_fondest 16 = .ok (.iload_n 3, 1) := by decide +kernel
theorem dX9_fondest_17 : decode cX9_fondest 17 = .ok (.invokevirtual 413, 3) := by decide +kernel
theorem dX9_fondest_20 : decode cX9_fondest 20 = .ok (.invokevirtual 459, 3) := by decide +kernel
theorem dX9_fondest_23 : decode cX9_fondest 23 = .ok (.istore 4, 2) := by decide +kernel
theorem dX9_fondest_25 : decode cX9_fondest 25 = .ok (.iconst 0, 1) := by decide +kernel
theorem dX9_fondest_26 : decode cX9_fondest 26 = .ok (.istore 5, 2) := by decide +kernel
theorem dX9_fondest_28 : decode cX9_fondest 28 = .ok (.iconst 0, 1) := by decide +kernel
theorem dX9_fondest_29 : decode cX9_fondest 29 = .ok (.istore 6, 2) := by decide +kernel
theorem dX9_fondest_31 : decode cX9_fondest 31 = .ok (.iload 6, 2) := by decide +kernel
theorem dX9_fondest_33 : decode cX9_fondest 33 = .ok (.aload_n 0, 1) := by decide +kernel
theorem dX9_fondest_34 : decode cX9_fondest 34 = .ok (.invokevirtual 373, 3) := by decide +kernel
theorem dX9_fondest_37 : decode cX9_fondest 37 = .ok (.if_icmp .ge 37, 3) := by decide +kernel
theorem dX9_fondest_40 : decode cX9_fondest 40 = .ok (.iload 5, 2) := by decide +kernel
theorem dX9_fondest_42 : decode cX9_fondest 42 = .ok (.iload 4, 2) := by decide +kernel
theorem dX9_fondest_44 : decode cX9_fondest 44 = .ok (.iload 6, 2) := by decide +kernel
theorem dX9_fondest_46 : decode cX9_fondest 46 = .ok (.invokestatic 274, 3) := by decide +kernel
theorem dX9_fondest_49 : decode cX9_fondest 49 = .ok (.ifCond .eq 15, 3) := by decide +kernel
theorem dX9_fondest_52 : decode cX9_fondest 52 = .ok (.aload_n 0, 1) := by decide +kernel
theorem dX9_fondest_53 : decode cX9_fondest 53 = .ok (.iload 6, 2) := by decide +kernel
theorem dX9_fondest_55 : decode cX9_fondest 55 = .ok (.invokevirtual 431, 3) := by decide +kernel
theorem dX9_fondest_58 : decode cX9_fondest 58 = .ok (.invokestatic 470, 3) := by decide +kernel
theorem dX9_fondest_61 : decode cX9_fondest 61 = .ok (.goto 4, 3) := by decide +kernel
theorem dX9_fondest_64 : decode cX9_fondest 64 = .ok (.iconst 0, 1) := by decide +kernel
theorem dX9_fondest_65 : decode cX9_fondest 65 = .ok (.iadd, 1) := by decide +kernel
theorem dX9_fondest_66 : decode cX9_fondest 66 = .ok (.istore 5, 2) := by decide +kernel
theorem dX9_fondest_68 : decode cX9_fondest 68 = .ok (.iinc 6 1, 3) := by decide +kernel
theorem dX9_fondest_71 : decode cX9_fondest 71 = .ok (.goto (-40), 3) := by decide +kernel
theorem dX9_fondest_74 : decode cX9_fondest 74 = .ok (.iload 4, 2) := by decide +kernel
theorem dX9_fondest_76 : decode cX9_fondest 76 = .ok (.ifCond .eq 21, 3) := by decide +kernel
theorem dX9_fondest_79 : decode cX9_fondest 79 = .ok (.iload_n 1, 1) := by decide +kernel
theorem dX9_fondest_80 : decode cX9_fondest 80 = .ok (.ifCond .lt 12, 3) := by decide +kernel
theorem dX9_fondest_83 : decode cX9_fondest 83 = .ok (.iload 5, 2) := by decide +kernel
theorem dX9_fondest_85 : decode cX9_fondest 85 = .ok (.iload_n 2, 1) := by decide +kernel
theorem dX9_fondest_86 : decode cX9_fondest 86 = .ok (.if_icmp .gt 6, 3) := by decide +kernel
theorem dX9_fondest_89 : decode cX9_fondest 89 = .ok (.goto 8, 3) := by decide +kernel
theorem dX9_fondest_92 : decode cX9_fondest 92 = .ok (.iload_n 3, 1) := by decide +kernel
theorem dX9_fondest_93 : decode cX9_fondest 93 = .ok (.istore_n 1, 1) := by decide +kernel
theorem dX9_fondest_94 : decode cX9_fondest 94 = .ok (.iload 5, 2) := by decide +kernel
theorem dX9_fondest_96 : decode cX9_fondest 96 = .ok (.istore_n 2, 1) := by decide +kernel
theorem dX9_fondest_97 : decode cX9_fondest 97 = .ok (.iinc 3 1, 3) := by decide +kernel
theorem dX9_fondest_100 : decode cX9_fondest 100 = .ok (.goto (-94), 3) := by decide +kernel
theorem dX9_fondest_103 : decode cX9_fondest 103 = .ok (.iload_n 1, 1) := by decide +kernel
theorem dX9_fondest_104 : decode cX9_fondest 104 = .ok (.ireturn, 1) := by decide +kernel
set_option maxRecDepth 20000 in
theorem ggX9_nobodys_X9_many : GoodIn wsX9_nobodys wsX9_many := goodIn_r _ [5, 6, 7, 74, 75, 76, 77, 78, 79, 80, 81, 82, 83, 84, 85, 86, 87, 88, 89, 90, 91, 92, 93, 94, 95, 96, 97, 98, 99, 100, 101, 102, 103, 104, 105, 106, 107, 108, 109, 110, 111, 112, 113, 114, 115, 116, 117, 118, 119, 120, 121, 122, 123, 124, 125, 126, 127, 128, 129, 130, 131, 132, 133, 134, 135, 136, 137, 138, 139, 140] rfl (by decide +kernel)
set_option maxRecDepth 20000 in
theorem gX9_nobodys_X9_many : GoodIn wsX9_nobodys (wsV RX9 373 RX9 yX9_many wsX9_many) := goodIn_app (goodIn_r _ [1, 2, 3, 4] rfl (by decide +kernel)) ggX9_nobodys_X9_many
set_option maxRecDepth 20000 in
theorem ggX9_nobodys_X9_chambers : GoodIn wsX9_nobodys wsX9_chambers := goodIn_r _ [11, 12, 7, 74, 75, 76, 77, 78, 79, 80, 81, 82, 83, 84, 85, 86, 87, 88, 89, 90, 91, 92, 93, 94, 95, 96, 97, 98, 99, 100, 101, 102, 103, 104, 105, 106, 107, 108, 109, 110, 111, 112, 113, 114, 115, 116, 117, 118, 119, 120, 121, 122, 123, 124, 125, 126, 127, 128, 129, 130, 131, 132, 133, 134, 135, 136, 137, 138, 139, 140] rfl (by decide +kernel)
set_option maxRecDepth 20000 in
theorem gX9_nobodys_X9_chambers : GoodIn wsX9_nobodys (wsV RX9 383 RX9 yX9_chambers wsX9_chambers) := goodIn_app (goodIn_r _ [8, 9, 10, 4] rfl (by decide +kernel)) ggX9_nobodys_X9_chambers
set_option maxRecDepth 20000 in
theorem ggX9_nobodys_X9_keeperOf : GoodIn wsX9_nobodys wsX9_keeperOf := goodIn_r _ [16, 17, 74, 75, 76, 77, 78, 79, 80, 81, 82, 83, 84, 85, 86, 87, 88, 89, 90, 91, 92, 93, 94, 95, 96, 97, 98, 99, 100, 101, 102, 103, 104, 105, 106, 107, 108, 109, 110, 111, 112, 113, 114, 115, 116, 117, 118, 119, 120, 121, 122, 123, 124, 125, 126, 127, 128, 129, 130, 131, 132, 133, 134, 135, 136, 137, 138, 139, 140] rfl (by decide +kernel)
set_option maxRecDepth 20000 in
theorem gX9_nobodys_X9_keeperOf : GoodIn wsX9_nobodys (wsV RX9 392 RX9 yX9_keeperOf wsX9_keeperOf) := goodIn_app (goodIn_r _ [13, 14, 15, 4] rfl (by decide +kernel)) ggX9_nobodys_X9_keeperOf
set_option maxRecDepth 20000 in
theorem ggX9_nobodys_X9_likingIn : GoodIn wsX9_nobodys wsX9_likingIn := goodIn_r _ [21, 17, 22, 23, 24, 4, 25, 26, 27, 28, 29, 30, 31, 7, 32, 13, 14, 15, 16, 33, 34, 35, 36, 37, 38, 39, 40, 41, 42, 43, 44, 45, 46, 47, 48, 8, 9, 10, 11, 12, 49, 50, 51, 52, 53, 54, 55, 56, 57, 58, 59, 60, 61, 62, 63, 64, 65, 66, 67, 68, 69, 70, 71, 72, 73, 74, 75, 76, 77, 78, 79, 80, 81, 82, 83, 84, 85, 86, 87, 88, 89, 90, 91, 92, 93, 94, 95, 96, 97, 98, 99, 100, 101, 102, 103, 104, 105, 106, 107, 108, 109, 110, 111, 112, 113, 114, 115, 116, 117, 118, 119, 120, 121, 122, 123, 124, 125, 126, 127, 128, 129, 130, 131, 132, 133, 134, 135, 136, 137, 138, 139, 140] rfl (by decide +kernel)
set_option maxRecDepth 20000 in
theorem gX9_nobodys_X9_likingIn : GoodIn wsX9_nobodys (wsV RX9 425 RX9 yX9_likingIn wsX9_likingIn) := goodIn_app (goodIn_r _ [18, 19, 20, 4] rfl (by decide +kernel)) ggX9_nobodys_X9_likingIn
theorem dX9_nobodys_0 : decode cX9_nobodys 0 = .ok (.iconst 0, 1) := by decide +kernel
theorem dX9_nobodys_1 : decode cX9_nobodys 1 = .ok (.istore_n 1, 1) := by decide +kernel
theorem dX9_nobodys_2 : decode cX9_nobodys 2 = .ok (.iconst 0, 1) := by decide +kernel
theorem dX9_nobodys_3 : decode cX9_nobodys 3 = .ok (.istore_n 2, 1) := by decide +kernel
theorem dX9_nobodys_4 : decode cX9_nobodys 4 = .ok (.iload_n 2, 1) := by decide +kernel
theorem dX9_nobodys_5 : decode cX9_nobodys 5 = .ok (.aload_n 0, 1) := by decide +kernel
theorem dX9_nobodys_6 : decode cX9_nobodys 6 = .ok (.invokevirtual 373, 3) := by decide +kernel
theorem dX9_nobodys_9 : decode cX9_nobodys 9 = .ok (.if_icmp .ge 68, 3) := by decide +kernel
theorem dX9_nobodys_12 : decode cX9_nobodys 12 = .ok (.iconst 1, 1) := by decide +kernel
theorem dX9_nobodys_13 : decode cX9_nobodys 13 = .ok (.istore_n 3, 1) := by decide +kernel
theorem dX9_nobodys_14 : decode cX9_nobodys 14 = .ok (.iconst 0, 1) := by decide +kernel
theorem dX9_nobodys_15 : decode cX9_nobodys 15 = .ok (.istore 4, 2) := by decide +kernel
theorem dX9_nobodys_17 : decode cX9_nobodys 17 = .ok (.iload 4, 2) := by decide +kernel
theorem dX9_nobodys_19 : decode cX9_nobodys 19 = .ok (.aload_n 0, 1) := by decide +kernel
theorem dX9_nobodys_20 : decode cX9_nobodys 20 = .ok (.invokevirtual 383, 3) := by decide +kernel
theorem dX9_nobodys_23 : decode cX9_nobodys 23 = .ok (.if_icmp .ge 38, 3) := by decide +kernel
theorem dX9_nobodys_26 : decode cX9_nobodys 26 = .ok (.iload_n 3, 1) := by decide +kernel
theorem dX9_nobodys_27 : decode cX9_nobodys 27 = .ok (.ifCond .eq 26, 3) := by decide +kernel
theorem dX9_nobodys_30 : decode cX9_nobodys 30 = .ok (.aload_n 0, 1) := by decide +kernel
theorem dX9_nobodys_31 : decode cX9_nobodys 31 = .ok (.iload 4, 2) := by decide +kernel
theorem dX9_nobodys_33 : decode cX9_nobodys 33 = .ok (.invokevirtual 392, 3) := by decide +kernel
theorem dX9_nobodys_36 : decode cX9_nobodys 36 = .ok (.ifCond .lt 13, 3) := by decide +kernel
theorem dX9_nobodys_39 : decode cX9_nobodys 39 = .ok (.aload_n 0, 1) := by decide +kernel
theorem dX9_nobodys_40 : decode cX9_nobodys 40 = .ok (.iload_n 2, 1) := by decide +kernel
theorem dX9_nobodys_41 : decode cX9_nobodys 41 = .ok (.iload 4, 2) := by decide +kernel
theorem dX9_nobodys_43 : decode cX9_nobodys 43 = .ok (.invokevirtual 425, 3) := by decide +kernel
theorem dX9_nobodys_46 : decode cX9_nobodys 46 = .ok (.ifCond .gt 7, 3) := by decide +kernel
theorem dX9_nobodys_49 : decode cX9_nobodys 49 = .ok (.iconst 1, 1) := by decide +kernel
theorem dX9_nobodys_50 : decode cX9_nobodys 50 = .ok (.goto 4, 3) := by decide +kernel
theorem dX9_nobodys_53 : decode cX9_nobodys 53 = .ok (.iconst 0, 1) := by decide +kernel
theorem dX9_nobodys_54 : decode cX9_nobodys 54 = .ok (.istore_n 3, 1) := by decide +kernel
theorem dX9_nobodys_55 : decode cX9_nobodys 55 = .ok (.iinc 4 1, 3) := by decide +kernel
theorem dX9_nobodys_58 : decode cX9_nobodys 58 = .ok (.goto (-41), 3) := by decide +kernel
theorem dX9_nobodys_61 : decode cX9_nobodys 61 = .ok (.iload_n 3, 1) := by decide +kernel
theorem dX9_nobodys_62 : decode cX9_nobodys 62 = .ok (.ifCond .eq 9, 3) := by decide +kernel
theorem dX9_nobodys_65 : decode cX9_nobodys 65 = .ok (.iload_n 1, 1) := by decide +kernel
theorem dX9_nobodys_66 : decode cX9_nobodys 66 = .ok (.iconst 1, 1) := by decide +kernel
theorem dX9_nobodys_67 : decode cX9_nobodys 67 = .ok (.iload_n 2, 1) := by decide +kernel
theorem dX9_nobodys_68 : decode cX9_nobodys 68 = .ok (.ishl, 1) := by decide +kernel
theorem dX9_nobodys_69 : decode cX9_nobodys 69 = .ok (.ior, 1) := by decide +kernel
theorem dX9_nobodys_70 : decode cX9_nobodys 70 = .ok (.istore_n 1, 1) := by decide +kernel
theorem dX9_nobodys_71 : decode cX9_nobodys 71 = .ok (.iinc 2 1, 3) := by decide +kernel
theorem dX9_nobodys_74 : decode cX9_nobodys 74 = .ok (.goto (-70), 3) := by decide +kernel
theorem dX9_nobodys_77 : decode cX9_nobodys 77 = .ok (.iload_n 1, 1) := by decide +kernel
theorem dX9_nobodys_78 : decode cX9_nobodys 78 = .ok (.ireturn, 1) := by decide +kernel
theorem dX9_keepAct_0 : decode cX9_keepAct 0 = .ok (.aload_n 0, 1) := by decide +kernel
theorem dX9_keepAct_1 : decode cX9_keepAct 1 = .ok (.getfield 398, 3) := by decide +kernel
theorem dX9_keepAct_4 : decode cX9_keepAct 4 = .ok (.bipush 40, 2) := by decide +kernel
theorem dX9_keepAct_6 : decode cX9_keepAct 6 = .ok (.if_icmp .ne 43, 3) := by decide +kernel
theorem dX9_keepAct_9 : decode cX9_keepAct 9 = .ok (.iconst 0, 1) := by decide +kernel
theorem dX9_keepAct_10 : decode cX9_keepAct 10 = .ok (.istore_n 1, 1) := by decide +kernel
theorem dX9_keepAct_11 : decode cX9_keepAct 11 = .ok (.iload_n 1, 1) := by decide +kernel
theorem dX9_keepAct_12 : decode cX9_keepAct 12 = .ok (.sipush 1560, 3) := by decide +kernel
theorem dX9_keepAct_15 : decode cX9_keepAct 15 = .ok (.if_icmp .ge 24, 3) := by decide +kernel
theorem dX9_keepAct_18 : decode cX9_keepAct 18 = .ok (.aload_n 0, 1) := by decide +kernel
theorem dX9_keepAct_19 : decode cX9_keepAct 19 = .ok (.getfield 106, 3) := by decide +kernel
theorem dX9_keepAct_22 : decode cX9_keepAct 22 = .ok (.iload_n 1, 1) := by decide +kernel
theorem dX9_keepAct_23 : decode cX9_keepAct 23 = .ok (.aload_n 0, 1) := by decide +kernel
theorem dX9_keepAct_24 : decode cX9_keepAct 24 = .ok (.getfield 106, 3) := by decide +kernel
theorem dX9_keepAct_27 : decode cX9_keepAct 27 = .ok (.iload_n 1, 1) := by decide +kernel
theorem dX9_keepAct_28 : decode cX9_keepAct 28 = .ok (.bipush 39, 2) := by decide +kernel
theorem dX9_keepAct_30 : decode cX9_keepAct 30 = .ok (.iadd, 1) := by decide +kernel
theorem dX9_keepAct_31 : decode cX9_keepAct 31 = .ok (.iaload, 1) := by decide +kernel
theorem dX9_keepAct_32 : decode cX9_keepAct 32 = .ok (.iastore, 1) := by decide +kernel
theorem dX9_keepAct_33 : decode cX9_keepAct 33 = .ok (.iinc 1 1, 3) := by decide +kernel
theorem dX9_keepAct_36 : decode cX9_keepAct 36 = .ok (.goto (-25), 3) := by decide +kernel
theorem dX9_keepAct_39 : decode cX9_keepAct 39 = .ok (.aload_n 0, 1) := by decide +kernel
theorem dX9_keepAct_40 : decode cX9_keepAct 40 = .ok (.dup, 1) := by decide +kernel
theorem dX9_keepAct_41 : decode cX9_keepAct 41 = .ok (.getfield 398, 3) := by decide +kernel
theorem dX9_keepAct_44 : decode cX9_keepAct 44 = .ok (.iconst 1, 1) := by decide +kernel
theorem dX9_keepAct_45 : decode cX9_keepAct 45 = .ok (.isub, 1) := by decide +kernel
theorem dX9_keepAct_46 : decode cX9_keepAct 46 = .ok (.putfield 398, 3) := by decide +kernel
theorem dX9_keepAct_49 : decode cX9_keepAct 49 = .ok (.iconst 0, 1) := by decide +kernel
theorem dX9_keepAct_50 : decode cX9_keepAct 50 = .ok (.istore_n 1, 1) := by decide +kernel
theorem dX9_keepAct_51 : decode cX9_keepAct 51 = .ok (.iload_n 1, 1) := by decide +kernel
theorem dX9_keepAct_52 : decode cX9_keepAct 52 = .ok (.bipush 39, 2) := by decide +kernel
theorem dX9_keepAct_54 : decode cX9_keepAct 54 = .ok (.if_icmp .ge 29, 3) := by decide +kernel
theorem dX9_keepAct_57 : decode cX9_keepAct 57 = .ok (.aload_n 0, 1) := by decide +kernel
theorem dX9_keepAct_58 : decode cX9_keepAct 58 = .ok (.getfield 106, 3) := by decide +kernel
theorem dX9_keepAct_61 : decode cX9_keepAct 61 = .ok (.bipush 39, 2) := by decide +kernel
theorem dX9_keepAct_63 : decode cX9_keepAct 63 = .ok (.aload_n 0, 1) := by decide +kernel
theorem dX9_keepAct_64 : decode cX9_keepAct 64 = .ok (.getfield 398, 3) := by decide +kernel
theorem dX9_keepAct_67 : decode cX9_keepAct 67 = .ok (.imul, 1) := by decide +kernel
theorem dX9_keepAct_68 : decode cX9_keepAct 68 = .ok (.iload_n 1, 1) := by decide +kernel
theorem dX9_keepAct_69 : decode cX9_keepAct 69 = .ok (.iadd, 1) := by decide +kernel
theorem dX9_keepAct_70 : decode cX9_keepAct 70 = .ok (.aload_n 0, 1) := by decide +kernel
theorem dX9_keepAct_71 : decode cX9_keepAct 71 = .ok (.getfield 94, 3) := by decide +kernel
theorem dX9_keepAct_74 : decode cX9_keepAct 74 = .ok (.iload_n 1, 1) := by decide +kernel
theorem dX9_keepAct_75 : decode cX9_keepAct 75 = .ok (.iaload, 1) := by decide +kernel
theorem dX9_keepAct_76 : decode cX9_keepAct 76 = .ok (.iastore, 1) := by decide +kernel
theorem dX9_keepAct_77 : decode cX9_keepAct 77 = .ok (.iinc 1 1, 3) := by decide +kernel
theorem dX9_keepAct_80 : decode cX9_keepAct 80 = .ok (.goto (-29), 3) := by decide +kernel
theorem dX9_keepAct_83 : decode cX9_keepAct 83 = .ok (.aload_n 0, 1) := by decide +kernel
theorem dX9_keepAct_84 : decode cX9_keepAct 84 = .ok (.dup, 1) := by decide +kernel
theorem dX9_keepAct_85 : decode cX9_keepAct 85 = .ok (.getfield 398, 3) := by decide +kernel
theorem dX9_keepAct_88 : decode cX9_keepAct 88 = .ok (.iconst 1, 1) := by decide +kernel
theorem dX9_keepAct_89 : decode cX9_keepAct 89 = .ok (.iadd, 1) := by decide +kernel
theorem dX9_keepAct_90 : decode cX9_keepAct 90 = .ok (.putfield 398, 3) := by decide +kernel
theorem dX9_keepAct_93 : decode cX9_keepAct 93 = .ok (.aload_n 0, 1) := by decide +kernel
theorem dX9_keepAct_94 : decode cX9_keepAct 94 = .ok (.iconst 0, 1) := by decide +kernel
theorem dX9_keepAct_95 : decode cX9_keepAct 95 = .ok (.putfield 401, 3) := by decide +kernel
theorem dX9_keepAct_98 : decode cX9_keepAct 98 = .ok (.return_, 1) := by decide +kernel
theorem dX9_swapAll_0 : decode cX9_swapAll 0 = .ok (.iconst 0, 1) := by decide +kernel
