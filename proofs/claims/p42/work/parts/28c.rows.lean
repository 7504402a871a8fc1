theorem dX9_thoseIn_38 : decode cX9_thoseIn 38 = .ok (.ishl, 1) := by decide +kernel
theorem dX9_thoseIn_39 : decode cX9_thoseIn 39 = .ok (.ior, 1) := by decide +kernel
theorem dX9_thoseIn_40 : decode cX9_thoseIn 40 = .ok (.istore_n 2, 1) := by decide +kernel
theorem dX9_thoseIn_41 : decode cX9_thoseIn 41 = .ok (.iinc 3 1, 3) := by decide +kernel
theorem dX9_thoseIn_44 : decode cX9_thoseIn 44 = .ok (.goto (-40), 3) := by decide +kernel
theorem dX9_thoseIn_47 : decode cX9_thoseIn 47 = .ok (.iload_n 2, 1) := by decide +kernel
theorem dX9_thoseIn_48 : decode cX9_thoseIn 48 = .ok (.ireturn, 1) := by decide +kernel
set_option maxRecDepth 20000 in
theorem ggX9_wantsOf_X9_cattery : GoodIn wsX9_wantsOf wsX9_cattery := goodIn_r _ [9, 10, 4, 11, 12, 13, 14, 15, 16, 17, 18, 19, 20, 21, 22, 23, 24, 25, 26, 27, 28, 29, 30, 31, 32, 33, 34, 35, 36, 37, 38, 39, 40, 41, 42, 43, 44, 45, 46, 47, 48, 49, 50, 51, 52, 53, 54, 55, 56, 57, 58, 59, 60, 61, 62, 63, 64, 65, 66, 67, 68, 69, 70, 71, 72, 73, 74, 75, 76, 77] rfl (by decide +kernel)
set_option maxRecDepth 20000 in
theorem gX9_wantsOf_X9_cattery : GoodIn wsX9_wantsOf (wsV RX9 380 RX9 yX9_cattery wsX9_cattery) := goodIn_app (goodIn_r _ [5, 6, 7, 8] rfl (by decide +kernel)) ggX9_wantsOf_X9_cattery
theorem dX9_wantsOf_0 : decode cX9_wantsOf 0 = .ok (.aload_n 0, 1) := by decide +kernel
theorem dX9_wantsOf_1 : decode cX9_wantsOf 1 = .ok (.getfield 100, 3) := by decide +kernel
theorem dX9_wantsOf_4 : decode cX9_wantsOf 4 = .ok (.ifCond .lt 10, 3) := by decide +kernel
theorem dX9_wantsOf_7 : decode cX9_wantsOf 7 = .ok (.aload_n 0, 1) := by decide +kernel
theorem dX9_wantsOf_8 : decode cX9_wantsOf 8 = .ok (.getfield 100, 3) := by decide +kernel
theorem dX9_wantsOf_11 : decode cX9_wantsOf 11 = .ok (.goto 41, 3) := by decide +kernel
theorem dX9_wantsOf_14 : decode cX9_wantsOf 14 = .ok (.aload_n 0, 1) := by decide +kernel
theorem dX9_wantsOf_15 : decode cX9_wantsOf 15 = .ok (.getfield 97, 3) := by decide +kernel
theorem dX9_wantsOf_18 : decode cX9_wantsOf 18 = .ok (.ifCond .lt 20, 3) := by decide +kernel
theorem dX9_wantsOf_21 : decode cX9_wantsOf 21 = .ok (.iload_n 1, 1) := by decide +kernel
theorem dX9_wantsOf_22 : decode cX9_wantsOf 22 = .ok (.aload_n 0, 1) := by decide +kernel
theorem dX9_wantsOf_23 : decode cX9_wantsOf 23 = .ok (.invokevirtual 380, 3) := by decide +kernel
theorem dX9_wantsOf_26 : decode cX9_wantsOf 26 = .ok (.iconst 1, 1) := by decide +kernel
theorem dX9_wantsOf_27 : decode cX9_wantsOf 27 = .ok (.isub, 1) := by decide +kernel
theorem dX9_wantsOf_28 : decode cX9_wantsOf 28 = .ok (.if_icmp .ne 10, 3) := by decide +kernel
theorem dX9_wantsOf_31 : decode cX9_wantsOf 31 = .ok (.aload_n 0, 1) := by decide +kernel
theorem dX9_wantsOf_32 : decode cX9_wantsOf 32 = .ok (.getfield 97, 3) := by decide +kernel
theorem dX9_wantsOf_35 : decode cX9_wantsOf 35 = .ok (.goto 17, 3) := by decide +kernel
theorem dX9_wantsOf_38 : decode cX9_wantsOf 38 = .ok (.aload_n 0, 1) := by decide +kernel
theorem dX9_wantsOf_39 : decode cX9_wantsOf 39 = .ok (.getfield 42, 3) := by decide +kernel
theorem dX9_wantsOf_42 : decode cX9_wantsOf 42 = .ok (.bipush 6, 2) := by decide +kernel
theorem dX9_wantsOf_44 : decode cX9_wantsOf 44 = .ok (.aload_n 0, 1) := by decide +kernel
theorem dX9_wantsOf_45 : decode cX9_wantsOf 45 = .ok (.getfield 268, 3) := by decide +kernel
theorem dX9_wantsOf_48 : decode cX9_wantsOf 48 = .ok (.imul, 1) := by decide +kernel
theorem dX9_wantsOf_49 : decode cX9_wantsOf 49 = .ok (.iload_n 1, 1) := by decide +kernel
theorem dX9_wantsOf_50 : decode cX9_wantsOf 50 = .ok (.iadd, 1) := by decide +kernel
theorem dX9_wantsOf_51 : decode cX9_wantsOf 51 = .ok (.iaload, 1) := by decide +kernel
theorem dX9_wantsOf_52 : decode cX9_wantsOf 52 = .ok (.ireturn, 1) := by decide +kernel
set_option maxRecDepth 20000 in
theorem ggX9_likingBy_X9_keeperOf : GoodIn wsX9_likingBy wsX9_keeperOf := goodIn_r _ [14, 8, 61, 62, 63, 64, 65, 66, 67, 68, 69, 70, 71, 72, 73, 74, 75, 76, 77, 78, 79, 80, 81, 82, 83, 84, 85, 86, 87, 88, 89, 90, 91, 92, 93, 94, 95, 96, 97, 98, 99, 100, 101, 102, 103, 104, 105, 106, 107, 108, 109, 110, 111, 112, 113, 114, 115, 116, 117, 118, 119, 120, 121, 122, 123, 124, 125, 126, 127] rfl (by decide +kernel)
set_option maxRecDepth 20000 in
theorem gX9_likingBy_X9_keeperOf : GoodIn wsX9_likingBy (wsV RX9 392 RX9 yX9_keeperOf wsX9_keeperOf) := goodIn_app (goodIn_r _ [10, 11, 12, 13] rfl (by decide +kernel)) ggX9_likingBy_X9_keeperOf
set_option maxRecDepth 20000 in
theorem ggX9_likingBy_X9_wantsOf : GoodIn wsX9_likingBy wsX9_wantsOf := goodIn_r _ [18, 19, 20, 21, 7, 22, 23, 24, 13, 25, 26, 61, 62, 63, 64, 65, 66, 67, 68, 69, 70, 71, 72, 73, 74, 75, 76, 77, 78, 79, 80, 81, 82, 83, 84, 85, 86, 87, 88, 89, 90, 91, 92, 93, 94, 95, 96, 97, 98, 99, 100, 101, 102, 103, 104, 105, 106, 107, 108, 109, 110, 111, 112, 113, 114, 115, 116, 117, 118, 119, 120, 121, 122, 123, 124, 125, 126, 127] rfl (by decide +kernel)
set_option maxRecDepth 20000 in
theorem gX9_likingBy_X9_wantsOf : GoodIn wsX9_likingBy (wsV RX9 410 RX9 yX9_wantsOf wsX9_wantsOf) := goodIn_app (goodIn_r _ [15, 16, 17, 13] rfl (by decide +kernel)) ggX9_likingBy_X9_wantsOf
set_option maxRecDepth 20000 in
theorem ggX9_likingBy_X9_roomsOf : GoodIn wsX9_likingBy wsX9_roomsOf := goodIn_r _ [30, 31, 32, 33, 13, 34, 35, 7, 10, 11, 12, 14, 8, 61, 62, 63, 64, 65, 66, 67, 68, 69, 70, 71, 72, 73, 74, 75, 76, 77, 78, 79, 80, 81, 82, 83, 84, 85, 86, 87, 88, 89, 90, 91, 92, 93, 94, 95, 96, 97, 98, 99, 100, 101, 102, 103, 104, 105, 106, 107, 108, 109, 110, 111, 112, 113, 114, 115, 116, 117, 118, 119, 120, 121, 122, 123, 124, 125, 126, 127] rfl (by decide +kernel)
set_option maxRecDepth 20000 in
theorem gX9_likingBy_X9_roomsOf : GoodIn wsX9_likingBy (wsV RX9 413 RX9 yX9_roomsOf wsX9_roomsOf) := goodIn_app (goodIn_r _ [27, 28, 29, 13] rfl (by decide +kernel)) ggX9_likingBy_X9_roomsOf
set_option maxRecDepth 20000 in
theorem ggX9_likingBy_X9_bitsOf : GoodIn wsX9_likingBy wsX9_bitsOf := goodIn_r _ [38] rfl (by decide +kernel)
set_option maxRecDepth 20000 in
theorem gX9_likingBy_X9_bitsOf : GoodIn wsX9_likingBy (va_wsS RX9 416 yX9_bitsOf wsX9_bitsOf) := goodIn_app (goodIn_r _ [36, 37, 13] rfl (by decide +kernel)) ggX9_likingBy_X9_bitsOf
set_option maxRecDepth 20000 in
theorem ggX9_likingBy_X9_bit : GoodIn wsX9_likingBy wsX9_bit := goodIn_r _ [41] rfl (by decide +kernel)
set_option maxRecDepth 20000 in
theorem gX9_likingBy_X9_bit : GoodIn wsX9_likingBy (va_wsS RX9 274 yX9_bit wsX9_bit) := goodIn_app (goodIn_r _ [39, 40, 13] rfl (by decide +kernel)) ggX9_likingBy_X9_bit
set_option maxRecDepth 20000 in
theorem ggX9_likingBy_X9_comes : GoodIn wsX9_likingBy wsX9_comes := goodIn_r _ [45, 46, 7, 47, 48, 49, 50, 51, 52, 13, 53, 54, 55, 56, 57, 8, 1, 2, 9, 3, 5, 58, 59, 60, 61, 62, 63, 64, 65, 66, 67, 68, 69, 70, 71, 72, 73, 74, 75, 76, 77, 78, 79, 80, 81, 82, 83, 84, 85, 86, 87, 88, 89, 90, 91, 92, 93, 94, 95, 96, 97, 98, 99, 100, 101, 102, 103, 104, 105, 106, 107, 108, 109, 110, 111, 112, 113, 114, 115, 116, 117, 118, 119, 120, 121, 122, 123, 124, 125, 126, 127] rfl (by decide +kernel)
set_option maxRecDepth 20000 in
theorem gX9_likingBy_X9_comes : GoodIn wsX9_likingBy (wsV RX9 419 RX9 yX9_comes wsX9_comes) := goodIn_app (goodIn_r _ [42, 43, 44, 13] rfl (by decide +kernel)) ggX9_likingBy_X9_comes
theorem dX9_likingBy_0 : decode cX9_likingBy 0 = .ok (.aload_n 0, 1) := by decide +kernel
theorem dX9_likingBy_1 : decode cX9_likingBy 1 = .ok (.iload_n 2, 1) := by decide +kernel
theorem dX9_likingBy_2 : decode cX9_likingBy 2 = .ok (.invokevirtual 392, 3) := by decide +kernel
theorem dX9_likingBy_5 : decode cX9_likingBy 5 = .ok (.istore 4, 2) := by decide +kernel
theorem dX9_likingBy_7 : decode cX9_likingBy 7 = .ok (.aload_n 0, 1) := by decide +kernel
theorem dX9_likingBy_8 : decode cX9_likingBy 8 = .ok (.iload_n 1, 1) := by decide +kernel
theorem dX9_likingBy_9 : decode cX9_likingBy 9 = .ok (.putfield 354, 3) := by decide +kernel
theorem dX9_likingBy_12 : decode cX9_likingBy 12 = .ok (.aload_n 0, 1) := by decide +kernel
theorem dX9_likingBy_13 : decode cX9_likingBy 13 = .ok (.aload_n 0, 1) := by decide +kernel
theorem dX9_likingBy_14 : decode cX9_likingBy 14 = .ok (.iload 4, 2) := by decide +kernel
theorem dX9_likingBy_16 : decode cX9_likingBy 16 = .ok (.invokevirtual 410, 3) := by decide +kernel
theorem dX9_likingBy_19 : decode cX9_likingBy 19 = .ok (.putfield 357, 3) := by decide +kernel
theorem dX9_likingBy_22 : decode cX9_likingBy 22 = .ok (.aload_n 0, 1) := by decide +kernel
theorem dX9_likingBy_23 : decode cX9_likingBy 23 = .ok (.iload_n 3, 1) := by decide +kernel
theorem dX9_likingBy_24 : decode cX9_likingBy 24 = .ok (.putfield 360, 3) := by decide +kernel
theorem dX9_likingBy_27 : decode cX9_likingBy 27 = .ok (.aload_n 0, 1) := by decide +kernel
theorem dX9_likingBy_28 : decode cX9_likingBy 28 = .ok (.aload_n 0, 1) := by decide +kernel
theorem dX9_likingBy_29 : decode cX9_likingBy 29 = .ok (.getfield 103, 3) := by decide +kernel
theorem dX9_likingBy_32 : decode cX9_likingBy 32 = .ok (.ifCond .lt 10, 3) := by decide +kernel
theorem dX9_likingBy_35 : decode cX9_likingBy 35 = .ok (.aload_n 0, 1) := by decide +kernel
theorem dX9_likingBy_36 : decode cX9_likingBy 36 = .ok (.getfield 103, 3) := by decide +kernel
theorem dX9_likingBy_39 : decode cX9_likingBy 39 = .ok (.goto 12, 3) := by decide +kernel
theorem dX9_likingBy_42 : decode cX9_likingBy 42 = .ok (.aload_n 0, 1) := by decide +kernel
theorem dX9_likingBy_43 : decode cX9_likingBy 43 = .ok (.iload 4, 2) := by decide +kernel
theorem dX9_likingBy_45 : decode cX9_likingBy 45 = .ok (.invokevirtual 413, 3) := by decide +kernel
theorem dX9_likingBy_48 : decode cX9_likingBy 48 = .ok (.invokestatic 416, 3) := by decide +kernel
theorem dX9_likingBy_51 : decode cX9_likingBy 51 = .ok (.putfield 363, 3) := by decide +kernel
theorem dX9_likingBy_54 : decode cX9_likingBy 54 = .ok (.aload_n 0, 1) := by decide +kernel
theorem dX9_likingBy_55 : decode cX9_likingBy 55 = .ok (.getfield 39, 3) := by decide +kernel
theorem dX9_likingBy_58 : decode cX9_likingBy 58 = .ok (.aload_n 0, 1) := by decide +kernel
theorem dX9_likingBy_59 : decode cX9_likingBy 59 = .ok (.getfield 268, 3) := by decide +kernel
theorem dX9_likingBy_62 : decode cX9_likingBy 62 = .ok (.iaload, 1) := by decide +kernel
theorem dX9_likingBy_63 : decode cX9_likingBy 63 = .ok (.iconst 0, 1) := by decide +kernel
theorem dX9_likingBy_64 : decode cX9_likingBy 64 = .ok (.invokestatic 274, 3) := by decide +kernel
theorem dX9_likingBy_67 : decode cX9_likingBy 67 = .ok (.ifCond .eq 8, 3) := by decide +kernel
theorem dX9_likingBy_70 : decode cX9_likingBy 70 = .ok (.aload_n 0, 1) := by decide +kernel
theorem dX9_likingBy_71 : decode cX9_likingBy 71 = .ok (.invokevirtual 419, 3) := by decide +kernel
theorem dX9_likingBy_74 : decode cX9_likingBy 74 = .ok (.ireturn, 1) := by decide +kernel
theorem dX9_likingBy_75 : decode cX9_likingBy 75 = .ok (.aload_n 0, 1) := by decide +kernel
theorem dX9_likingBy_76 : decode cX9_likingBy 76 = .ok (.getfield 94, 3) := by decide +kernel
theorem dX9_likingBy_79 : decode cX9_likingBy 79 = .ok (.bipush 22, 2) := by decide +kernel
theorem dX9_likingBy_81 : decode cX9_likingBy 81 = .ok (.iload_n 1, 1) := by decide +kernel
theorem dX9_likingBy_82 : decode cX9_likingBy 82 = .ok (.iadd, 1) := by decide +kernel
theorem dX9_likingBy_83 : decode cX9_likingBy 83 = .ok (.iaload, 1) := by decide +kernel
theorem dX9_likingBy_84 : decode cX9_likingBy 84 = .ok (.aload_n 0, 1) := by decide +kernel
theorem dX9_likingBy_85 : decode cX9_likingBy 85 = .ok (.getfield 357, 3) := by decide +kernel
theorem dX9_likingBy_88 : decode cX9_likingBy 88 = .ok (.isub, 1) := by decide +kernel
theorem dX9_likingBy_89 : decode cX9_likingBy 89 = .ok (.aload_n 0, 1) := by decide +kernel
theorem dX9_likingBy_90 : decode cX9_likingBy 90 = .ok (.getfield 54, 3) := by decide +kernel
theorem dX9_likingBy_93 : decode cX9_likingBy 93 = .ok (.bipush 7, 2) := by decide +kernel
theorem dX9_likingBy_95 : decode cX9_likingBy 95 = .ok (.aload_n 0, 1) := by decide +kernel
theorem dX9_likingBy_96 : decode cX9_likingBy 96 = .ok (.getfield 268, 3) := by decide +kernel
theorem dX9_likingBy_99 : decode cX9_likingBy 99 = .ok (.imul, 1) := by decide +kernel
theorem dX9_likingBy_100 : decode cX9_likingBy 100 = .ok (.iload_n 1, 1) := by decide +kernel
theorem dX9_likingBy_101 : decode cX9_likingBy 101 = .ok (.iadd, 1) := by decide +kernel
theorem dX9_likingBy_102 : decode cX9_likingBy 102 = .ok (.iaload, 1) := by decide +kernel
theorem dX9_likingBy_103 : decode cX9_likingBy 103 = .ok (.iconst 3, 1) := by decide +kernel
theorem dX9_likingBy_104 : decode cX9_likingBy 104 = .ok (.imul, 1) := by decide +kernel
theorem dX9_likingBy_105 : decode cX9_likingBy 105 = .ok (.iadd, 1) := by decide +kernel
theorem dX9_likingBy_106 : decode cX9_likingBy 106 = .ok (.aload_n 0, 1) := by decide +kernel
theorem dX9_likingBy_107 : decode cX9_likingBy 107 = .ok (.getfield 94, 3) := by decide +kernel
theorem dX9_likingBy_110 : decode cX9_likingBy 110 = .ok (.bipush 29, 2) := by decide +kernel
theorem dX9_likingBy_112 : decode cX9_likingBy 112 = .ok (.iload_n 1, 1) := by decide +kernel
theorem dX9_likingBy_113 : decode cX9_likingBy 113 = .ok (.iadd, 1) := by decide +kernel
theorem dX9_likingBy_114 : decode cX9_likingBy 114 = .ok (.iaload, 1) := by decide +kernel
theorem dX9_likingBy_115 : decode cX9_likingBy 115 = .ok (.isub, 1) := by decide +kernel
theorem dX9_likingBy_116 : decode cX9_likingBy 116 = .ok (.ireturn, 1) := by decide +kernel
set_option maxRecDepth 20000 in
theorem ggX9_likingIn_X9_likingBy : GoodIn wsX9_likingIn wsX9_likingBy := goodIn_r _ [6, 7, 8, 9, 10, 11, 12, 13, 1, 14, 15, 16, 17, 5, 18, 19, 20, 21, 22, 23, 24, 25, 26, 27, 28, 29, 30, 31, 32, 33, 34, 35, 36, 37, 38, 39, 40, 41, 42, 43, 44, 45, 46, 47, 48, 49, 50, 51, 52, 53, 54, 55, 56, 57, 58, 59, 60, 61, 62, 63, 64, 65, 66, 67, 68, 69, 70, 71, 72, 73, 74, 75, 76, 77, 78, 79, 80, 81, 82, 83, 84, 85, 86, 87, 88, 89, 90, 91, 92, 93, 94, 95, 96, 97, 98, 99, 100, 101, 102, 103, 104, 105, 106, 107, 108, 109, 110, 111, 112, 113, 114, 115, 116, 117, 118, 119, 120, 121, 122, 123, 124, 125, 126, 127, 128, 129, 130, 131] rfl (by decide +kernel)
set_option maxRecDepth 20000 in
theorem gX9_likingIn_X9_likingBy : GoodIn wsX9_likingIn (wsV RX9 422 RX9 yX9_likingBy wsX9_likingBy) := goodIn_app (goodIn_r _ [2, 3, 4, 5] rfl (by decide +kernel)) ggX9_likingIn_X9_likingBy
theorem dX9_likingIn_0 : decode cX9_likingIn 0 = .ok (.aload_n 0, 1) := by decide +kernel
theorem dX9_likingIn_1 : decode cX9_likingIn 1 = .ok (.iload_n 1, 1) := by decide +kernel
theorem dX9_likingIn_2 : decode cX9_likingIn 2 = .ok (.iload_n 2, 1) := by decide +kernel
theorem dX9_likingIn_3 : decode cX9_likingIn 3 = .ok (.aload_n 0, 1) := by decide +kernel
theorem dX9_likingIn_4 : decode cX9_likingIn 4 = .ok (.getfield 94, 3) := by decide +kernel
theorem dX9_likingIn_7 : decode cX9_likingIn 7 = .ok (.iconst 0, 1) := by decide +kernel
theorem dX9_likingIn_8 : decode cX9_likingIn 8 = .ok (.iload_n 1, 1) := by decide +kernel
theorem dX9_likingIn_9 : decode cX9_likingIn 9 = .ok (.iadd, 1) := by decide +kernel
theorem dX9_likingIn_10 : decode cX9_likingIn 10 = .ok (.iaload, 1) := by decide +kernel
theorem dX9_likingIn_11 : decode cX9_likingIn 11 = .ok (.iload_n 2, 1) := by decide +kernel
theorem dX9_likingIn_12 : decode cX9_likingIn 12 = .ok (.if_icmp .ne 15, 3) := by decide +kernel
theorem dX9_likingIn_15 : decode cX9_likingIn 15 = .ok (.aload_n 0, 1) := by decide +kernel
theorem dX9_likingIn_16 : decode cX9_likingIn 16 = .ok (.getfield 94, 3) := by decide +kernel
theorem dX9_likingIn_19 : decode cX9_likingIn 19 = .ok (.bipush 7, 2) := by decide +kernel
theorem dX9_likingIn_21 : decode cX9_likingIn 21 = .ok (.iload_n 1, 1) := by decide +kernel
theorem dX9_likingIn_22 : decode cX9_likingIn 22 = .ok (.iadd, 1) := by decide +kernel
theorem dX9_likingIn_23 : decode cX9_likingIn 23 = .ok (.iaload, 1) := by decide +kernel
theorem dX9_likingIn_24 : decode cX9_likingIn 24 = .ok (.goto 4, 3) := by decide +kernel
theorem dX9_likingIn_27 : decode cX9_likingIn 27 = .ok (.iconst 0, 1) := by decide +kernel
theorem dX9_likingIn_28 : decode cX9_likingIn 28 = .ok (.invokevirtual 422, 3) := by decide +kernel
theorem dX9_likingIn_31 : decode cX9_likingIn 31 = .ok (.ireturn, 1) := by decide +kernel
set_option maxRecDepth 20000 in
theorem ggX9_likingNow_X9_likingIn : GoodIn wsX9_likingNow wsX9_likingIn := goodIn_r _ [6, 1, 7, 8, 9, 5, 10, 11, 12, 13, 14, 15, 16, 17, 18, 19, 20, 21, 22, 23, 24, 25, 26, 27, 28, 29, 30, 31, 32, 33, 34, 35, 36, 37, 38, 39, 40, 41, 42, 43, 44, 45, 46, 47, 48, 49, 50, 51, 52, 53, 54, 55, 56, 57, 58, 59, 60, 61, 62, 63, 64, 65, 66, 67, 68, 69, 70, 71, 72, 73, 74, 75, 76, 77, 78, 79, 80, 81, 82, 83, 84, 85, 86, 87, 88, 89, 90, 91, 92, 93, 94, 95, 96, 97, 98, 99, 100, 101, 102, 103, 104, 105, 106, 107, 108, 109, 110, 111, 112, 113, 114, 115, 116, 117, 118, 119, 120, 121, 122, 123, 124, 125, 126, 127, 128, 129, 130, 131, 132, 133, 134, 135] rfl (by decide +kernel)
set_option maxRecDepth 20000 in
theorem gX9_likingNow_X9_likingIn : GoodIn wsX9_likingNow (wsV RX9 425 RX9 yX9_likingIn wsX9_likingIn) := goodIn_app (goodIn_r _ [2, 3, 4, 5] rfl (by decide +kernel)) ggX9_likingNow_X9_likingIn
theorem dX9_likingNow_0 : decode cX9_likingNow 0 = .ok (.aload_n 0, 1) := by decide +kernel
theorem dX9_likingNow_1 : decode cX9_likingNow 1 = .ok (.iload_n 1, 1) := by decide +kernel
theorem dX9_likingNow_2 : decode cX9_likingNow 2 = .ok (.aload_n 0, 1) := by decide +kernel
theorem dX9_likingNow_3 : decode cX9_likingNow 3 = .ok (.getfield 94, 3) := by decide +kernel
theorem dX9_likingNow_6 : decode cX9_likingNow 6 = .ok (.iconst 0, 1) := by decide +kernel
theorem dX9_likingNow_7 : decode cX9_likingNow 7 = .ok (.iload_n 1, 1) := by decide +kernel
theorem dX9_likingNow_8 : decode cX9_likingNow 8 = .ok (.iadd, 1) := by decide +kernel
theorem dX9_likingNow_9 : decode cX9_likingNow 9 = .ok (.iaload, 1) := by decide +kernel
theorem dX9_likingNow_10 : decode cX9_likingNow 10 = .ok (.invokevirtual 425, 3) := by decide +kernel
theorem dX9_likingNow_13 : decode cX9_likingNow 13 = .ok (.ireturn, 1) := by decide +kernel
set_option maxRecDepth 20000 in
theorem ggX9_thrown_X9_many : GoodIn wsX9_thrown wsX9_many := goodIn_r _ [5, 6, 7, 93, 94, 95, 96, 97, 98, 99, 100, 101, 102, 103, 104, 105, 106, 107, 108, 109, 110, 111, 112, 113, 114, 115, 116, 117, 118, 119, 120, 121, 122, 123, 124, 125, 126, 127, 128, 129, 130, 131, 132, 133, 134, 135, 136, 137, 138, 139, 140, 141, 142, 143, 144, 145, 146, 147, 148, 149, 150, 151, 152, 153, 154, 155, 156, 157, 158, 159] rfl (by decide +kernel)
set_option maxRecDepth 20000 in
theorem gX9_thrown_X9_many : GoodIn wsX9_thrown (wsV RX9 373 RX9 yX9_many wsX9_many) := goodIn_app (goodIn_r _ [1, 2, 3, 4] rfl (by decide +kernel)) ggX9_thrown_X9_many
set_option maxRecDepth 20000 in
theorem ggX9_thrown_X9_isAtHome : GoodIn wsX9_thrown wsX9_isAtHome := goodIn_r _ [11, 12, 13, 14, 15, 4, 16, 1, 2, 3, 5, 6, 7, 17, 18, 19, 20, 21, 22, 23, 24, 25, 26, 27, 93, 94, 95, 96, 97, 98, 99, 100, 101, 102, 103, 104, 105, 106, 107, 108, 109, 110, 111, 112, 113, 114, 115, 116, 117, 118, 119, 120, 121, 122, 123, 124, 125, 126, 127, 128, 129, 130, 131, 132, 133, 134, 135, 136, 137, 138, 139, 140, 141, 142, 143, 144, 145, 146, 147, 148, 149, 150, 151, 152, 153, 154, 155, 156, 157, 158, 159] rfl (by decide +kernel)
set_option maxRecDepth 20000 in
theorem gX9_thrown_X9_isAtHome : GoodIn wsX9_thrown (wsV RX9 428 RX9 yX9_isAtHome wsX9_isAtHome) := goodIn_app (goodIn_r _ [8, 9, 10, 4] rfl (by decide +kernel)) ggX9_thrown_X9_isAtHome
set_option maxRecDepth 20000 in
theorem ggX9_thrown_X9_likingNow : GoodIn wsX9_thrown wsX9_likingNow := goodIn_r _ [31, 12, 32, 33, 34, 4, 35, 36, 37, 38, 39, 40, 41, 42, 43, 44, 45, 7, 46, 24, 25, 26, 27, 47, 48, 49, 50, 51, 52, 53, 54, 55, 56, 57, 58, 59, 60, 61, 62, 63, 64, 65, 66, 67, 68, 69, 70, 71, 72, 73, 74, 75, 76, 77, 78, 79, 80, 81, 82, 83, 84, 85, 86, 87, 88, 89, 90, 91, 92, 93, 94, 95, 96, 97, 98, 99, 100, 101, 102, 103, 104, 105, 106, 107, 108, 109, 110, 111, 112, 113, 114, 115, 116, 117, 118, 119, 120, 121, 122, 123, 124, 125, 126, 127, 128, 129, 130, 131, 132, 133, 134, 135, 136, 137, 138, 139, 140, 141, 142, 143, 144, 145, 146, 147, 148, 149, 150, 151, 152, 153, 154, 155, 156, 157, 158, 159] rfl (by decide +kernel)
set_option maxRecDepth 20000 in
theorem gX9_thrown_X9_likingNow : GoodIn wsX9_thrown (wsV RX9 431 RX9 yX9_likingNow wsX9_likingNow) := goodIn_app (goodIn_r _ [28, 29, 30, 4] rfl (by decide +kernel)) ggX9_thrown_X9_likingNow
theorem dX9_thrown_0 : decode cX9_thrown 0 = .ok (.iconst 0, 1) := by decide +kernel
theorem dX9_thrown_1 : decode cX9_thrown 1 = .ok (.istore_n 1, 1) := by decide +kernel
theorem dX9_thrown_2 : decode cX9_thrown 2 = .ok (.iconst 0, 1) := by decide +kernel
theorem dX9_thrown_3 : decode cX9_thrown 3 = .ok (.istore_n 2, 1) := by decide +kernel
theorem dX9_thrown_4 : decode cX9_thrown 4 = .ok (.iload_n 2, 1) := by decide +kernel
theorem dX9_thrown_5 : decode cX9_thrown 5 = .ok (.aload_n 0, 1) := by decide +kernel
theorem dX9_thrown_6 : decode cX9_thrown 6 = .ok (.invokevirtual 373, 3) := by decide +kernel
theorem dX9_thrown_9 : decode cX9_thrown 9 = .ok (.if_icmp .ge 31, 3) := by decide +kernel
theorem dX9_thrown_12 : decode cX9_thrown 12 = .ok (.aload_n 0, 1) := by decide +kernel
theorem dX9_thrown_13 : decode cX9_thrown 13 = .ok (.iload_n 2, 1) := by decide +kernel
theorem dX9_thrown_14 : decode cX9_thrown 14 = .ok (.invokevirtual 428, 3) := by decide +kernel
theorem dX9_thrown_17 : decode cX9_thrown 17 = .ok (.ifCond .eq 17, 3) := by decide +kernel
theorem dX9_thrown_20 : decode cX9_thrown 20 = .ok (.aload_n 0, 1) := by decide +kernel
theorem dX9_thrown_21 : decode cX9_thrown 21 = .ok (.iload_n 2, 1) := by decide +kernel
theorem dX9_thrown_22 : decode cX9_thrown 22 = .ok (.invokevirtual 431, 3) := by decide +kernel
theorem dX9_thrown_25 : decode cX9_thrown 25 = .ok (.ifCond .gt 9, 3) := by decide +kernel
theorem dX9_thrown_28 : decode cX9_thrown 28 = .ok (.iload_n 1, 1) := by decide +kernel
theorem dX9_thrown_29 : decode cX9_thrown 29 = .ok (.iconst 1, 1) := by decide +kernel
theorem dX9_thrown_30 : decode cX9_thrown 30 = .ok (.iload_n 2, 1) := by decide +kernel
theorem dX9_thrown_31 : decode cX9_thrown 31 = .ok (.ishl, 1) := by decide +kernel
theorem dX9_thrown_32 : decode cX9_thrown 32 = .ok (.ior, 1) := by decide +kernel
theorem dX9_thrown_33 : decode cX9_thrown 33 = .ok (.istore_n 1, 1) := by decide +kernel
theorem dX9_thrown_34 : decode cX9_thrown 34 = .ok (.iinc 2 1, 3) := by decide +kernel
theorem dX9_thrown_37 : decode cX9_thrown 37 = .ok (.goto (-33), 3) := by decide +kernel
theorem dX9_thrown_40 : decode cX9_thrown 40 = .ok (.iload_n 1, 1) := by decide +kernel
theorem dX9_thrown_41 : decode cX9_thrown 41 = .ok (.ireturn, 1) := by decide +kernel
set_option maxRecDepth 20000 in
theorem ggX9_heirOf_X9_lives : GoodIn wsX9_heirOf wsX9_lives := goodIn_r _ [7, 8, 9, 10, 6, 11, 12, 13, 14, 15, 16, 17, 18, 19, 20, 21, 22, 23, 24, 25, 26, 27, 28, 29, 30, 31, 32, 33, 34, 35, 36, 37, 38, 39, 40, 41, 42, 43, 44, 45, 46, 47, 48, 49, 50, 51, 52, 53, 54, 55, 56, 57, 58, 59, 60, 61, 62, 63, 64, 65, 66, 67, 68, 69, 70, 71, 72, 73, 74, 75, 76, 77, 78] rfl (by decide +kernel)
set_option maxRecDepth 20000 in
theorem gX9_heirOf_X9_lives : GoodIn wsX9_heirOf (wsV RX9 434 RX9 yX9_lives wsX9_lives) := goodIn_app (goodIn_r _ [3, 4, 5, 6] rfl (by decide +kernel)) ggX9_heirOf_X9_lives
set_option maxRecDepth 20000 in
theorem ggX9_heirOf_X9_bit : GoodIn wsX9_heirOf wsX9_bit := goodIn_r _ [11] rfl (by decide +kernel)
set_option maxRecDepth 20000 in
theorem gX9_heirOf_X9_bit : GoodIn wsX9_heirOf (va_wsS RX9 274 yX9_bit wsX9_bit) := goodIn_app (goodIn_r _ [9, 10, 6] rfl (by decide +kernel)) ggX9_heirOf_X9_bit
theorem dX9_heirOf_0 : decode cX9_heirOf 0 = .ok (.aload_n 0, 1) := by decide +kernel
theorem dX9_heirOf_1 : decode cX9_heirOf 1 = .ok (.getfield 45, 3) := by decide +kernel
theorem dX9_heirOf_4 : decode cX9_heirOf 4 = .ok (.bipush 6, 2) := by decide +kernel
theorem dX9_heirOf_6 : decode cX9_heirOf 6 = .ok (.aload_n 0, 1) := by decide +kernel
theorem dX9_heirOf_7 : decode cX9_heirOf 7 = .ok (.getfield 268, 3) := by decide +kernel
theorem dX9_heirOf_10 : decode cX9_heirOf 10 = .ok (.imul, 1) := by decide +kernel
theorem dX9_heirOf_11 : decode cX9_heirOf 11 = .ok (.iload_n 1, 1) := by decide +kernel
theorem dX9_heirOf_12 : decode cX9_heirOf 12 = .ok (.iadd, 1) := by decide +kernel
theorem dX9_heirOf_13 : decode cX9_heirOf 13 = .ok (.iaload, 1) := by decide +kernel
theorem dX9_heirOf_14 : decode cX9_heirOf 14 = .ok (.istore_n 3, 1) := by decide +kernel
theorem dX9_heirOf_15 : decode cX9_heirOf 15 = .ok (.iload_n 3, 1) := by decide +kernel
theorem dX9_heirOf_16 : decode cX9_heirOf 16 = .ok (.ifCond .lt 37, 3) := by decide +kernel
theorem dX9_heirOf_19 : decode cX9_heirOf 19 = .ok (.aload_n 0, 1) := by decide +kernel
theorem dX9_heirOf_20 : decode cX9_heirOf 20 = .ok (.iload_n 3, 1) := by decide +kernel
theorem dX9_heirOf_21 : decode cX9_heirOf 21 = .ok (.invokevirtual 434, 3) := by decide +kernel
theorem dX9_heirOf_24 : decode cX9_heirOf 24 = .ok (.ifCond .eq 11, 3) := by decide +kernel
theorem dX9_heirOf_27 : decode cX9_heirOf 27 = .ok (.iload_n 2, 1) := by decide +kernel
theorem dX9_heirOf_28 : decode cX9_heirOf 28 = .ok (.iload_n 3, 1) := by decide +kernel
theorem dX9_heirOf_29 : decode cX9_heirOf 29 = .ok (.invokestatic 274, 3) := by decide +kernel
theorem dX9_heirOf_32 : decode cX9_heirOf 32 = .ok (.ifCond .eq 21, 3) := by decide +kernel
theorem dX9_heirOf_35 : decode cX9_heirOf 35 = .ok (.aload_n 0, 1) := by decide +kernel
theorem dX9_heirOf_36 : decode cX9_heirOf 36 = .ok (.getfield 45, 3) := by decide +kernel
theorem dX9_heirOf_39 : decode cX9_heirOf 39 = .ok (.bipush 6, 2) := by decide +kernel
theorem dX9_heirOf_41 : decode cX9_heirOf 41 = .ok (.aload_n 0, 1) := by decide +kernel
theorem dX9_heirOf_42 : decode cX9_heirOf 42 = .ok (.getfield 268, 3) := by decide +kernel
theorem dX9_heirOf_45 : decode cX9_heirOf 45 = .ok (.imul, 1) := by decide +kernel
theorem dX9_heirOf_46 : decode cX9_heirOf 46 = .ok (.iload_n 3, 1) := by decide +kernel
theorem dX9_heirOf_47 : decode cX9_heirOf 47 = .ok (.iadd, 1) := by decide +kernel
theorem dX9_heirOf_48 : decode cX9_heirOf 48 = .ok (.iaload, 1) := by decide +kernel
theorem dX9_heirOf_49 : decode cX9_heirOf 49 = .ok (.istore_n 3, 1) := by decide +kernel
theorem dX9_heirOf_50 : decode cX9_heirOf 50 = .ok (.goto (-35), 3) := by decide +kernel
theorem dX9_heirOf_53 : decode cX9_heirOf 53 = .ok (.iload_n 3, 1) := by decide +kernel
theorem dX9_heirOf_54 : decode cX9_heirOf 54 = .ok (.ireturn, 1) := by decide +kernel
set_option maxRecDepth 20000 in
theorem ggX9_keeperIf_X9_keeperOf : GoodIn wsX9_keeperIf wsX9_keeperOf := goodIn_r _ [5, 6, 20, 21, 22, 23, 24, 25, 26, 27, 28, 29, 30, 31, 32, 33, 34, 35, 36, 37, 38, 39, 40, 41, 42, 43, 44, 45, 46, 47, 48, 49, 50, 51, 52, 53, 54, 55, 56, 57, 58, 59, 60, 61, 62, 63, 64, 65, 66, 67, 68, 69, 70, 71, 72, 73, 74, 75, 76, 77, 78, 79, 80, 81, 82, 83, 84, 85, 86] rfl (by decide +kernel)
set_option maxRecDepth 20000 in
theorem gX9_keeperIf_X9_keeperOf : GoodIn wsX9_keeperIf (wsV RX9 392 RX9 yX9_keeperOf wsX9_keeperOf) := goodIn_app (goodIn_r _ [1, 2, 3, 4] rfl (by decide +kernel)) ggX9_keeperIf_X9_keeperOf
set_option maxRecDepth 20000 in
theorem ggX9_keeperIf_X9_bit : GoodIn wsX9_keeperIf wsX9_bit := goodIn_r _ [9] rfl (by decide +kernel)
set_option maxRecDepth 20000 in
theorem gX9_keeperIf_X9_bit : GoodIn wsX9_keeperIf (va_wsS RX9 274 yX9_bit wsX9_bit) := goodIn_app (goodIn_r _ [7, 8, 4] rfl (by decide +kernel)) ggX9_keeperIf_X9_bit
set_option maxRecDepth 20000 in
theorem ggX9_keeperIf_X9_heirOf : GoodIn wsX9_keeperIf wsX9_heirOf := goodIn_r _ [13, 14, 15, 16, 17, 18, 4, 19, 6, 7, 8, 9, 20, 21, 22, 23, 24, 25, 26, 27, 28, 29, 30, 31, 32, 33, 34, 35, 36, 37, 38, 39, 40, 41, 42, 43, 44, 45, 46, 47, 48, 49, 50, 51, 52, 53, 54, 55, 56, 57, 58, 59, 60, 61, 62, 63, 64, 65, 66, 67, 68, 69, 70, 71, 72, 73, 74, 75, 76, 77, 78, 79, 80, 81, 82, 83, 84, 85, 86] rfl (by decide +kernel)
set_option maxRecDepth 20000 in
theorem gX9_keeperIf_X9_heirOf : GoodIn wsX9_keeperIf (wsV RX9 437 RX9 yX9_heirOf wsX9_heirOf) := goodIn_app (goodIn_r _ [10, 11, 12, 4] rfl (by decide +kernel)) ggX9_keeperIf_X9_heirOf
theorem dX9_keeperIf_0 : decode cX9_keeperIf 0 = .ok (.aload_n 0, 1) := by decide +kernel
theorem dX9_keeperIf_1 : decode cX9_keeperIf 1 = .ok (.iload_n 1, 1) := by decide +kernel
theorem dX9_keeperIf_2 : decode cX9_keeperIf 2 = .ok (.invokevirtual 392, 3) := by decide +kernel
theorem dX9_keeperIf_5 : decode cX9_keeperIf 5 = .ok (.istore_n 3, 1) := by decide +kernel
theorem dX9_keeperIf_6 : decode cX9_keeperIf 6 = .ok (.iload_n 3, 1) := by decide +kernel
theorem dX9_keeperIf_7 : decode cX9_keeperIf 7 = .ok (.ifCond .lt 20, 3) := by decide +kernel
theorem dX9_keeperIf_10 : decode cX9_keeperIf 10 = .ok (.iload_n 2, 1) := by decide +kernel
theorem dX9_keeperIf_11 : decode cX9_keeperIf 11 = .ok (.iload_n 3, 1) := by decide +kernel
theorem dX9_keeperIf_12 : decode cX9_keeperIf 12 = .ok (.invokestatic 274, 3) := by decide +kernel
theorem dX9_keeperIf_15 : decode cX9_keeperIf 15 = .ok (.ifCond .eq 12, 3) := by decide +kernel
theorem dX9_keeperIf_18 : decode cX9_keeperIf 18 = .ok (.aload_n 0, 1) := by decide +kernel
theorem dX9_keeperIf_19 : decode cX9_keeperIf 19 = .ok (.iload_n 3, 1) := by decide +kernel
theorem dX9_keeperIf_20 : decode cX9_keeperIf 20 = .ok (.iload_n 2, 1) := by decide +kernel
theorem dX9_keeperIf_21 : decode cX9_keeperIf 21 = .ok (.invokevirtual 437, 3) := by decide +kernel
theorem dX9_keeperIf_24 : decode cX9_keeperIf 24 = .ok (.goto 4, 3) := by decide +kernel
theorem dX9_keeperIf_27 : decode cX9_keeperIf 27 = .ok (.iload_n 3, 1) := by decide +kernel
theorem dX9_keeperIf_28 : decode cX9_keeperIf 28 = .ok (.ireturn, 1) := by decide +kernel
set_option maxRecDepth 20000 in
theorem ggX9_goDie_X9_chambers : GoodIn wsX9_goDie wsX9_chambers := goodIn_r _ [6, 7, 8, 29, 30, 31, 32, 33, 34, 35, 36, 37, 38, 39, 40, 41, 42, 43, 44, 45, 46, 47, 48, 49, 50, 51, 52, 53, 54, 55, 56, 57, 58, 59, 60, 61, 62, 63, 64, 65, 66, 67, 68, 69, 70, 71, 72, 73, 74, 75, 76, 77, 78, 79, 80, 81, 82, 83, 84, 85, 86, 87, 88, 89, 90, 91, 92, 93, 94, 95] rfl (by decide +kernel)
set_option maxRecDepth 20000 in
theorem gX9_goDie_X9_chambers : GoodIn wsX9_goDie (wsV RX9 383 RX9 yX9_chambers wsX9_chambers) := goodIn_app (goodIn_r _ [2, 3, 4, 5] rfl (by decide +kernel)) ggX9_goDie_X9_chambers
set_option maxRecDepth 20000 in
theorem ggX9_goDie_X9_keeperIf : GoodIn wsX9_goDie wsX9_keeperIf := goodIn_r _ [12, 13, 14, 15, 5, 16, 1, 17, 18, 19, 20, 21, 22, 23, 24, 8, 25, 26, 27, 28, 29, 30, 31, 32, 33, 34, 35, 36, 37, 38, 39, 40, 41, 42, 43, 44, 45, 46, 47, 48, 49, 50, 51, 52, 53, 54, 55, 56, 57, 58, 59, 60, 61, 62, 63, 64, 65, 66, 67, 68, 69, 70, 71, 72, 73, 74, 75, 76, 77, 78, 79, 80, 81, 82, 83, 84, 85, 86, 87, 88, 89, 90, 91, 92, 93, 94, 95] rfl (by decide +kernel)
set_option maxRecDepth 20000 in
theorem gX9_goDie_X9_keeperIf : GoodIn wsX9_goDie (wsV RX9 440 RX9 yX9_keeperIf wsX9_keeperIf) := goodIn_app (goodIn_r _ [9, 10, 11, 5] rfl (by decide +kernel)) ggX9_goDie_X9_keeperIf
theorem dX9_goDie_0 : decode cX9_goDie 0 = .ok (.iconst 0, 1) := by decide +kernel
theorem dX9_goDie_1 : decode cX9_goDie 1 = .ok (.istore_n 2, 1) := by decide +kernel
theorem dX9_goDie_2 : decode cX9_goDie 2 = .ok (.iload_n 2, 1) := by decide +kernel
theorem dX9_goDie_3 : decode cX9_goDie 3 = .ok (.aload_n 0, 1) := by decide +kernel
theorem dX9_goDie_4 : decode cX9_goDie 4 = .ok (.invokevirtual 383, 3) := by decide +kernel
theorem dX9_goDie_7 : decode cX9_goDie 7 = .ok (.if_icmp .ge 24, 3) := by decide +kernel
theorem dX9_goDie_10 : decode cX9_goDie 10 = .ok (.aload_n 0, 1) := by decide +kernel
theorem dX9_goDie_11 : decode cX9_goDie 11 = .ok (.getfield 94, 3) := by decide +kernel
theorem dX9_goDie_14 : decode cX9_goDie 14 = .ok (.bipush 14, 2) := by decide +kernel
theorem dX9_goDie_16 : decode cX9_goDie 16 = .ok (.iload_n 2, 1) := by decide +kernel
theorem dX9_goDie_17 : decode cX9_goDie 17 = .ok (.iadd, 1) := by decide +kernel
theorem dX9_goDie_18 : decode cX9_goDie 18 = .ok (.aload_n 0, 1) := by decide +kernel
theorem dX9_goDie_19 : decode cX9_goDie 19 = .ok (.iload_n 2, 1) := by decide +kernel
theorem dX9_goDie_20 : decode cX9_goDie 20 = .ok (.iload_n 1, 1) := by decide +kernel
theorem dX9_goDie_21 : decode cX9_goDie 21 = .ok (.invokevirtual 440, 3) := by decide +kernel
theorem dX9_goDie_24 : decode cX9_goDie 24 = .ok (.iastore, 1) := by decide +kernel
theorem dX9_goDie_25 : decode cX9_goDie 25 = .ok (.iinc 2 1, 3) := by decide +kernel
theorem dX9_goDie_28 : decode cX9_goDie 28 = .ok (.goto (-26), 3) := by decide +kernel
theorem dX9_goDie_31 : decode cX9_goDie 31 = .ok (.aload_n 0, 1) := by decide +kernel
theorem dX9_goDie_32 : decode cX9_goDie 32 = .ok (.getfield 94, 3) := by decide +kernel
theorem dX9_goDie_35 : decode cX9_goDie 35 = .ok (.bipush 36, 2) := by decide +kernel
theorem dX9_goDie_37 : decode cX9_goDie 37 = .ok (.dup2, 1) := by decide +kernel
theorem dX9_goDie_38 : decode cX9_goDie 38 = .ok (.iaload, 1) := by decide +kernel
theorem dX9_goDie_39 : decode cX9_goDie 39 = .ok (.iload_n 1, 1) := by decide +kernel
theorem dX9_goDie_40 : decode cX9_goDie 40 = .ok (.iconst (-1), 1) := by decide +kernel
theorem dX9_goDie_41 : decode cX9_goDie 41 = .ok (.ixor, 1) := by decide +kernel
theorem dX9_goDie_42 : decode cX9_goDie 42 = .ok (.iand, 1) := by decide +kernel
theorem dX9_goDie_43 : decode cX9_goDie 43 = .ok (.iastore, 1) := by decide +kernel
theorem dX9_goDie_44 : decode cX9_goDie 44 = .ok (.return_, 1) := by decide +kernel
theorem dX9_goOut_0 : decode cX9_goOut 0 = .ok (.aload_n 0, 1) := by decide +kernel
theorem dX9_goOut_1 : decode cX9_goOut 1 = .ok (.getfield 94, 3) := by decide +kernel
theorem dX9_goOut_4 : decode cX9_goOut 4 = .ok (.iconst 0, 1) := by decide +kernel
theorem dX9_goOut_5 : decode cX9_goOut 5 = .ok (.iload_n 1, 1) := by decide +kernel
theorem dX9_goOut_6 : decode cX9_goOut 6 = .ok (.iadd, 1) := by decide +kernel
theorem dX9_goOut_7 : decode cX9_goOut 7 = .ok (.iconst (-1), 1) := by decide +kernel
theorem dX9_goOut_8 : decode cX9_goOut 8 = .ok (.iastore, 1) := by decide +kernel
theorem dX9_goOut_9 : decode cX9_goOut 9 = .ok (.aload_n 0, 1) := by decide +kernel
theorem dX9_goOut_10 : decode cX9_goOut 10 = .ok (.getfield 94, 3) := by decide +kernel
theorem dX9_goOut_13 : decode cX9_goOut 13 = .ok (.bipush 7, 2) := by decide +kernel
theorem dX9_goOut_15 : decode cX9_goOut 15 = .ok (.iload_n 1, 1) := by decide +kernel
theorem dX9_goOut_16 : decode cX9_goOut 16 = .ok (.iadd, 1) := by decide +kernel
theorem dX9_goOut_17 : decode cX9_goOut 17 = .ok (.iconst 0, 1) := by decide +kernel
theorem dX9_goOut_18 : decode cX9_goOut 18 = .ok (.iastore, 1) := by decide +kernel
theorem dX9_goOut_19 : decode cX9_goOut 19 = .ok (.return_, 1) := by decide +kernel
set_option maxRecDepth 20000 in
theorem ggX9_goQuarter_X9_thrown : GoodIn wsX9_goQuarter wsX9_thrown := goodIn_r _ [6, 7, 8, 9, 5, 10, 11, 12, 13, 14, 15, 16, 1, 17, 18, 19, 20, 21, 22, 23, 24, 25, 26, 27, 28, 29, 30, 31, 32, 33, 34, 35, 36, 37, 38, 39, 40, 41, 42, 43, 44, 45, 46, 47, 48, 49, 50, 51, 52, 53, 54, 55, 56, 57, 58, 59, 60, 61, 62, 63, 64, 65, 66, 67, 68, 69, 70, 71, 72, 73, 74, 75, 76, 77, 78, 79, 80, 81, 82, 83, 84, 85, 86, 87, 88, 89, 90, 91, 92, 93, 94, 95, 96, 101, 102, 103, 104, 105, 106, 107, 108, 109, 110, 111, 112, 113, 114, 115, 116, 117, 118, 119, 120, 121, 122, 123, 124, 125, 126, 127, 128, 129, 130, 131, 132, 133, 134, 135, 136, 137, 138, 139, 140, 141, 142, 143, 144, 145, 146, 147, 148, 149, 150, 151, 152, 153, 154, 155, 156, 157, 158, 159, 160, 161, 162, 163, 164, 165, 166, 167] rfl (by decide +kernel)
set_option maxRecDepth 20000 in
theorem gX9_goQuarter_X9_thrown : GoodIn wsX9_goQuarter (wsV RX9 443 RX9 yX9_thrown wsX9_thrown) := goodIn_app (goodIn_r _ [2, 3, 4, 5] rfl (by decide +kernel)) ggX9_goQuarter_X9_thrown
set_option maxRecDepth 20000 in
theorem ggX9_goQuarter_X9_many : GoodIn wsX9_goQuarter wsX9_many := goodIn_r _ [10, 11, 12, 101, 102, 103, 104, 105, 106, 107, 108, 109, 110, 111, 112, 113, 114, 115, 116, 117, 118, 119, 120, 121, 122, 123, 124, 125, 126, 127, 128, 129, 130, 131, 132, 133, 134, 135, 136, 137, 138, 139, 140, 141, 142, 143, 144, 145, 146, 147, 148, 149, 150, 151, 152, 153, 154, 155, 156, 157, 158, 159, 160, 161, 162, 163, 164, 165, 166, 167] rfl (by decide +kernel)
set_option maxRecDepth 20000 in
theorem gX9_goQuarter_X9_many : GoodIn wsX9_goQuarter (wsV RX9 373 RX9 yX9_many wsX9_many) := goodIn_app (goodIn_r _ [7, 8, 9, 5] rfl (by decide +kernel)) ggX9_goQuarter_X9_many
set_option maxRecDepth 20000 in
theorem ggX9_goQuarter_X9_bit : GoodIn wsX9_goQuarter wsX9_bit := goodIn_r _ [77] rfl (by decide +kernel)
set_option maxRecDepth 20000 in
theorem gX9_goQuarter_X9_bit : GoodIn wsX9_goQuarter (va_wsS RX9 274 yX9_bit wsX9_bit) := goodIn_app (goodIn_r _ [75, 76, 5] rfl (by decide +kernel)) ggX9_goQuarter_X9_bit
set_option maxRecDepth 20000 in
theorem ggX9_goQuarter_X9_goOut : GoodIn wsX9_goQuarter wsX9_goOut := goodIn_r _ [100, 1, 101, 102, 103, 104, 105, 106, 107, 108, 109, 110, 111, 112, 113, 114, 115, 116, 117, 118, 119, 120, 121, 122, 123, 124, 125, 126, 127, 128, 129, 130, 131, 132, 133, 134, 135, 136, 137, 138, 139, 140, 141, 142, 143, 144, 145, 146, 147, 148, 149, 150, 151, 152, 153, 154, 155, 156, 157, 158, 159, 160, 161, 162, 163, 164, 165, 166, 167] rfl (by decide +kernel)
set_option maxRecDepth 20000 in
theorem gX9_goQuarter_X9_goOut : GoodIn wsX9_goQuarter (wsV RX9 446 RX9 yX9_goOut wsX9_goOut) := goodIn_app (goodIn_r _ [97, 98, 99, 5] rfl (by decide +kernel)) ggX9_goQuarter_X9_goOut
set_option maxRecDepth 20000 in
theorem ggX9_goQuarter_X9_isOut : GoodIn wsX9_goQuarter wsX9_isOut := goodIn_r _ [27, 1, 101, 102, 103, 104, 105, 106, 107, 108, 109, 110, 111, 112, 113, 114, 115, 116, 117, 118, 119, 120, 121, 122, 123, 124, 125, 126, 127, 128, 129, 130, 131, 132, 133, 134, 135, 136, 137, 138, 139, 140, 141, 142, 143, 144, 145, 146, 147, 148, 149, 150, 151, 152, 153, 154, 155, 156, 157, 158, 159, 160, 161, 162, 163, 164, 165, 166, 167] rfl (by decide +kernel)
set_option maxRecDepth 20000 in
theorem gX9_goQuarter_X9_isOut : GoodIn wsX9_goQuarter (wsV RX9 389 RX9 yX9_isOut wsX9_isOut) := goodIn_app (goodIn_r _ [24, 25, 26, 5] rfl (by decide +kernel)) ggX9_goQuarter_X9_isOut
theorem dX9_goQuarter_0 : decode cX9_goQuarter 0 = .ok (.aload_n 0, 1) := by decide +kernel
theorem dX9_goQuarter_1 : decode cX9_goQuarter 1 = .ok (.invokevirtual 443, 3) := by decide +kernel
theorem dX9_goQuarter_4 : decode cX9_goQuarter 4 = .ok (.istore_n 1, 1) := by decide +kernel
theorem dX9_goQuarter_5 : decode cX9_goQuarter 5 = .ok (.iconst 0, 1) := by decide +kernel
theorem dX9_goQuarter_6 : decode cX9_goQuarter 6 = .ok (.istore_n 2, 1) := by decide +kernel
theorem dX9_goQuarter_7 : decode cX9_goQuarter 7 = .ok (.iload_n 2, 1) := by decide +kernel
theorem dX9_goQuarter_8 : decode cX9_goQuarter 8 = .ok (.aload_n 0, 1) := by decide +kernel
theorem dX9_goQuarter_9 : decode cX9_goQuarter 9 = .ok (.invokevirtual 373, 3) := by decide +kernel
theorem dX9_goQuarter_12 : decode cX9_goQuarter 12 = .ok (.if_icmp .ge 61, 3) := by decide +kernel
theorem dX9_goQuarter_15 : decode cX9_goQuarter 15 = .ok (.iload_n 1, 1) := by decide +kernel
theorem dX9_goQuarter_16 : decode cX9_goQuarter 16 = .ok (.iload_n 2, 1) := by decide +kernel
theorem dX9_goQuarter_17 : decode cX9_goQuarter 17 = .ok (.invokestatic 274, 3) := by decide +kernel
theorem dX9_goQuarter_20 : decode cX9_goQuarter 20 = .ok (.ifCond .eq 11, 3) := by decide +kernel
theorem dX9_goQuarter_23 : decode cX9_goQuarter 23 = .ok (.aload_n 0, 1) := by decide +kernel
theorem dX9_goQuarter_24 : decode cX9_goQuarter 24 = .ok (.iload_n 2, 1) := by decide +kernel
theorem dX9_goQuarter_25 : decode cX9_goQuarter 25 = .ok (.invokevirtual 446, 3) := by decide +kernel
theorem dX9_goQuarter_28 : decode cX9_goQuarter 28 = .ok (.goto 39, 3) := by decide +kernel
theorem dX9_goQuarter_31 : decode cX9_goQuarter 31 = .ok (.aload_n 0, 1) := by decide +kernel
theorem dX9_goQuarter_32 : decode cX9_goQuarter 32 = .ok (.iload_n 2, 1) := by decide +kernel
theorem dX9_goQuarter_33 : decode cX9_goQuarter 33 = .ok (.invokevirtual 389, 3) := by decide +kernel
theorem dX9_goQuarter_36 : decode cX9_goQuarter 36 = .ok (.ifCond .ne 31, 3) := by decide +kernel
theorem dX9_goQuarter_39 : decode cX9_goQuarter 39 = .ok (.aload_n 0, 1) := by decide +kernel
theorem dX9_goQuarter_40 : decode cX9_goQuarter 40 = .ok (.getfield 94, 3) := by decide +kernel
theorem dX9_goQuarter_43 : decode cX9_goQuarter 43 = .ok (.bipush 7, 2) := by decide +kernel
theorem dX9_goQuarter_45 : decode cX9_goQuarter 45 = .ok (.iload_n 2, 1) := by decide +kernel
theorem dX9_goQuarter_46 : decode cX9_goQuarter 46 = .ok (.iadd, 1) := by decide +kernel
theorem dX9_goQuarter_47 : decode cX9_goQuarter 47 = .ok (.iaload, 1) := by decide +kernel
theorem dX9_goQuarter_48 : decode cX9_goQuarter 48 = .ok (.sipush 999, 3) := by decide +kernel
theorem dX9_goQuarter_51 : decode cX9_goQuarter 51 = .ok (.if_icmp .ge 16, 3) := by decide +kernel
theorem dX9_goQuarter_54 : decode cX9_goQuarter 54 = .ok (.aload_n 0, 1) := by decide +kernel
theorem dX9_goQuarter_55 : decode cX9_goQuarter 55 = .ok (.getfield 94, 3) := by decide +kernel
theorem dX9_goQuarter_58 : decode cX9_goQuarter 58 = .ok (.bipush 7, 2) := by decide +kernel
theorem dX9_goQuarter_60 : decode cX9_goQuarter 60 = .ok (.iload_n 2, 1) := by decide +kernel
theorem dX9_goQuarter_61 : decode cX9_goQuarter 61 = .ok (.iadd, 1) := by decide +kernel
theorem dX9_goQuarter_62 : decode cX9_goQuarter 62 = .ok (.dup2, 1) := by decide +kernel
theorem dX9_goQuarter_63 : decode cX9_goQuarter 63 = .ok (.iaload, 1) := by decide +kernel
theorem dX9_goQuarter_64 : decode cX9_goQuarter 64 = .ok (.iconst 1, 1) := by decide +kernel
theorem dX9_goQuarter_65 : decode cX9_goQuarter 65 = .ok (.iadd, 1) := by decide +kernel
theorem dX9_goQuarter_66 : decode cX9_goQuarter 66 = .ok (.iastore, 1) := by decide +kernel
theorem dX9_goQuarter_67 : decode cX9_goQuarter 67 = .ok (.iinc 2 1, 3) := by decide +kernel
theorem dX9_goQuarter_70 : decode cX9_goQuarter 70 = .ok (.goto (-63), 3) := by decide +kernel
theorem dX9_goQuarter_73 : decode cX9_goQuarter 73 = .ok (.aload_n 0, 1) := by decide +kernel
theorem dX9_goQuarter_74 : decode cX9_goQuarter 74 = .ok (.getfield 94, 3) := by decide +kernel
theorem dX9_goQuarter_77 : decode cX9_goQuarter 77 = .ok (.bipush 37, 2) := by decide +kernel
theorem dX9_goQuarter_79 : decode cX9_goQuarter 79 = .ok (.dup2, 1) := by decide +kernel
theorem dX9_goQuarter_80 : decode cX9_goQuarter 80 = .ok (.iaload, 1) := by decide +kernel
theorem dX9_goQuarter_81 : decode cX9_goQuarter 81 = .ok (.iconst 1, 1) := by decide +kernel
theorem dX9_goQuarter_82 : decode cX9_goQuarter 82 = .ok (.iadd, 1) := by decide +kernel
theorem dX9_goQuarter_83 : decode cX9_goQuarter 83 = .ok (.iastore, 1) := by decide +kernel
theorem dX9_goQuarter_84 : decode cX9_goQuarter 84 = .ok (.iload_n 1, 1) := by decide +kernel
theorem dX9_goQuarter_85 : decode cX9_goQuarter 85 = .ok (.ireturn, 1) := by decide +kernel
set_option maxRecDepth 20000 in
theorem ggX9_goInEarnest_X9_goQuarter : GoodIn wsX9_goInEarnest wsX9_goQuarter := goodIn_r _ [8, 1, 9, 10, 11, 7, 12, 13, 14, 15, 16, 17, 3, 18, 19, 20, 21, 22, 23, 24, 25, 26, 27, 28, 29, 30, 31, 32, 33, 34, 35, 36, 37, 38, 39, 40, 41, 42, 43, 44, 45, 46, 47, 48, 49, 50, 51, 52, 53, 54, 55, 56, 57, 58, 59, 60, 61, 62, 63, 64, 65, 66, 67, 68, 69, 70, 71, 72, 73, 74, 75, 76, 77, 78, 79, 80, 81, 82, 83, 84, 85, 86, 87, 88, 89, 90, 91, 92, 93, 94, 95, 96, 97, 98, 99, 100, 101, 102, 103, 104, 105, 123, 124, 125, 126, 127, 128, 129, 130, 131, 132, 133, 134, 135, 136, 137, 138, 139, 140, 141, 142, 143, 144, 145, 146, 147, 148, 149, 150, 151, 152, 153, 154, 155, 156, 157, 158, 159, 160, 161, 162, 163, 164, 165, 166, 167, 168, 169, 170, 171, 172, 173, 174, 175, 176, 177, 178, 179, 180, 181, 182, 183, 184, 185, 186, 187, 188, 189] rfl (by decide +kernel)
set_option maxRecDepth 20000 in
theorem gX9_goInEarnest_X9_goQuarter : GoodIn wsX9_goInEarnest (wsV RX9 450 RX9 yX9_goQuarter wsX9_goQuarter) := goodIn_app (goodIn_r _ [4, 5, 6, 7] rfl (by decide +kernel)) ggX9_goInEarnest_X9_goQuarter
set_option maxRecDepth 20000 in
theorem ggX9_goInEarnest_X9_cattery : GoodIn wsX9_goInEarnest wsX9_cattery := goodIn_r _ [66, 67, 3, 123, 124, 125, 126, 127, 128, 129, 130, 131, 132, 133, 134, 135, 136, 137, 138, 139, 140, 141, 142, 143, 144, 145, 146, 147, 148, 149, 150, 151, 152, 153, 154, 155, 156, 157, 158, 159, 160, 161, 162, 163, 164, 165, 166, 167, 168, 169, 170, 171, 172, 173, 174, 175, 176, 177, 178, 179, 180, 181, 182, 183, 184, 185, 186, 187, 188, 189] rfl (by decide +kernel)
set_option maxRecDepth 20000 in
theorem gX9_goInEarnest_X9_cattery : GoodIn wsX9_goInEarnest (wsV RX9 380 RX9 yX9_cattery wsX9_cattery) := goodIn_app (goodIn_r _ [63, 64, 65, 7] rfl (by decide +kernel)) ggX9_goInEarnest_X9_cattery
set_option maxRecDepth 20000 in
theorem ggX9_goInEarnest_X9_lives : GoodIn wsX9_goInEarnest wsX9_lives := goodIn_r _ [109, 1, 80, 81, 7, 82, 123, 124, 125, 126, 127, 128, 129, 130, 131, 132, 133, 134, 135, 136, 137, 138, 139, 140, 141, 142, 143, 144, 145, 146, 147, 148, 149, 150, 151, 152, 153, 154, 155, 156, 157, 158, 159, 160, 161, 162, 163, 164, 165, 166, 167, 168, 169, 170, 171, 172, 173, 174, 175, 176, 177, 178, 179, 180, 181, 182, 183, 184, 185, 186, 187, 188, 189] rfl (by decide +kernel)
set_option maxRecDepth 20000 in
theorem gX9_goInEarnest_X9_lives : GoodIn wsX9_goInEarnest (wsV RX9 434 RX9 yX9_lives wsX9_lives) := goodIn_app (goodIn_r _ [106, 107, 108, 7] rfl (by decide +kernel)) ggX9_goInEarnest_X9_lives
set_option maxRecDepth 20000 in
theorem ggX9_goInEarnest_X9_goDie : GoodIn wsX9_goInEarnest wsX9_goDie := goodIn_r _ [113, 1, 72, 73, 74, 7, 75, 76, 3, 114, 115, 116, 117, 33, 34, 35, 36, 80, 81, 82, 118, 119, 120, 121, 122, 106, 107, 108, 109, 123, 124, 125, 126, 127, 128, 129, 130, 131, 132, 133, 134, 135, 136, 137, 138, 139, 140, 141, 142, 143, 144, 145, 146, 147, 148, 149, 150, 151, 152, 153, 154, 155, 156, 157, 158, 159, 160, 161, 162, 163, 164, 165, 166, 167, 168, 169, 170, 171, 172, 173, 174, 175, 176, 177, 178, 179, 180, 181, 182, 183, 184, 185, 186, 187, 188, 189] rfl (by decide +kernel)
set_option maxRecDepth 20000 in
theorem gX9_goInEarnest_X9_goDie : GoodIn wsX9_goInEarnest (wsV RX9 453 RX9 yX9_goDie wsX9_goDie) := goodIn_app (goodIn_r _ [110, 111, 112, 7] rfl (by decide +kernel)) ggX9_goInEarnest_X9_goDie
theorem dX9_goInEarnest_0 : decode cX9_goInEarnest 0 = .ok (.aload_n 0, 1) := by decide +kernel
theorem dX9_goInEarnest_1 : decode cX9_goInEarnest 1 = .ok (.invokevirtual 450, 3) := by decide +kernel
theorem dX9_goInEarnest_4 : decode cX9_goInEarnest 4 = .ok (.istore_n 1, 1) := by decide +kernel
theorem dX9_goInEarnest_5 : decode cX9_goInEarnest 5 = .ok (.iconst 0, 1) := by decide +kernel
theorem dX9_goInEarnest_6 : decode cX9_goInEarnest 6 = .ok (.istore_n 2, 1) := by decide +kernel
theorem dX9_goInEarnest_7 : decode cX9_goInEarnest 7 = .ok (.iconst 0, 1) := by decide +kernel
theorem dX9_goInEarnest_8 : decode cX9_goInEarnest 8 = .ok (.istore_n 3, 1) := by decide +kernel
theorem dX9_goInEarnest_9 : decode cX9_goInEarnest 9 = .ok (.iload_n 3, 1) := by decide +kernel
theorem dX9_goInEarnest_10 : decode cX9_goInEarnest 10 = .ok (.aload_n 0, 1) := by decide +kernel
theorem dX9_goInEarnest_11 : decode cX9_goInEarnest 11 = .ok (.invokevirtual 380, 3) := by decide +kernel
theorem dX9_goInEarnest_14 : decode cX9_goInEarnest 14 = .ok (.if_icmp .ge 73, 3) := by decide +kernel
theorem dX9_goInEarnest_17 : decode cX9_goInEarnest 17 = .ok (.aload_n 0, 1) := by decide +kernel
theorem dX9_goInEarnest_18 : decode cX9_goInEarnest 18 = .ok (.iload_n 3, 1) := by decide +kernel
theorem dX9_goInEarnest_19 : decode cX9_goInEarnest 19 = .ok (.invokevirtual 434, 3) := by decide +kernel
theorem dX9_goInEarnest_22 : decode cX9_goInEarnest 22 = .ok (.ifCond .ne 6, 3) := by decide +kernel
theorem dX9_goInEarnest_25 : decode cX9_goInEarnest 25 = .ok (.goto 56, 3) := by decide +kernel
theorem dX9_goInEarnest_28 : decode cX9_goInEarnest 28 = .ok (.aload_n 0, 1) := by decide +kernel
theorem dX9_goInEarnest_29 : decode cX9_goInEarnest 29 = .ok (.getfield 94, 3) := by decide +kernel
theorem dX9_goInEarnest_32 : decode cX9_goInEarnest 32 = .ok (.bipush 38, 2) := by decide +kernel
theorem dX9_goInEarnest_34 : decode cX9_goInEarnest 34 = .ok (.sipush 137, 3) := by decide +kernel
theorem dX9_goInEarnest_37 : decode cX9_goInEarnest 37 = .ok (.aload_n 0, 1) := by decide +kernel
theorem dX9_goInEarnest_38 : decode cX9_goInEarnest 38 = .ok (.getfield 94, 3) := by decide +kernel
theorem dX9_goInEarnest_41 : decode cX9_goInEarnest 41 = .ok (.bipush 38, 2) := by decide +kernel
theorem dX9_goInEarnest_43 : decode cX9_goInEarnest 43 = .ok (.iaload, 1) := by decide +kernel
theorem dX9_goInEarnest_44 : decode cX9_goInEarnest 44 = .ok (.imul, 1) := by decide +kernel
theorem dX9_goInEarnest_45 : decode cX9_goInEarnest 45 = .ok (.bipush 71, 2) := by decide +kernel
theorem dX9_goInEarnest_47 : decode cX9_goInEarnest 47 = .ok (.iadd, 1) := by decide +kernel
theorem dX9_goInEarnest_48 : decode cX9_goInEarnest 48 = .ok (.sipush 1000, 3) := by decide +kernel
theorem dX9_goInEarnest_51 : decode cX9_goInEarnest 51 = .ok (.irem, 1) := by decide +kernel
theorem dX9_goInEarnest_52 : decode cX9_goInEarnest 52 = .ok (.iastore, 1) := by decide +kernel
theorem dX9_goInEarnest_53 : decode cX9_goInEarnest 53 = .ok (.aload_n 0, 1) := by decide +kernel
theorem dX9_goInEarnest_54 : decode cX9_goInEarnest 54 = .ok (.getfield 94, 3) := by decide +kernel
theorem dX9_goInEarnest_57 : decode cX9_goInEarnest 57 = .ok (.bipush 38, 2) := by decide +kernel
theorem dX9_goInEarnest_59 : decode cX9_goInEarnest 59 = .ok (.iaload, 1) := by decide +kernel
theorem dX9_goInEarnest_60 : decode cX9_goInEarnest 60 = .ok (.bipush 100, 2) := by decide +kernel
theorem dX9_goInEarnest_62 : decode cX9_goInEarnest 62 = .ok (.irem, 1) := by decide +kernel
theorem dX9_goInEarnest_63 : decode cX9_goInEarnest 63 = .ok (.aload_n 0, 1) := by decide +kernel
theorem dX9_goInEarnest_64 : decode cX9_goInEarnest 64 = .ok (.getfield 33, 3) := by decide +kernel
theorem dX9_goInEarnest_67 : decode cX9_goInEarnest 67 = .ok (.aload_n 0, 1) := by decide +kernel
theorem dX9_goInEarnest_68 : decode cX9_goInEarnest 68 = .ok (.getfield 268, 3) := by decide +kernel
theorem dX9_goInEarnest_71 : decode cX9_goInEarnest 71 = .ok (.iaload, 1) := by decide +kernel
theorem dX9_goInEarnest_72 : decode cX9_goInEarnest 72 = .ok (.if_icmp .ge 9, 3) := by decide +kernel
theorem dX9_goInEarnest_75 : decode cX9_goInEarnest 75 = .ok (.iload_n 2, 1) := by decide +kernel
theorem dX9_goInEarnest_76 : decode cX9_goInEarnest 76 = .ok (.iconst 1, 1) := by decide +kernel
theorem dX9_goInEarnest_77 : decode cX9_goInEarnest 77 = .ok (.iload_n 3, 1) := by decide +kernel
theorem dX9_goInEarnest_78 : decode cX9_goInEarnest 78 = .ok (.ishl, 1) := by decide +kernel
theorem dX9_goInEarnest_79 : decode cX9_goInEarnest 79 = .ok (.ior, 1) := by decide +kernel
theorem dX9_goInEarnest_80 : decode cX9_goInEarnest 80 = .ok (.istore_n 2, 1) := by decide +kernel
theorem dX9_goInEarnest_81 : decode cX9_goInEarnest 81 = .ok (.iinc 3 1, 3) := by decide +kernel
theorem dX9_goInEarnest_84 : decode cX9_goInEarnest 84 = .ok (.goto (-75), 3) := by decide +kernel
theorem dX9_goInEarnest_87 : decode cX9_goInEarnest 87 = .ok (.aload_n 0, 1) := by decide +kernel
theorem dX9_goInEarnest_88 : decode cX9_goInEarnest 88 = .ok (.iload_n 2, 1) := by decide +kernel
theorem dX9_goInEarnest_89 : decode cX9_goInEarnest 89 = .ok (.invokevirtual 453, 3) := by decide +kernel
theorem dX9_goInEarnest_92 : decode cX9_goInEarnest 92 = .ok (.iload_n 1, 1) := by decide +kernel
theorem dX9_goInEarnest_93 : decode cX9_goInEarnest 93 = .ok (.ireturn, 1) := by decide +kernel
set_option maxRecDepth 20000 in
theorem ggX9_cat_X9_isCat : GoodIn wsX9_cat wsX9_isCat := goodIn_r _ [9, 10, 11, 12, 8, 13, 14, 3, 15, 16, 17, 47, 48, 49, 50, 51, 52, 53, 54, 55, 56, 57, 58, 59, 60, 61, 62, 63, 64, 65, 66, 67, 68, 69, 70, 71, 72, 73, 74, 75, 76, 77, 78, 79, 80, 81, 82, 83, 84, 85, 86, 87, 88, 89, 90, 91, 92, 93, 94, 95, 96, 97, 98, 99, 100, 101, 102, 103, 104, 105, 106, 107, 108, 109, 110, 111, 112, 113] rfl (by decide +kernel)
set_option maxRecDepth 20000 in
theorem gX9_cat_X9_isCat : GoodIn wsX9_cat (wsV RX9 456 RX9 yX9_isCat wsX9_isCat) := goodIn_app (goodIn_r _ [5, 6, 7, 8] rfl (by decide +kernel)) ggX9_cat_X9_isCat
set_option maxRecDepth 20000 in
theorem ggX9_cat_X9_roomsOf : GoodIn wsX9_cat wsX9_roomsOf := goodIn_r _ [21, 22, 23, 24, 8, 25, 26, 3, 27, 28, 29, 30, 1, 47, 48, 49, 50, 51, 52, 53, 54, 55, 56, 57, 58, 59, 60, 61, 62, 63, 64, 65, 66, 67, 68, 69, 70, 71, 72, 73, 74, 75, 76, 77, 78, 79, 80, 81, 82, 83, 84, 85, 86, 87, 88, 89, 90, 91, 92, 93, 94, 95, 96, 97, 98, 99, 100, 101, 102, 103, 104, 105, 106, 107, 108, 109, 110, 111, 112, 113] rfl (by decide +kernel)
set_option maxRecDepth 20000 in
theorem gX9_cat_X9_roomsOf : GoodIn wsX9_cat (wsV RX9 413 RX9 yX9_roomsOf wsX9_roomsOf) := goodIn_app (goodIn_r _ [18, 19, 20, 8] rfl (by decide +kernel)) ggX9_cat_X9_roomsOf
set_option maxRecDepth 20000 in
theorem ggX9_cat_X9_thoseIn : GoodIn wsX9_cat wsX9_thoseIn := goodIn_r _ [34, 1, 35, 36, 37, 8, 38, 39, 3, 40, 41, 42, 43, 44, 45, 46, 47, 48, 49, 50, 51, 52, 53, 54, 55, 56, 57, 58, 59, 60, 61, 62, 63, 64, 65, 66, 67, 68, 69, 70, 71, 72, 73, 74, 75, 76, 77, 78, 79, 80, 81, 82, 83, 84, 85, 86, 87, 88, 89, 90, 91, 92, 93, 94, 95, 96, 97, 98, 99, 100, 101, 102, 103, 104, 105, 106, 107, 108, 109, 110, 111, 112, 113] rfl (by decide +kernel)
