theorem dX9_back_29 : decode cX9_back 29 = .ok (.getfield 94, 3) := by decide +kernel
theorem dX9_back_32 : decode cX9_back 32 = .ok (.iload_n 2, 1) := by decide +kernel
theorem dX9_back_33 : decode cX9_back 33 = .ok (.aload_n 0, 1) := by decide +kernel
theorem dX9_back_34 : decode cX9_back 34 = .ok (.getfield 139, 3) := by decide +kernel
theorem dX9_back_37 : decode cX9_back 37 = .ok (.bipush 39, 2) := by decide +kernel
theorem dX9_back_39 : decode cX9_back 39 = .ok (.iload_n 1, 1) := by decide +kernel
theorem dX9_back_40 : decode cX9_back 40 = .ok (.imul, 1) := by decide +kernel
theorem dX9_back_41 : decode cX9_back 41 = .ok (.iload_n 2, 1) := by decide +kernel
theorem dX9_back_42 : decode cX9_back 42 = .ok (.iadd, 1) := by decide +kernel
theorem dX9_back_43 : decode cX9_back 43 = .ok (.iaload, 1) := by decide +kernel
theorem dX9_back_44 : decode cX9_back 44 = .ok (.iastore, 1) := by decide +kernel
theorem dX9_back_45 : decode cX9_back 45 = .ok (.iinc 2 1, 3) := by decide +kernel
theorem dX9_back_48 : decode cX9_back 48 = .ok (.goto (-26), 3) := by decide +kernel
theorem dX9_back_51 : decode cX9_back 51 = .ok (.aload_n 0, 1) := by decide +kernel
theorem dX9_back_52 : decode cX9_back 52 = .ok (.iconst 0, 1) := by decide +kernel
theorem dX9_back_53 : decode cX9_back 53 = .ok (.putfield 398, 3) := by decide +kernel
theorem dX9_back_56 : decode cX9_back 56 = .ok (.aload_n 0, 1) := by decide +kernel
theorem dX9_back_57 : decode cX9_back 57 = .ok (.iconst 0, 1) := by decide +kernel
theorem dX9_back_58 : decode cX9_back 58 = .ok (.putfield 401, 3) := by decide +kernel
theorem dX9_back_61 : decode cX9_back 61 = .ok (.aload_n 0, 1) := by decide +kernel
theorem dX9_back_62 : decode cX9_back 62 = .ok (.getfield 94, 3) := by decide +kernel
theorem dX9_back_65 : decode cX9_back 65 = .ok (.bipush 37, 2) := by decide +kernel
theorem dX9_back_67 : decode cX9_back 67 = .ok (.iaload, 1) := by decide +kernel
theorem dX9_back_68 : decode cX9_back 68 = .ok (.ireturn, 1) := by decide +kernel
set_option maxRecDepth 20000 in
theorem ggX9_thoseOut_X9_many : GoodIn wsX9_thoseOut wsX9_many := goodIn_r _ [5, 6, 7, 13, 14, 15, 16, 17, 18, 19, 20, 21, 22, 23, 24, 25, 26, 27, 28, 29, 30, 31, 32, 33, 34, 35, 36, 37, 38, 39, 40, 41, 42, 43, 44, 45, 46, 47, 48, 49, 50, 51, 52, 53, 54, 55, 56, 57, 58, 59, 60, 61, 62, 63, 64, 65, 66, 67, 68, 69, 70, 71, 72, 73, 74, 75, 76, 77, 78, 79] rfl (by decide +kernel)
set_option maxRecDepth 20000 in
theorem gX9_thoseOut_X9_many : GoodIn wsX9_thoseOut (wsV RX9 373 RX9 yX9_many wsX9_many) := goodIn_app (goodIn_r _ [1, 2, 3, 4] rfl (by decide +kernel)) ggX9_thoseOut_X9_many
set_option maxRecDepth 20000 in
theorem ggX9_thoseOut_X9_isOut : GoodIn wsX9_thoseOut wsX9_isOut := goodIn_r _ [11, 12, 13, 14, 15, 16, 17, 18, 19, 20, 21, 22, 23, 24, 25, 26, 27, 28, 29, 30, 31, 32, 33, 34, 35, 36, 37, 38, 39, 40, 41, 42, 43, 44, 45, 46, 47, 48, 49, 50, 51, 52, 53, 54, 55, 56, 57, 58, 59, 60, 61, 62, 63, 64, 65, 66, 67, 68, 69, 70, 71, 72, 73, 74, 75, 76, 77, 78, 79] rfl (by decide +kernel)
set_option maxRecDepth 20000 in
theorem gX9_thoseOut_X9_isOut : GoodIn wsX9_thoseOut (wsV RX9 389 RX9 yX9_isOut wsX9_isOut) := goodIn_app (goodIn_r _ [8, 9, 10, 4] rfl (by decide +kernel)) ggX9_thoseOut_X9_isOut
theorem dX9_thoseOut_0 : decode cX9_thoseOut 0 = .ok (.iconst 0, 1) := by decide +kernel
theorem dX9_thoseOut_1 : decode cX9_thoseOut 1 = .ok (.istore_n 1, 1) := by decide +kernel
theorem dX9_thoseOut_2 : decode cX9_thoseOut 2 = .ok (.iconst 0, 1) := by decide +kernel
theorem dX9_thoseOut_3 : decode cX9_thoseOut 3 = .ok (.istore_n 2, 1) := by decide +kernel
theorem dX9_thoseOut_4 : decode cX9_thoseOut 4 = .ok (.iload_n 2, 1) := by decide +kernel
theorem dX9_thoseOut_5 : decode cX9_thoseOut 5 = .ok (.aload_n 0, 1) := by decide +kernel
theorem dX9_thoseOut_6 : decode cX9_thoseOut 6 = .ok (.invokevirtual 373, 3) := by decide +kernel
theorem dX9_thoseOut_9 : decode cX9_thoseOut 9 = .ok (.if_icmp .ge 23, 3) := by decide +kernel
theorem dX9_thoseOut_12 : decode cX9_thoseOut 12 = .ok (.aload_n 0, 1) := by decide +kernel
theorem dX9_thoseOut_13 : decode cX9_thoseOut 13 = .ok (.iload_n 2, 1) := by decide +kernel
theorem dX9_thoseOut_14 : decode cX9_thoseOut 14 = .ok (.invokevirtual 389, 3) := by decide +kernel
theorem dX9_thoseOut_17 : decode cX9_thoseOut 17 = .ok (.ifCond .eq 9, 3) := by decide +kernel
theorem dX9_thoseOut_20 : decode cX9_thoseOut 20 = .ok (.iload_n 1, 1) := by decide +kernel
theorem dX9_thoseOut_21 : decode cX9_thoseOut 21 = .ok (.iconst 1, 1) := by decide +kernel
theorem dX9_thoseOut_22 : decode cX9_thoseOut 22 = .ok (.iload_n 2, 1) := by decide +kernel
theorem dX9_thoseOut_23 : decode cX9_thoseOut 23 = .ok (.ishl, 1) := by decide +kernel
theorem dX9_thoseOut_24 : decode cX9_thoseOut 24 = .ok (.ior, 1) := by decide +kernel
theorem dX9_thoseOut_25 : decode cX9_thoseOut 25 = .ok (.istore_n 1, 1) := by decide +kernel
theorem dX9_thoseOut_26 : decode cX9_thoseOut 26 = .ok (.iinc 2 1, 3) := by decide +kernel
theorem dX9_thoseOut_29 : decode cX9_thoseOut 29 = .ok (.goto (-25), 3) := by decide +kernel
theorem dX9_thoseOut_32 : decode cX9_thoseOut 32 = .ok (.iload_n 1, 1) := by decide +kernel
theorem dX9_thoseOut_33 : decode cX9_thoseOut 33 = .ok (.ireturn, 1) := by decide +kernel
set_option maxRecDepth 20000 in
theorem ggX9_about_X9_many : GoodIn wsX9_about wsX9_many := goodIn_r _ [14, 15, 8, 34, 35, 36, 37, 38, 39, 40, 41, 42, 43, 44, 45, 46, 47, 48, 49, 50, 51, 52, 53, 54, 55, 56, 57, 58, 59, 60, 61, 62, 63, 64, 65, 66, 67, 68, 69, 70, 71, 72, 73, 74, 75, 76, 77, 78, 79, 80, 81, 82, 83, 84, 85, 86, 87, 88, 89, 90, 91, 92, 93, 94, 95, 96, 97, 98, 99, 100] rfl (by decide +kernel)
set_option maxRecDepth 20000 in
theorem gX9_about_X9_many : GoodIn wsX9_about (wsV RX9 373 RX9 yX9_many wsX9_many) := goodIn_app (goodIn_r _ [10, 11, 12, 13] rfl (by decide +kernel)) ggX9_about_X9_many
set_option maxRecDepth 20000 in
theorem ggX9_about_X9_cattery : GoodIn wsX9_about wsX9_cattery := goodIn_r _ [19, 20, 8, 34, 35, 36, 37, 38, 39, 40, 41, 42, 43, 44, 45, 46, 47, 48, 49, 50, 51, 52, 53, 54, 55, 56, 57, 58, 59, 60, 61, 62, 63, 64, 65, 66, 67, 68, 69, 70, 71, 72, 73, 74, 75, 76, 77, 78, 79, 80, 81, 82, 83, 84, 85, 86, 87, 88, 89, 90, 91, 92, 93, 94, 95, 96, 97, 98, 99, 100] rfl (by decide +kernel)
set_option maxRecDepth 20000 in
theorem gX9_about_X9_cattery : GoodIn wsX9_about (wsV RX9 380 RX9 yX9_cattery wsX9_cattery) := goodIn_app (goodIn_r _ [16, 17, 18, 13] rfl (by decide +kernel)) ggX9_about_X9_cattery
set_option maxRecDepth 20000 in
theorem ggX9_about_X9_chambers : GoodIn wsX9_about wsX9_chambers := goodIn_r _ [24, 25, 8, 34, 35, 36, 37, 38, 39, 40, 41, 42, 43, 44, 45, 46, 47, 48, 49, 50, 51, 52, 53, 54, 55, 56, 57, 58, 59, 60, 61, 62, 63, 64, 65, 66, 67, 68, 69, 70, 71, 72, 73, 74, 75, 76, 77, 78, 79, 80, 81, 82, 83, 84, 85, 86, 87, 88, 89, 90, 91, 92, 93, 94, 95, 96, 97, 98, 99, 100] rfl (by decide +kernel)
set_option maxRecDepth 20000 in
theorem gX9_about_X9_chambers : GoodIn wsX9_about (wsV RX9 383 RX9 yX9_chambers wsX9_chambers) := goodIn_app (goodIn_r _ [21, 22, 23, 13] rfl (by decide +kernel)) ggX9_about_X9_chambers
set_option maxRecDepth 20000 in
theorem ggX9_about_X9_thoseOut : GoodIn wsX9_about wsX9_thoseOut := goodIn_r _ [29, 10, 11, 12, 13, 14, 15, 8, 30, 31, 32, 33, 1, 34, 35, 36, 37, 38, 39, 40, 41, 42, 43, 44, 45, 46, 47, 48, 49, 50, 51, 52, 53, 54, 55, 56, 57, 58, 59, 60, 61, 62, 63, 64, 65, 66, 67, 68, 69, 70, 71, 72, 73, 74, 75, 76, 77, 78, 79, 80, 81, 82, 83, 84, 85, 86, 87, 88, 89, 90, 91, 92, 93, 94, 95, 96, 97, 98, 99, 100] rfl (by decide +kernel)
set_option maxRecDepth 20000 in
theorem gX9_about_X9_thoseOut : GoodIn wsX9_about (wsV RX9 544 RX9 yX9_thoseOut wsX9_thoseOut) := goodIn_app (goodIn_r _ [26, 27, 28, 13] rfl (by decide +kernel)) ggX9_about_X9_thoseOut
theorem dX9_about_0 : decode cX9_about 0 = .ok (.iload_n 1, 1) := by decide +kernel
theorem dX9_about_1 : decode cX9_about 1 = .ok (.tableswitch 155 0 13 #[71, 76, 81, 86, 94, 99, 107, 115, 120, 125, 130, 135, 140, 150], 71) := by decide +kernel
theorem dX9_about_72 : decode cX9_about 72 = .ok (.aload_n 0, 1) := by decide +kernel
theorem dX9_about_73 : decode cX9_about 73 = .ok (.invokevirtual 373, 3) := by decide +kernel
theorem dX9_about_76 : decode cX9_about 76 = .ok (.ireturn, 1) := by decide +kernel
theorem dX9_about_77 : decode cX9_about 77 = .ok (.aload_n 0, 1) := by decide +kernel
theorem dX9_about_78 : decode cX9_about 78 = .ok (.invokevirtual 380, 3) := by decide +kernel
theorem dX9_about_81 : decode cX9_about 81 = .ok (.ireturn, 1) := by decide +kernel
theorem dX9_about_82 : decode cX9_about 82 = .ok (.aload_n 0, 1) := by decide +kernel
theorem dX9_about_83 : decode cX9_about 83 = .ok (.invokevirtual 383, 3) := by decide +kernel
theorem dX9_about_86 : decode cX9_about 86 = .ok (.ireturn, 1) := by decide +kernel
theorem dX9_about_87 : decode cX9_about 87 = .ok (.aload_n 0, 1) := by decide +kernel
theorem dX9_about_88 : decode cX9_about 88 = .ok (.getfield 94, 3) := by decide +kernel
theorem dX9_about_91 : decode cX9_about 91 = .ok (.bipush 36, 2) := by decide +kernel
theorem dX9_about_93 : decode cX9_about 93 = .ok (.iaload, 1) := by decide +kernel
theorem dX9_about_94 : decode cX9_about 94 = .ok (.ireturn, 1) := by decide +kernel
theorem dX9_about_95 : decode cX9_about 95 = .ok (.aload_n 0, 1) := by decide +kernel
theorem dX9_about_96 : decode cX9_about 96 = .ok (.invokevirtual 544, 3) := by decide +kernel
theorem dX9_about_99 : decode cX9_about 99 = .ok (.ireturn, 1) := by decide +kernel
theorem dX9_about_100 : decode cX9_about 100 = .ok (.aload_n 0, 1) := by decide +kernel
theorem dX9_about_101 : decode cX9_about 101 = .ok (.getfield 94, 3) := by decide +kernel
theorem dX9_about_104 : decode cX9_about 104 = .ok (.bipush 37, 2) := by decide +kernel
theorem dX9_about_106 : decode cX9_about 106 = .ok (.iaload, 1) := by decide +kernel
theorem dX9_about_107 : decode cX9_about 107 = .ok (.ireturn, 1) := by decide +kernel
theorem dX9_about_108 : decode cX9_about 108 = .ok (.aload_n 0, 1) := by decide +kernel
theorem dX9_about_109 : decode cX9_about 109 = .ok (.getfield 94, 3) := by decide +kernel
theorem dX9_about_112 : decode cX9_about 112 = .ok (.bipush 38, 2) := by decide +kernel
theorem dX9_about_114 : decode cX9_about 114 = .ok (.iaload, 1) := by decide +kernel
theorem dX9_about_115 : decode cX9_about 115 = .ok (.ireturn, 1) := by decide +kernel
theorem dX9_about_116 : decode cX9_about 116 = .ok (.aload_n 0, 1) := by decide +kernel
theorem dX9_about_117 : decode cX9_about 117 = .ok (.getfield 398, 3) := by decide +kernel
theorem dX9_about_120 : decode cX9_about 120 = .ok (.ireturn, 1) := by decide +kernel
theorem dX9_about_121 : decode cX9_about 121 = .ok (.aload_n 0, 1) := by decide +kernel
theorem dX9_about_122 : decode cX9_about 122 = .ok (.getfield 401, 3) := by decide +kernel
theorem dX9_about_125 : decode cX9_about 125 = .ok (.ireturn, 1) := by decide +kernel
theorem dX9_about_126 : decode cX9_about 126 = .ok (.aload_n 0, 1) := by decide +kernel
theorem dX9_about_127 : decode cX9_about 127 = .ok (.getfield 404, 3) := by decide +kernel
theorem dX9_about_130 : decode cX9_about 130 = .ok (.ireturn, 1) := by decide +kernel
theorem dX9_about_131 : decode cX9_about 131 = .ok (.aload_n 0, 1) := by decide +kernel
theorem dX9_about_132 : decode cX9_about 132 = .ok (.getfield 532, 3) := by decide +kernel
theorem dX9_about_135 : decode cX9_about 135 = .ok (.ireturn, 1) := by decide +kernel
theorem dX9_about_136 : decode cX9_about 136 = .ok (.aload_n 0, 1) := by decide +kernel
theorem dX9_about_137 : decode cX9_about 137 = .ok (.getfield 265, 3) := by decide +kernel
theorem dX9_about_140 : decode cX9_about 140 = .ok (.ireturn, 1) := by decide +kernel
theorem dX9_about_141 : decode cX9_about 141 = .ok (.aload_n 0, 1) := by decide +kernel
theorem dX9_about_142 : decode cX9_about 142 = .ok (.getfield 30, 3) := by decide +kernel
theorem dX9_about_145 : decode cX9_about 145 = .ok (.aload_n 0, 1) := by decide +kernel
theorem dX9_about_146 : decode cX9_about 146 = .ok (.getfield 268, 3) := by decide +kernel
theorem dX9_about_149 : decode cX9_about 149 = .ok (.iaload, 1) := by decide +kernel
theorem dX9_about_150 : decode cX9_about 150 = .ok (.ireturn, 1) := by decide +kernel
theorem dX9_about_151 : decode cX9_about 151 = .ok (.aload_n 0, 1) := by decide +kernel
theorem dX9_about_152 : decode cX9_about 152 = .ok (.getfield 407, 3) := by decide +kernel
theorem dX9_about_155 : decode cX9_about 155 = .ok (.ireturn, 1) := by decide +kernel
theorem dX9_about_156 : decode cX9_about 156 = .ok (.iconst (-1), 1) := by decide +kernel
theorem dX9_about_157 : decode cX9_about 157 = .ok (.ireturn, 1) := by decide +kernel
theorem dX9_feed_0 : decode cX9_feed 0 = .ok (.aload_n 0, 1) := by decide +kernel
theorem dX9_feed_1 : decode cX9_feed 1 = .ok (.getfield 265, 3) := by decide +kernel
theorem dX9_feed_4 : decode cX9_feed 4 = .ok (.bipush 20, 2) := by decide +kernel
theorem dX9_feed_6 : decode cX9_feed 6 = .ok (.iadd, 1) := by decide +kernel
theorem dX9_feed_7 : decode cX9_feed 7 = .ok (.sipush 1600, 3) := by decide +kernel
theorem dX9_feed_10 : decode cX9_feed 10 = .ok (.if_icmp .le 5, 3) := by decide +kernel
theorem dX9_feed_13 : decode cX9_feed 13 = .ok (.iconst (-1), 1) := by decide +kernel
theorem dX9_feed_14 : decode cX9_feed 14 = .ok (.ireturn, 1) := by decide +kernel
theorem dX9_feed_15 : decode cX9_feed 15 = .ok (.iconst 0, 1) := by decide +kernel
theorem dX9_feed_16 : decode cX9_feed 16 = .ok (.istore 6, 2) := by decide +kernel
theorem dX9_feed_18 : decode cX9_feed 18 = .ok (.iload 6, 2) := by decide +kernel
theorem dX9_feed_20 : decode cX9_feed 20 = .ok (.bipush 20, 2) := by decide +kernel
theorem dX9_feed_22 : decode cX9_feed 22 = .ok (.if_icmp .ge 83, 3) := by decide +kernel
theorem dX9_feed_25 : decode cX9_feed 25 = .ok (.iload 6, 2) := by decide +kernel
theorem dX9_feed_27 : decode cX9_feed 27 = .ok (.iconst 4, 1) := by decide +kernel
theorem dX9_feed_28 : decode cX9_feed 28 = .ok (.if_icmp .ge 7, 3) := by decide +kernel
theorem dX9_feed_31 : decode cX9_feed 31 = .ok (.iload_n 1, 1) := by decide +kernel
theorem dX9_feed_32 : decode cX9_feed 32 = .ok (.goto 39, 3) := by decide +kernel
theorem dX9_feed_35 : decode cX9_feed 35 = .ok (.iload 6, 2) := by decide +kernel
theorem dX9_feed_37 : decode cX9_feed 37 = .ok (.bipush 8, 2) := by decide +kernel
theorem dX9_feed_39 : decode cX9_feed 39 = .ok (.if_icmp .ge 7, 3) := by decide +kernel
theorem dX9_feed_42 : decode cX9_feed 42 = .ok (.iload_n 2, 1) := by decide +kernel
theorem dX9_feed_43 : decode cX9_feed 43 = .ok (.goto 28, 3) := by decide +kernel
theorem dX9_feed_46 : decode cX9_feed 46 = .ok (.iload 6, 2) := by decide +kernel
theorem dX9_feed_48 : decode cX9_feed 48 = .ok (.bipush 12, 2) := by decide +kernel
theorem dX9_feed_50 : decode cX9_feed 50 = .ok (.if_icmp .ge 7, 3) := by decide +kernel
theorem dX9_feed_53 : decode cX9_feed 53 = .ok (.iload_n 3, 1) := by decide +kernel
theorem dX9_feed_54 : decode cX9_feed 54 = .ok (.goto 17, 3) := by decide +kernel
theorem dX9_feed_57 : decode cX9_feed 57 = .ok (.iload 6, 2) := by decide +kernel
theorem dX9_feed_59 : decode cX9_feed 59 = .ok (.bipush 16, 2) := by decide +kernel
theorem dX9_feed_61 : decode cX9_feed 61 = .ok (.if_icmp .ge 8, 3) := by decide +kernel
theorem dX9_feed_64 : decode cX9_feed 64 = .ok (.iload 4, 2) := by decide +kernel
theorem dX9_feed_66 : decode cX9_feed 66 = .ok (.goto 5, 3) := by decide +kernel
theorem dX9_feed_69 : decode cX9_feed 69 = .ok (.iload 5, 2) := by decide +kernel
theorem dX9_feed_71 : decode cX9_feed 71 = .ok (.istore 7, 2) := by decide +kernel
theorem dX9_feed_73 : decode cX9_feed 73 = .ok (.aload_n 0, 1) := by decide +kernel
theorem dX9_feed_74 : decode cX9_feed 74 = .ok (.getfield 7, 3) := by decide +kernel
theorem dX9_feed_77 : decode cX9_feed 77 = .ok (.aload_n 0, 1) := by decide +kernel
theorem dX9_feed_78 : decode cX9_feed 78 = .ok (.getfield 265, 3) := by decide +kernel
theorem dX9_feed_81 : decode cX9_feed 81 = .ok (.iload 6, 2) := by decide +kernel
theorem dX9_feed_83 : decode cX9_feed 83 = .ok (.iadd, 1) := by decide +kernel
theorem dX9_feed_84 : decode cX9_feed 84 = .ok (.iload 7, 2) := by decide +kernel
theorem dX9_feed_86 : decode cX9_feed 86 = .ok (.bipush 24, 2) := by decide +kernel
theorem dX9_feed_88 : decode cX9_feed 88 = .ok (.bipush 8, 2) := by decide +kernel
theorem dX9_feed_90 : decode cX9_feed 90 = .ok (.iload 6, 2) := by decide +kernel
theorem dX9_feed_92 : decode cX9_feed 92 = .ok (.iconst 3, 1) := by decide +kernel
theorem dX9_feed_93 : decode cX9_feed 93 = .ok (.iand, 1) := by decide +kernel
theorem dX9_feed_94 : decode cX9_feed 94 = .ok (.imul, 1) := by decide +kernel
theorem dX9_feed_95 : decode cX9_feed 95 = .ok (.isub, 1) := by decide +kernel
theorem dX9_feed_96 : decode cX9_feed 96 = .ok (.ishr, 1) := by decide +kernel
theorem dX9_feed_97 : decode cX9_feed 97 = .ok (.i2b, 1) := by decide +kernel
theorem dX9_feed_98 : decode cX9_feed 98 = .ok (.bastore, 1) := by decide +kernel
theorem dX9_feed_99 : decode cX9_feed 99 = .ok (.iinc 6 1, 3) := by decide +kernel
theorem dX9_feed_102 : decode cX9_feed 102 = .ok (.goto (-84), 3) := by decide +kernel
theorem dX9_feed_105 : decode cX9_feed 105 = .ok (.aload_n 0, 1) := by decide +kernel
theorem dX9_feed_106 : decode cX9_feed 106 = .ok (.dup, 1) := by decide +kernel
theorem dX9_feed_107 : decode cX9_feed 107 = .ok (.getfield 265, 3) := by decide +kernel
theorem dX9_feed_110 : decode cX9_feed 110 = .ok (.bipush 20, 2) := by decide +kernel
theorem dX9_feed_112 : decode cX9_feed 112 = .ok (.iadd, 1) := by decide +kernel
theorem dX9_feed_113 : decode cX9_feed 113 = .ok (.putfield 265, 3) := by decide +kernel
theorem dX9_feed_116 : decode cX9_feed 116 = .ok (.aload_n 0, 1) := by decide +kernel
theorem dX9_feed_117 : decode cX9_feed 117 = .ok (.getfield 265, 3) := by decide +kernel
theorem dX9_feed_120 : decode cX9_feed 120 = .ok (.ireturn, 1) := by decide +kernel
theorem dX9_end_0 : decode cX9_end 0 = .ok (.iload_n 1, 1) := by decide +kernel
theorem dX9_end_1 : decode cX9_end 1 = .ok (.ifCond .lt 11, 3) := by decide +kernel
theorem dX9_end_4 : decode cX9_end 4 = .ok (.iload_n 1, 1) := by decide +kernel
theorem dX9_end_5 : decode cX9_end 5 = .ok (.aload_n 0, 1) := by decide +kernel
theorem dX9_end_6 : decode cX9_end 6 = .ok (.getfield 265, 3) := by decide +kernel
theorem dX9_end_9 : decode cX9_end 9 = .ok (.if_icmp .le 5, 3) := by decide +kernel
theorem dX9_end_12 : decode cX9_end 12 = .ok (.iconst (-1), 1) := by decide +kernel
theorem dX9_end_13 : decode cX9_end 13 = .ok (.ireturn, 1) := by decide +kernel
theorem dX9_end_14 : decode cX9_end 14 = .ok (.aload_n 0, 1) := by decide +kernel
theorem dX9_end_15 : decode cX9_end 15 = .ok (.iload_n 1, 1) := by decide +kernel
theorem dX9_end_16 : decode cX9_end 16 = .ok (.putfield 265, 3) := by decide +kernel
theorem dX9_end_19 : decode cX9_end 19 = .ok (.iload_n 1, 1) := by decide +kernel
theorem dX9_end_20 : decode cX9_end 20 = .ok (.ireturn, 1) := by decide +kernel
theorem iX9_many_X9 : ∀ w ∈ wsX90, w ∈ wsX9_many := (fun _ h => List.mem_cons_of_mem _ (List.mem_append_right _ h))
theorem iX9_cattery_X9 : ∀ w ∈ wsX90, w ∈ wsX9_cattery := (fun _ h => List.mem_cons_of_mem _ (List.mem_append_right _ h))
theorem iX9_chambers_X9 : ∀ w ∈ wsX90, w ∈ wsX9_chambers := (fun _ h => List.mem_cons_of_mem _ (List.mem_append_right _ h))
theorem iX9_lives_X9 : ∀ w ∈ wsX90, w ∈ wsX9_lives := (fun _ h => List.mem_cons_of_mem _ (List.mem_append_right _ h))
theorem iX9_keeperOf_X9 : ∀ w ∈ wsX90, w ∈ wsX9_keeperOf := (fun _ h => List.mem_cons_of_mem _ (List.mem_append_right _ h))
theorem iX9_isOut_X9 : ∀ w ∈ wsX90, w ∈ wsX9_isOut := (fun _ h => List.mem_cons_of_mem _ (List.mem_append_right _ h))
theorem iX9_isAtHome_X9 : ∀ w ∈ wsX90, w ∈ wsX9_isAtHome := (fun _ h => List.mem_cons_of_mem _ (List.mem_append_right _ h))
theorem iX9_whoIn_X9 : ∀ w ∈ wsX90, w ∈ wsX9_whoIn := (fun _ h => List.mem_cons_of_mem _ (List.mem_append_right _ h))
theorem iX9_thoseIn_X9 : ∀ w ∈ wsX90, w ∈ wsX9_thoseIn := (fun _ h => List.mem_cons_of_mem _ (List.mem_append_right _ h))
theorem iX9_wantsOf_X9 : ∀ w ∈ wsX90, w ∈ wsX9_wantsOf := (fun _ h => List.mem_cons_of_mem _ (List.mem_append_right _ h))
theorem iX9_asked_X9 : ∀ w ∈ wsX90, w ∈ wsX9_asked := (fun _ h => List.mem_cons_of_mem _ (List.mem_append_right _ h))
theorem iX9_fault_X9 : ∀ w ∈ wsX90, w ∈ wsX9_fault := (fun _ h => List.mem_cons_of_mem _ (List.mem_append_right _ h))
theorem iX9_lies_X9 : ∀ w ∈ wsX90, w ∈ wsX9_lies := (fun _ h => List.mem_cons_of_mem _ (List.mem_append_right _ h))
theorem iX9_about_X9 : ∀ w ∈ wsX90, w ∈ wsX9_about := (fun _ h => List.mem_cons_of_mem _ (List.mem_append_right _ h))
theorem iX9_cat_X9 : ∀ w ∈ wsX90, w ∈ wsX9_cat := (fun _ h => List.mem_cons_of_mem _ (List.mem_append_right _ h))
theorem iX9_tenant_X9 : ∀ w ∈ wsX90, w ∈ wsX9_tenant := (fun _ h => List.mem_cons_of_mem _ (List.mem_append_right _ h))
theorem iX9_feed_X9 : ∀ w ∈ wsX90, w ∈ wsX9_feed := (fun _ h => List.mem_cons_of_mem _ (List.mem_append_right _ h))
theorem iX9_end_X9 : ∀ w ∈ wsX90, w ∈ wsX9_end := (fun _ h => List.mem_cons_of_mem _ (List.mem_append_right _ h))
theorem iX9_seen_X9 : ∀ w ∈ wsX90, w ∈ wsX9_seen := (fun _ h => List.mem_cons_of_mem _ (List.mem_append_right _ h))
theorem iX9_untell_X9 : ∀ w ∈ wsX90, w ∈ wsX9_untell := (fun _ h => List.mem_cons_of_mem _ (List.mem_append_right _ h))
theorem iX9_later_X9 : ∀ w ∈ wsX90, w ∈ wsX9_later := (fun _ h => List.mem_cons_of_mem _ (List.mem_append_right _ h))
theorem iX9_isRest_X9 : ∀ w ∈ wsX90, w ∈ wsX9_isRest := (fun _ h => List.mem_cons_of_mem _ (List.mem_append_right _ h))
theorem iX9_heirOf_X9 : ∀ w ∈ wsX90, w ∈ wsX9_heirOf := (fun _ h => List.mem_cons_of_mem _ (List.mem_append_right _ h))
theorem iX9_comes_X9 : ∀ w ∈ wsX90, w ∈ wsX9_comes := (fun _ h => List.mem_cons_of_mem _ (List.mem_append_right _ h))
theorem iX9_likingBy_X9 : ∀ w ∈ wsX90, w ∈ wsX9_likingBy := (fun _ h => List.mem_cons_of_mem _ (List.mem_append_right _ h))
theorem iX9_likingIn_X9 : ∀ w ∈ wsX90, w ∈ wsX9_likingIn := (fun _ h => List.mem_cons_of_mem _ (List.mem_append_right _ h))
theorem iX9_likingNow_X9 : ∀ w ∈ wsX90, w ∈ wsX9_likingNow := (fun _ h => List.mem_cons_of_mem _ (List.mem_append_right _ h))
theorem iX9_law_X9 : ∀ w ∈ wsX90, w ∈ wsX9_law := (fun _ h => List.mem_cons_of_mem _ (List.mem_append_right _ h))
theorem iX9_purse_X9 : ∀ w ∈ wsX90, w ∈ wsX9_purse := (fun _ h => List.mem_cons_of_mem _ (List.mem_append_right _ h))
theorem iX9_crowd_X9 : ∀ w ∈ wsX90, w ∈ wsX9_crowd := (fun _ h => List.mem_cons_of_mem _ (List.mem_append_right _ h))
theorem iX9_layLet_X9 : ∀ w ∈ wsX90, w ∈ wsX9_layLet := (fun _ h => List.mem_cons_of_mem _ (List.mem_append_right _ h))
theorem iX9_letting_X9 : ∀ w ∈ wsX90, w ∈ wsX9_letting := (fun _ h => List.mem_cons_of_mem _ (List.mem_append_right _ h))
theorem iX9_swaps_X9 : ∀ w ∈ wsX90, w ∈ wsX9_swaps := (fun _ h => List.mem_cons_of_mem _ (List.mem_append_right _ h))
theorem iX9_isLikedWith_X9 : ∀ w ∈ wsX90, w ∈ wsX9_isLikedWith := (fun _ h => List.mem_cons_of_mem _ (List.mem_append_right _ h))
theorem iX9_layGood_X9 : ∀ w ∈ wsX90, w ∈ wsX9_layGood := (fun _ h => List.mem_cons_of_mem _ (List.mem_append_right _ h))
theorem iX9_bid_X9 : ∀ w ∈ wsX90, w ∈ wsX9_bid := (fun _ h => List.mem_cons_of_mem _ (List.mem_append_right _ h))
theorem iX9_goOut_X9 : ∀ w ∈ wsX90, w ∈ wsX9_goOut := (fun _ h => List.mem_cons_of_mem _ (List.mem_append_right _ h))
theorem iX9_goIn_X9 : ∀ w ∈ wsX90, w ∈ wsX9_goIn := (fun _ h => List.mem_cons_of_mem _ (List.mem_append_right _ h))
theorem iX9_goQuarter_X9 : ∀ w ∈ wsX90, w ∈ wsX9_goQuarter := (fun _ h => List.mem_cons_of_mem _ (List.mem_append_right _ h))
theorem iX9_goDie_X9 : ∀ w ∈ wsX90, w ∈ wsX9_goDie := (fun _ h => List.mem_cons_of_mem _ (List.mem_append_right _ h))
theorem iX9_goInEarnest_X9 : ∀ w ∈ wsX90, w ∈ wsX9_goInEarnest := (fun _ h => List.mem_cons_of_mem _ (List.mem_append_right _ h))
theorem iX9_odds_X9 : ∀ w ∈ wsX90, w ∈ wsX9_odds := (fun _ h => List.mem_cons_of_mem _ (List.mem_append_right _ h))
theorem iX9_keepNow_X9 : ∀ w ∈ wsX90, w ∈ wsX9_keepNow := (fun _ h => List.mem_cons_of_mem _ (List.mem_append_right _ h))
theorem iX9_bringBack_X9 : ∀ w ∈ wsX90, w ∈ wsX9_bringBack := (fun _ h => List.mem_cons_of_mem _ (List.mem_append_right _ h))
theorem iX9_haven_X9 : ∀ w ∈ wsX90, w ∈ wsX9_haven := (fun _ h => List.mem_cons_of_mem _ (List.mem_append_right _ h))
theorem iX9_will_X9 : ∀ w ∈ wsX90, w ∈ wsX9_will := (fun _ h => List.mem_cons_of_mem _ (List.mem_append_right _ h))
theorem iX9_keepAct_X9 : ∀ w ∈ wsX90, w ∈ wsX9_keepAct := (fun _ h => List.mem_cons_of_mem _ (List.mem_append_right _ h))
theorem iX9_swapAll_X9 : ∀ w ∈ wsX90, w ∈ wsX9_swapAll := (fun _ h => List.mem_cons_of_mem _ (List.mem_append_right _ h))
theorem iX9_undo_X9 : ∀ w ∈ wsX90, w ∈ wsX9_undo := (fun _ h => List.mem_cons_of_mem _ (List.mem_append_right _ h))
theorem iX9_redo_X9 : ∀ w ∈ wsX90, w ∈ wsX9_redo := (fun _ h => List.mem_cons_of_mem _ (List.mem_append_right _ h))
theorem iX9_quarter_X9 : ∀ w ∈ wsX90, w ∈ wsX9_quarter := (fun _ h => List.mem_cons_of_mem _ (List.mem_append_right _ h))
theorem iX9_move_X9 : ∀ w ∈ wsX90, w ∈ wsX9_move := (fun _ h => List.mem_cons_of_mem _ (List.mem_append_right _ h))
theorem iX9_leave_X9 : ∀ w ∈ wsX90, w ∈ wsX9_leave := (fun _ h => List.mem_cons_of_mem _ (List.mem_append_right _ h))
theorem iX9_exchange_X9 : ∀ w ∈ wsX90, w ∈ wsX9_exchange := (fun _ h => List.mem_cons_of_mem _ (List.mem_append_right _ h))
theorem iX9_tellAnew_X9 : ∀ w ∈ wsX90, w ∈ wsX9_tellAnew := (fun _ h => List.mem_cons_of_mem _ (List.mem_append_right _ h))
theorem iX9_claim_X9 : ∀ w ∈ wsX90, w ∈ wsX9_claim := (fun _ h => List.mem_cons_of_mem _ (List.mem_append_right _ h))
theorem iX9_image_X9 : ∀ w ∈ wsX90, w ∈ wsX9_image := (fun _ h => List.mem_cons_of_mem _ (List.mem_append_right _ h))
theorem iX9_back_X9 : ∀ w ∈ wsX90, w ∈ wsX9_back := (fun _ h => List.mem_cons_of_mem _ (List.mem_append_right _ h))
theorem iX9_layTold_X9 : ∀ w ∈ wsX90, w ∈ wsX9_layTold := (fun _ h => List.mem_cons_of_mem _ (List.mem_append_right _ h))
theorem iX9_startAnew_X9 : ∀ w ∈ wsX90, w ∈ wsX9_startAnew := (fun _ h => List.mem_cons_of_mem _ (List.mem_append_right _ h))
theorem iX9_clearBank_X9 : ∀ w ∈ wsX90, w ∈ wsX9_clearBank := (fun _ h => List.mem_cons_of_mem _ (List.mem_append_right _ h))
theorem iX9_layIns_X9 : ∀ w ∈ wsX90, w ∈ wsX9_layIns := (fun _ h => List.mem_cons_of_mem _ (List.mem_append_right _ h))
theorem iX9_doesFit_X9 : ∀ w ∈ wsX90, w ∈ wsX9_doesFit := (fun _ h => List.mem_cons_of_mem _ (List.mem_append_right _ h))
theorem iX9_ask_X9 : ∀ w ∈ wsX90, w ∈ wsX9_ask := (fun _ h => List.mem_cons_of_mem _ (List.mem_append_right _ h))
