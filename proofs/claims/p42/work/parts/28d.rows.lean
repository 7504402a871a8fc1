theorem dX9_purse_46 : decode cX9_purse 46 = .ok (.aload_n 0, 1) := by decide +kernel
theorem dX9_purse_47 : decode cX9_purse 47 = .ok (.getfield 94, 3) := by decide +kernel
theorem dX9_purse_50 : decode cX9_purse 50 = .ok (.bipush 22, 2) := by decide +kernel
theorem dX9_purse_52 : decode cX9_purse 52 = .ok (.iload 4, 2) := by decide +kernel
theorem dX9_purse_54 : decode cX9_purse 54 = .ok (.iadd, 1) := by decide +kernel
theorem dX9_purse_55 : decode cX9_purse 55 = .ok (.iaload, 1) := by decide +kernel
theorem dX9_purse_56 : decode cX9_purse 56 = .ok (.aload_n 0, 1) := by decide +kernel
theorem dX9_purse_57 : decode cX9_purse 57 = .ok (.getfield 42, 3) := by decide +kernel
theorem dX9_purse_60 : decode cX9_purse 60 = .ok (.bipush 6, 2) := by decide +kernel
theorem dX9_purse_62 : decode cX9_purse 62 = .ok (.aload_n 0, 1) := by decide +kernel
theorem dX9_purse_63 : decode cX9_purse 63 = .ok (.getfield 268, 3) := by decide +kernel
theorem dX9_purse_66 : decode cX9_purse 66 = .ok (.imul, 1) := by decide +kernel
theorem dX9_purse_67 : decode cX9_purse 67 = .ok (.iload_n 1, 1) := by decide +kernel
theorem dX9_purse_68 : decode cX9_purse 68 = .ok (.iadd, 1) := by decide +kernel
theorem dX9_purse_69 : decode cX9_purse 69 = .ok (.iaload, 1) := by decide +kernel
theorem dX9_purse_70 : decode cX9_purse 70 = .ok (.isub, 1) := by decide +kernel
theorem dX9_purse_71 : decode cX9_purse 71 = .ok (.goto 4, 3) := by decide +kernel
theorem dX9_purse_74 : decode cX9_purse 74 = .ok (.iconst 0, 1) := by decide +kernel
theorem dX9_purse_75 : decode cX9_purse 75 = .ok (.iadd, 1) := by decide +kernel
theorem dX9_purse_76 : decode cX9_purse 76 = .ok (.istore_n 3, 1) := by decide +kernel
theorem dX9_purse_77 : decode cX9_purse 77 = .ok (.iinc 4 1, 3) := by decide +kernel
theorem dX9_purse_80 : decode cX9_purse 80 = .ok (.goto (-53), 3) := by decide +kernel
theorem dX9_purse_83 : decode cX9_purse 83 = .ok (.iload_n 3, 1) := by decide +kernel
theorem dX9_purse_84 : decode cX9_purse 84 = .ok (.ireturn, 1) := by decide +kernel
set_option maxRecDepth 20000 in
theorem ggX9_fondest_X9_cattery : GoodIn wsX9_fondest wsX9_cattery := goodIn_r _ [5, 6, 7, 89, 90, 91, 92, 93, 94, 95, 96, 97, 98, 99, 100, 101, 102, 103, 104, 105, 106, 107, 108, 109, 110, 111, 112, 113, 114, 115, 116, 117, 118, 119, 120, 121, 122, 123, 124, 125, 126, 127, 128, 129, 130, 131, 132, 133, 134, 135, 136, 137, 138, 139, 140, 141, 142, 143, 144, 145, 146, 147, 148, 149, 150, 151, 152, 153, 154, 155] rfl (by decide +kernel)
set_option maxRecDepth 20000 in
theorem gX9_fondest_X9_cattery : GoodIn wsX9_fondest (wsV RX9 380 RX9 yX9_cattery wsX9_cattery) := goodIn_app (goodIn_r _ [1, 2, 3, 4] rfl (by decide +kernel)) ggX9_fondest_X9_cattery
set_option maxRecDepth 20000 in
theorem ggX9_fondest_X9_roomsOf : GoodIn wsX9_fondest wsX9_roomsOf := goodIn_r _ [11, 12, 13, 14, 4, 15, 16, 7, 17, 18, 19, 20, 21, 89, 90, 91, 92, 93, 94, 95, 96, 97, 98, 99, 100, 101, 102, 103, 104, 105, 106, 107, 108, 109, 110, 111, 112, 113, 114, 115, 116, 117, 118, 119, 120, 121, 122, 123, 124, 125, 126, 127, 128, 129, 130, 131, 132, 133, 134, 135, 136, 137, 138, 139, 140, 141, 142, 143, 144, 145, 146, 147, 148, 149, 150, 151, 152, 153, 154, 155] rfl (by decide +kernel)
set_option maxRecDepth 20000 in
theorem gX9_fondest_X9_roomsOf : GoodIn wsX9_fondest (wsV RX9 413 RX9 yX9_roomsOf wsX9_roomsOf) := goodIn_app (goodIn_r _ [8, 9, 10, 4] rfl (by decide +kernel)) ggX9_fondest_X9_roomsOf
set_option maxRecDepth 20000 in
theorem ggX9_fondest_X9_thoseIn : GoodIn wsX9_fondest wsX9_thoseIn := goodIn_r _ [25, 21, 26, 27, 28, 4, 29, 30, 7, 31, 32, 33, 34, 35, 36, 37, 89, 90, 91, 92, 93, 94, 95, 96, 97, 98, 99, 100, 101, 102, 103, 104, 105, 106, 107, 108, 109, 110, 111, 112, 113, 114, 115, 116, 117, 118, 119, 120, 121, 122, 123, 124, 125, 126, 127, 128, 129, 130, 131, 132, 133, 134, 135, 136, 137, 138, 139, 140, 141, 142, 143, 144, 145, 146, 147, 148, 149, 150, 151, 152, 153, 154, 155] rfl (by decide +kernel)
set_option maxRecDepth 20000 in
theorem gX9_fondest_X9_thoseIn : GoodIn wsX9_fondest (wsV RX9 459 RX9 yX9_thoseIn wsX9_thoseIn) := goodIn_app (goodIn_r _ [22, 23, 24, 4] rfl (by decide +kernel)) ggX9_fondest_X9_thoseIn
set_option maxRecDepth 20000 in
theorem ggX9_fondest_X9_many : GoodIn wsX9_fondest wsX9_many := goodIn_r _ [29, 30, 7, 89, 90, 91, 92, 93, 94, 95, 96, 97, 98, 99, 100, 101, 102, 103, 104, 105, 106, 107, 108, 109, 110, 111, 112, 113, 114, 115, 116, 117, 118, 119, 120, 121, 122, 123, 124, 125, 126, 127, 128, 129, 130, 131, 132, 133, 134, 135, 136, 137, 138, 139, 140, 141, 142, 143, 144, 145, 146, 147, 148, 149, 150, 151, 152, 153, 154, 155] rfl (by decide +kernel)
set_option maxRecDepth 20000 in
theorem gX9_fondest_X9_many : GoodIn wsX9_fondest (wsV RX9 373 RX9 yX9_many wsX9_many) := goodIn_app (goodIn_r _ [26, 27, 28, 4] rfl (by decide +kernel)) ggX9_fondest_X9_many
set_option maxRecDepth 20000 in
theorem ggX9_fondest_X9_bit : GoodIn wsX9_fondest wsX9_bit := goodIn_r _ [37] rfl (by decide +kernel)
set_option maxRecDepth 20000 in
theorem gX9_fondest_X9_bit : GoodIn wsX9_fondest (va_wsS RX9 274 yX9_bit wsX9_bit) := goodIn_app (goodIn_r _ [35, 36, 4] rfl (by decide +kernel)) ggX9_fondest_X9_bit
set_option maxRecDepth 20000 in
theorem ggX9_fondest_X9_likingNow : GoodIn wsX9_fondest wsX9_likingNow := goodIn_r _ [41, 21, 42, 43, 44, 4, 45, 46, 47, 48, 49, 50, 51, 52, 53, 54, 55, 7, 56, 17, 18, 19, 20, 57, 58, 59, 60, 61, 62, 63, 1, 2, 3, 5, 6, 8, 9, 10, 11, 12, 13, 14, 15, 16, 64, 65, 66, 35, 36, 37, 67, 68, 69, 70, 71, 72, 73, 74, 75, 76, 77, 78, 79, 80, 81, 82, 83, 84, 85, 89, 90, 91, 92, 93, 94, 95, 96, 97, 98, 99, 100, 101, 102, 103, 104, 105, 106, 107, 108, 109, 110, 111, 112, 113, 114, 115, 116, 117, 118, 119, 120, 121, 122, 123, 124, 125, 126, 127, 128, 129, 130, 131, 132, 133, 134, 135, 136, 137, 138, 139, 140, 141, 142, 143, 144, 145, 146, 147, 148, 149, 150, 151, 152, 153, 154, 155] rfl (by decide +kernel)
set_option maxRecDepth 20000 in
theorem gX9_fondest_X9_likingNow : GoodIn wsX9_fondest (wsV RX9 431 RX9 yX9_likingNow wsX9_likingNow) := goodIn_app (goodIn_r _ [38, 39, 40, 4] rfl (by decide +kernel)) ggX9_fondest_X9_likingNow
set_option maxRecDepth 20000 in
theorem ggX9_fondest_X9_held : GoodIn wsX9_fondest wsX9_held := goodIn_r _ [88] rfl (by decide +kernel)
set_option maxRecDepth 20000 in
theorem gX9_fondest_X9_held : GoodIn wsX9_fondest (va_wsS RX9 470 yX9_held wsX9_held) := goodIn_app (goodIn_r _ [86, 87, 4] rfl (by decide +kernel)) ggX9_fondest_X9_held
theorem dX9_fondest_0 : decode cX9_fondest 0 = .ok (.iconst (-1), 1) := by decide +kernel
theorem dX9_fondest_1 : decode cX9_fondest 1 = .ok (.istore_n 1, 1) := by decide +kernel
theorem dX9_fondest_2 : decode cX9_fondest 2 = .ok (.iconst 0, 1) := by decide +kernel
theorem dX9_fondest_3 : decode cX9_fondest 3 = .ok (.istore_n 2, 1) := by decide +kernel
theorem dX9_fondest_4 : decode cX9_fondest 4 = .ok (.iconst 0, 1) := by decide +kernel
theorem dX9_fondest_5 : decode cX9_fondest 5 = .ok (.istore_n 3, 1) := by decide +kernel
theorem dX9_fondest_6 : decode cX9_fondest 6 = .ok (.iload_n 3, 1) := by decide +kernel
theorem dX9_fondest_7 : decode cX9_fondest 7 = .ok (.aload_n 0, 1) := by decide +kernel
theorem dX9_fondest_8 : decode cX9_fondest 8 = .ok (.invokevirtual 380, 3) := by decide +kernel
theorem dX9_fondest_11 : decode cX9_fondest 11 = .ok (.if_icmp .ge 92, 3) := by decide +kernel
theorem dX9_fondest_14 : decode cX9_fondest 14 = .ok (.aload_n 0, 1) := by decide +kernel
theorem dX9_fondest_15 : decode cX9_fondest 15 = .ok (.aload_n 0, 1) := by decide +kernel
theorem dX9_fondest_16 : decode cX9_fondest 16 = .ok (.iload_n 3, 1) := by decide +kernel
theorem dX9_fondest_17 : decode cX9_fondest 17 = .ok (.invokevirtual 413, 3) := by decide +kernel
theorem dX9_fondest_20 : decode cX9_fondest 20 = .ok (.invokevirtual 459, 3) := by decide +kernel
theorem dX9_fondest_23 : decode cX9_fondest 23 = .ok (.istore 4, 2) := by decide +kernel
theorem dX9_fondest_25 : decode cX9_fondest 25 = .ok (.iconst 0, 1) := by decide +kernel
theorem dX9_fondest_26 : decode cX9_fondest 26 = .ok (.istore 5, 2) := by decide +kernel
theorem dX9_fondest_28 : decode cX9_fondest 28 = .ok (.iconst 0, 1) := by decide +kernel
theorem dX9_fondest_29 : decode cX9_fondest 29 = .ok (.istore 6, 2) := by decide +kernel
theorem dX9_fondest_31 : decode cX9_fondest 31 = .ok (.iload 6, 2) := by decide +kernel
theorem dX9_fondest_33 : decode cX9_fondest 33 = .ok (.aload_n 0, 1) := by decide +kernel
theorem dX9_fondest_34 : decode cX9_fondest 34 = .ok (.invokevirtual 373, 3) := by decide +kernel
theorem dX9_fondest_37 : decode cX9_fondest 37 = .ok (.if_icmp .ge 37, 3) := by decide +kernel
theorem dX9_fondest_40 : decode cX9_fondest 40 = .ok (.iload 5, 2) := by decide +kernel
theorem dX9_fondest_42 : decode cX9_fondest 42 = .ok (.iload 4, 2) := by decide +kernel
theorem dX9_fondest_44 : decode cX9_fondest 44 = .ok (.iload 6, 2) := by decide +kernel
theorem dX9_fondest_46 : decode cX9_fondest 46 = .ok (.invokestatic 274, 3) := by decide +kernel
theorem dX9_fondest_49 : decode cX9_fondest 49 = .ok (.ifCond .eq 15, 3) := by decide +kernel
theorem dX9_fondest_52 : decode cX9_fondest 52 = .ok (.aload_n 0, 1) := by decide +kernel
theorem dX9_fondest_53 : decode cX9_fondest 53 = .ok (.iload 6, 2) := by decide +kernel
theorem dX9_fondest_55 : decode cX9_fondest 55 = .ok (.invokevirtual 431, 3) := by decide +kernel
theorem dX9_fondest_58 : decode cX9_fondest 58 = .ok (.invokestatic 470, 3) := by decide +kernel
theorem dX9_fondest_61 : decode cX9_fondest 61 = .ok (.goto 4, 3) := by decide +kernel
theorem dX9_fondest_64 : decode cX9_fondest 64 = .ok (.iconst 0, 1) := by decide +kernel
theorem dX9_fondest_65 : decode cX9_fondest 65 = .ok (.iadd, 1) := by decide +kernel
theorem dX9_fondest_66 : decode cX9_fondest 66 = .ok (.istore 5, 2) := by decide +kernel
theorem dX9_fondest_68 : decode cX9_fondest 68 = .ok (.iinc 6 1, 3) := by decide +kernel
theorem dX9_fondest_71 : decode cX9_fondest 71 = .ok (.goto (-40), 3) := by decide +kernel
theorem dX9_fondest_74 : decode cX9_fondest 74 = .ok (.iload 4, 2) := by decide +kernel
theorem dX9_fondest_76 : decode cX9_fondest 76 = .ok (.ifCond .eq 21, 3) := by decide +kernel
theorem dX9_fondest_79 : decode cX9_fondest 79 = .ok (.iload_n 1, 1) := by decide +kernel
theorem dX9_fondest_80 : decode cX9_fondest 80 = .ok (.ifCond .lt 12, 3) := by decide +kernel
theorem dX9_fondest_83 : decode cX9_fondest 83 = .ok (.iload 5, 2) := by decide +kernel
theorem dX9_fondest_85 : decode cX9_fondest 85 = .ok (.iload_n 2, 1) := by decide +kernel
theorem dX9_fondest_86 : decode cX9_fondest 86 = .ok (.if_icmp .gt 6, 3) := by decide +kernel
theorem dX9_fondest_89 : decode cX9_fondest 89 = .ok (.goto 8, 3) := by decide +kernel
theorem dX9_fondest_92 : decode cX9_fondest 92 = .ok (.iload_n 3, 1) := by decide +kernel
theorem dX9_fondest_93 : decode cX9_fondest 93 = .ok (.istore_n 1, 1) := by decide +kernel
theorem dX9_fondest_94 : decode cX9_fondest 94 = .ok (.iload 5, 2) := by decide +kernel
theorem dX9_fondest_96 : decode cX9_fondest 96 = .ok (.istore_n 2, 1) := by decide +kernel
theorem dX9_fondest_97 : decode cX9_fondest 97 = .ok (.iinc 3 1, 3) := by decide +kernel
theorem dX9_fondest_100 : decode cX9_fondest 100 = .ok (.goto (-94), 3) := by decide +kernel
theorem dX9_fondest_103 : decode cX9_fondest 103 = .ok (.iload_n 1, 1) := by decide +kernel
theorem dX9_fondest_104 : decode cX9_fondest 104 = .ok (.ireturn, 1) := by decide +kernel
set_option maxRecDepth 20000 in
theorem ggX9_nobodys_X9_many : GoodIn wsX9_nobodys wsX9_many := goodIn_r _ [5, 6, 7, 74, 75, 76, 77, 78, 79, 80, 81, 82, 83, 84, 85, 86, 87, 88, 89, 90, 91, 92, 93, 94, 95, 96, 97, 98, 99, 100, 101, 102, 103, 104, 105, 106, 107, 108, 109, 110, 111, 112, 113, 114, 115, 116, 117, 118, 119, 120, 121, 122, 123, 124, 125, 126, 127, 128, 129, 130, 131, 132, 133, 134, 135, 136, 137, 138, 139, 140] rfl (by decide +kernel)
set_option maxRecDepth 20000 in
theorem gX9_nobodys_X9_many : GoodIn wsX9_nobodys (wsV RX9 373 RX9 yX9_many wsX9_many) := goodIn_app (goodIn_r _ [1, 2, 3, 4] rfl (by decide +kernel)) ggX9_nobodys_X9_many
set_option maxRecDepth 20000 in
theorem ggX9_nobodys_X9_chambers : GoodIn wsX9_nobodys wsX9_chambers := goodIn_r _ [11, 12, 7, 74, 75, 76, 77, 78, 79, 80, 81, 82, 83, 84, 85, 86, 87, 88, 89, 90, 91, 92, 93, 94, 95, 96, 97, 98, 99, 100, 101, 102, 103, 104, 105, 106, 107, 108, 109, 110, 111, 112, 113, 114, 115, 116, 117, 118, 119, 120, 121, 122, 123, 124, 125, 126, 127, 128, 129, 130, 131, 132, 133, 134, 135, 136, 137, 138, 139, 140] rfl (by decide +kernel)
set_option maxRecDepth 20000 in
theorem gX9_nobodys_X9_chambers : GoodIn wsX9_nobodys (wsV RX9 383 RX9 yX9_chambers wsX9_chambers) := goodIn_app (goodIn_r _ [8, 9, 10, 4] rfl (by decide +kernel)) ggX9_nobodys_X9_chambers
set_option maxRecDepth 20000 in
theorem ggX9_nobodys_X9_keeperOf : GoodIn wsX9_nobodys wsX9_keeperOf := goodIn_r _ [16, 17, 74, 75, 76, 77, 78, 79, 80, 81, 82, 83, 84, 85, 86, 87, 88, 89, 90, 91, 92, 93, 94, 95, 96, 97, 98, 99, 100, 101, 102, 103, 104, 105, 106, 107, 108, 109, 110, 111, 112, 113, 114, 115, 116, 117, 118, 119, 120, 121, 122, 123, 124, 125, 126, 127, 128, 129, 130, 131, 132, 133, 134, 135, 136, 137, 138, 139, 140] rfl (by decide +kernel)
set_option maxRecDepth 20000 in
theorem gX9_nobodys_X9_keeperOf : GoodIn wsX9_nobodys (wsV RX9 392 RX9 yX9_keeperOf wsX9_keeperOf) := goodIn_app (goodIn_r _ [13, 14, 15, 4] rfl (by decide +kernel)) ggX9_nobodys_X9_keeperOf
set_option maxRecDepth 20000 in
theorem ggX9_nobodys_X9_likingIn : GoodIn wsX9_nobodys wsX9_likingIn := goodIn_r _ [21, 17, 22, 23, 24, 4, 25, 26, 27, 28, 29, 30, 31, 7, 32, 13, 14, 15, 16, 33, 34, 35, 36, 37, 38, 39, 40, 41, 42, 43, 44, 45, 46, 47, 48, 8, 9, 10, 11, 12, 49, 50, 51, 52, 53, 54, 55, 56, 57, 58, 59, 60, 61, 62, 63, 64, 65, 66, 67, 68, 69, 70, 71, 72, 73, 74, 75, 76, 77, 78, 79, 80, 81, 82, 83, 84, 85, 86, 87, 88, 89, 90, 91, 92, 93, 94, 95, 96, 97, 98, 99, 100, 101, 102, 103, 104, 105, 106, 107, 108, 109, 110, 111, 112, 113, 114, 115, 116, 117, 118, 119, 120, 121, 122, 123, 124, 125, 126, 127, 128, 129, 130, 131, 132, 133, 134, 135, 136, 137, 138, 139, 140] rfl (by decide +kernel)
set_option maxRecDepth 20000 in
theorem gX9_nobodys_X9_likingIn : GoodIn wsX9_nobodys (wsV RX9 425 RX9 yX9_likingIn wsX9_likingIn) := goodIn_app (goodIn_r _ [18, 19, 20, 4] rfl (by decide +kernel)) ggX9_nobodys_X9_likingIn
theorem dX9_nobodys_0 : decode cX9_nobodys 0 = .ok (.iconst 0, 1) := by decide +kernel
theorem dX9_nobodys_1 : decode cX9_nobodys 1 = .ok (.istore_n 1, 1) := by decide +kernel
theorem dX9_nobodys_2 : decode cX9_nobodys 2 = .ok (.iconst 0, 1) := by decide +kernel
theorem dX9_nobodys_3 : decode cX9_nobodys 3 = .ok (.istore_n 2, 1) := by decide +kernel
theorem dX9_nobodys_4 : decode cX9_nobodys 4 = .ok (.iload_n 2, 1) := by decide +kernel
theorem dX9_nobodys_5 : decode cX9_nobodys 5 = .ok (.aload_n 0, 1) := by decide +kernel
theorem dX9_nobodys_6 : decode cX9_nobodys 6 = .ok (.invokevirtual 373, 3) := by decide +kernel
theorem dX9_nobodys_9 : decode cX9_nobodys 9 = .ok (.if_icmp .ge 68, 3) := by decide +kernel
theorem dX9_nobodys_12 : decode cX9_nobodys 12 = .ok (.iconst 1, 1) := by decide +kernel
theorem dX9_nobodys_13 : decode cX9_nobodys 13 = .ok (.istore_n 3, 1) := by decide +kernel
theorem dX9_nobodys_14 : decode cX9_nobodys 14 = .ok (.iconst 0, 1) := by decide +kernel
theorem dX9_nobodys_15 : decode cX9_nobodys 15 = .ok (.istore 4, 2) := by decide +kernel
theorem dX9_nobodys_17 : decode cX9_nobodys 17 = .ok (.iload 4, 2) := by decide +kernel
theorem dX9_nobodys_19 : decode cX9_nobodys 19 = .ok (.aload_n 0, 1) := by decide +kernel
theorem dX9_nobodys_20 : decode cX9_nobodys 20 = .ok (.invokevirtual 383, 3) := by decide +kernel
theorem dX9_nobodys_23 : decode cX9_nobodys 23 = .ok (.if_icmp .ge 38, 3) := by decide +kernel
theorem dX9_nobodys_26 : decode cX9_nobodys 26 = .ok (.iload_n 3, 1) := by decide +kernel
theorem dX9_nobodys_27 : decode cX9_nobodys 27 = .ok (.ifCond .eq 26, 3) := by decide +kernel
theorem dX9_nobodys_30 : decode cX9_nobodys 30 = .ok (.aload_n 0, 1) := by decide +kernel
theorem dX9_nobodys_31 : decode cX9_nobodys 31 = .ok (.iload 4, 2) := by decide +kernel
theorem dX9_nobodys_33 : decode cX9_nobodys 33 = .ok (.invokevirtual 392, 3) := by decide +kernel
theorem dX9_nobodys_36 : decode cX9_nobodys 36 = .ok (.ifCond .lt 13, 3) := by decide +kernel
theorem dX9_nobodys_39 : decode cX9_nobodys 39 = .ok (.aload_n 0, 1) := by decide +kernel
theorem dX9_nobodys_40 : decode cX9_nobodys 40 = .ok (.iload_n 2, 1) := by decide +kernel
theorem dX9_nobodys_41 : decode cX9_nobodys 41 = .ok (.iload 4, 2) := by decide +kernel
theorem dX9_nobodys_43 : decode cX9_nobodys 43 = .ok (.invokevirtual 425, 3) := by decide +kernel
theorem dX9_nobodys_46 : decode cX9_nobodys 46 = .ok (.ifCond .gt 7, 3) := by decide +kernel
theorem dX9_nobodys_49 : decode cX9_nobodys 49 = .ok (.iconst 1, 1) := by decide +kernel
theorem dX9_nobodys_50 : decode cX9_nobodys 50 = .ok (.goto 4, 3) := by decide +kernel
theorem dX9_nobodys_53 : decode cX9_nobodys 53 = .ok (.iconst 0, 1) := by decide +kernel
theorem dX9_nobodys_54 : decode cX9_nobodys 54 = .ok (.istore_n 3, 1) := by decide +kernel
theorem dX9_nobodys_55 : decode cX9_nobodys 55 = .ok (.iinc 4 1, 3) := by decide +kernel
theorem dX9_nobodys_58 : decode cX9_nobodys 58 = .ok (.goto (-41), 3) := by decide +kernel
theorem dX9_nobodys_61 : decode cX9_nobodys 61 = .ok (.iload_n 3, 1) := by decide +kernel
theorem dX9_nobodys_62 : decode cX9_nobodys 62 = .ok (.ifCond .eq 9, 3) := by decide +kernel
theorem dX9_nobodys_65 : decode cX9_nobodys 65 = .ok (.iload_n 1, 1) := by decide +kernel
theorem dX9_nobodys_66 : decode cX9_nobodys 66 = .ok (.iconst 1, 1) := by decide +kernel
theorem dX9_nobodys_67 : decode cX9_nobodys 67 = .ok (.iload_n 2, 1) := by decide +kernel
theorem dX9_nobodys_68 : decode cX9_nobodys 68 = .ok (.ishl, 1) := by decide +kernel
theorem dX9_nobodys_69 : decode cX9_nobodys 69 = .ok (.ior, 1) := by decide +kernel
theorem dX9_nobodys_70 : decode cX9_nobodys 70 = .ok (.istore_n 1, 1) := by decide +kernel
theorem dX9_nobodys_71 : decode cX9_nobodys 71 = .ok (.iinc 2 1, 3) := by decide +kernel
theorem dX9_nobodys_74 : decode cX9_nobodys 74 = .ok (.goto (-70), 3) := by decide +kernel
theorem dX9_nobodys_77 : decode cX9_nobodys 77 = .ok (.iload_n 1, 1) := by decide +kernel
theorem dX9_nobodys_78 : decode cX9_nobodys 78 = .ok (.ireturn, 1) := by decide +kernel
theorem dX9_keepAct_0 : decode cX9_keepAct 0 = .ok (.aload_n 0, 1) := by decide +kernel
theorem dX9_keepAct_1 : decode cX9_keepAct 1 = .ok (.getfield 398, 3) := by decide +kernel
theorem dX9_keepAct_4 : decode cX9_keepAct 4 = .ok (.bipush 40, 2) := by decide +kernel
theorem dX9_keepAct_6 : decode cX9_keepAct 6 = .ok (.if_icmp .ne 43, 3) := by decide +kernel
theorem dX9_keepAct_9 : decode cX9_keepAct 9 = .ok (.iconst 0, 1) := by decide +kernel
theorem dX9_keepAct_10 : decode cX9_keepAct 10 = .ok (.istore_n 1, 1) := by decide +kernel
theorem dX9_keepAct_11 : decode cX9_keepAct 11 = .ok (.iload_n 1, 1) := by decide +kernel
theorem dX9_keepAct_12 : decode cX9_keepAct 12 = .ok (.sipush 1560, 3) := by decide +kernel
theorem dX9_keepAct_15 : decode cX9_keepAct 15 = .ok (.if_icmp .ge 24, 3) := by decide +kernel
theorem dX9_keepAct_18 : decode cX9_keepAct 18 = .ok (.aload_n 0, 1) := by decide +kernel
theorem dX9_keepAct_19 : decode cX9_keepAct 19 = .ok (.getfield 106, 3) := by decide +kernel
theorem dX9_keepAct_22 : decode cX9_keepAct 22 = .ok (.iload_n 1, 1) := by decide +kernel
theorem dX9_keepAct_23 : decode cX9_keepAct 23 = .ok (.aload_n 0, 1) := by decide +kernel
theorem dX9_keepAct_24 : decode cX9_keepAct 24 = .ok (.getfield 106, 3) := by decide +kernel
theorem dX9_keepAct_27 : decode cX9_keepAct 27 = .ok (.iload_n 1, 1) := by decide +kernel
theorem dX9_keepAct_28 : decode cX9_keepAct 28 = .ok (.bipush 39, 2) := by decide +kernel
theorem dX9_keepAct_30 : decode cX9_keepAct 30 = .ok (.iadd, 1) := by decide +kernel
theorem dX9_keepAct_31 : decode cX9_keepAct 31 = .ok (.iaload, 1) := by decide +kernel
theorem dX9_keepAct_32 : decode cX9_keepAct 32 = .ok (.iastore, 1) := by decide +kernel
theorem dX9_keepAct_33 : decode cX9_keepAct 33 = .ok (.iinc 1 1, 3) := by decide +kernel
theorem dX9_keepAct_36 : decode cX9_keepAct 36 = .ok (.goto (-25), 3) := by decide +kernel
theorem dX9_keepAct_39 : decode cX9_keepAct 39 = .ok (.aload_n 0, 1) := by decide +kernel
theorem dX9_keepAct_40 : decode cX9_keepAct 40 = .ok (.dup, 1) := by decide +kernel
theorem dX9_keepAct_41 : decode cX9_keepAct 41 = .ok (.getfield 398, 3) := by decide +kernel
theorem dX9_keepAct_44 : decode cX9_keepAct 44 = .ok (.iconst 1, 1) := by decide +kernel
theorem dX9_keepAct_45 : decode cX9_keepAct 45 = .ok (.isub, 1) := by decide +kernel
theorem dX9_keepAct_46 : decode cX9_keepAct 46 = .ok (.putfield 398, 3) := by decide +kernel
theorem dX9_keepAct_49 : decode cX9_keepAct 49 = .ok (.iconst 0, 1) := by decide +kernel
theorem dX9_keepAct_50 : decode cX9_keepAct 50 = .ok (.istore_n 1, 1) := by decide +kernel
theorem dX9_keepAct_51 : decode cX9_keepAct 51 = .ok (.iload_n 1, 1) := by decide +kernel
theorem dX9_keepAct_52 : decode cX9_keepAct 52 = .ok (.bipush 39, 2) := by decide +kernel
theorem dX9_keepAct_54 : decode cX9_keepAct 54 = .ok (.if_icmp .ge 29, 3) := by decide +kernel
theorem dX9_keepAct_57 : decode cX9_keepAct 57 = .ok (.aload_n 0, 1) := by decide +kernel
theorem dX9_keepAct_58 : decode cX9_keepAct 58 = .ok (.getfield 106, 3) := by decide +kernel
theorem dX9_keepAct_61 : decode cX9_keepAct 61 = .ok (.bipush 39, 2) := by decide +kernel
theorem dX9_keepAct_63 : decode cX9_keepAct 63 = .ok (.aload_n 0, 1) := by decide +kernel
theorem dX9_keepAct_64 : decode cX9_keepAct 64 = .ok (.getfield 398, 3) := by decide +kernel
theorem dX9_keepAct_67 : decode cX9_keepAct 67 = .ok (.imul, 1) := by decide +kernel
theorem dX9_keepAct_68 : decode cX9_keepAct 68 = .ok (.iload_n 1, 1) := by decide +kernel
theorem dX9_keepAct_69 : decode cX9_keepAct 69 = .ok (.iadd, 1) := by decide +kernel
theorem dX9_keepAct_70 : decode cX9_keepAct 70 = .ok (.aload_n 0, 1) := by decide +kernel
theorem dX9_keepAct_71 : decode cX9_keepAct 71 = .ok (.getfield 94, 3) := by decide +kernel
theorem dX9_keepAct_74 : decode cX9_keepAct 74 = .ok (.iload_n 1, 1) := by decide +kernel
theorem dX9_keepAct_75 : decode cX9_keepAct 75 = .ok (.iaload, 1) := by decide +kernel
theorem dX9_keepAct_76 : decode cX9_keepAct 76 = .ok (.iastore, 1) := by decide +kernel
theorem dX9_keepAct_77 : decode cX9_keepAct 77 = .ok (.iinc 1 1, 3) := by decide +kernel
theorem dX9_keepAct_80 : decode cX9_keepAct 80 = .ok (.goto (-29), 3) := by decide +kernel
theorem dX9_keepAct_83 : decode cX9_keepAct 83 = .ok (.aload_n 0, 1) := by decide +kernel
theorem dX9_keepAct_84 : decode cX9_keepAct 84 = .ok (.dup, 1) := by decide +kernel
theorem dX9_keepAct_85 : decode cX9_keepAct 85 = .ok (.getfield 398, 3) := by decide +kernel
theorem dX9_keepAct_88 : decode cX9_keepAct 88 = .ok (.iconst 1, 1) := by decide +kernel
theorem dX9_keepAct_89 : decode cX9_keepAct 89 = .ok (.iadd, 1) := by decide +kernel
theorem dX9_keepAct_90 : decode cX9_keepAct 90 = .ok (.putfield 398, 3) := by decide +kernel
theorem dX9_keepAct_93 : decode cX9_keepAct 93 = .ok (.aload_n 0, 1) := by decide +kernel
theorem dX9_keepAct_94 : decode cX9_keepAct 94 = .ok (.iconst 0, 1) := by decide +kernel
theorem dX9_keepAct_95 : decode cX9_keepAct 95 = .ok (.putfield 401, 3) := by decide +kernel
theorem dX9_keepAct_98 : decode cX9_keepAct 98 = .ok (.return_, 1) := by decide +kernel
theorem dX9_goIn_0 : decode cX9_goIn 0 = .ok (.aload_n 0, 1) := by decide +kernel
theorem dX9_goIn_1 : decode cX9_goIn 1 = .ok (.getfield 94, 3) := by decide +kernel
theorem dX9_goIn_4 : decode cX9_goIn 4 = .ok (.iconst 0, 1) := by decide +kernel
theorem dX9_goIn_5 : decode cX9_goIn 5 = .ok (.iload_n 1, 1) := by decide +kernel
theorem dX9_goIn_6 : decode cX9_goIn 6 = .ok (.iadd, 1) := by decide +kernel
theorem dX9_goIn_7 : decode cX9_goIn 7 = .ok (.iload_n 2, 1) := by decide +kernel
theorem dX9_goIn_8 : decode cX9_goIn 8 = .ok (.iastore, 1) := by decide +kernel
theorem dX9_goIn_9 : decode cX9_goIn 9 = .ok (.aload_n 0, 1) := by decide +kernel
theorem dX9_goIn_10 : decode cX9_goIn 10 = .ok (.getfield 94, 3) := by decide +kernel
theorem dX9_goIn_13 : decode cX9_goIn 13 = .ok (.bipush 7, 2) := by decide +kernel
theorem dX9_goIn_15 : decode cX9_goIn 15 = .ok (.iload_n 1, 1) := by decide +kernel
theorem dX9_goIn_16 : decode cX9_goIn 16 = .ok (.iadd, 1) := by decide +kernel
theorem dX9_goIn_17 : decode cX9_goIn 17 = .ok (.iconst 0, 1) := by decide +kernel
theorem dX9_goIn_18 : decode cX9_goIn 18 = .ok (.iastore, 1) := by decide +kernel
theorem dX9_goIn_19 : decode cX9_goIn 19 = .ok (.return_, 1) := by decide +kernel
set_option maxRecDepth 20000 in
theorem ggX9_lies_X9_isIn : GoodIn wsX9_lies wsX9_isIn := goodIn_r _ [6] rfl (by decide +kernel)
set_option maxRecDepth 20000 in
theorem gX9_lies_X9_isIn : GoodIn wsX9_lies (va_wsS RX9 376 yX9_isIn wsX9_isIn) := goodIn_app (goodIn_r _ [3, 4, 5] rfl (by decide +kernel)) ggX9_lies_X9_isIn
theorem dX9_lies_0 : decode cX9_lies 0 = .ok (.iload_n 1, 1) := by decide +kernel
theorem dX9_lies_1 : decode cX9_lies 1 = .ok (.iconst 0, 1) := by decide +kernel
theorem dX9_lies_2 : decode cX9_lies 2 = .ok (.aload_n 0, 1) := by decide +kernel
theorem dX9_lies_3 : decode cX9_lies 3 = .ok (.getfield 407, 3) := by decide +kernel
theorem dX9_lies_6 : decode cX9_lies 6 = .ok (.iconst 1, 1) := by decide +kernel
theorem dX9_lies_7 : decode cX9_lies 7 = .ok (.isub, 1) := by decide +kernel
theorem dX9_lies_8 : decode cX9_lies 8 = .ok (.invokestatic 376, 3) := by decide +kernel
theorem dX9_lies_11 : decode cX9_lies 11 = .ok (.ifCond .eq 12, 3) := by decide +kernel
theorem dX9_lies_14 : decode cX9_lies 14 = .ok (.aload_n 0, 1) := by decide +kernel
theorem dX9_lies_15 : decode cX9_lies 15 = .ok (.getfield 112, 3) := by decide +kernel
theorem dX9_lies_18 : decode cX9_lies 18 = .ok (.iload_n 1, 1) := by decide +kernel
theorem dX9_lies_19 : decode cX9_lies 19 = .ok (.iaload, 1) := by decide +kernel
theorem dX9_lies_20 : decode cX9_lies 20 = .ok (.goto 5, 3) := by decide +kernel
theorem dX9_lies_23 : decode cX9_lies 23 = .ok (.bipush (-2), 2) := by decide +kernel
theorem dX9_lies_25 : decode cX9_lies 25 = .ok (.ireturn, 1) := by decide +kernel
theorem dX9_isAhead_0 : decode cX9_isAhead 0 = .ok (.iload_n 0, 1) := by decide +kernel
theorem dX9_isAhead_1 : decode cX9_isAhead 1 = .ok (.ifCond .lt 13, 3) := by decide +kernel
theorem dX9_isAhead_4 : decode cX9_isAhead 4 = .ok (.iload_n 0, 1) := by decide +kernel
theorem dX9_isAhead_5 : decode cX9_isAhead 5 = .ok (.bipush 60, 2) := by decide +kernel
theorem dX9_isAhead_7 : decode cX9_isAhead 7 = .ok (.if_icmp .gt 7, 3) := by decide +kernel
theorem dX9_isAhead_10 : decode cX9_isAhead 10 = .ok (.iconst 1, 1) := by decide +kernel
theorem dX9_isAhead_11 : decode cX9_isAhead 11 = .ok (.goto 4, 3) := by decide +kernel
theorem dX9_isAhead_14 : decode cX9_isAhead 14 = .ok (.iconst 0, 1) := by decide +kernel
theorem dX9_isAhead_15 : decode cX9_isAhead 15 = .ok (.ireturn, 1) := by decide +kernel
theorem dX9_keepNow_0 : decode cX9_keepNow 0 = .ok (.iconst 0, 1) := by decide +kernel
theorem dX9_keepNow_1 : decode cX9_keepNow 1 = .ok (.istore_n 1, 1) := by decide +kernel
theorem dX9_keepNow_2 : decode cX9_keepNow 2 = .ok (.iload_n 1, 1) := by decide +kernel
theorem dX9_keepNow_3 : decode cX9_keepNow 3 = .ok (.bipush 39, 2) := by decide +kernel
theorem dX9_keepNow_5 : decode cX9_keepNow 5 = .ok (.if_icmp .ge 21, 3) := by decide +kernel
theorem dX9_keepNow_8 : decode cX9_keepNow 8 = .ok (.aload_n 0, 1) := by decide +kernel
theorem dX9_keepNow_9 : decode cX9_keepNow 9 = .ok (.getfield 109, 3) := by decide +kernel
theorem dX9_keepNow_12 : decode cX9_keepNow 12 = .ok (.iload_n 1, 1) := by decide +kernel
theorem dX9_keepNow_13 : decode cX9_keepNow 13 = .ok (.aload_n 0, 1) := by decide +kernel
theorem dX9_keepNow_14 : decode cX9_keepNow 14 = .ok (.getfield 94, 3) := by decide +kernel
theorem dX9_keepNow_17 : decode cX9_keepNow 17 = .ok (.iload_n 1, 1) := by decide +kernel
theorem dX9_keepNow_18 : decode cX9_keepNow 18 = .ok (.iaload, 1) := by decide +kernel
theorem dX9_keepNow_19 : decode cX9_keepNow 19 = .ok (.iastore, 1) := by decide +kernel
theorem dX9_keepNow_20 : decode cX9_keepNow 20 = .ok (.iinc 1 1, 3) := by decide +kernel
theorem dX9_keepNow_23 : decode cX9_keepNow 23 = .ok (.goto (-21), 3) := by decide +kernel
theorem dX9_keepNow_26 : decode cX9_keepNow 26 = .ok (.return_, 1) := by decide +kernel
theorem dX9_bringBack_0 : decode cX9_bringBack 0 = .ok (.iconst 0, 1) := by decide +kernel
theorem dX9_bringBack_1 : decode cX9_bringBack 1 = .ok (.istore_n 1, 1) := by decide +kernel
theorem dX9_bringBack_2 : decode cX9_bringBack 2 = .ok (.iload_n 1, 1) := by decide +kernel
theorem dX9_bringBack_3 : decode cX9_bringBack 3 = .ok (.bipush 39, 2) := by decide +kernel
theorem dX9_bringBack_5 : decode cX9_bringBack 5 = .ok (.if_icmp .ge 21, 3) := by decide +kernel
theorem dX9_bringBack_8 : decode cX9_bringBack 8 = .ok (.aload_n 0, 1) := by decide +kernel
theorem dX9_bringBack_9 : decode cX9_bringBack 9 = .ok (.getfield 94, 3) := by decide +kernel
theorem dX9_bringBack_12 : decode cX9_bringBack 12 = .ok (.iload_n 1, 1) := by decide +kernel
theorem dX9_bringBack_13 : decode cX9_bringBack 13 = .ok (.aload_n 0, 1) := by decide +kernel
theorem dX9_bringBack_14 : decode cX9_bringBack 14 = .ok (.getfield 109, 3) := by decide +kernel
theorem dX9_bringBack_17 : decode cX9_bringBack 17 = .ok (.iload_n 1, 1) := by decide +kernel
theorem dX9_bringBack_18 : decode cX9_bringBack 18 = .ok (.iaload, 1) := by decide +kernel
theorem dX9_bringBack_19 : decode cX9_bringBack 19 = .ok (.iastore, 1) := by decide +kernel
theorem dX9_bringBack_20 : decode cX9_bringBack 20 = .ok (.iinc 1 1, 3) := by decide +kernel
theorem dX9_bringBack_23 : decode cX9_bringBack 23 = .ok (.goto (-21), 3) := by decide +kernel
theorem dX9_bringBack_26 : decode cX9_bringBack 26 = .ok (.return_, 1) := by decide +kernel
set_option maxRecDepth 20000 in
theorem ggX9_will_X9_isTenant : GoodIn wsX9_will wsX9_isTenant := goodIn_r _ [6, 7, 8, 9, 5, 10, 11, 12, 13, 14, 15, 139, 140, 141, 142, 143, 144, 145, 146, 147, 148, 149, 150, 151, 152, 153, 154, 155, 156, 157, 158, 159, 160, 161, 162, 163, 164, 165, 166, 167, 168, 169, 170, 171, 172, 173, 174, 175, 176, 177, 178, 179, 180, 181, 182, 183, 184, 185, 186, 187, 188, 189, 190, 191, 192, 193, 194, 195, 196, 197, 198, 199, 200, 201, 202, 203, 204, 205] rfl (by decide +kernel)
set_option maxRecDepth 20000 in
theorem gX9_will_X9_isTenant : GoodIn wsX9_will (wsV RX9 386 RX9 yX9_isTenant wsX9_isTenant) := goodIn_app (goodIn_r _ [2, 3, 4, 5] rfl (by decide +kernel)) ggX9_will_X9_isTenant
set_option maxRecDepth 20000 in
theorem ggX9_will_X9_isAhead : GoodIn wsX9_will wsX9_isAhead := goodIn_r _ [18] rfl (by decide +kernel)
set_option maxRecDepth 20000 in
theorem gX9_will_X9_isAhead : GoodIn wsX9_will (va_wsS RX9 488 yX9_isAhead wsX9_isAhead) := goodIn_app (goodIn_r _ [16, 17, 5] rfl (by decide +kernel)) ggX9_will_X9_isAhead
set_option maxRecDepth 20000 in
theorem ggX9_will_X9_isIn : GoodIn wsX9_will wsX9_isIn := goodIn_r _ [15] rfl (by decide +kernel)
set_option maxRecDepth 20000 in
theorem gX9_will_X9_isIn : GoodIn wsX9_will (va_wsS RX9 376 yX9_isIn wsX9_isIn) := goodIn_app (goodIn_r _ [13, 14, 5] rfl (by decide +kernel)) ggX9_will_X9_isIn
set_option maxRecDepth 20000 in
theorem ggX9_will_X9_keepNow : GoodIn wsX9_will wsX9_keepNow := goodIn_r _ [22, 23, 1, 139, 140, 141, 142, 143, 144, 145, 146, 147, 148, 149, 150, 151, 152, 153, 154, 155, 156, 157, 158, 159, 160, 161, 162, 163, 164, 165, 166, 167, 168, 169, 170, 171, 172, 173, 174, 175, 176, 177, 178, 179, 180, 181, 182, 183, 184, 185, 186, 187, 188, 189, 190, 191, 192, 193, 194, 195, 196, 197, 198, 199, 200, 201, 202, 203, 204, 205] rfl (by decide +kernel)
set_option maxRecDepth 20000 in
theorem gX9_will_X9_keepNow : GoodIn wsX9_will (wsV RX9 491 RX9 yX9_keepNow wsX9_keepNow) := goodIn_app (goodIn_r _ [19, 20, 21, 5] rfl (by decide +kernel)) ggX9_will_X9_keepNow
set_option maxRecDepth 20000 in
theorem ggX9_will_X9_goInEarnest : GoodIn wsX9_will wsX9_goInEarnest := goodIn_r _ [27, 1, 28, 12, 29, 30, 31, 5, 32, 33, 34, 35, 36, 7, 8, 9, 10, 11, 37, 38, 39, 40, 2, 3, 4, 6, 13, 14, 15, 41, 42, 43, 44, 45, 46, 47, 48, 49, 50, 51, 52, 53, 54, 55, 56, 57, 58, 59, 60, 61, 62, 63, 64, 65, 66, 67, 68, 69, 70, 71, 72, 73, 74, 75, 76, 77, 78, 79, 80, 81, 82, 83, 84, 85, 86, 87, 88, 89, 90, 91, 92, 93, 94, 95, 96, 97, 98, 99, 100, 101, 102, 103, 104, 105, 106, 107, 108, 109, 110, 111, 112, 113, 114, 115, 116, 117, 118, 119, 120, 121, 122, 123, 124, 125, 126, 127, 128, 129, 130, 131, 132, 133, 134, 139, 140, 141, 142, 143, 144, 145, 146, 147, 148, 149, 150, 151, 152, 153, 154, 155, 156, 157, 158, 159, 160, 161, 162, 163, 164, 165, 166, 167, 168, 169, 170, 171, 172, 173, 174, 175, 176, 177, 178, 179, 180, 181, 182, 183, 184, 185, 186, 187, 188, 189, 190, 191, 192, 193, 194, 195, 196, 197, 198, 199, 200, 201, 202, 203, 204, 205] rfl (by decide +kernel)
set_option maxRecDepth 20000 in
theorem gX9_will_X9_goInEarnest : GoodIn wsX9_will (wsV RX9 476 RX9 yX9_goInEarnest wsX9_goInEarnest) := goodIn_app (goodIn_r _ [24, 25, 26, 5] rfl (by decide +kernel)) ggX9_will_X9_goInEarnest
set_option maxRecDepth 20000 in
theorem ggX9_will_X9_goQuarter : GoodIn wsX9_will wsX9_goQuarter := goodIn_r _ [32, 1, 33, 34, 35, 5, 36, 7, 8, 9, 10, 11, 12, 37, 38, 39, 40, 2, 3, 4, 6, 13, 14, 15, 41, 42, 43, 44, 45, 46, 47, 48, 49, 50, 51, 52, 53, 54, 55, 56, 57, 58, 59, 60, 61, 62, 63, 64, 65, 66, 67, 68, 69, 70, 71, 72, 73, 74, 75, 76, 77, 78, 79, 80, 81, 82, 83, 84, 85, 86, 87, 88, 89, 90, 91, 92, 93, 94, 95, 96, 97, 98, 99, 100, 101, 102, 103, 104, 105, 106, 107, 108, 109, 110, 111, 112, 113, 114, 115, 116, 117, 139, 140, 141, 142, 143, 144, 145, 146, 147, 148, 149, 150, 151, 152, 153, 154, 155, 156, 157, 158, 159, 160, 161, 162, 163, 164, 165, 166, 167, 168, 169, 170, 171, 172, 173, 174, 175, 176, 177, 178, 179, 180, 181, 182, 183, 184, 185, 186, 187, 188, 189, 190, 191, 192, 193, 194, 195, 196, 197, 198, 199, 200, 201, 202, 203, 204, 205] rfl (by decide +kernel)
set_option maxRecDepth 20000 in
theorem gX9_will_X9_goQuarter : GoodIn wsX9_will (wsV RX9 450 RX9 yX9_goQuarter wsX9_goQuarter) := goodIn_app (goodIn_r _ [29, 30, 31, 5] rfl (by decide +kernel)) ggX9_will_X9_goQuarter
set_option maxRecDepth 20000 in
theorem ggX9_will_X9_bringBack : GoodIn wsX9_will wsX9_bringBack := goodIn_r _ [138, 1, 23, 139, 140, 141, 142, 143, 144, 145, 146, 147, 148, 149, 150, 151, 152, 153, 154, 155, 156, 157, 158, 159, 160, 161, 162, 163, 164, 165, 166, 167, 168, 169, 170, 171, 172, 173, 174, 175, 176, 177, 178, 179, 180, 181, 182, 183, 184, 185, 186, 187, 188, 189, 190, 191, 192, 193, 194, 195, 196, 197, 198, 199, 200, 201, 202, 203, 204, 205] rfl (by decide +kernel)
set_option maxRecDepth 20000 in
theorem gX9_will_X9_bringBack : GoodIn wsX9_will (wsV RX9 494 RX9 yX9_bringBack wsX9_bringBack) := goodIn_app (goodIn_r _ [135, 136, 137, 5] rfl (by decide +kernel)) ggX9_will_X9_bringBack
theorem dX9_will_0 : decode cX9_will 0 = .ok (.aload_n 0, 1) := by decide +kernel
theorem dX9_will_1 : decode cX9_will 1 = .ok (.iload_n 1, 1) := by decide +kernel
theorem dX9_will_2 : decode cX9_will 2 = .ok (.invokevirtual 386, 3) := by decide +kernel
theorem dX9_will_5 : decode cX9_will 5 = .ok (.ifCond .eq 19, 3) := by decide +kernel
theorem dX9_will_8 : decode cX9_will 8 = .ok (.iload_n 2, 1) := by decide +kernel
theorem dX9_will_9 : decode cX9_will 9 = .ok (.invokestatic 488, 3) := by decide +kernel
theorem dX9_will_12 : decode cX9_will 12 = .ok (.ifCond .eq 12, 3) := by decide +kernel
theorem dX9_will_15 : decode cX9_will 15 = .ok (.iload_n 3, 1) := by decide +kernel
theorem dX9_will_16 : decode cX9_will 16 = .ok (.iconst 0, 1) := by decide +kernel
theorem dX9_will_17 : decode cX9_will 17 = .ok (.iconst 1, 1) := by decide +kernel
theorem dX9_will_18 : decode cX9_will 18 = .ok (.invokestatic 376, 3) := by decide +kernel
theorem dX9_will_21 : decode cX9_will 21 = .ok (.ifCond .ne 6, 3) := by decide +kernel
theorem dX9_will_24 : decode cX9_will 24 = .ok (.bipush (-2), 2) := by decide +kernel
theorem dX9_will_26 : decode cX9_will 26 = .ok (.ireturn, 1) := by decide +kernel
theorem dX9_will_27 : decode cX9_will 27 = .ok (.aload_n 0, 1) := by decide +kernel
theorem dX9_will_28 : decode cX9_will 28 = .ok (.invokevirtual 491, 3) := by decide +kernel
theorem dX9_will_31 : decode cX9_will 31 = .ok (.iconst 0, 1) := by decide +kernel
theorem dX9_will_32 : decode cX9_will 32 = .ok (.istore 4, 2) := by decide +kernel
theorem dX9_will_34 : decode cX9_will 34 = .ok (.iconst 0, 1) := by decide +kernel
theorem dX9_will_35 : decode cX9_will 35 = .ok (.istore 5, 2) := by decide +kernel
theorem dX9_will_37 : decode cX9_will 37 = .ok (.iload 5, 2) := by decide +kernel
theorem dX9_will_39 : decode cX9_will 39 = .ok (.iload_n 2, 1) := by decide +kernel
theorem dX9_will_40 : decode cX9_will 40 = .ok (.if_icmp .ge 27, 3) := by decide +kernel
theorem dX9_will_43 : decode cX9_will 43 = .ok (.iload_n 3, 1) := by decide +kernel
theorem dX9_will_44 : decode cX9_will 44 = .ok (.iconst 1, 1) := by decide +kernel
theorem dX9_will_45 : decode cX9_will 45 = .ok (.if_icmp .ne 10, 3) := by decide +kernel
theorem dX9_will_48 : decode cX9_will 48 = .ok (.aload_n 0, 1) := by decide +kernel
theorem dX9_will_49 : decode cX9_will 49 = .ok (.invokevirtual 476, 3) := by decide +kernel
theorem dX9_will_52 : decode cX9_will 52 = .ok (.goto 7, 3) := by decide +kernel
theorem dX9_will_55 : decode cX9_will 55 = .ok (.aload_n 0, 1) := by decide +kernel
theorem dX9_will_56 : decode cX9_will 56 = .ok (.invokevirtual 450, 3) := by decide +kernel
theorem dX9_will_59 : decode cX9_will 59 = .ok (.istore 4, 2) := by decide +kernel
theorem dX9_will_61 : decode cX9_will 61 = .ok (.iinc 5 1, 3) := by decide +kernel
theorem dX9_will_64 : decode cX9_will 64 = .ok (.goto (-27), 3) := by decide +kernel
theorem dX9_will_67 : decode cX9_will 67 = .ok (.aload_n 0, 1) := by decide +kernel
theorem dX9_will_68 : decode cX9_will 68 = .ok (.getfield 94, 3) := by decide +kernel
theorem dX9_will_71 : decode cX9_will 71 = .ok (.iconst 0, 1) := by decide +kernel
theorem dX9_will_72 : decode cX9_will 72 = .ok (.iload_n 1, 1) := by decide +kernel
theorem dX9_will_73 : decode cX9_will 73 = .ok (.iadd, 1) := by decide +kernel
theorem dX9_will_74 : decode cX9_will 74 = .ok (.iaload, 1) := by decide +kernel
theorem dX9_will_75 : decode cX9_will 75 = .ok (.istore 5, 2) := by decide +kernel
theorem dX9_will_77 : decode cX9_will 77 = .ok (.aload_n 0, 1) := by decide +kernel
theorem dX9_will_78 : decode cX9_will 78 = .ok (.invokevirtual 494, 3) := by decide +kernel
theorem dX9_will_81 : decode cX9_will 81 = .ok (.iload 5, 2) := by decide +kernel
theorem dX9_will_83 : decode cX9_will 83 = .ok (.ireturn, 1) := by decide +kernel
set_option maxRecDepth 20000 in
theorem ggX9_outBehind_X9_isOut : GoodIn wsX9_outBehind wsX9_isOut := goodIn_r _ [5, 6, 110, 111, 112, 113, 114, 115, 116, 117, 118, 119, 120, 121, 122, 123, 124, 125, 126, 127, 128, 129, 130, 131, 132, 133, 134, 135, 136, 137, 138, 139, 140, 141, 142, 143, 144, 145, 146, 147, 148, 149, 150, 151, 152, 153, 154, 155, 156, 157, 158, 159, 160, 161, 162, 163, 164, 165, 166, 167, 168, 169, 170, 171, 172, 173, 174, 175, 176] rfl (by decide +kernel)
set_option maxRecDepth 20000 in
theorem gX9_outBehind_X9_isOut : GoodIn wsX9_outBehind (wsV RX9 389 RX9 yX9_isOut wsX9_isOut) := goodIn_app (goodIn_r _ [1, 2, 3, 4] rfl (by decide +kernel)) ggX9_outBehind_X9_isOut
set_option maxRecDepth 20000 in
theorem ggX9_outBehind_X9_goQuarter : GoodIn wsX9_outBehind wsX9_goQuarter := goodIn_r _ [10, 6, 11, 12, 13, 4, 14, 15, 16, 17, 18, 19, 20, 21, 22, 23, 24, 25, 26, 27, 28, 29, 30, 31, 1, 2, 3, 5, 32, 33, 34, 35, 36, 37, 38, 39, 40, 41, 42, 43, 44, 45, 46, 47, 48, 49, 50, 51, 52, 53, 54, 55, 56, 57, 58, 59, 60, 61, 62, 63, 64, 65, 66, 67, 68, 69, 70, 71, 72, 73, 74, 75, 76, 77, 78, 79, 80, 81, 82, 83, 84, 85, 86, 87, 88, 89, 90, 91, 92, 93, 94, 95, 96, 97, 98, 99, 100, 101, 102, 103, 104, 110, 111, 112, 113, 114, 115, 116, 117, 118, 119, 120, 121, 122, 123, 124, 125, 126, 127, 128, 129, 130, 131, 132, 133, 134, 135, 136, 137, 138, 139, 140, 141, 142, 143, 144, 145, 146, 147, 148, 149, 150, 151, 152, 153, 154, 155, 156, 157, 158, 159, 160, 161, 162, 163, 164, 165, 166, 167, 168, 169, 170, 171, 172, 173, 174, 175, 176] rfl (by decide +kernel)
set_option maxRecDepth 20000 in
theorem gX9_outBehind_X9_goQuarter : GoodIn wsX9_outBehind (wsV RX9 450 RX9 yX9_goQuarter wsX9_goQuarter) := goodIn_app (goodIn_r _ [7, 8, 9, 4] rfl (by decide +kernel)) ggX9_outBehind_X9_goQuarter
set_option maxRecDepth 20000 in
theorem ggX9_outBehind_X9_bringBack : GoodIn wsX9_outBehind wsX9_bringBack := goodIn_r _ [108, 6, 109, 110, 111, 112, 113, 114, 115, 116, 117, 118, 119, 120, 121, 122, 123, 124, 125, 126, 127, 128, 129, 130, 131, 132, 133, 134, 135, 136, 137, 138, 139, 140, 141, 142, 143, 144, 145, 146, 147, 148, 149, 150, 151, 152, 153, 154, 155, 156, 157, 158, 159, 160, 161, 162, 163, 164, 165, 166, 167, 168, 169, 170, 171, 172, 173, 174, 175, 176] rfl (by decide +kernel)
set_option maxRecDepth 20000 in
theorem gX9_outBehind_X9_bringBack : GoodIn wsX9_outBehind (wsV RX9 494 RX9 yX9_bringBack wsX9_bringBack) := goodIn_app (goodIn_r _ [105, 106, 107, 4] rfl (by decide +kernel)) ggX9_outBehind_X9_bringBack
theorem dX9_outBehind_0 : decode cX9_outBehind 0 = .ok (.iconst 0, 1) := by decide +kernel
theorem dX9_outBehind_1 : decode cX9_outBehind 1 = .ok (.istore_n 2, 1) := by decide +kernel
theorem dX9_outBehind_2 : decode cX9_outBehind 2 = .ok (.iload_n 2, 1) := by decide +kernel
theorem dX9_outBehind_3 : decode cX9_outBehind 3 = .ok (.bipush 99, 2) := by decide +kernel
theorem dX9_outBehind_5 : decode cX9_outBehind 5 = .ok (.if_icmp .gt 22, 3) := by decide +kernel
theorem dX9_outBehind_8 : decode cX9_outBehind 8 = .ok (.aload_n 0, 1) := by decide +kernel
theorem dX9_outBehind_9 : decode cX9_outBehind 9 = .ok (.iload_n 1, 1) := by decide +kernel
theorem dX9_outBehind_10 : decode cX9_outBehind 10 = .ok (.invokevirtual 389, 3) := by decide +kernel
theorem dX9_outBehind_13 : decode cX9_outBehind 13 = .ok (.ifCond .ne 14, 3) := by decide +kernel
theorem dX9_outBehind_16 : decode cX9_outBehind 16 = .ok (.aload_n 0, 1) := by decide +kernel
theorem dX9_outBehind_17 : decode cX9_outBehind 17 = .ok (.invokevirtual 450, 3) := by decide +kernel
theorem dX9_outBehind_20 : decode cX9_outBehind 20 = .ok (.istore_n 3, 1) := by decide +kernel
theorem dX9_outBehind_21 : decode cX9_outBehind 21 = .ok (.iinc 2 1, 3) := by decide +kernel
theorem dX9_outBehind_24 : decode cX9_outBehind 24 = .ok (.goto (-22), 3) := by decide +kernel
theorem dX9_outBehind_27 : decode cX9_outBehind 27 = .ok (.aload_n 0, 1) := by decide +kernel
theorem dX9_outBehind_28 : decode cX9_outBehind 28 = .ok (.invokevirtual 494, 3) := by decide +kernel
theorem dX9_outBehind_31 : decode cX9_outBehind 31 = .ok (.iload_n 2, 1) := by decide +kernel
theorem dX9_outBehind_32 : decode cX9_outBehind 32 = .ok (.bipush 99, 2) := by decide +kernel
theorem dX9_outBehind_34 : decode cX9_outBehind 34 = .ok (.if_icmp .gt 7, 3) := by decide +kernel
theorem dX9_outBehind_37 : decode cX9_outBehind 37 = .ok (.iload_n 2, 1) := by decide +kernel
theorem dX9_outBehind_38 : decode cX9_outBehind 38 = .ok (.goto 4, 3) := by decide +kernel
theorem dX9_outBehind_41 : decode cX9_outBehind 41 = .ok (.iconst (-1), 1) := by decide +kernel
theorem dX9_outBehind_42 : decode cX9_outBehind 42 = .ok (.ireturn, 1) := by decide +kernel
set_option maxRecDepth 20000 in
theorem ggX9_lasts_X9_isTenant : GoodIn wsX9_lasts wsX9_isTenant := goodIn_r _ [5, 6, 7, 8, 4, 9, 10, 11, 12, 13, 14, 118, 119, 120, 121, 122, 123, 124, 125, 126, 127, 128, 129, 130, 131, 132, 133, 134, 135, 136, 137, 138, 139, 140, 141, 142, 143, 144, 145, 146, 147, 148, 149, 150, 151, 152, 153, 154, 155, 156, 157, 158, 159, 160, 161, 162, 163, 164, 165, 166, 167, 168, 169, 170, 171, 172, 173, 174, 175, 176, 177, 178, 179, 180, 181, 182, 183, 184] rfl (by decide +kernel)
set_option maxRecDepth 20000 in
theorem gX9_lasts_X9_isTenant : GoodIn wsX9_lasts (wsV RX9 386 RX9 yX9_isTenant wsX9_isTenant) := goodIn_app (goodIn_r _ [1, 2, 3, 4] rfl (by decide +kernel)) ggX9_lasts_X9_isTenant
set_option maxRecDepth 20000 in
theorem ggX9_lasts_X9_keepNow : GoodIn wsX9_lasts wsX9_keepNow := goodIn_r _ [18, 19, 20, 118, 119, 120, 121, 122, 123, 124, 125, 126, 127, 128, 129, 130, 131, 132, 133, 134, 135, 136, 137, 138, 139, 140, 141, 142, 143, 144, 145, 146, 147, 148, 149, 150, 151, 152, 153, 154, 155, 156, 157, 158, 159, 160, 161, 162, 163, 164, 165, 166, 167, 168, 169, 170, 171, 172, 173, 174, 175, 176, 177, 178, 179, 180, 181, 182, 183, 184] rfl (by decide +kernel)
set_option maxRecDepth 20000 in
theorem gX9_lasts_X9_keepNow : GoodIn wsX9_lasts (wsV RX9 491 RX9 yX9_keepNow wsX9_keepNow) := goodIn_app (goodIn_r _ [15, 16, 17, 4] rfl (by decide +kernel)) ggX9_lasts_X9_keepNow
set_option maxRecDepth 20000 in
theorem ggX9_lasts_X9_outBehind : GoodIn wsX9_lasts wsX9_outBehind := goodIn_r _ [24, 25, 26, 27, 4, 28, 20, 29, 30, 31, 32, 33, 34, 35, 36, 6, 7, 8, 9, 10, 11, 37, 38, 39, 40, 1, 2, 3, 5, 12, 13, 14, 41, 42, 43, 44, 45, 46, 47, 48, 49, 50, 51, 52, 53, 54, 55, 56, 57, 58, 59, 60, 61, 62, 63, 64, 65, 66, 67, 68, 69, 70, 71, 72, 73, 74, 75, 76, 77, 78, 79, 80, 81, 82, 83, 84, 85, 86, 87, 88, 89, 90, 91, 92, 93, 94, 95, 96, 97, 98, 99, 100, 101, 102, 103, 104, 105, 106, 107, 108, 109, 110, 111, 112, 113, 114, 115, 116, 117, 19, 118, 119, 120, 121, 122, 123, 124, 125, 126, 127, 128, 129, 130, 131, 132, 133, 134, 135, 136, 137, 138, 139, 140, 141, 142, 143, 144, 145, 146, 147, 148, 149, 150, 151, 152, 153, 154, 155, 156, 157, 158, 159, 160, 161, 162, 163, 164, 165, 166, 167, 168, 169, 170, 171, 172, 173, 174, 175, 176, 177, 178, 179, 180, 181, 182, 183, 184] rfl (by decide +kernel)
set_option maxRecDepth 20000 in
theorem gX9_lasts_X9_outBehind : GoodIn wsX9_lasts (wsV RX9 497 RX9 yX9_outBehind wsX9_outBehind) := goodIn_app (goodIn_r _ [21, 22, 23, 4] rfl (by decide +kernel)) ggX9_lasts_X9_outBehind
theorem dX9_lasts_0 : decode cX9_lasts 0 = .ok (.aload_n 0, 1) := by decide +kernel
theorem dX9_lasts_1 : decode cX9_lasts 1 = .ok (.iload_n 1, 1) := by decide +kernel
theorem dX9_lasts_2 : decode cX9_lasts 2 = .ok (.invokevirtual 386, 3) := by decide +kernel
theorem dX9_lasts_5 : decode cX9_lasts 5 = .ok (.ifCond .ne 5, 3) := by decide +kernel
theorem dX9_lasts_8 : decode cX9_lasts 8 = .ok (.iconst (-1), 1) := by decide +kernel
theorem dX9_lasts_9 : decode cX9_lasts 9 = .ok (.ireturn, 1) := by decide +kernel
theorem dX9_lasts_10 : decode cX9_lasts 10 = .ok (.aload_n 0, 1) := by decide +kernel
theorem dX9_lasts_11 : decode cX9_lasts 11 = .ok (.invokevirtual 491, 3) := by decide +kernel
theorem dX9_lasts_14 : decode cX9_lasts 14 = .ok (.aload_n 0, 1) := by decide +kernel
theorem dX9_lasts_15 : decode cX9_lasts 15 = .ok (.iload_n 1, 1) := by decide +kernel
theorem dX9_lasts_16 : decode cX9_lasts 16 = .ok (.invokevirtual 497, 3) := by decide +kernel
theorem dX9_lasts_19 : decode cX9_lasts 19 = .ok (.ireturn, 1) := by decide +kernel
set_option maxRecDepth 20000 in
theorem ggX9_outAfter_X9_goQuarter : GoodIn wsX9_outAfter wsX9_goQuarter := goodIn_r _ [5, 6, 7, 8, 9, 4, 10, 11, 12, 13, 14, 15, 16, 17, 18, 19, 20, 21, 22, 23, 24, 25, 26, 27, 28, 29, 30, 31, 32, 33, 34, 35, 36, 37, 38, 39, 40, 41, 42, 43, 44, 45, 46, 47, 48, 49, 50, 51, 52, 53, 54, 55, 56, 57, 58, 59, 60, 61, 62, 63, 64, 65, 66, 67, 68, 69, 70, 71, 72, 73, 74, 75, 76, 77, 78, 79, 80, 81, 82, 83, 84, 85, 86, 87, 88, 89, 90, 91, 92, 93, 94, 95, 96, 97, 98, 99, 100, 101, 102, 103, 104, 110, 111, 112, 113, 114, 115, 116, 117, 118, 119, 120, 121, 122, 123, 124, 125, 126, 127, 128, 129, 130, 131, 132, 133, 134, 135, 136, 137, 138, 139, 140, 141, 142, 143, 144, 145, 146, 147, 148, 149, 150, 151, 152, 153, 154, 155, 156, 157, 158, 159, 160, 161, 162, 163, 164, 165, 166, 167, 168, 169, 170, 171, 172, 173, 174, 175, 176] rfl (by decide +kernel)
set_option maxRecDepth 20000 in
theorem gX9_outAfter_X9_goQuarter : GoodIn wsX9_outAfter (wsV RX9 450 RX9 yX9_goQuarter wsX9_goQuarter) := goodIn_app (goodIn_r _ [1, 2, 3, 4] rfl (by decide +kernel)) ggX9_outAfter_X9_goQuarter
set_option maxRecDepth 20000 in
theorem ggX9_outAfter_X9_many : GoodIn wsX9_outAfter wsX9_many := goodIn_r _ [14, 15, 16, 110, 111, 112, 113, 114, 115, 116, 117, 118, 119, 120, 121, 122, 123, 124, 125, 126, 127, 128, 129, 130, 131, 132, 133, 134, 135, 136, 137, 138, 139, 140, 141, 142, 143, 144, 145, 146, 147, 148, 149, 150, 151, 152, 153, 154, 155, 156, 157, 158, 159, 160, 161, 162, 163, 164, 165, 166, 167, 168, 169, 170, 171, 172, 173, 174, 175, 176] rfl (by decide +kernel)
set_option maxRecDepth 20000 in
theorem gX9_outAfter_X9_many : GoodIn wsX9_outAfter (wsV RX9 373 RX9 yX9_many wsX9_many) := goodIn_app (goodIn_r _ [11, 12, 13, 4] rfl (by decide +kernel)) ggX9_outAfter_X9_many
set_option maxRecDepth 20000 in
theorem ggX9_outAfter_X9_isOut : GoodIn wsX9_outAfter wsX9_isOut := goodIn_r _ [31, 6, 110, 111, 112, 113, 114, 115, 116, 117, 118, 119, 120, 121, 122, 123, 124, 125, 126, 127, 128, 129, 130, 131, 132, 133, 134, 135, 136, 137, 138, 139, 140, 141, 142, 143, 144, 145, 146, 147, 148, 149, 150, 151, 152, 153, 154, 155, 156, 157, 158, 159, 160, 161, 162, 163, 164, 165, 166, 167, 168, 169, 170, 171, 172, 173, 174, 175, 176] rfl (by decide +kernel)
set_option maxRecDepth 20000 in
theorem gX9_outAfter_X9_isOut : GoodIn wsX9_outAfter (wsV RX9 389 RX9 yX9_isOut wsX9_isOut) := goodIn_app (goodIn_r _ [28, 29, 30, 4] rfl (by decide +kernel)) ggX9_outAfter_X9_isOut
set_option maxRecDepth 20000 in
theorem ggX9_outAfter_X9_bringBack : GoodIn wsX9_outAfter wsX9_bringBack := goodIn_r _ [108, 6, 109, 110, 111, 112, 113, 114, 115, 116, 117, 118, 119, 120, 121, 122, 123, 124, 125, 126, 127, 128, 129, 130, 131, 132, 133, 134, 135, 136, 137, 138, 139, 140, 141, 142, 143, 144, 145, 146, 147, 148, 149, 150, 151, 152, 153, 154, 155, 156, 157, 158, 159, 160, 161, 162, 163, 164, 165, 166, 167, 168, 169, 170, 171, 172, 173, 174, 175, 176] rfl (by decide +kernel)
set_option maxRecDepth 20000 in
theorem gX9_outAfter_X9_bringBack : GoodIn wsX9_outAfter (wsV RX9 494 RX9 yX9_bringBack wsX9_bringBack) := goodIn_app (goodIn_r _ [105, 106, 107, 4] rfl (by decide +kernel)) ggX9_outAfter_X9_bringBack
theorem dX9_outAfter_0 : decode cX9_outAfter 0 = .ok (.iconst 0, 1) := by decide +kernel
theorem dX9_outAfter_1 : decode cX9_outAfter 1 = .ok (.istore_n 2, 1) := by decide +kernel
theorem dX9_outAfter_2 : decode cX9_outAfter 2 = .ok (.iload_n 2, 1) := by decide +kernel
theorem dX9_outAfter_3 : decode cX9_outAfter 3 = .ok (.iload_n 1, 1) := by decide +kernel
theorem dX9_outAfter_4 : decode cX9_outAfter 4 = .ok (.if_icmp .ge 14, 3) := by decide +kernel
theorem dX9_outAfter_7 : decode cX9_outAfter 7 = .ok (.aload_n 0, 1) := by decide +kernel
theorem dX9_outAfter_8 : decode cX9_outAfter 8 = .ok (.invokevirtual 450, 3) := by decide +kernel
theorem dX9_outAfter_11 : decode cX9_outAfter 11 = .ok (.istore_n 3, 1) := by decide +kernel
theorem dX9_outAfter_12 : decode cX9_outAfter 12 = .ok (.iinc 2 1, 3) := by decide +kernel
theorem dX9_outAfter_15 : decode cX9_outAfter 15 = .ok (.goto (-13), 3) := by decide +kernel
theorem dX9_outAfter_18 : decode cX9_outAfter 18 = .ok (.iconst 0, 1) := by decide +kernel
theorem dX9_outAfter_19 : decode cX9_outAfter 19 = .ok (.istore_n 2, 1) := by decide +kernel
theorem dX9_outAfter_20 : decode cX9_outAfter 20 = .ok (.iconst 0, 1) := by decide +kernel
theorem dX9_outAfter_21 : decode cX9_outAfter 21 = .ok (.istore_n 3, 1) := by decide +kernel
theorem dX9_outAfter_22 : decode cX9_outAfter 22 = .ok (.iload_n 3, 1) := by decide +kernel
theorem dX9_outAfter_23 : decode cX9_outAfter 23 = .ok (.aload_n 0, 1) := by decide +kernel
theorem dX9_outAfter_24 : decode cX9_outAfter 24 = .ok (.invokevirtual 373, 3) := by decide +kernel
theorem dX9_outAfter_27 : decode cX9_outAfter 27 = .ok (.if_icmp .ge 25, 3) := by decide +kernel
theorem dX9_outAfter_30 : decode cX9_outAfter 30 = .ok (.iload_n 2, 1) := by decide +kernel
theorem dX9_outAfter_31 : decode cX9_outAfter 31 = .ok (.aload_n 0, 1) := by decide +kernel
theorem dX9_outAfter_32 : decode cX9_outAfter 32 = .ok (.iload_n 3, 1) := by decide +kernel
theorem dX9_outAfter_33 : decode cX9_outAfter 33 = .ok (.invokevirtual 389, 3) := by decide +kernel
theorem dX9_outAfter_36 : decode cX9_outAfter 36 = .ok (.ifCond .eq 7, 3) := by decide +kernel
theorem dX9_outAfter_39 : decode cX9_outAfter 39 = .ok (.iconst 1, 1) := by decide +kernel
theorem dX9_outAfter_40 : decode cX9_outAfter 40 = .ok (.goto 4, 3) := by decide +kernel
theorem dX9_outAfter_43 : decode cX9_outAfter 43 = .ok (.iconst 0, 1) := by decide +kernel
theorem dX9_outAfter_44 : decode cX9_outAfter 44 = .ok (.iadd, 1) := by decide +kernel
theorem dX9_outAfter_45 : decode cX9_outAfter 45 = .ok (.istore_n 2, 1) := by decide +kernel
theorem dX9_outAfter_46 : decode cX9_outAfter 46 = .ok (.iinc 3 1, 3) := by decide +kernel
theorem dX9_outAfter_49 : decode cX9_outAfter 49 = .ok (.goto (-27), 3) := by decide +kernel
