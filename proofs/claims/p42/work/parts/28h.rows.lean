theorem dX9_pay_28 : decode cX9_pay 28 = .ok (.ifCond .eq 5, 3) := by decide +kernel
theorem dX9_pay_31 : decode cX9_pay 31 = .ok (.iload_n 2, 1) := by decide +kernel
theorem dX9_pay_32 : decode cX9_pay 32 = .ok (.ireturn, 1) := by decide +kernel
theorem dX9_pay_33 : decode cX9_pay 33 = .ok (.iinc 2 1, 3) := by decide +kernel
theorem dX9_pay_36 : decode cX9_pay 36 = .ok (.goto (-24), 3) := by decide +kernel
theorem dX9_pay_39 : decode cX9_pay 39 = .ok (.iconst (-1), 1) := by decide +kernel
theorem dX9_pay_40 : decode cX9_pay 40 = .ok (.ireturn, 1) := by decide +kernel
set_option maxRecDepth 20000 in
theorem ggX9_borne_X9_isAtHome : GoodIn wsX9_borne wsX9_isAtHome := goodIn_r _ [5, 6, 7, 8, 9, 4, 10, 11, 12, 13, 14, 15, 16, 17, 18, 19, 20, 21, 22, 23, 24, 25, 26, 27, 97, 98, 99, 100, 101, 102, 103, 104, 105, 106, 107, 108, 109, 110, 111, 112, 113, 114, 115, 116, 117, 118, 119, 120, 121, 122, 123, 124, 125, 126, 127, 128, 129, 130, 131, 132, 133, 134, 135, 136, 137, 138, 139, 140, 141, 142, 143, 144, 145, 146, 147, 148, 149, 150, 151, 152, 153, 154, 155, 156, 157, 158, 159, 160, 161, 162, 163] rfl (by decide +kernel)
set_option maxRecDepth 20000 in
theorem gX9_borne_X9_isAtHome : GoodIn wsX9_borne (wsV RX9 428 RX9 yX9_isAtHome wsX9_isAtHome) := goodIn_app (goodIn_r _ [1, 2, 3, 4] rfl (by decide +kernel)) ggX9_borne_X9_isAtHome
set_option maxRecDepth 20000 in
theorem ggX9_borne_X9_isLikedWith : GoodIn wsX9_borne wsX9_isLikedWith := goodIn_r _ [31, 6, 32, 33, 34, 4, 35, 36, 37, 38, 39, 40, 41, 42, 43, 44, 45, 46, 47, 48, 49, 16, 50, 24, 25, 26, 27, 51, 52, 53, 54, 55, 56, 57, 58, 59, 60, 61, 62, 63, 64, 65, 66, 67, 68, 69, 70, 71, 72, 73, 74, 75, 76, 77, 78, 79, 80, 81, 82, 83, 84, 85, 86, 87, 88, 89, 90, 91, 92, 93, 94, 95, 96, 97, 98, 99, 100, 101, 102, 103, 104, 105, 106, 107, 108, 109, 110, 111, 112, 113, 114, 115, 116, 117, 118, 119, 120, 121, 122, 123, 124, 125, 126, 127, 128, 129, 130, 131, 132, 133, 134, 135, 136, 137, 138, 139, 140, 141, 142, 143, 144, 145, 146, 147, 148, 149, 150, 151, 152, 153, 154, 155, 156, 157, 158, 159, 160, 161, 162, 163] rfl (by decide +kernel)
set_option maxRecDepth 20000 in
theorem gX9_borne_X9_isLikedWith : GoodIn wsX9_borne (wsV RX9 519 RX9 yX9_isLikedWith wsX9_isLikedWith) := goodIn_app (goodIn_r _ [28, 29, 30, 4] rfl (by decide +kernel)) ggX9_borne_X9_isLikedWith
theorem dX9_borne_0 : decode cX9_borne 0 = .ok (.aload_n 0, 1) := by decide +kernel
theorem dX9_borne_1 : decode cX9_borne 1 = .ok (.iload_n 1, 1) := by decide +kernel
theorem dX9_borne_2 : decode cX9_borne 2 = .ok (.invokevirtual 428, 3) := by decide +kernel
theorem dX9_borne_5 : decode cX9_borne 5 = .ok (.ifCond .ne 5, 3) := by decide +kernel
theorem dX9_borne_8 : decode cX9_borne 8 = .ok (.iconst (-1), 1) := by decide +kernel
theorem dX9_borne_9 : decode cX9_borne 9 = .ok (.ireturn, 1) := by decide +kernel
theorem dX9_borne_10 : decode cX9_borne 10 = .ok (.bipush 9, 2) := by decide +kernel
theorem dX9_borne_12 : decode cX9_borne 12 = .ok (.istore_n 2, 1) := by decide +kernel
theorem dX9_borne_13 : decode cX9_borne 13 = .ok (.iload_n 2, 1) := by decide +kernel
theorem dX9_borne_14 : decode cX9_borne 14 = .ok (.ifCond .lt 24, 3) := by decide +kernel
theorem dX9_borne_17 : decode cX9_borne 17 = .ok (.aload_n 0, 1) := by decide +kernel
theorem dX9_borne_18 : decode cX9_borne 18 = .ok (.bipush 29, 2) := by decide +kernel
theorem dX9_borne_20 : decode cX9_borne 20 = .ok (.iload_n 1, 1) := by decide +kernel
theorem dX9_borne_21 : decode cX9_borne 21 = .ok (.iadd, 1) := by decide +kernel
theorem dX9_borne_22 : decode cX9_borne 22 = .ok (.iload_n 2, 1) := by decide +kernel
theorem dX9_borne_23 : decode cX9_borne 23 = .ok (.iload_n 1, 1) := by decide +kernel
theorem dX9_borne_24 : decode cX9_borne 24 = .ok (.invokevirtual 519, 3) := by decide +kernel
theorem dX9_borne_27 : decode cX9_borne 27 = .ok (.ifCond .eq 5, 3) := by decide +kernel
theorem dX9_borne_30 : decode cX9_borne 30 = .ok (.iload_n 2, 1) := by decide +kernel
theorem dX9_borne_31 : decode cX9_borne 31 = .ok (.ireturn, 1) := by decide +kernel
theorem dX9_borne_32 : decode cX9_borne 32 = .ok (.iinc 2 (-1), 3) := by decide +kernel
theorem dX9_borne_35 : decode cX9_borne 35 = .ok (.goto (-22), 3) := by decide +kernel
theorem dX9_borne_38 : decode cX9_borne 38 = .ok (.iconst (-1), 1) := by decide +kernel
theorem dX9_borne_39 : decode cX9_borne 39 = .ok (.ireturn, 1) := by decide +kernel
set_option maxRecDepth 20000 in
theorem ggX9_crowd_X9_isCat : GoodIn wsX9_crowd wsX9_isCat := goodIn_r _ [6, 7, 8, 9, 5, 10, 11, 12, 13, 14, 15, 97, 98, 99, 100, 101, 102, 103, 104, 105, 106, 107, 108, 109, 110, 111, 112, 113, 114, 115, 116, 117, 118, 119, 120, 121, 122, 123, 124, 125, 126, 127, 128, 129, 130, 131, 132, 133, 134, 135, 136, 137, 138, 139, 140, 141, 142, 143, 144, 145, 146, 147, 148, 149, 150, 151, 152, 153, 154, 155, 156, 157, 158, 159, 160, 161, 162, 163] rfl (by decide +kernel)
set_option maxRecDepth 20000 in
theorem gX9_crowd_X9_isCat : GoodIn wsX9_crowd (wsV RX9 456 RX9 yX9_isCat wsX9_isCat) := goodIn_app (goodIn_r _ [2, 3, 4, 5] rfl (by decide +kernel)) ggX9_crowd_X9_isCat
set_option maxRecDepth 20000 in
theorem ggX9_crowd_X9_lives : GoodIn wsX9_crowd wsX9_lives := goodIn_r _ [19, 20, 21, 22, 5, 23, 97, 98, 99, 100, 101, 102, 103, 104, 105, 106, 107, 108, 109, 110, 111, 112, 113, 114, 115, 116, 117, 118, 119, 120, 121, 122, 123, 124, 125, 126, 127, 128, 129, 130, 131, 132, 133, 134, 135, 136, 137, 138, 139, 140, 141, 142, 143, 144, 145, 146, 147, 148, 149, 150, 151, 152, 153, 154, 155, 156, 157, 158, 159, 160, 161, 162, 163] rfl (by decide +kernel)
set_option maxRecDepth 20000 in
theorem gX9_crowd_X9_lives : GoodIn wsX9_crowd (wsV RX9 434 RX9 yX9_lives wsX9_lives) := goodIn_app (goodIn_r _ [16, 17, 18, 5] rfl (by decide +kernel)) ggX9_crowd_X9_lives
set_option maxRecDepth 20000 in
theorem ggX9_crowd_X9_roomsOf : GoodIn wsX9_crowd wsX9_roomsOf := goodIn_r _ [27, 28, 29, 30, 5, 31, 32, 12, 33, 34, 35, 36, 20, 97, 98, 99, 100, 101, 102, 103, 104, 105, 106, 107, 108, 109, 110, 111, 112, 113, 114, 115, 116, 117, 118, 119, 120, 121, 122, 123, 124, 125, 126, 127, 128, 129, 130, 131, 132, 133, 134, 135, 136, 137, 138, 139, 140, 141, 142, 143, 144, 145, 146, 147, 148, 149, 150, 151, 152, 153, 154, 155, 156, 157, 158, 159, 160, 161, 162, 163] rfl (by decide +kernel)
set_option maxRecDepth 20000 in
theorem gX9_crowd_X9_roomsOf : GoodIn wsX9_crowd (wsV RX9 413 RX9 yX9_roomsOf wsX9_roomsOf) := goodIn_app (goodIn_r _ [24, 25, 26, 5] rfl (by decide +kernel)) ggX9_crowd_X9_roomsOf
set_option maxRecDepth 20000 in
theorem ggX9_crowd_X9_thoseIn : GoodIn wsX9_crowd wsX9_thoseIn := goodIn_r _ [40, 20, 41, 42, 43, 5, 44, 45, 12, 46, 47, 48, 49, 21, 22, 23, 97, 98, 99, 100, 101, 102, 103, 104, 105, 106, 107, 108, 109, 110, 111, 112, 113, 114, 115, 116, 117, 118, 119, 120, 121, 122, 123, 124, 125, 126, 127, 128, 129, 130, 131, 132, 133, 134, 135, 136, 137, 138, 139, 140, 141, 142, 143, 144, 145, 146, 147, 148, 149, 150, 151, 152, 153, 154, 155, 156, 157, 158, 159, 160, 161, 162, 163] rfl (by decide +kernel)
set_option maxRecDepth 20000 in
theorem gX9_crowd_X9_thoseIn : GoodIn wsX9_crowd (wsV RX9 459 RX9 yX9_thoseIn wsX9_thoseIn) := goodIn_app (goodIn_r _ [37, 38, 39, 5] rfl (by decide +kernel)) ggX9_crowd_X9_thoseIn
set_option maxRecDepth 20000 in
theorem ggX9_crowd_X9_many : GoodIn wsX9_crowd wsX9_many := goodIn_r _ [44, 45, 12, 97, 98, 99, 100, 101, 102, 103, 104, 105, 106, 107, 108, 109, 110, 111, 112, 113, 114, 115, 116, 117, 118, 119, 120, 121, 122, 123, 124, 125, 126, 127, 128, 129, 130, 131, 132, 133, 134, 135, 136, 137, 138, 139, 140, 141, 142, 143, 144, 145, 146, 147, 148, 149, 150, 151, 152, 153, 154, 155, 156, 157, 158, 159, 160, 161, 162, 163] rfl (by decide +kernel)
set_option maxRecDepth 20000 in
theorem gX9_crowd_X9_many : GoodIn wsX9_crowd (wsV RX9 373 RX9 yX9_many wsX9_many) := goodIn_app (goodIn_r _ [41, 42, 43, 5] rfl (by decide +kernel)) ggX9_crowd_X9_many
set_option maxRecDepth 20000 in
theorem ggX9_crowd_X9_bit : GoodIn wsX9_crowd wsX9_bit := goodIn_r _ [23] rfl (by decide +kernel)
set_option maxRecDepth 20000 in
theorem gX9_crowd_X9_bit : GoodIn wsX9_crowd (va_wsS RX9 274 yX9_bit wsX9_bit) := goodIn_app (goodIn_r _ [21, 22, 5] rfl (by decide +kernel)) ggX9_crowd_X9_bit
set_option maxRecDepth 20000 in
theorem ggX9_crowd_X9_likingNow : GoodIn wsX9_crowd wsX9_likingNow := goodIn_r _ [53, 20, 54, 55, 56, 5, 57, 58, 59, 60, 61, 62, 63, 64, 1, 65, 66, 12, 67, 33, 34, 35, 36, 68, 69, 70, 71, 72, 73, 74, 7, 8, 9, 10, 11, 24, 25, 26, 27, 28, 29, 30, 31, 32, 75, 76, 77, 21, 22, 23, 78, 79, 80, 81, 82, 83, 84, 85, 86, 87, 88, 89, 90, 91, 92, 93, 94, 95, 96, 97, 98, 99, 100, 101, 102, 103, 104, 105, 106, 107, 108, 109, 110, 111, 112, 113, 114, 115, 116, 117, 118, 119, 120, 121, 122, 123, 124, 125, 126, 127, 128, 129, 130, 131, 132, 133, 134, 135, 136, 137, 138, 139, 140, 141, 142, 143, 144, 145, 146, 147, 148, 149, 150, 151, 152, 153, 154, 155, 156, 157, 158, 159, 160, 161, 162, 163] rfl (by decide +kernel)
set_option maxRecDepth 20000 in
theorem gX9_crowd_X9_likingNow : GoodIn wsX9_crowd (wsV RX9 431 RX9 yX9_likingNow wsX9_likingNow) := goodIn_app (goodIn_r _ [50, 51, 52, 5] rfl (by decide +kernel)) ggX9_crowd_X9_likingNow
theorem dX9_crowd_0 : decode cX9_crowd 0 = .ok (.aload_n 0, 1) := by decide +kernel
theorem dX9_crowd_1 : decode cX9_crowd 1 = .ok (.iload_n 1, 1) := by decide +kernel
theorem dX9_crowd_2 : decode cX9_crowd 2 = .ok (.invokevirtual 456, 3) := by decide +kernel
theorem dX9_crowd_5 : decode cX9_crowd 5 = .ok (.ifCond .eq 11, 3) := by decide +kernel
theorem dX9_crowd_8 : decode cX9_crowd 8 = .ok (.aload_n 0, 1) := by decide +kernel
theorem dX9_crowd_9 : decode cX9_crowd 9 = .ok (.iload_n 1, 1) := by decide +kernel
theorem dX9_crowd_10 : decode cX9_crowd 10 = .ok (.invokevirtual 434, 3) := by decide +kernel
theorem dX9_crowd_13 : decode cX9_crowd 13 = .ok (.ifCond .ne 5, 3) := by decide +kernel
theorem dX9_crowd_16 : decode cX9_crowd 16 = .ok (.iconst (-1), 1) := by decide +kernel
theorem dX9_crowd_17 : decode cX9_crowd 17 = .ok (.ireturn, 1) := by decide +kernel
theorem dX9_crowd_18 : decode cX9_crowd 18 = .ok (.aload_n 0, 1) := by decide +kernel
theorem dX9_crowd_19 : decode cX9_crowd 19 = .ok (.aload_n 0, 1) := by decide +kernel
theorem dX9_crowd_20 : decode cX9_crowd 20 = .ok (.iload_n 1, 1) := by decide +kernel
theorem dX9_crowd_21 : decode cX9_crowd 21 = .ok (.invokevirtual 413, 3) := by decide +kernel
theorem dX9_crowd_24 : decode cX9_crowd 24 = .ok (.invokevirtual 459, 3) := by decide +kernel
theorem dX9_crowd_27 : decode cX9_crowd 27 = .ok (.istore_n 2, 1) := by decide +kernel
theorem dX9_crowd_28 : decode cX9_crowd 28 = .ok (.iconst (-1), 1) := by decide +kernel
theorem dX9_crowd_29 : decode cX9_crowd 29 = .ok (.istore_n 3, 1) := by decide +kernel
theorem dX9_crowd_30 : decode cX9_crowd 30 = .ok (.iconst 0, 1) := by decide +kernel
theorem dX9_crowd_31 : decode cX9_crowd 31 = .ok (.istore 4, 2) := by decide +kernel
theorem dX9_crowd_33 : decode cX9_crowd 33 = .ok (.iload 4, 2) := by decide +kernel
theorem dX9_crowd_35 : decode cX9_crowd 35 = .ok (.bipush 8, 2) := by decide +kernel
theorem dX9_crowd_37 : decode cX9_crowd 37 = .ok (.if_icmp .gt 74, 3) := by decide +kernel
theorem dX9_crowd_40 : decode cX9_crowd 40 = .ok (.aload_n 0, 1) := by decide +kernel
theorem dX9_crowd_41 : decode cX9_crowd 41 = .ok (.iload 4, 2) := by decide +kernel
theorem dX9_crowd_43 : decode cX9_crowd 43 = .ok (.putfield 103, 3) := by decide +kernel
theorem dX9_crowd_46 : decode cX9_crowd 46 = .ok (.iconst 1, 1) := by decide +kernel
theorem dX9_crowd_47 : decode cX9_crowd 47 = .ok (.istore 5, 2) := by decide +kernel
theorem dX9_crowd_49 : decode cX9_crowd 49 = .ok (.iconst 0, 1) := by decide +kernel
theorem dX9_crowd_50 : decode cX9_crowd 50 = .ok (.istore 6, 2) := by decide +kernel
theorem dX9_crowd_52 : decode cX9_crowd 52 = .ok (.iload 6, 2) := by decide +kernel
theorem dX9_crowd_54 : decode cX9_crowd 54 = .ok (.aload_n 0, 1) := by decide +kernel
theorem dX9_crowd_55 : decode cX9_crowd 55 = .ok (.invokevirtual 373, 3) := by decide +kernel
theorem dX9_crowd_58 : decode cX9_crowd 58 = .ok (.if_icmp .ge 39, 3) := by decide +kernel
theorem dX9_crowd_61 : decode cX9_crowd 61 = .ok (.iload 5, 2) := by decide +kernel
theorem dX9_crowd_63 : decode cX9_crowd 63 = .ok (.ifCond .eq 25, 3) := by decide +kernel
theorem dX9_crowd_66 : decode cX9_crowd 66 = .ok (.iload_n 2, 1) := by decide +kernel
theorem dX9_crowd_67 : decode cX9_crowd 67 = .ok (.iload 6, 2) := by decide +kernel
theorem dX9_crowd_69 : decode cX9_crowd 69 = .ok (.invokestatic 274, 3) := by decide +kernel
theorem dX9_crowd_72 : decode cX9_crowd 72 = .ok (.ifCond .eq 12, 3) := by decide +kernel
theorem dX9_crowd_75 : decode cX9_crowd 75 = .ok (.aload_n 0, 1) := by decide +kernel
theorem dX9_crowd_76 : decode cX9_crowd 76 = .ok (.iload 6, 2) := by decide +kernel
theorem dX9_crowd_78 : decode cX9_crowd 78 = .ok (.invokevirtual 431, 3) := by decide +kernel
theorem dX9_crowd_81 : decode cX9_crowd 81 = .ok (.ifCond .le 7, 3) := by decide +kernel
theorem dX9_crowd_84 : decode cX9_crowd 84 = .ok (.iconst 1, 1) := by decide +kernel
theorem dX9_crowd_85 : decode cX9_crowd 85 = .ok (.goto 4, 3) := by decide +kernel
theorem dX9_crowd_88 : decode cX9_crowd 88 = .ok (.iconst 0, 1) := by decide +kernel
theorem dX9_crowd_89 : decode cX9_crowd 89 = .ok (.istore 5, 2) := by decide +kernel
theorem dX9_crowd_91 : decode cX9_crowd 91 = .ok (.iinc 6 1, 3) := by decide +kernel
theorem dX9_crowd_94 : decode cX9_crowd 94 = .ok (.goto (-42), 3) := by decide +kernel
theorem dX9_crowd_97 : decode cX9_crowd 97 = .ok (.iload 5, 2) := by decide +kernel
theorem dX9_crowd_99 : decode cX9_crowd 99 = .ok (.ifCond .eq 6, 3) := by decide +kernel
theorem dX9_crowd_102 : decode cX9_crowd 102 = .ok (.iload 4, 2) := by decide +kernel
theorem dX9_crowd_104 : decode cX9_crowd 104 = .ok (.istore_n 3, 1) := by decide +kernel
theorem dX9_crowd_105 : decode cX9_crowd 105 = .ok (.iinc 4 1, 3) := by decide +kernel
theorem dX9_crowd_108 : decode cX9_crowd 108 = .ok (.goto (-75), 3) := by decide +kernel
theorem dX9_crowd_111 : decode cX9_crowd 111 = .ok (.aload_n 0, 1) := by decide +kernel
theorem dX9_crowd_112 : decode cX9_crowd 112 = .ok (.iconst (-1), 1) := by decide +kernel
theorem dX9_crowd_113 : decode cX9_crowd 113 = .ok (.putfield 103, 3) := by decide +kernel
theorem dX9_crowd_116 : decode cX9_crowd 116 = .ok (.iload_n 3, 1) := by decide +kernel
theorem dX9_crowd_117 : decode cX9_crowd 117 = .ok (.ireturn, 1) := by decide +kernel
theorem dX9_capped_0 : decode cX9_capped 0 = .ok (.iload_n 0, 1) := by decide +kernel
theorem dX9_capped_1 : decode cX9_capped 1 = .ok (.bipush 99, 2) := by decide +kernel
theorem dX9_capped_3 : decode cX9_capped 3 = .ok (.if_icmp .ge 7, 3) := by decide +kernel
theorem dX9_capped_6 : decode cX9_capped 6 = .ok (.iload_n 0, 1) := by decide +kernel
theorem dX9_capped_7 : decode cX9_capped 7 = .ok (.goto 5, 3) := by decide +kernel
theorem dX9_capped_10 : decode cX9_capped 10 = .ok (.bipush 99, 2) := by decide +kernel
theorem dX9_capped_12 : decode cX9_capped 12 = .ok (.ireturn, 1) := by decide +kernel
set_option maxRecDepth 20000 in
theorem ggX9_layGood_X9_capped : GoodIn wsX9_layGood wsX9_capped := goodIn_r _ [6] rfl (by decide +kernel)
set_option maxRecDepth 20000 in
theorem gX9_layGood_X9_capped : GoodIn wsX9_layGood (va_wsS RX9 522 yX9_capped wsX9_capped) := goodIn_app (goodIn_r _ [3, 4, 5] rfl (by decide +kernel)) ggX9_layGood_X9_capped
set_option maxRecDepth 20000 in
theorem ggX9_layGood_X9_likingIn : GoodIn wsX9_layGood wsX9_likingIn := goodIn_r _ [10, 1, 11, 12, 13, 5, 14, 15, 16, 17, 18, 19, 20, 21, 22, 23, 24, 25, 26, 27, 28, 29, 30, 31, 32, 33, 34, 35, 36, 37, 38, 39, 40, 41, 42, 43, 44, 45, 46, 47, 48, 49, 50, 51, 52, 53, 54, 55, 56, 57, 58, 59, 60, 61, 62, 63, 64, 65, 66, 67, 68, 69, 70, 71, 72, 73, 74, 75, 76, 77, 78, 79, 80, 81, 82, 83, 84, 85, 86, 87, 88, 89, 90, 91, 92, 93, 94, 95, 96, 97, 98, 99, 100, 101, 102, 103, 104, 105, 106, 107, 108, 109, 110, 111, 112, 113, 114, 115, 116, 117, 118, 119, 120, 121, 122, 123, 124, 125, 126, 127, 128, 129, 130, 131, 132, 133, 134, 135, 136, 137, 138, 139] rfl (by decide +kernel)
set_option maxRecDepth 20000 in
theorem gX9_layGood_X9_likingIn : GoodIn wsX9_layGood (wsV RX9 425 RX9 yX9_likingIn wsX9_likingIn) := goodIn_app (goodIn_r _ [7, 8, 9, 5] rfl (by decide +kernel)) ggX9_layGood_X9_likingIn
theorem dX9_layGood_0 : decode cX9_layGood 0 = .ok (.iconst 0, 1) := by decide +kernel
theorem dX9_layGood_1 : decode cX9_layGood 1 = .ok (.istore 4, 2) := by decide +kernel
theorem dX9_layGood_3 : decode cX9_layGood 3 = .ok (.iload 4, 2) := by decide +kernel
theorem dX9_layGood_5 : decode cX9_layGood 5 = .ok (.bipush 36, 2) := by decide +kernel
theorem dX9_layGood_7 : decode cX9_layGood 7 = .ok (.if_icmp .ge 174, 3) := by decide +kernel
theorem dX9_layGood_10 : decode cX9_layGood 10 = .ok (.aload_n 0, 1) := by decide +kernel
theorem dX9_layGood_11 : decode cX9_layGood 11 = .ok (.getfield 94, 3) := by decide +kernel
theorem dX9_layGood_14 : decode cX9_layGood 14 = .ok (.bipush 22, 2) := by decide +kernel
theorem dX9_layGood_16 : decode cX9_layGood 16 = .ok (.iload_n 1, 1) := by decide +kernel
theorem dX9_layGood_17 : decode cX9_layGood 17 = .ok (.iadd, 1) := by decide +kernel
theorem dX9_layGood_18 : decode cX9_layGood 18 = .ok (.iaload, 1) := by decide +kernel
theorem dX9_layGood_19 : decode cX9_layGood 19 = .ok (.istore 5, 2) := by decide +kernel
theorem dX9_layGood_21 : decode cX9_layGood 21 = .ok (.aload_n 0, 1) := by decide +kernel
theorem dX9_layGood_22 : decode cX9_layGood 22 = .ok (.getfield 94, 3) := by decide +kernel
theorem dX9_layGood_25 : decode cX9_layGood 25 = .ok (.bipush 22, 2) := by decide +kernel
theorem dX9_layGood_27 : decode cX9_layGood 27 = .ok (.iload_n 2, 1) := by decide +kernel
theorem dX9_layGood_28 : decode cX9_layGood 28 = .ok (.iadd, 1) := by decide +kernel
theorem dX9_layGood_29 : decode cX9_layGood 29 = .ok (.iaload, 1) := by decide +kernel
theorem dX9_layGood_30 : decode cX9_layGood 30 = .ok (.istore 6, 2) := by decide +kernel
theorem dX9_layGood_32 : decode cX9_layGood 32 = .ok (.aload_n 0, 1) := by decide +kernel
theorem dX9_layGood_33 : decode cX9_layGood 33 = .ok (.getfield 94, 3) := by decide +kernel
theorem dX9_layGood_36 : decode cX9_layGood 36 = .ok (.bipush 22, 2) := by decide +kernel
theorem dX9_layGood_38 : decode cX9_layGood 38 = .ok (.iload_n 1, 1) := by decide +kernel
theorem dX9_layGood_39 : decode cX9_layGood 39 = .ok (.iadd, 1) := by decide +kernel
theorem dX9_layGood_40 : decode cX9_layGood 40 = .ok (.iload 5, 2) := by decide +kernel
theorem dX9_layGood_42 : decode cX9_layGood 42 = .ok (.iload 4, 2) := by decide +kernel
theorem dX9_layGood_44 : decode cX9_layGood 44 = .ok (.bipush 6, 2) := by decide +kernel
theorem dX9_layGood_46 : decode cX9_layGood 46 = .ok (.idiv, 1) := by decide +kernel
theorem dX9_layGood_47 : decode cX9_layGood 47 = .ok (.iadd, 1) := by decide +kernel
theorem dX9_layGood_48 : decode cX9_layGood 48 = .ok (.invokestatic 522, 3) := by decide +kernel
theorem dX9_layGood_51 : decode cX9_layGood 51 = .ok (.iastore, 1) := by decide +kernel
theorem dX9_layGood_52 : decode cX9_layGood 52 = .ok (.aload_n 0, 1) := by decide +kernel
theorem dX9_layGood_53 : decode cX9_layGood 53 = .ok (.getfield 94, 3) := by decide +kernel
theorem dX9_layGood_56 : decode cX9_layGood 56 = .ok (.bipush 22, 2) := by decide +kernel
theorem dX9_layGood_58 : decode cX9_layGood 58 = .ok (.iload_n 2, 1) := by decide +kernel
theorem dX9_layGood_59 : decode cX9_layGood 59 = .ok (.iadd, 1) := by decide +kernel
theorem dX9_layGood_60 : decode cX9_layGood 60 = .ok (.iload 6, 2) := by decide +kernel
theorem dX9_layGood_62 : decode cX9_layGood 62 = .ok (.iload 4, 2) := by decide +kernel
theorem dX9_layGood_64 : decode cX9_layGood 64 = .ok (.bipush 6, 2) := by decide +kernel
theorem dX9_layGood_66 : decode cX9_layGood 66 = .ok (.irem, 1) := by decide +kernel
theorem dX9_layGood_67 : decode cX9_layGood 67 = .ok (.iadd, 1) := by decide +kernel
theorem dX9_layGood_68 : decode cX9_layGood 68 = .ok (.invokestatic 522, 3) := by decide +kernel
theorem dX9_layGood_71 : decode cX9_layGood 71 = .ok (.iastore, 1) := by decide +kernel
theorem dX9_layGood_72 : decode cX9_layGood 72 = .ok (.aload_n 0, 1) := by decide +kernel
theorem dX9_layGood_73 : decode cX9_layGood 73 = .ok (.iload_n 1, 1) := by decide +kernel
theorem dX9_layGood_74 : decode cX9_layGood 74 = .ok (.iload_n 3, 1) := by decide +kernel
theorem dX9_layGood_75 : decode cX9_layGood 75 = .ok (.invokevirtual 425, 3) := by decide +kernel
theorem dX9_layGood_78 : decode cX9_layGood 78 = .ok (.istore 7, 2) := by decide +kernel
theorem dX9_layGood_80 : decode cX9_layGood 80 = .ok (.aload_n 0, 1) := by decide +kernel
theorem dX9_layGood_81 : decode cX9_layGood 81 = .ok (.iload_n 2, 1) := by decide +kernel
theorem dX9_layGood_82 : decode cX9_layGood 82 = .ok (.iload_n 3, 1) := by decide +kernel
theorem dX9_layGood_83 : decode cX9_layGood 83 = .ok (.invokevirtual 425, 3) := by decide +kernel
theorem dX9_layGood_86 : decode cX9_layGood 86 = .ok (.istore 8, 2) := by decide +kernel
theorem dX9_layGood_88 : decode cX9_layGood 88 = .ok (.aload_n 0, 1) := by decide +kernel
theorem dX9_layGood_89 : decode cX9_layGood 89 = .ok (.getfield 118, 3) := by decide +kernel
theorem dX9_layGood_92 : decode cX9_layGood 92 = .ok (.iload 4, 2) := by decide +kernel
theorem dX9_layGood_94 : decode cX9_layGood 94 = .ok (.iload 7, 2) := by decide +kernel
theorem dX9_layGood_96 : decode cX9_layGood 96 = .ok (.ifCond .le 15, 3) := by decide +kernel
theorem dX9_layGood_99 : decode cX9_layGood 99 = .ok (.iload 7, 2) := by decide +kernel
theorem dX9_layGood_101 : decode cX9_layGood 101 = .ok (.iload 8, 2) := by decide +kernel
theorem dX9_layGood_103 : decode cX9_layGood 103 = .ok (.if_icmp .lt 8, 3) := by decide +kernel
theorem dX9_layGood_106 : decode cX9_layGood 106 = .ok (.bipush 100, 2) := by decide +kernel
theorem dX9_layGood_108 : decode cX9_layGood 108 = .ok (.goto 4, 3) := by decide +kernel
theorem dX9_layGood_111 : decode cX9_layGood 111 = .ok (.iconst 0, 1) := by decide +kernel
theorem dX9_layGood_112 : decode cX9_layGood 112 = .ok (.iload 4, 2) := by decide +kernel
theorem dX9_layGood_114 : decode cX9_layGood 114 = .ok (.bipush 6, 2) := by decide +kernel
theorem dX9_layGood_116 : decode cX9_layGood 116 = .ok (.idiv, 1) := by decide +kernel
theorem dX9_layGood_117 : decode cX9_layGood 117 = .ok (.isub, 1) := by decide +kernel
theorem dX9_layGood_118 : decode cX9_layGood 118 = .ok (.iastore, 1) := by decide +kernel
theorem dX9_layGood_119 : decode cX9_layGood 119 = .ok (.aload_n 0, 1) := by decide +kernel
theorem dX9_layGood_120 : decode cX9_layGood 120 = .ok (.getfield 118, 3) := by decide +kernel
theorem dX9_layGood_123 : decode cX9_layGood 123 = .ok (.bipush 36, 2) := by decide +kernel
theorem dX9_layGood_125 : decode cX9_layGood 125 = .ok (.iload 4, 2) := by decide +kernel
theorem dX9_layGood_127 : decode cX9_layGood 127 = .ok (.iadd, 1) := by decide +kernel
theorem dX9_layGood_128 : decode cX9_layGood 128 = .ok (.iload 8, 2) := by decide +kernel
theorem dX9_layGood_130 : decode cX9_layGood 130 = .ok (.ifCond .le 15, 3) := by decide +kernel
theorem dX9_layGood_133 : decode cX9_layGood 133 = .ok (.iload 8, 2) := by decide +kernel
theorem dX9_layGood_135 : decode cX9_layGood 135 = .ok (.iload 7, 2) := by decide +kernel
theorem dX9_layGood_137 : decode cX9_layGood 137 = .ok (.if_icmp .le 8, 3) := by decide +kernel
theorem dX9_layGood_140 : decode cX9_layGood 140 = .ok (.bipush 100, 2) := by decide +kernel
theorem dX9_layGood_142 : decode cX9_layGood 142 = .ok (.goto 4, 3) := by decide +kernel
theorem dX9_layGood_145 : decode cX9_layGood 145 = .ok (.iconst 0, 1) := by decide +kernel
theorem dX9_layGood_146 : decode cX9_layGood 146 = .ok (.iload 4, 2) := by decide +kernel
theorem dX9_layGood_148 : decode cX9_layGood 148 = .ok (.bipush 6, 2) := by decide +kernel
theorem dX9_layGood_150 : decode cX9_layGood 150 = .ok (.irem, 1) := by decide +kernel
theorem dX9_layGood_151 : decode cX9_layGood 151 = .ok (.isub, 1) := by decide +kernel
theorem dX9_layGood_152 : decode cX9_layGood 152 = .ok (.iastore, 1) := by decide +kernel
theorem dX9_layGood_153 : decode cX9_layGood 153 = .ok (.aload_n 0, 1) := by decide +kernel
theorem dX9_layGood_154 : decode cX9_layGood 154 = .ok (.getfield 94, 3) := by decide +kernel
theorem dX9_layGood_157 : decode cX9_layGood 157 = .ok (.bipush 22, 2) := by decide +kernel
theorem dX9_layGood_159 : decode cX9_layGood 159 = .ok (.iload_n 1, 1) := by decide +kernel
theorem dX9_layGood_160 : decode cX9_layGood 160 = .ok (.iadd, 1) := by decide +kernel
theorem dX9_layGood_161 : decode cX9_layGood 161 = .ok (.iload 5, 2) := by decide +kernel
theorem dX9_layGood_163 : decode cX9_layGood 163 = .ok (.iastore, 1) := by decide +kernel
theorem dX9_layGood_164 : decode cX9_layGood 164 = .ok (.aload_n 0, 1) := by decide +kernel
theorem dX9_layGood_165 : decode cX9_layGood 165 = .ok (.getfield 94, 3) := by decide +kernel
theorem dX9_layGood_168 : decode cX9_layGood 168 = .ok (.bipush 22, 2) := by decide +kernel
theorem dX9_layGood_170 : decode cX9_layGood 170 = .ok (.iload_n 2, 1) := by decide +kernel
theorem dX9_layGood_171 : decode cX9_layGood 171 = .ok (.iadd, 1) := by decide +kernel
theorem dX9_layGood_172 : decode cX9_layGood 172 = .ok (.iload 6, 2) := by decide +kernel
theorem dX9_layGood_174 : decode cX9_layGood 174 = .ok (.iastore, 1) := by decide +kernel
theorem dX9_layGood_175 : decode cX9_layGood 175 = .ok (.iinc 4 1, 3) := by decide +kernel
theorem dX9_layGood_178 : decode cX9_layGood 178 = .ok (.goto (-175), 3) := by decide +kernel
theorem dX9_layGood_181 : decode cX9_layGood 181 = .ok (.return_, 1) := by decide +kernel
theorem dX9_isRest_0 : decode cX9_isRest 0 = .ok (.iconst 0, 1) := by decide +kernel
theorem dX9_isRest_1 : decode cX9_isRest 1 = .ok (.istore_n 2, 1) := by decide +kernel
theorem dX9_isRest_2 : decode cX9_isRest 2 = .ok (.iload_n 2, 1) := by decide +kernel
theorem dX9_isRest_3 : decode cX9_isRest 3 = .ok (.iconst 5, 1) := by decide +kernel
theorem dX9_isRest_4 : decode cX9_isRest 4 = .ok (.if_icmp .gt 62, 3) := by decide +kernel
theorem dX9_isRest_7 : decode cX9_isRest 7 = .ok (.aload_n 0, 1) := by decide +kernel
theorem dX9_isRest_8 : decode cX9_isRest 8 = .ok (.getfield 118, 3) := by decide +kernel
theorem dX9_isRest_11 : decode cX9_isRest 11 = .ok (.bipush 6, 2) := by decide +kernel
theorem dX9_isRest_13 : decode cX9_isRest 13 = .ok (.iload_n 2, 1) := by decide +kernel
theorem dX9_isRest_14 : decode cX9_isRest 14 = .ok (.imul, 1) := by decide +kernel
theorem dX9_isRest_15 : decode cX9_isRest 15 = .ok (.iload_n 1, 1) := by decide +kernel
theorem dX9_isRest_16 : decode cX9_isRest 16 = .ok (.bipush 6, 2) := by decide +kernel
theorem dX9_isRest_18 : decode cX9_isRest 18 = .ok (.irem, 1) := by decide +kernel
theorem dX9_isRest_19 : decode cX9_isRest 19 = .ok (.iadd, 1) := by decide +kernel
theorem dX9_isRest_20 : decode cX9_isRest 20 = .ok (.iaload, 1) := by decide +kernel
theorem dX9_isRest_21 : decode cX9_isRest 21 = .ok (.aload_n 0, 1) := by decide +kernel
theorem dX9_isRest_22 : decode cX9_isRest 22 = .ok (.getfield 118, 3) := by decide +kernel
theorem dX9_isRest_25 : decode cX9_isRest 25 = .ok (.iload_n 1, 1) := by decide +kernel
theorem dX9_isRest_26 : decode cX9_isRest 26 = .ok (.iaload, 1) := by decide +kernel
theorem dX9_isRest_27 : decode cX9_isRest 27 = .ok (.if_icmp .gt 31, 3) := by decide +kernel
theorem dX9_isRest_30 : decode cX9_isRest 30 = .ok (.aload_n 0, 1) := by decide +kernel
theorem dX9_isRest_31 : decode cX9_isRest 31 = .ok (.getfield 118, 3) := by decide +kernel
theorem dX9_isRest_34 : decode cX9_isRest 34 = .ok (.bipush 36, 2) := by decide +kernel
theorem dX9_isRest_36 : decode cX9_isRest 36 = .ok (.iload_n 1, 1) := by decide +kernel
theorem dX9_isRest_37 : decode cX9_isRest 37 = .ok (.iadd, 1) := by decide +kernel
theorem dX9_isRest_38 : decode cX9_isRest 38 = .ok (.iload_n 1, 1) := by decide +kernel
theorem dX9_isRest_39 : decode cX9_isRest 39 = .ok (.bipush 6, 2) := by decide +kernel
theorem dX9_isRest_41 : decode cX9_isRest 41 = .ok (.irem, 1) := by decide +kernel
theorem dX9_isRest_42 : decode cX9_isRest 42 = .ok (.isub, 1) := by decide +kernel
theorem dX9_isRest_43 : decode cX9_isRest 43 = .ok (.iload_n 2, 1) := by decide +kernel
theorem dX9_isRest_44 : decode cX9_isRest 44 = .ok (.iadd, 1) := by decide +kernel
theorem dX9_isRest_45 : decode cX9_isRest 45 = .ok (.iaload, 1) := by decide +kernel
theorem dX9_isRest_46 : decode cX9_isRest 46 = .ok (.aload_n 0, 1) := by decide +kernel
theorem dX9_isRest_47 : decode cX9_isRest 47 = .ok (.getfield 118, 3) := by decide +kernel
theorem dX9_isRest_50 : decode cX9_isRest 50 = .ok (.bipush 36, 2) := by decide +kernel
theorem dX9_isRest_52 : decode cX9_isRest 52 = .ok (.iload_n 1, 1) := by decide +kernel
theorem dX9_isRest_53 : decode cX9_isRest 53 = .ok (.iadd, 1) := by decide +kernel
theorem dX9_isRest_54 : decode cX9_isRest 54 = .ok (.iaload, 1) := by decide +kernel
theorem dX9_isRest_55 : decode cX9_isRest 55 = .ok (.if_icmp .le 5, 3) := by decide +kernel
theorem dX9_isRest_58 : decode cX9_isRest 58 = .ok (.iconst 0, 1) := by decide +kernel
theorem dX9_isRest_59 : decode cX9_isRest 59 = .ok (.ireturn, 1) := by decide +kernel
theorem dX9_isRest_60 : decode cX9_isRest 60 = .ok (.iinc 2 1, 3) := by decide +kernel
theorem dX9_isRest_63 : decode cX9_isRest 63 = .ok (.goto (-61), 3) := by decide +kernel
theorem dX9_isRest_66 : decode cX9_isRest 66 = .ok (.iconst 1, 1) := by decide +kernel
theorem dX9_isRest_67 : decode cX9_isRest 67 = .ok (.ireturn, 1) := by decide +kernel
set_option maxRecDepth 20000 in
theorem ggX9_bid_X9_isTenant : GoodIn wsX9_bid wsX9_isTenant := goodIn_r _ [7, 8, 9, 10, 6, 11, 12, 13, 14, 15, 16, 107, 108, 109, 110, 111, 112, 113, 114, 115, 116, 117, 118, 119, 120, 121, 122, 123, 124, 125, 126, 127, 128, 129, 130, 131, 132, 133, 134, 135, 136, 137, 138, 139, 140, 141, 142, 143, 144, 145, 146, 147, 148, 149, 150, 151, 152, 153, 154, 155, 156, 157, 158, 159, 160, 161, 162, 163, 164, 165, 166, 167, 168, 169, 170, 171, 172, 173] rfl (by decide +kernel)
set_option maxRecDepth 20000 in
theorem gX9_bid_X9_isTenant : GoodIn wsX9_bid (wsV RX9 386 RX9 yX9_isTenant wsX9_isTenant) := goodIn_app (goodIn_r _ [3, 4, 5, 6] rfl (by decide +kernel)) ggX9_bid_X9_isTenant
set_option maxRecDepth 20000 in
theorem ggX9_bid_X9_isOut : GoodIn wsX9_bid wsX9_isOut := goodIn_r _ [20, 21, 107, 108, 109, 110, 111, 112, 113, 114, 115, 116, 117, 118, 119, 120, 121, 122, 123, 124, 125, 126, 127, 128, 129, 130, 131, 132, 133, 134, 135, 136, 137, 138, 139, 140, 141, 142, 143, 144, 145, 146, 147, 148, 149, 150, 151, 152, 153, 154, 155, 156, 157, 158, 159, 160, 161, 162, 163, 164, 165, 166, 167, 168, 169, 170, 171, 172, 173] rfl (by decide +kernel)
set_option maxRecDepth 20000 in
theorem gX9_bid_X9_isOut : GoodIn wsX9_bid (wsV RX9 389 RX9 yX9_isOut wsX9_isOut) := goodIn_app (goodIn_r _ [17, 18, 19, 6] rfl (by decide +kernel)) ggX9_bid_X9_isOut
set_option maxRecDepth 20000 in
theorem ggX9_bid_X9_isRoom : GoodIn wsX9_bid wsX9_isRoom := goodIn_r _ [25, 26, 27, 28, 6, 29, 30, 13, 14, 15, 16, 107, 108, 109, 110, 111, 112, 113, 114, 115, 116, 117, 118, 119, 120, 121, 122, 123, 124, 125, 126, 127, 128, 129, 130, 131, 132, 133, 134, 135, 136, 137, 138, 139, 140, 141, 142, 143, 144, 145, 146, 147, 148, 149, 150, 151, 152, 153, 154, 155, 156, 157, 158, 159, 160, 161, 162, 163, 164, 165, 166, 167, 168, 169, 170, 171, 172, 173] rfl (by decide +kernel)
set_option maxRecDepth 20000 in
theorem gX9_bid_X9_isRoom : GoodIn wsX9_bid (wsV RX9 462 RX9 yX9_isRoom wsX9_isRoom) := goodIn_app (goodIn_r _ [22, 23, 24, 6] rfl (by decide +kernel)) ggX9_bid_X9_isRoom
set_option maxRecDepth 20000 in
theorem ggX9_bid_X9_whoIn : GoodIn wsX9_bid wsX9_whoIn := goodIn_r _ [34, 21, 8, 9, 10, 6, 11, 12, 13, 107, 108, 109, 110, 111, 112, 113, 114, 115, 116, 117, 118, 119, 120, 121, 122, 123, 124, 125, 126, 127, 128, 129, 130, 131, 132, 133, 134, 135, 136, 137, 138, 139, 140, 141, 142, 143, 144, 145, 146, 147, 148, 149, 150, 151, 152, 153, 154, 155, 156, 157, 158, 159, 160, 161, 162, 163, 164, 165, 166, 167, 168, 169, 170, 171, 172, 173] rfl (by decide +kernel)
set_option maxRecDepth 20000 in
theorem gX9_bid_X9_whoIn : GoodIn wsX9_bid (wsV RX9 465 RX9 yX9_whoIn wsX9_whoIn) := goodIn_app (goodIn_r _ [31, 32, 33, 6] rfl (by decide +kernel)) ggX9_bid_X9_whoIn
set_option maxRecDepth 20000 in
theorem ggX9_bid_X9_keeperOf : GoodIn wsX9_bid wsX9_keeperOf := goodIn_r _ [38, 21, 107, 108, 109, 110, 111, 112, 113, 114, 115, 116, 117, 118, 119, 120, 121, 122, 123, 124, 125, 126, 127, 128, 129, 130, 131, 132, 133, 134, 135, 136, 137, 138, 139, 140, 141, 142, 143, 144, 145, 146, 147, 148, 149, 150, 151, 152, 153, 154, 155, 156, 157, 158, 159, 160, 161, 162, 163, 164, 165, 166, 167, 168, 169, 170, 171, 172, 173] rfl (by decide +kernel)
set_option maxRecDepth 20000 in
theorem gX9_bid_X9_keeperOf : GoodIn wsX9_bid (wsV RX9 392 RX9 yX9_keeperOf wsX9_keeperOf) := goodIn_app (goodIn_r _ [35, 36, 37, 6] rfl (by decide +kernel)) ggX9_bid_X9_keeperOf
set_option maxRecDepth 20000 in
theorem ggX9_bid_X9_layGood : GoodIn wsX9_bid wsX9_layGood := goodIn_r _ [42, 21, 43, 44, 45, 6, 46, 47, 48, 49, 50, 51, 52, 53, 54, 55, 56, 57, 58, 59, 60, 13, 61, 35, 36, 37, 38, 62, 63, 64, 65, 66, 67, 68, 69, 70, 71, 72, 73, 74, 75, 76, 77, 26, 27, 28, 29, 30, 78, 79, 80, 81, 82, 83, 84, 85, 86, 87, 88, 89, 90, 91, 92, 93, 94, 95, 96, 97, 98, 99, 100, 101, 102, 107, 108, 109, 110, 111, 112, 113, 114, 115, 116, 117, 118, 119, 120, 121, 122, 123, 124, 125, 126, 127, 128, 129, 130, 131, 132, 133, 134, 135, 136, 137, 138, 139, 140, 141, 142, 143, 144, 145, 146, 147, 148, 149, 150, 151, 152, 153, 154, 155, 156, 157, 158, 159, 160, 161, 162, 163, 164, 165, 166, 167, 168, 169, 170, 171, 172, 173] rfl (by decide +kernel)
set_option maxRecDepth 20000 in
theorem gX9_bid_X9_layGood : GoodIn wsX9_bid (wsV RX9 525 RX9 yX9_layGood wsX9_layGood) := goodIn_app (goodIn_r _ [39, 40, 41, 6] rfl (by decide +kernel)) ggX9_bid_X9_layGood
set_option maxRecDepth 20000 in
theorem ggX9_bid_X9_isRest : GoodIn wsX9_bid wsX9_isRest := goodIn_r _ [106, 43, 107, 108, 109, 110, 111, 112, 113, 114, 115, 116, 117, 118, 119, 120, 121, 122, 123, 124, 125, 126, 127, 128, 129, 130, 131, 132, 133, 134, 135, 136, 137, 138, 139, 140, 141, 142, 143, 144, 145, 146, 147, 148, 149, 150, 151, 152, 153, 154, 155, 156, 157, 158, 159, 160, 161, 162, 163, 164, 165, 166, 167, 168, 169, 170, 171, 172, 173] rfl (by decide +kernel)
set_option maxRecDepth 20000 in
theorem gX9_bid_X9_isRest : GoodIn wsX9_bid (wsV RX9 529 RX9 yX9_isRest wsX9_isRest) := goodIn_app (goodIn_r _ [103, 104, 105, 6] rfl (by decide +kernel)) ggX9_bid_X9_isRest
theorem dX9_bid_0 : decode cX9_bid 0 = .ok (.aload_n 0, 1) := by decide +kernel
theorem dX9_bid_1 : decode cX9_bid 1 = .ok (.iconst 0, 1) := by decide +kernel
theorem dX9_bid_2 : decode cX9_bid 2 = .ok (.putfield 407, 3) := by decide +kernel
theorem dX9_bid_5 : decode cX9_bid 5 = .ok (.aload_n 0, 1) := by decide +kernel
theorem dX9_bid_6 : decode cX9_bid 6 = .ok (.iload_n 1, 1) := by decide +kernel
theorem dX9_bid_7 : decode cX9_bid 7 = .ok (.invokevirtual 386, 3) := by decide +kernel
theorem dX9_bid_10 : decode cX9_bid 10 = .ok (.ifCond .eq 32, 3) := by decide +kernel
theorem dX9_bid_13 : decode cX9_bid 13 = .ok (.aload_n 0, 1) := by decide +kernel
theorem dX9_bid_14 : decode cX9_bid 14 = .ok (.iload_n 2, 1) := by decide +kernel
theorem dX9_bid_15 : decode cX9_bid 15 = .ok (.invokevirtual 386, 3) := by decide +kernel
theorem dX9_bid_18 : decode cX9_bid 18 = .ok (.ifCond .eq 24, 3) := by decide +kernel
theorem dX9_bid_21 : decode cX9_bid 21 = .ok (.iload_n 1, 1) := by decide +kernel
theorem dX9_bid_22 : decode cX9_bid 22 = .ok (.iload_n 2, 1) := by decide +kernel
theorem dX9_bid_23 : decode cX9_bid 23 = .ok (.if_icmp .eq 19, 3) := by decide +kernel
theorem dX9_bid_26 : decode cX9_bid 26 = .ok (.aload_n 0, 1) := by decide +kernel
theorem dX9_bid_27 : decode cX9_bid 27 = .ok (.iload_n 1, 1) := by decide +kernel
theorem dX9_bid_28 : decode cX9_bid 28 = .ok (.invokevirtual 389, 3) := by decide +kernel
theorem dX9_bid_31 : decode cX9_bid 31 = .ok (.ifCond .eq 11, 3) := by decide +kernel
theorem dX9_bid_34 : decode cX9_bid 34 = .ok (.aload_n 0, 1) := by decide +kernel
theorem dX9_bid_35 : decode cX9_bid 35 = .ok (.iload_n 2, 1) := by decide +kernel
theorem dX9_bid_36 : decode cX9_bid 36 = .ok (.invokevirtual 389, 3) := by decide +kernel
theorem dX9_bid_39 : decode cX9_bid 39 = .ok (.ifCond .ne 5, 3) := by decide +kernel
theorem dX9_bid_42 : decode cX9_bid 42 = .ok (.iconst (-1), 1) := by decide +kernel
theorem dX9_bid_43 : decode cX9_bid 43 = .ok (.ireturn, 1) := by decide +kernel
theorem dX9_bid_44 : decode cX9_bid 44 = .ok (.aload_n 0, 1) := by decide +kernel
theorem dX9_bid_45 : decode cX9_bid 45 = .ok (.iload_n 3, 1) := by decide +kernel
theorem dX9_bid_46 : decode cX9_bid 46 = .ok (.invokevirtual 462, 3) := by decide +kernel
theorem dX9_bid_49 : decode cX9_bid 49 = .ok (.ifCond .eq 19, 3) := by decide +kernel
theorem dX9_bid_52 : decode cX9_bid 52 = .ok (.aload_n 0, 1) := by decide +kernel
theorem dX9_bid_53 : decode cX9_bid 53 = .ok (.iload_n 3, 1) := by decide +kernel
theorem dX9_bid_54 : decode cX9_bid 54 = .ok (.invokevirtual 465, 3) := by decide +kernel
theorem dX9_bid_57 : decode cX9_bid 57 = .ok (.ifCond .ge 11, 3) := by decide +kernel
theorem dX9_bid_60 : decode cX9_bid 60 = .ok (.aload_n 0, 1) := by decide +kernel
theorem dX9_bid_61 : decode cX9_bid 61 = .ok (.iload_n 3, 1) := by decide +kernel
theorem dX9_bid_62 : decode cX9_bid 62 = .ok (.invokevirtual 392, 3) := by decide +kernel
theorem dX9_bid_65 : decode cX9_bid 65 = .ok (.ifCond .ge 5, 3) := by decide +kernel
theorem dX9_bid_68 : decode cX9_bid 68 = .ok (.iconst (-1), 1) := by decide +kernel
theorem dX9_bid_69 : decode cX9_bid 69 = .ok (.ireturn, 1) := by decide +kernel
theorem dX9_bid_70 : decode cX9_bid 70 = .ok (.aload_n 0, 1) := by decide +kernel
theorem dX9_bid_71 : decode cX9_bid 71 = .ok (.iload_n 1, 1) := by decide +kernel
theorem dX9_bid_72 : decode cX9_bid 72 = .ok (.iload_n 2, 1) := by decide +kernel
theorem dX9_bid_73 : decode cX9_bid 73 = .ok (.iload_n 3, 1) := by decide +kernel
theorem dX9_bid_74 : decode cX9_bid 74 = .ok (.invokevirtual 525, 3) := by decide +kernel
theorem dX9_bid_77 : decode cX9_bid 77 = .ok (.iconst 0, 1) := by decide +kernel
theorem dX9_bid_78 : decode cX9_bid 78 = .ok (.istore 4, 2) := by decide +kernel
theorem dX9_bid_80 : decode cX9_bid 80 = .ok (.iconst 0, 1) := by decide +kernel
theorem dX9_bid_81 : decode cX9_bid 81 = .ok (.istore 5, 2) := by decide +kernel
theorem dX9_bid_83 : decode cX9_bid 83 = .ok (.iload 5, 2) := by decide +kernel
theorem dX9_bid_85 : decode cX9_bid 85 = .ok (.bipush 36, 2) := by decide +kernel
theorem dX9_bid_87 : decode cX9_bid 87 = .ok (.if_icmp .ge 56, 3) := by decide +kernel
theorem dX9_bid_90 : decode cX9_bid 90 = .ok (.aload_n 0, 1) := by decide +kernel
theorem dX9_bid_91 : decode cX9_bid 91 = .ok (.iload 5, 2) := by decide +kernel
theorem dX9_bid_93 : decode cX9_bid 93 = .ok (.invokevirtual 529, 3) := by decide +kernel
theorem dX9_bid_96 : decode cX9_bid 96 = .ok (.ifCond .ne 6, 3) := by decide +kernel
theorem dX9_bid_99 : decode cX9_bid 99 = .ok (.goto 38, 3) := by decide +kernel
theorem dX9_bid_102 : decode cX9_bid 102 = .ok (.iload 4, 2) := by decide +kernel
theorem dX9_bid_104 : decode cX9_bid 104 = .ok (.ifCond .ne 30, 3) := by decide +kernel
theorem dX9_bid_107 : decode cX9_bid 107 = .ok (.aload_n 0, 1) := by decide +kernel
theorem dX9_bid_108 : decode cX9_bid 108 = .ok (.getfield 112, 3) := by decide +kernel
theorem dX9_bid_111 : decode cX9_bid 111 = .ok (.iconst 0, 1) := by decide +kernel
theorem dX9_bid_112 : decode cX9_bid 112 = .ok (.iload 5, 2) := by decide +kernel
theorem dX9_bid_114 : decode cX9_bid 114 = .ok (.bipush 6, 2) := by decide +kernel
theorem dX9_bid_116 : decode cX9_bid 116 = .ok (.idiv, 1) := by decide +kernel
theorem dX9_bid_117 : decode cX9_bid 117 = .ok (.iastore, 1) := by decide +kernel
theorem dX9_bid_118 : decode cX9_bid 118 = .ok (.aload_n 0, 1) := by decide +kernel
theorem dX9_bid_119 : decode cX9_bid 119 = .ok (.getfield 112, 3) := by decide +kernel
theorem dX9_bid_122 : decode cX9_bid 122 = .ok (.iconst 1, 1) := by decide +kernel
theorem dX9_bid_123 : decode cX9_bid 123 = .ok (.iload 5, 2) := by decide +kernel
theorem dX9_bid_125 : decode cX9_bid 125 = .ok (.bipush 6, 2) := by decide +kernel
theorem dX9_bid_127 : decode cX9_bid 127 = .ok (.irem, 1) := by decide +kernel
theorem dX9_bid_128 : decode cX9_bid 128 = .ok (.iastore, 1) := by decide +kernel
theorem dX9_bid_129 : decode cX9_bid 129 = .ok (.aload_n 0, 1) := by decide +kernel
theorem dX9_bid_130 : decode cX9_bid 130 = .ok (.iconst 2, 1) := by decide +kernel
theorem dX9_bid_131 : decode cX9_bid 131 = .ok (.putfield 407, 3) := by decide +kernel
theorem dX9_bid_134 : decode cX9_bid 134 = .ok (.iinc 4 1, 3) := by decide +kernel
theorem dX9_bid_137 : decode cX9_bid 137 = .ok (.iinc 5 1, 3) := by decide +kernel
theorem dX9_bid_140 : decode cX9_bid 140 = .ok (.goto (-57), 3) := by decide +kernel
theorem dX9_bid_143 : decode cX9_bid 143 = .ok (.iload 4, 2) := by decide +kernel
theorem dX9_bid_145 : decode cX9_bid 145 = .ok (.ireturn, 1) := by decide +kernel
set_option maxRecDepth 20000 in
theorem ggX9_seen_X9_isIn : GoodIn wsX9_seen wsX9_isIn := goodIn_r _ [11] rfl (by decide +kernel)
set_option maxRecDepth 20000 in
theorem gX9_seen_X9_isIn : GoodIn wsX9_seen (va_wsS RX9 376 yX9_isIn wsX9_isIn) := goodIn_app (goodIn_r _ [8, 9, 10] rfl (by decide +kernel)) ggX9_seen_X9_isIn
set_option maxRecDepth 20000 in
theorem ggX9_seen_X9_isTenant : GoodIn wsX9_seen wsX9_isTenant := goodIn_r _ [15, 16, 17, 18, 10, 19, 20, 21, 8, 9, 11, 27, 28, 29, 30, 31, 32, 33, 34, 35, 36, 37, 38, 39, 40, 41, 42, 43, 44, 45, 46, 47, 48, 49, 50, 51, 52, 53, 54, 55, 56, 57, 58, 59, 60, 61, 62, 63, 64, 65, 66, 67, 68, 69, 70, 71, 72, 73, 74, 75, 76, 77, 78, 79, 80, 81, 82, 83, 84, 85, 86, 87, 88, 89, 90, 91, 92, 93] rfl (by decide +kernel)
set_option maxRecDepth 20000 in
theorem gX9_seen_X9_isTenant : GoodIn wsX9_seen (wsV RX9 386 RX9 yX9_isTenant wsX9_isTenant) := goodIn_app (goodIn_r _ [12, 13, 14, 10] rfl (by decide +kernel)) ggX9_seen_X9_isTenant
set_option maxRecDepth 20000 in
theorem ggX9_seen_X9_cattery : GoodIn wsX9_seen wsX9_cattery := goodIn_r _ [25, 26, 21, 27, 28, 29, 30, 31, 32, 33, 34, 35, 36, 37, 38, 39, 40, 41, 42, 43, 44, 45, 46, 47, 48, 49, 50, 51, 52, 53, 54, 55, 56, 57, 58, 59, 60, 61, 62, 63, 64, 65, 66, 67, 68, 69, 70, 71, 72, 73, 74, 75, 76, 77, 78, 79, 80, 81, 82, 83, 84, 85, 86, 87, 88, 89, 90, 91, 92, 93] rfl (by decide +kernel)
set_option maxRecDepth 20000 in
theorem gX9_seen_X9_cattery : GoodIn wsX9_seen (wsV RX9 380 RX9 yX9_cattery wsX9_cattery) := goodIn_app (goodIn_r _ [22, 23, 24, 10] rfl (by decide +kernel)) ggX9_seen_X9_cattery
theorem dX9_seen_0 : decode cX9_seen 0 = .ok (.iload_n 1, 1) := by decide +kernel
theorem dX9_seen_1 : decode cX9_seen 1 = .ok (.iconst 0, 1) := by decide +kernel
theorem dX9_seen_2 : decode cX9_seen 2 = .ok (.bipush 9, 2) := by decide +kernel
theorem dX9_seen_4 : decode cX9_seen 4 = .ok (.invokestatic 376, 3) := by decide +kernel
theorem dX9_seen_7 : decode cX9_seen 7 = .ok (.ifCond .eq 27, 3) := by decide +kernel
theorem dX9_seen_10 : decode cX9_seen 10 = .ok (.aload_n 0, 1) := by decide +kernel
theorem dX9_seen_11 : decode cX9_seen 11 = .ok (.iload_n 2, 1) := by decide +kernel
theorem dX9_seen_12 : decode cX9_seen 12 = .ok (.invokevirtual 386, 3) := by decide +kernel
theorem dX9_seen_15 : decode cX9_seen 15 = .ok (.ifCond .eq 19, 3) := by decide +kernel
theorem dX9_seen_18 : decode cX9_seen 18 = .ok (.aload_n 0, 1) := by decide +kernel
theorem dX9_seen_19 : decode cX9_seen 19 = .ok (.getfield 404, 3) := by decide +kernel
theorem dX9_seen_22 : decode cX9_seen 22 = .ok (.bipush 30, 2) := by decide +kernel
theorem dX9_seen_24 : decode cX9_seen 24 = .ok (.if_icmp .eq 10, 3) := by decide +kernel
theorem dX9_seen_27 : decode cX9_seen 27 = .ok (.aload_n 0, 1) := by decide +kernel
theorem dX9_seen_28 : decode cX9_seen 28 = .ok (.invokevirtual 380, 3) := by decide +kernel
theorem dX9_seen_31 : decode cX9_seen 31 = .ok (.ifCond .ne 5, 3) := by decide +kernel
theorem dX9_seen_34 : decode cX9_seen 34 = .ok (.iconst (-1), 1) := by decide +kernel
theorem dX9_seen_35 : decode cX9_seen 35 = .ok (.ireturn, 1) := by decide +kernel
theorem dX9_seen_36 : decode cX9_seen 36 = .ok (.aload_n 0, 1) := by decide +kernel
theorem dX9_seen_37 : decode cX9_seen 37 = .ok (.getfield 124, 3) := by decide +kernel
theorem dX9_seen_40 : decode cX9_seen 40 = .ok (.aload_n 0, 1) := by decide +kernel
theorem dX9_seen_41 : decode cX9_seen 41 = .ok (.getfield 404, 3) := by decide +kernel
theorem dX9_seen_44 : decode cX9_seen 44 = .ok (.iload_n 1, 1) := by decide +kernel
theorem dX9_seen_45 : decode cX9_seen 45 = .ok (.iastore, 1) := by decide +kernel
theorem dX9_seen_46 : decode cX9_seen 46 = .ok (.aload_n 0, 1) := by decide +kernel
theorem dX9_seen_47 : decode cX9_seen 47 = .ok (.getfield 127, 3) := by decide +kernel
theorem dX9_seen_50 : decode cX9_seen 50 = .ok (.aload_n 0, 1) := by decide +kernel
theorem dX9_seen_51 : decode cX9_seen 51 = .ok (.getfield 404, 3) := by decide +kernel
theorem dX9_seen_54 : decode cX9_seen 54 = .ok (.iload_n 2, 1) := by decide +kernel
theorem dX9_seen_55 : decode cX9_seen 55 = .ok (.iastore, 1) := by decide +kernel
theorem dX9_seen_56 : decode cX9_seen 56 = .ok (.aload_n 0, 1) := by decide +kernel
theorem dX9_seen_57 : decode cX9_seen 57 = .ok (.getfield 130, 3) := by decide +kernel
theorem dX9_seen_60 : decode cX9_seen 60 = .ok (.aload_n 0, 1) := by decide +kernel
theorem dX9_seen_61 : decode cX9_seen 61 = .ok (.getfield 404, 3) := by decide +kernel
theorem dX9_seen_64 : decode cX9_seen 64 = .ok (.iload_n 3, 1) := by decide +kernel
theorem dX9_seen_65 : decode cX9_seen 65 = .ok (.ifCond .eq 7, 3) := by decide +kernel
theorem dX9_seen_68 : decode cX9_seen 68 = .ok (.iconst 1, 1) := by decide +kernel
theorem dX9_seen_69 : decode cX9_seen 69 = .ok (.goto 4, 3) := by decide +kernel
theorem dX9_seen_72 : decode cX9_seen 72 = .ok (.iconst 0, 1) := by decide +kernel
theorem dX9_seen_73 : decode cX9_seen 73 = .ok (.iastore, 1) := by decide +kernel
theorem dX9_seen_74 : decode cX9_seen 74 = .ok (.aload_n 0, 1) := by decide +kernel
theorem dX9_seen_75 : decode cX9_seen 75 = .ok (.getfield 133, 3) := by decide +kernel
theorem dX9_seen_78 : decode cX9_seen 78 = .ok (.aload_n 0, 1) := by decide +kernel
theorem dX9_seen_79 : decode cX9_seen 79 = .ok (.getfield 404, 3) := by decide +kernel
theorem dX9_seen_82 : decode cX9_seen 82 = .ok (.aload_n 0, 1) := by decide +kernel
theorem dX9_seen_83 : decode cX9_seen 83 = .ok (.getfield 532, 3) := by decide +kernel
theorem dX9_seen_86 : decode cX9_seen 86 = .ok (.iastore, 1) := by decide +kernel
theorem dX9_seen_87 : decode cX9_seen 87 = .ok (.aload_n 0, 1) := by decide +kernel
theorem dX9_seen_88 : decode cX9_seen 88 = .ok (.getfield 136, 3) := by decide +kernel
theorem dX9_seen_91 : decode cX9_seen 91 = .ok (.aload_n 0, 1) := by decide +kernel
theorem dX9_seen_92 : decode cX9_seen 92 = .ok (.getfield 404, 3) := by decide +kernel
