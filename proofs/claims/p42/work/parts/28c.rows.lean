theorem dX9_heirOf_49 : decode cX9_heirOf 49 = .ok (.istore_n 3, 1) := by decide +kernel
theorem dX9_heirOf_50 : decode cX9_heirOf 50 = .ok (.goto (-35), 3) := by decide +kernel
theorem dX9_heirOf_53 : decode cX9_heirOf 53 = .ok (.iload_n 3, 1) := by decide +kernel
theorem dX9_heirOf_54 : decode cX9_heirOf 54 = .ok (.ireturn, 1) := by decide +kernel
set_option maxRecDepth 20000 in
theorem ggX9_keeperIf_X9_keeperOf : GoodIn wsX9_keeperIf wsX9_keeperOf := goodIn_r _ [5, 6, 20, 21, 22, 23, 24, 25, 26, 27, 28, 29, 30, 31, 32, 33, 34, 35, 36, 37, 38, 39, 40, 41, 42, 43, 44, 45, 46, 47, 48, 49, 50, 51, 52, 53, 54, 55, 56, 57, 58, 59, 60, 61, 62, 63, 64, 65, 66, 67, 68, 69, 70, 71, 72, 73, 74, 75, 76, 77, 78, 79, 80, 81, 82, 83, 84, 85, 86] rfl (by decide +kernel)
set_option maxRecDepth 20000 in
theorem gX9_keeperIf_X9_keeperOf : GoodIn wsX9_keeperIf (wsV RX9 392 RX9 yX9_keeperOf wsX9_keeperOf) := goodIn_app (goodIn_r _ [1, 2, 3, 4] rfl (by decide +kernel)) ggX9_keeperIf_X9_keeperOf
set_option maxRecDepth 20000 in
theorem ggX9_keeperIf_X9_bit : GoodIn wsX9_keeperIf wsX9_bit := goodIn_r _ [9] rfl (by decide +kernel)
set_option maxRecDepth 20000 in
theorem gX9_keeperIf_X9_bit : GoodIn wsX9_keeperIf (va_wsS RX9 274 yX9_bit wsX9_bit) := goodIn_app (goodIn_r _ [7, 8, 4] rfl (by decide +kernel)) ggX9_keeperIf_X9_bit
set_option maxRecDepth 20000 in
theorem ggX9_keeperIf_X9_heirOf : GoodIn wsX9_keeperIf wsX9_heirOf := goodIn_r _ [13, 14, 15, 16, 17, 18, 4, 19, 6, 7, 8, 9, 20, 21, 22, 23, 24, 25, 26, 27, 28, 29, 30, 31, 32, 33, 34, 35, 36, 37, 38, 39, 40, 41, 42, 43, 44, 45, 46, 47, 48, 49, 50, 51, 52, 53, 54, 55, 56, 57, 58, 59, 60, 61, 62, 63, 64, 65, 66, 67, 68, 69, 70, 71, 72, 73, 74, 75, 76, 77, 78, 79, 80, 81, 82, 83, 84, 85, 86] rfl (by decide +kernel)
set_option maxRecDepth 20000 in
theorem gX9_keeperIf_X9_heirOf : GoodIn wsX9_keeperIf (wsV RX9 437 RX9 yX9_heirOf wsX9_heirOf) := goodIn_app (goodIn_r _ [10, 11, 12, 4] rfl (by decide +kernel)) ggX9_keeperIf_X9_heirOf
theorem dX9_keeperIf_0 : decode cX9_keeperIf 0 = .ok (.aload_n 0, 1) := by decide +kernel
theorem dX9_keeperIf_1 : decode cX9_keeperIf 1 = .ok (.iload_n 1, 1) := by decide +kernel
theorem dX9_keeperIf_2 : decode cX9_keeperIf 2 = .ok (.invokevirtual 392, 3) := by decide +kernel
theorem dX9_keeperIf_5 : decode cX9_keeperIf 5 = .ok (.istore_n 3, 1) := by decide +kernel
theorem dX9_keeperIf_6 : decode cX9_keeperIf 6 = .ok (.iload_n 3, 1) := by decide +kernel
theorem dX9_keeperIf_7 : decode cX9_keeperIf 7 = .ok (.ifCond .lt 20, 3) := by decide +kernel
theorem dX9_keeperIf_10 : decode cX9_keeperIf 10 = .ok (.iload_n 2, 1) := by decide +kernel
theorem dX9_keeperIf_11 : decode cX9_keeperIf 11 = .ok (.iload_n 3, 1) := by decide +kernel
theorem dX9_keeperIf_12 : decode cX9_keeperIf 12 = .ok (.invokestatic 274, 3) := by decide +kernel
theorem dX9_keeperIf_15 : decode cX9_keeperIf 15 = .ok (.ifCond .eq 12, 3) := by decide +kernel
theorem dX9_keeperIf_18 : decode cX9_keeperIf 18 = .ok (.aload_n 0, 1) := by decide +kernel
theorem dX9_keeperIf_19 : decode cX9_keeperIf 19 = .ok (.iload_n 3, 1) := by decide +kernel
theorem dX9_keeperIf_20 : decode cX9_keeperIf 20 = .ok (.iload_n 2, 1) := by decide +kernel
theorem dX9_keeperIf_21 : decode cX9_keeperIf 21 = .ok (.invokevirtual 437, 3) := by decide +kernel
theorem dX9_keeperIf_24 : decode cX9_keeperIf 24 = .ok (.goto 4, 3) := by decide +kernel
theorem dX9_keeperIf_27 : decode cX9_keeperIf 27 = .ok (.iload_n 3, 1) := by decide +kernel
theorem dX9_keeperIf_28 : decode cX9_keeperIf 28 = .ok (.ireturn, 1) := by decide +kernel
set_option maxRecDepth 20000 in
theorem ggX9_goDie_X9_chambers : GoodIn wsX9_goDie wsX9_chambers := goodIn_r _ [6, 7, 8, 29, 30, 31, 32, 33, 34, 35, 36, 37, 38, 39, 40, 41, 42, 43, 44, 45, 46, 47, 48, 49, 50, 51, 52, 53, 54, 55, 56, 57, 58, 59, 60, 61, 62, 63, 64, 65, 66, 67, 68, 69, 70, 71, 72, 73, 74, 75, 76, 77, 78, 79, 80, 81, 82, 83, 84, 85, 86, 87, 88, 89, 90, 91, 92, 93, 94, 95] rfl (by decide +kernel)
set_option maxRecDepth 20000 in
theorem gX9_goDie_X9_chambers : GoodIn wsX9_goDie (wsV RX9 383 RX9 yX9_chambers wsX9_chambers) := goodIn_app (goodIn_r _ [2, 3, 4, 5] rfl (by decide +kernel)) ggX9_goDie_X9_chambers
set_option maxRecDepth 20000 in
theorem ggX9_goDie_X9_keeperIf : GoodIn wsX9_goDie wsX9_keeperIf := goodIn_r _ [12, 13, 14, 15, 5, 16, 1, 17, 18, 19, 20, 21, 22, 23, 24, 8, 25, 26, 27, 28, 29, 30, 31, 32, 33, 34, 35, 36, 37, 38, 39, 40, 41, 42, 43, 44, 45, 46, 47, 48, 49, 50, 51, 52, 53, 54, 55, 56, 57, 58, 59, 60, 61, 62, 63, 64, 65, 66, 67, 68, 69, 70, 71, 72, 73, 74, 75, 76, 77, 78, 79, 80, 81, 82, 83, 84, 85, 86, 87, 88, 89, 90, 91, 92, 93, 94, 95] rfl (by decide +kernel)
set_option maxRecDepth 20000 in
theorem gX9_goDie_X9_keeperIf : GoodIn wsX9_goDie (wsV RX9 440 RX9 yX9_keeperIf wsX9_keeperIf) := goodIn_app (goodIn_r _ [9, 10, 11, 5] rfl (by decide +kernel)) ggX9_goDie_X9_keeperIf
theorem dX9_goDie_0 : decode cX9_goDie 0 = .ok (.iconst 0, 1) := by decide +kernel
theorem dX9_goDie_1 : decode cX9_goDie 1 = .ok (.istore_n 2, 1) := by decide +kernel
theorem dX9_goDie_2 : decode cX9_goDie 2 = .ok (.iload_n 2, 1) := by decide +kernel
theorem dX9_goDie_3 : decode cX9_goDie 3 = .ok (.aload_n 0, 1) := by decide +kernel
theorem dX9_goDie_4 : decode cX9_goDie 4 = .ok (.invokevirtual 383, 3) := by decide +kernel
theorem dX9_goDie_7 : decode cX9_goDie 7 = .ok (.if_icmp .ge 24, 3) := by decide +kernel
theorem dX9_goDie_10 : decode cX9_goDie 10 = .ok (.aload_n 0, 1) := by decide +kernel
theorem dX9_goDie_11 : decode cX9_goDie 11 = .ok (.getfield 94, 3) := by decide +kernel
theorem dX9_goDie_14 : decode cX9_goDie 14 = .ok (.bipush 14, 2) := by decide +kernel
theorem dX9_goDie_16 : decode cX9_goDie 16 = .ok (.iload_n 2, 1) := by decide +kernel
theorem dX9_goDie_17 : decode cX9_goDie 17 = .ok (.iadd, 1) := by decide +kernel
theorem dX9_goDie_18 : decode cX9_goDie 18 = .ok (.aload_n 0, 1) := by decide +kernel
theorem dX9_goDie_19 : decode cX9_goDie 19 = .ok (.iload_n 2, 1) := by decide +kernel
theorem dX9_goDie_20 : decode cX9_goDie 20 = .ok (.iload_n 1, 1) := by decide +kernel
theorem dX9_goDie_21 : decode cX9_goDie 21 = .ok (.invokevirtual 440, 3) := by decide +kernel
theorem dX9_goDie_24 : decode cX9_goDie 24 = .ok (.iastore, 1) := by decide +kernel
theorem dX9_goDie_25 : decode cX9_goDie 25 = .ok (.iinc 2 1, 3) := by decide +kernel
theorem dX9_goDie_28 : decode cX9_goDie 28 = .ok (.goto (-26), 3) := by decide +kernel
theorem dX9_goDie_31 : decode cX9_goDie 31 = .ok (.aload_n 0, 1) := by decide +kernel
theorem dX9_goDie_32 : decode cX9_goDie 32 = .ok (.getfield 94, 3) := by decide +kernel
theorem dX9_goDie_35 : decode cX9_goDie 35 = .ok (.bipush 36, 2) := by decide +kernel
theorem dX9_goDie_37 : decode cX9_goDie 37 = .ok (.dup2, 1) := by decide +kernel
theorem dX9_goDie_38 : decode cX9_goDie 38 = .ok (.iaload, 1) := by decide +kernel
theorem dX9_goDie_39 : decode cX9_goDie 39 = .ok (.iload_n 1, 1) := by decide +kernel
theorem dX9_goDie_40 : decode cX9_goDie 40 = .ok (.iconst (-1), 1) := by decide +kernel
theorem dX9_goDie_41 : decode cX9_goDie 41 = .ok (.ixor, 1) := by decide +kernel
theorem dX9_goDie_42 : decode cX9_goDie 42 = .ok (.iand, 1) := by decide +kernel
theorem dX9_goDie_43 : decode cX9_goDie 43 = .ok (.iastore, 1) := by decide +kernel
theorem dX9_goDie_44 : decode cX9_goDie 44 = .ok (.return_, 1) := by decide +kernel
theorem dX9_goOut_0 : decode cX9_goOut 0 = .ok (.aload_n 0, 1) := by decide +kernel
theorem dX9_goOut_1 : decode cX9_goOut 1 = .ok (.getfield 94, 3) := by decide +kernel
theorem dX9_goOut_4 : decode cX9_goOut 4 = .ok (.iconst 0, 1) := by decide +kernel
theorem dX9_goOut_5 : decode cX9_goOut 5 = .ok (.iload_n 1, 1) := by decide +kernel
theorem dX9_goOut_6 : decode cX9_goOut 6 = .ok (.iadd, 1) := by decide +kernel
theorem dX9_goOut_7 : decode cX9_goOut 7 = .ok (.iconst (-1), 1) := by decide +kernel
theorem dX9_goOut_8 : decode cX9_goOut 8 = .ok (.iastore, 1) := by decide +kernel
theorem dX9_goOut_9 : decode cX9_goOut 9 = .ok (.aload_n 0, 1) := by decide +kernel
theorem dX9_goOut_10 : decode cX9_goOut 10 = .ok (.getfield 94, 3) := by decide +kernel
theorem dX9_goOut_13 : decode cX9_goOut 13 = .ok (.bipush 7, 2) := by decide +kernel
theorem dX9_goOut_15 : decode cX9_goOut 15 = .ok (.iload_n 1, 1) := by decide +kernel
theorem dX9_goOut_16 : decode cX9_goOut 16 = .ok (.iadd, 1) := by decide +kernel
theorem dX9_goOut_17 : decode cX9_goOut 17 = .ok (.iconst 0, 1) := by decide +kernel
theorem dX9_goOut_18 : decode cX9_goOut 18 = .ok (.iastore, 1) := by decide +kernel
theorem dX9_goOut_19 : decode cX9_goOut 19 = .ok (.return_, 1) := by decide +kernel
set_option maxRecDepth 20000 in
theorem ggX9_goQuarter_X9_thrown : GoodIn wsX9_goQuarter wsX9_thrown := goodIn_r _ [6, 7, 8, 9, 5, 10, 11, 12, 13, 14, 15, 16, 1, 17, 18, 19, 20, 21, 22, 23, 24, 25, 26, 27, 28, 29, 30, 31, 32, 33, 34, 35, 36, 37, 38, 39, 40, 41, 42, 43, 44, 45, 46, 47, 48, 49, 50, 51, 52, 53, 54, 55, 56, 57, 58, 59, 60, 61, 62, 63, 64, 65, 66, 67, 68, 69, 70, 71, 72, 73, 74, 75, 76, 77, 78, 79, 80, 81, 82, 83, 84, 85, 86, 87, 88, 89, 90, 91, 92, 93, 94, 95, 96, 101, 102, 103, 104, 105, 106, 107, 108, 109, 110, 111, 112, 113, 114, 115, 116, 117, 118, 119, 120, 121, 122, 123, 124, 125, 126, 127, 128, 129, 130, 131, 132, 133, 134, 135, 136, 137, 138, 139, 140, 141, 142, 143, 144, 145, 146, 147, 148, 149, 150, 151, 152, 153, 154, 155, 156, 157, 158, 159, 160, 161, 162, 163, 164, 165, 166, 167] rfl (by decide +kernel)
set_option maxRecDepth 20000 in
theorem gX9_goQuarter_X9_thrown : GoodIn wsX9_goQuarter (wsV RX9 443 RX9 yX9_thrown wsX9_thrown) := goodIn_app (goodIn_r _ [2, 3, 4, 5] rfl (by decide +kernel)) ggX9_goQuarter_X9_thrown
set_option maxRecDepth 20000 in
theorem ggX9_goQuarter_X9_many : GoodIn wsX9_goQuarter wsX9_many := goodIn_r _ [10, 11, 12, 101, 102, 103, 104, 105, 106, 107, 108, 109, 110, 111, 112, 113, 114, 115, 116, 117, 118, 119, 120, 121, 122, 123, 124, 125, 126, 127, 128, 129, 130, 131, 132, 133, 134, 135, 136, 137, 138, 139, 140, 141, 142, 143, 144, 145, 146, 147, 148, 149, 150, 151, 152, 153, 154, 155, 156, 157, 158, 159, 160, 161, 162, 163, 164, 165, 166, 167] rfl (by decide +kernel)
set_option maxRecDepth 20000 in
theorem gX9_goQuarter_X9_many : GoodIn wsX9_goQuarter (wsV RX9 373 RX9 yX9_many wsX9_many) := goodIn_app (goodIn_r _ [7, 8, 9, 5] rfl (by decide +kernel)) ggX9_goQuarter_X9_many
set_option maxRecDepth 20000 in
theorem ggX9_goQuarter_X9_bit : GoodIn wsX9_goQuarter wsX9_bit := goodIn_r _ [77] rfl (by decide +kernel)
set_option maxRecDepth 20000 in
theorem gX9_goQuarter_X9_bit : GoodIn wsX9_goQuarter (va_wsS RX9 274 yX9_bit wsX9_bit) := goodIn_app (goodIn_r _ [75, 76, 5] rfl (by decide +kernel)) ggX9_goQuarter_X9_bit
set_option maxRecDepth 20000 in
theorem ggX9_goQuarter_X9_goOut : GoodIn wsX9_goQuarter wsX9_goOut := goodIn_r _ [100, 1, 101, 102, 103, 104, 105, 106, 107, 108, 109, 110, 111, 112, 113, 114, 115, 116, 117, 118, 119, 120, 121, 122, 123, 124, 125, 126, 127, 128, 129, 130, 131, 132, 133, 134, 135, 136, 137, 138, 139, 140, 141, 142, 143, 144, 145, 146, 147, 148, 149, 150, 151, 152, 153, 154, 155, 156, 157, 158, 159, 160, 161, 162, 163, 164, 165, 166, 167] rfl (by decide +kernel)
set_option maxRecDepth 20000 in
theorem gX9_goQuarter_X9_goOut : GoodIn wsX9_goQuarter (wsV RX9 446 RX9 yX9_goOut wsX9_goOut) := goodIn_app (goodIn_r _ [97, 98, 99, 5] rfl (by decide +kernel)) ggX9_goQuarter_X9_goOut
set_option maxRecDepth 20000 in
theorem ggX9_goQuarter_X9_isOut : GoodIn wsX9_goQuarter wsX9_isOut := goodIn_r _ [27, 1, 101, 102, 103, 104, 105, 106, 107, 108, 109, 110, 111, 112, 113, 114, 115, 116, 117, 118, 119, 120, 121, 122, 123, 124, 125, 126, 127, 128, 129, 130, 131, 132, 133, 134, 135, 136, 137, 138, 139, 140, 141, 142, 143, 144, 145, 146, 147, 148, 149, 150, 151, 152, 153, 154, 155, 156, 157, 158, 159, 160, 161, 162, 163, 164, 165, 166, 167] rfl (by decide +kernel)
set_option maxRecDepth 20000 in
theorem gX9_goQuarter_X9_isOut : GoodIn wsX9_goQuarter (wsV RX9 389 RX9 yX9_isOut wsX9_isOut) := goodIn_app (goodIn_r _ [24, 25, 26, 5] rfl (by decide +kernel)) ggX9_goQuarter_X9_isOut
theorem dX9_goQuarter_0 : decode cX9_goQuarter 0 = .ok (.aload_n 0, 1) := by decide +kernel
theorem dX9_goQuarter_1 : decode cX9_goQuarter 1 = .ok (.invokevirtual 443, 3) := by decide +kernel
theorem dX9_goQuarter_4 : decode cX9_goQuarter 4 = .ok (.istore_n 1, 1) := by decide +kernel
theorem dX9_goQuarter_5 : decode cX9_goQuarter 5 = .ok (.iconst 0, 1) := by decide +kernel
theorem dX9_goQuarter_6 : decode cX9_goQuarter 6 = .ok (.istore_n 2, 1) := by decide +kernel
theorem dX9_goQuarter_7 : decode cX9_goQuarter 7 = .ok (.iload_n 2, 1) := by decide +kernel
theorem dX9_goQuarter_8 : decode cX9_goQuarter 8 = .ok (.aload_n 0, 1) := by decide +kernel
theorem dX9_goQuarter_9 : decode cX9_goQuarter 9 = .ok (.invokevirtual 373, 3) := by decide +kernel
theorem dX9_goQuarter_12 : decode cX9_goQuarter 12 = .ok (.if_icmp .ge 61, 3) := by decide +kernel
theorem dX9_goQuarter_15 : decode cX9_goQuarter 15 = .ok (.iload_n 1, 1) := by decide +kernel
theorem dX9_goQuarter_16 : decode cX9_goQuarter 16 = .ok (.iload_n 2, 1) := by decide +kernel
theorem dX9_goQuarter_17 : decode cX9_goQuarter 17 = .ok (.invokestatic 274, 3) := by decide +kernel
theorem dX9_goQuarter_20 : decode cX9_goQuarter 20 = .ok (.ifCond .eq 11, 3) := by decide +kernel
theorem dX9_goQuarter_23 : decode cX9_goQuarter 23 = .ok (.aload_n 0, 1) := by decide +kernel
theorem dX9_goQuarter_24 : decode cX9_goQuarter 24 = .ok (.iload_n 2, 1) := by decide +kernel
theorem dX9_goQuarter_25 : decode cX9_goQuarter 25 = .ok (.invokevirtual 446, 3) := by decide +kernel
theorem dX9_goQuarter_28 : decode cX9_goQuarter 28 = .ok (.goto 39, 3) := by decide +kernel
theorem dX9_goQuarter_31 : decode cX9_goQuarter 31 = .ok (.aload_n 0, 1) := by decide +kernel
theorem dX9_goQuarter_32 : decode cX9_goQuarter 32 = .ok (.iload_n 2, 1) := by decide +kernel
theorem dX9_goQuarter_33 : decode cX9_goQuarter 33 = .ok (.invokevirtual 389, 3) := by decide +kernel
theorem dX9_goQuarter_36 : decode cX9_goQuarter 36 = .ok (.ifCond .ne 31, 3) := by decide +kernel
theorem dX9_goQuarter_39 : decode cX9_goQuarter 39 = .ok (.aload_n 0, 1) := by decide +kernel
theorem dX9_goQuarter_40 : decode cX9_goQuarter 40 = .ok (.getfield 94, 3) := by decide +kernel
theorem dX9_goQuarter_43 : decode cX9_goQuarter 43 = .ok (.bipush 7, 2) := by decide +kernel
theorem dX9_goQuarter_45 : decode cX9_goQuarter 45 = .ok (.iload_n 2, 1) := by decide +kernel
theorem dX9_goQuarter_46 : decode cX9_goQuarter 46 = .ok (.iadd, 1) := by decide +kernel
theorem dX9_goQuarter_47 : decode cX9_goQuarter 47 = .ok (.iaload, 1) := by decide +kernel
theorem dX9_goQuarter_48 : decode cX9_goQuarter 48 = .ok (.sipush 999, 3) := by decide +kernel
theorem dX9_goQuarter_51 : decode cX9_goQuarter 51 = .ok (.if_icmp .ge 16, 3) := by decide +kernel
theorem dX9_goQuarter_54 : decode cX9_goQuarter 54 = .ok (.aload_n 0, 1) := by decide +kernel
theorem dX9_goQuarter_55 : decode cX9_goQuarter 55 = .ok (.getfield 94, 3) := by decide +kernel
theorem dX9_goQuarter_58 : decode cX9_goQuarter 58 = .ok (.bipush 7, 2) := by decide +kernel
theorem dX9_goQuarter_60 : decode cX9_goQuarter 60 = .ok (.iload_n 2, 1) := by decide +kernel
theorem dX9_goQuarter_61 : decode cX9_goQuarter 61 = .ok (.iadd, 1) := by decide +kernel
theorem dX9_goQuarter_62 : decode cX9_goQuarter 62 = .ok (.dup2, 1) := by decide +kernel
theorem dX9_goQuarter_63 : decode cX9_goQuarter 63 = .ok (.iaload, 1) := by decide +kernel
theorem dX9_goQuarter_64 : decode cX9_goQuarter 64 = .ok (.iconst 1, 1) := by decide +kernel
theorem dX9_goQuarter_65 : decode cX9_goQuarter 65 = .ok (.iadd, 1) := by decide +kernel
theorem dX9_goQuarter_66 : decode cX9_goQuarter 66 = .ok (.iastore, 1) := by decide +kernel
theorem dX9_goQuarter_67 : decode cX9_goQuarter 67 = .ok (.iinc 2 1, 3) := by decide +kernel
theorem dX9_goQuarter_70 : decode cX9_goQuarter 70 = .ok (.goto (-63), 3) := by decide +kernel
theorem dX9_goQuarter_73 : decode cX9_goQuarter 73 = .ok (.aload_n 0, 1) := by decide +kernel
theorem dX9_goQuarter_74 : decode cX9_goQuarter 74 = .ok (.getfield 94, 3) := by decide +kernel
theorem dX9_goQuarter_77 : decode cX9_goQuarter 77 = .ok (.bipush 37, 2) := by decide +kernel
theorem dX9_goQuarter_79 : decode cX9_goQuarter 79 = .ok (.dup2, 1) := by decide +kernel
theorem dX9_goQuarter_80 : decode cX9_goQuarter 80 = .ok (.iaload, 1) := by decide +kernel
theorem dX9_goQuarter_81 : decode cX9_goQuarter 81 = .ok (.iconst 1, 1) := by decide +kernel
theorem dX9_goQuarter_82 : decode cX9_goQuarter 82 = .ok (.iadd, 1) := by decide +kernel
theorem dX9_goQuarter_83 : decode cX9_goQuarter 83 = .ok (.iastore, 1) := by decide +kernel
theorem dX9_goQuarter_84 : decode cX9_goQuarter 84 = .ok (.iload_n 1, 1) := by decide +kernel
theorem dX9_goQuarter_85 : decode cX9_goQuarter 85 = .ok (.ireturn, 1) := by decide +kernel
set_option maxRecDepth 20000 in
theorem ggX9_goInEarnest_X9_goQuarter : GoodIn wsX9_goInEarnest wsX9_goQuarter := goodIn_r _ [8, 1, 9, 10, 11, 7, 12, 13, 14, 15, 16, 17, 3, 18, 19, 20, 21, 22, 23, 24, 25, 26, 27, 28, 29, 30, 31, 32, 33, 34, 35, 36, 37, 38, 39, 40, 41, 42, 43, 44, 45, 46, 47, 48, 49, 50, 51, 52, 53, 54, 55, 56, 57, 58, 59, 60, 61, 62, 63, 64, 65, 66, 67, 68, 69, 70, 71, 72, 73, 74, 75, 76, 77, 78, 79, 80, 81, 82, 83, 84, 85, 86, 87, 88, 89, 90, 91, 92, 93, 94, 95, 96, 97, 98, 99, 100, 101, 102, 103, 104, 105, 123, 124, 125, 126, 127, 128, 129, 130, 131, 132, 133, 134, 135, 136, 137, 138, 139, 140, 141, 142, 143, 144, 145, 146, 147, 148, 149, 150, 151, 152, 153, 154, 155, 156, 157, 158, 159, 160, 161, 162, 163, 164, 165, 166, 167, 168, 169, 170, 171, 172, 173, 174, 175, 176, 177, 178, 179, 180, 181, 182, 183, 184, 185, 186, 187, 188, 189] rfl (by decide +kernel)
set_option maxRecDepth 20000 in
theorem gX9_goInEarnest_X9_goQuarter : GoodIn wsX9_goInEarnest (wsV RX9 450 RX9 yX9_goQuarter wsX9_goQuarter) := goodIn_app (goodIn_r _ [4, 5, 6, 7] rfl (by decide +kernel)) ggX9_goInEarnest_X9_goQuarter
set_option maxRecDepth 20000 in
theorem ggX9_goInEarnest_X9_cattery : GoodIn wsX9_goInEarnest wsX9_cattery := goodIn_r _ [66, 67, 3, 123, 124, 125, 126, 127, 128, 129, 130, 131, 132, 133, 134, 135, 136, 137, 138, 139, 140, 141, 142, 143, 144, 145, 146, 147, 148, 149, 150, 151, 152, 153, 154, 155, 156, 157, 158, 159, 160, 161, 162, 163, 164, 165, 166, 167, 168, 169, 170, 171, 172, 173, 174, 175, 176, 177, 178, 179, 180, 181, 182, 183, 184, 185, 186, 187, 188, 189] rfl (by decide +kernel)
set_option maxRecDepth 20000 in
theorem gX9_goInEarnest_X9_cattery : GoodIn wsX9_goInEarnest (wsV RX9 380 RX9 yX9_cattery wsX9_cattery) := goodIn_app (goodIn_r _ [63, 64, 65, 7] rfl (by decide +kernel)) ggX9_goInEarnest_X9_cattery
set_option maxRecDepth 20000 in
theorem ggX9_goInEarnest_X9_lives : GoodIn wsX9_goInEarnest wsX9_lives := goodIn_r _ [109, 1, 80, 81, 7, 82, 123, 124, 125, 126, 127, 128, 129, 130, 131, 132, 133, 134, 135, 136, 137, 138, 139, 140, 141, 142, 143, 144, 145, 146, 147, 148, 149, 150, 151, 152, 153, 154, 155, 156, 157, 158, 159, 160, 161, 162, 163, 164, 165, 166, 167, 168, 169, 170, 171, 172, 173, 174, 175, 176, 177, 178, 179, 180, 181, 182, 183, 184, 185, 186, 187, 188, 189] rfl (by decide +kernel)
set_option maxRecDepth 20000 in
theorem gX9_goInEarnest_X9_lives : GoodIn wsX9_goInEarnest (wsV RX9 434 RX9 yX9_lives wsX9_lives) := goodIn_app (goodIn_r _ [106, 107, 108, 7] rfl (by decide +kernel)) ggX9_goInEarnest_X9_lives
set_option maxRecDepth 20000 in
theorem ggX9_goInEarnest_X9_goDie : GoodIn wsX9_goInEarnest wsX9_goDie := goodIn_r _ [113, 1, 72, 73, 74, 7, 75, 76, 3, 114, 115, 116, 117, 33, 34, 35, 36, 80, 81, 82, 118, 119, 120, 121, 122, 106, 107, 108, 109, 123, 124, 125, 126, 127, 128, 129, 130, 131, 132, 133, 134, 135, 136, 137, 138, 139, 140, 141, 142, 143, 144, 145, 146, 147, 148, 149, 150, 151, 152, 153, 154, 155, 156, 157, 158, 159, 160, 161, 162, 163, 164, 165, 166, 167, 168, 169, 170, 171, 172, 173, 174, 175, 176, 177, 178, 179, 180, 181, 182, 183, 184, 185, 186, 187, 188, 189] rfl (by decide +kernel)
set_option maxRecDepth 20000 in
theorem gX9_goInEarnest_X9_goDie : GoodIn wsX9_goInEarnest (wsV RX9 453 RX9 yX9_goDie wsX9_goDie) := goodIn_app (goodIn_r _ [110, 111, 112, 7] rfl (by decide +kernel)) ggX9_goInEarnest_X9_goDie
theorem dX9_goInEarnest_0 : decode cX9_goInEarnest 0 = .ok (.aload_n 0, 1) := by decide +kernel
theorem dX9_goInEarnest_1 : decode cX9_goInEarnest 1 = .ok (.invokevirtual 450, 3) := by decide +kernel
theorem dX9_goInEarnest_4 : decode cX9_goInEarnest 4 = .ok (.istore_n 1, 1) := by decide +kernel
theorem dX9_goInEarnest_5 : decode cX9_goInEarnest 5 = .ok (.iconst 0, 1) := by decide +kernel
theorem dX9_goInEarnest_6 : decode cX9_goInEarnest 6 = .ok (.istore_n 2, 1) := by decide +kernel
theorem dX9_goInEarnest_7 : decode cX9_goInEarnest 7 = .ok (.iconst 0, 1) := by decide +kernel
theorem dX9_goInEarnest_8 : decode cX9_goInEarnest 8 = .ok (.istore_n 3, 1) := by decide +kernel
theorem dX9_goInEarnest_9 : decode cX9_goInEarnest 9 = .ok (.iload_n 3, 1) := by decide +kernel
theorem dX9_goInEarnest_10 : decode cX9_goInEarnest 10 = .ok (.aload_n 0, 1) := by decide +kernel
theorem dX9_goInEarnest_11 : decode cX9_goInEarnest 11 = .ok (.invokevirtual 380, 3) := by decide +kernel
theorem dX9_goInEarnest_14 : decode cX9_goInEarnest 14 = .ok (.if_icmp .ge 73, 3) := by decide +kernel
theorem dX9_goInEarnest_17 : decode cX9_goInEarnest 17 = .ok (.aload_n 0, 1) := by decide +kernel
theorem dX9_goInEarnest_18 : decode cX9_goInEarnest 18 = .ok (.iload_n 3, 1) := by decide +kernel
theorem dX9_goInEarnest_19 : decode cX9_goInEarnest 19 = .ok (.invokevirtual 434, 3) := by decide +kernel
theorem dX9_goInEarnest_22 : decode cX9_goInEarnest 22 = .ok (.ifCond .ne 6, 3) := by decide +kernel
theorem dX9_goInEarnest_25 : decode cX9_goInEarnest 25 = .ok (.goto 56, 3) := by decide +kernel
theorem dX9_goInEarnest_28 : decode cX9_goInEarnest 28 = .ok (.aload_n 0, 1) := by decide +kernel
theorem dX9_goInEarnest_29 : decode cX9_goInEarnest 29 = .ok (.getfield 94, 3) := by decide +kernel
theorem dX9_goInEarnest_32 : decode cX9_goInEarnest 32 = .ok (.bipush 38, 2) := by decide +kernel
theorem dX9_goInEarnest_34 : decode cX9_goInEarnest 34 = .ok (.sipush 137, 3) := by decide +kernel
theorem dX9_goInEarnest_37 : decode cX9_goInEarnest 37 = .ok (.aload_n 0, 1) := by decide +kernel
theorem dX9_goInEarnest_38 : decode cX9_goInEarnest 38 = .ok (.getfield 94, 3) := by decide +kernel
theorem dX9_goInEarnest_41 : decode cX9_goInEarnest 41 = .ok (.bipush 38, 2) := by decide +kernel
theorem dX9_goInEarnest_43 : decode cX9_goInEarnest 43 = .ok (.iaload, 1) := by decide +kernel
theorem dX9_goInEarnest_44 : decode cX9_goInEarnest 44 = .ok (.imul, 1) := by decide +kernel
theorem dX9_goInEarnest_45 : decode cX9_goInEarnest 45 = .ok (.bipush 71, 2) := by decide +kernel
theorem dX9_goInEarnest_47 : decode cX9_goInEarnest 47 = .ok (.iadd, 1) := by decide +kernel
theorem dX9_goInEarnest_48 : decode cX9_goInEarnest 48 = .ok (.sipush 1000, 3) := by decide +kernel
theorem dX9_goInEarnest_51 : decode cX9_goInEarnest 51 = .ok (.irem, 1) := by decide +kernel
theorem dX9_goInEarnest_52 : decode cX9_goInEarnest 52 = .ok (.iastore, 1) := by decide +kernel
theorem dX9_goInEarnest_53 : decode cX9_goInEarnest 53 = .ok (.aload_n 0, 1) := by decide +kernel
theorem dX9_goInEarnest_54 : decode cX9_goInEarnest 54 = .ok (.getfield 94, 3) := by decide +kernel
theorem dX9_goInEarnest_57 : decode cX9_goInEarnest 57 = .ok (.bipush 38, 2) := by decide +kernel
theorem dX9_goInEarnest_59 : decode cX9_goInEarnest 59 = .ok (.iaload, 1) := by decide +kernel
theorem dX9_goInEarnest_60 : decode cX9_goInEarnest 60 = .ok (.bipush 100, 2) := by decide +kernel
theorem dX9_goInEarnest_62 : decode cX9_goInEarnest 62 = .ok (.irem, 1) := by decide +kernel
theorem dX9_goInEarnest_63 : decode cX9_goInEarnest 63 = .ok (.aload_n 0, 1) := by decide +kernel
theorem dX9_goInEarnest_64 : decode cX9_goInEarnest 64 = .ok (.getfield 33, 3) := by decide +kernel
theorem dX9_goInEarnest_67 : decode cX9_goInEarnest 67 = .ok (.aload_n 0, 1) := by decide +kernel
theorem dX9_goInEarnest_68 : decode cX9_goInEarnest 68 = .ok (.getfield 268, 3) := by decide +kernel
theorem dX9_goInEarnest_71 : decode cX9_goInEarnest 71 = .ok (.iaload, 1) := by decide +kernel
theorem dX9_goInEarnest_72 : decode cX9_goInEarnest 72 = .ok (.if_icmp .ge 9, 3) := by decide +kernel
theorem dX9_goInEarnest_75 : decode cX9_goInEarnest 75 = .ok (.iload_n 2, 1) := by decide +kernel
theorem dX9_goInEarnest_76 : decode cX9_goInEarnest 76 = .ok (.iconst 1, 1) := by decide +kernel
theorem dX9_goInEarnest_77 : decode cX9_goInEarnest 77 = .ok (.iload_n 3, 1) := by decide +kernel
theorem dX9_goInEarnest_78 : decode cX9_goInEarnest 78 = .ok (.ishl, 1) := by decide +kernel
theorem dX9_goInEarnest_79 : decode cX9_goInEarnest 79 = .ok (.ior, 1) := by decide +kernel
theorem dX9_goInEarnest_80 : decode cX9_goInEarnest 80 = .ok (.istore_n 2, 1) := by decide +kernel
theorem dX9_goInEarnest_81 : decode cX9_goInEarnest 81 = .ok (.iinc 3 1, 3) := by decide +kernel
theorem dX9_goInEarnest_84 : decode cX9_goInEarnest 84 = .ok (.goto (-75), 3) := by decide +kernel
theorem dX9_goInEarnest_87 : decode cX9_goInEarnest 87 = .ok (.aload_n 0, 1) := by decide +kernel
theorem dX9_goInEarnest_88 : decode cX9_goInEarnest 88 = .ok (.iload_n 2, 1) := by decide +kernel
theorem dX9_goInEarnest_89 : decode cX9_goInEarnest 89 = .ok (.invokevirtual 453, 3) := by decide +kernel
theorem dX9_goInEarnest_92 : decode cX9_goInEarnest 92 = .ok (.iload_n 1, 1) := by decide +kernel
theorem dX9_goInEarnest_93 : decode cX9_goInEarnest 93 = .ok (.ireturn, 1) := by decide +kernel
set_option maxRecDepth 20000 in
theorem ggX9_cat_X9_isCat : GoodIn wsX9_cat wsX9_isCat := goodIn_r _ [9, 10, 11, 12, 8, 13, 14, 3, 15, 16, 17, 47, 48, 49, 50, 51, 52, 53, 54, 55, 56, 57, 58, 59, 60, 61, 62, 63, 64, 65, 66, 67, 68, 69, 70, 71, 72, 73, 74, 75, 76, 77, 78, 79, 80, 81, 82, 83, 84, 85, 86, 87, 88, 89, 90, 91, 92, 93, 94, 95, 96, 97, 98, 99, 100, 101, 102, 103, 104, 105, 106, 107, 108, 109, 110, 111, 112, 113] rfl (by decide +kernel)
set_option maxRecDepth 20000 in
theorem gX9_cat_X9_isCat : GoodIn wsX9_cat (wsV RX9 456 RX9 yX9_isCat wsX9_isCat) := goodIn_app (goodIn_r _ [5, 6, 7, 8] rfl (by decide +kernel)) ggX9_cat_X9_isCat
set_option maxRecDepth 20000 in
theorem ggX9_cat_X9_roomsOf : GoodIn wsX9_cat wsX9_roomsOf := goodIn_r _ [21, 22, 23, 24, 8, 25, 26, 3, 27, 28, 29, 30, 1, 47, 48, 49, 50, 51, 52, 53, 54, 55, 56, 57, 58, 59, 60, 61, 62, 63, 64, 65, 66, 67, 68, 69, 70, 71, 72, 73, 74, 75, 76, 77, 78, 79, 80, 81, 82, 83, 84, 85, 86, 87, 88, 89, 90, 91, 92, 93, 94, 95, 96, 97, 98, 99, 100, 101, 102, 103, 104, 105, 106, 107, 108, 109, 110, 111, 112, 113] rfl (by decide +kernel)
set_option maxRecDepth 20000 in
theorem gX9_cat_X9_roomsOf : GoodIn wsX9_cat (wsV RX9 413 RX9 yX9_roomsOf wsX9_roomsOf) := goodIn_app (goodIn_r _ [18, 19, 20, 8] rfl (by decide +kernel)) ggX9_cat_X9_roomsOf
set_option maxRecDepth 20000 in
theorem ggX9_cat_X9_thoseIn : GoodIn wsX9_cat wsX9_thoseIn := goodIn_r _ [34, 1, 35, 36, 37, 8, 38, 39, 3, 40, 41, 42, 43, 44, 45, 46, 47, 48, 49, 50, 51, 52, 53, 54, 55, 56, 57, 58, 59, 60, 61, 62, 63, 64, 65, 66, 67, 68, 69, 70, 71, 72, 73, 74, 75, 76, 77, 78, 79, 80, 81, 82, 83, 84, 85, 86, 87, 88, 89, 90, 91, 92, 93, 94, 95, 96, 97, 98, 99, 100, 101, 102, 103, 104, 105, 106, 107, 108, 109, 110, 111, 112, 113] rfl (by decide +kernel)
set_option maxRecDepth 20000 in
theorem gX9_cat_X9_thoseIn : GoodIn wsX9_cat (wsV RX9 459 RX9 yX9_thoseIn wsX9_thoseIn) := goodIn_app (goodIn_r _ [31, 32, 33, 8] rfl (by decide +kernel)) ggX9_cat_X9_thoseIn
theorem dX9_cat_0 : decode cX9_cat 0 = .ok (.aload_n 0, 1) := by decide +kernel
theorem dX9_cat_1 : decode cX9_cat 1 = .ok (.iload_n 1, 1) := by decide +kernel
theorem dX9_cat_2 : decode cX9_cat 2 = .ok (.invokevirtual 456, 3) := by decide +kernel
theorem dX9_cat_5 : decode cX9_cat 5 = .ok (.ifCond .ne 6, 3) := by decide +kernel
theorem dX9_cat_8 : decode cX9_cat 8 = .ok (.bipush (-2), 2) := by decide +kernel
theorem dX9_cat_10 : decode cX9_cat 10 = .ok (.ireturn, 1) := by decide +kernel
theorem dX9_cat_11 : decode cX9_cat 11 = .ok (.iload_n 2, 1) := by decide +kernel
theorem dX9_cat_12 : decode cX9_cat 12 = .ok (.tableswitch 94 0 4 #[36, 48, 63, 78, 84], 36) := by decide +kernel
theorem dX9_cat_48 : decode cX9_cat 48 = .ok (.aload_n 0, 1) := by decide +kernel
theorem dX9_cat_49 : decode cX9_cat 49 = .ok (.getfield 94, 3) := by decide +kernel
theorem dX9_cat_52 : decode cX9_cat 52 = .ok (.bipush 36, 2) := by decide +kernel
theorem dX9_cat_54 : decode cX9_cat 54 = .ok (.iaload, 1) := by decide +kernel
theorem dX9_cat_55 : decode cX9_cat 55 = .ok (.iload_n 1, 1) := by decide +kernel
theorem dX9_cat_56 : decode cX9_cat 56 = .ok (.ishr, 1) := by decide +kernel
theorem dX9_cat_57 : decode cX9_cat 57 = .ok (.iconst 1, 1) := by decide +kernel
theorem dX9_cat_58 : decode cX9_cat 58 = .ok (.iand, 1) := by decide +kernel
theorem dX9_cat_59 : decode cX9_cat 59 = .ok (.ireturn, 1) := by decide +kernel
theorem dX9_cat_60 : decode cX9_cat 60 = .ok (.aload_n 0, 1) := by decide +kernel
theorem dX9_cat_61 : decode cX9_cat 61 = .ok (.getfield 42, 3) := by decide +kernel
theorem dX9_cat_64 : decode cX9_cat 64 = .ok (.bipush 6, 2) := by decide +kernel
theorem dX9_cat_66 : decode cX9_cat 66 = .ok (.aload_n 0, 1) := by decide +kernel
theorem dX9_cat_67 : decode cX9_cat 67 = .ok (.getfield 268, 3) := by decide +kernel
theorem dX9_cat_70 : decode cX9_cat 70 = .ok (.imul, 1) := by decide +kernel
theorem dX9_cat_71 : decode cX9_cat 71 = .ok (.iload_n 1, 1) := by decide +kernel
theorem dX9_cat_72 : decode cX9_cat 72 = .ok (.iadd, 1) := by decide +kernel
theorem dX9_cat_73 : decode cX9_cat 73 = .ok (.iaload, 1) := by decide +kernel
theorem dX9_cat_74 : decode cX9_cat 74 = .ok (.ireturn, 1) := by decide +kernel
theorem dX9_cat_75 : decode cX9_cat 75 = .ok (.aload_n 0, 1) := by decide +kernel
theorem dX9_cat_76 : decode cX9_cat 76 = .ok (.getfield 45, 3) := by decide +kernel
theorem dX9_cat_79 : decode cX9_cat 79 = .ok (.bipush 6, 2) := by decide +kernel
theorem dX9_cat_81 : decode cX9_cat 81 = .ok (.aload_n 0, 1) := by decide +kernel
theorem dX9_cat_82 : decode cX9_cat 82 = .ok (.getfield 268, 3) := by decide +kernel
theorem dX9_cat_85 : decode cX9_cat 85 = .ok (.imul, 1) := by decide +kernel
theorem dX9_cat_86 : decode cX9_cat 86 = .ok (.iload_n 1, 1) := by decide +kernel
theorem dX9_cat_87 : decode cX9_cat 87 = .ok (.iadd, 1) := by decide +kernel
theorem dX9_cat_88 : decode cX9_cat 88 = .ok (.iaload, 1) := by decide +kernel
theorem dX9_cat_89 : decode cX9_cat 89 = .ok (.ireturn, 1) := by decide +kernel
theorem dX9_cat_90 : decode cX9_cat 90 = .ok (.aload_n 0, 1) := by decide +kernel
theorem dX9_cat_91 : decode cX9_cat 91 = .ok (.iload_n 1, 1) := by decide +kernel
theorem dX9_cat_92 : decode cX9_cat 92 = .ok (.invokevirtual 413, 3) := by decide +kernel
theorem dX9_cat_95 : decode cX9_cat 95 = .ok (.ireturn, 1) := by decide +kernel
theorem dX9_cat_96 : decode cX9_cat 96 = .ok (.aload_n 0, 1) := by decide +kernel
theorem dX9_cat_97 : decode cX9_cat 97 = .ok (.aload_n 0, 1) := by decide +kernel
theorem dX9_cat_98 : decode cX9_cat 98 = .ok (.iload_n 1, 1) := by decide +kernel
theorem dX9_cat_99 : decode cX9_cat 99 = .ok (.invokevirtual 413, 3) := by decide +kernel
theorem dX9_cat_102 : decode cX9_cat 102 = .ok (.invokevirtual 459, 3) := by decide +kernel
theorem dX9_cat_105 : decode cX9_cat 105 = .ok (.ireturn, 1) := by decide +kernel
theorem dX9_cat_106 : decode cX9_cat 106 = .ok (.bipush (-2), 2) := by decide +kernel
theorem dX9_cat_108 : decode cX9_cat 108 = .ok (.ireturn, 1) := by decide +kernel
set_option maxRecDepth 20000 in
theorem ggX9_room_X9_isRoom : GoodIn wsX9_room wsX9_isRoom := goodIn_r _ [5, 6, 7, 8, 4, 9, 10, 11, 12, 13, 14, 29, 30, 31, 32, 33, 34, 35, 36, 37, 38, 39, 40, 41, 42, 43, 44, 45, 46, 47, 48, 49, 50, 51, 52, 53, 54, 55, 56, 57, 58, 59, 60, 61, 62, 63, 64, 65, 66, 67, 68, 69, 70, 71, 72, 73, 74, 75, 76, 77, 78, 79, 80, 81, 82, 83, 84, 85, 86, 87, 88, 89, 90, 91, 92, 93, 94, 95] rfl (by decide +kernel)
set_option maxRecDepth 20000 in
theorem gX9_room_X9_isRoom : GoodIn wsX9_room (wsV RX9 462 RX9 yX9_isRoom wsX9_isRoom) := goodIn_app (goodIn_r _ [1, 2, 3, 4] rfl (by decide +kernel)) ggX9_room_X9_isRoom
set_option maxRecDepth 20000 in
theorem ggX9_room_X9_keeperOf : GoodIn wsX9_room wsX9_keeperOf := goodIn_r _ [18, 19, 29, 30, 31, 32, 33, 34, 35, 36, 37, 38, 39, 40, 41, 42, 43, 44, 45, 46, 47, 48, 49, 50, 51, 52, 53, 54, 55, 56, 57, 58, 59, 60, 61, 62, 63, 64, 65, 66, 67, 68, 69, 70, 71, 72, 73, 74, 75, 76, 77, 78, 79, 80, 81, 82, 83, 84, 85, 86, 87, 88, 89, 90, 91, 92, 93, 94, 95] rfl (by decide +kernel)
set_option maxRecDepth 20000 in
theorem gX9_room_X9_keeperOf : GoodIn wsX9_room (wsV RX9 392 RX9 yX9_keeperOf wsX9_keeperOf) := goodIn_app (goodIn_r _ [15, 16, 17, 4] rfl (by decide +kernel)) ggX9_room_X9_keeperOf
set_option maxRecDepth 20000 in
theorem ggX9_room_X9_whoIn : GoodIn wsX9_room wsX9_whoIn := goodIn_r _ [23, 19, 24, 25, 26, 4, 27, 28, 11, 29, 30, 31, 32, 33, 34, 35, 36, 37, 38, 39, 40, 41, 42, 43, 44, 45, 46, 47, 48, 49, 50, 51, 52, 53, 54, 55, 56, 57, 58, 59, 60, 61, 62, 63, 64, 65, 66, 67, 68, 69, 70, 71, 72, 73, 74, 75, 76, 77, 78, 79, 80, 81, 82, 83, 84, 85, 86, 87, 88, 89, 90, 91, 92, 93, 94, 95] rfl (by decide +kernel)
set_option maxRecDepth 20000 in
theorem gX9_room_X9_whoIn : GoodIn wsX9_room (wsV RX9 465 RX9 yX9_whoIn wsX9_whoIn) := goodIn_app (goodIn_r _ [20, 21, 22, 4] rfl (by decide +kernel)) ggX9_room_X9_whoIn
theorem dX9_room_0 : decode cX9_room 0 = .ok (.aload_n 0, 1) := by decide +kernel
theorem dX9_room_1 : decode cX9_room 1 = .ok (.iload_n 1, 1) := by decide +kernel
theorem dX9_room_2 : decode cX9_room 2 = .ok (.invokevirtual 462, 3) := by decide +kernel
theorem dX9_room_5 : decode cX9_room 5 = .ok (.ifCond .ne 6, 3) := by decide +kernel
theorem dX9_room_8 : decode cX9_room 8 = .ok (.bipush (-2), 2) := by decide +kernel
theorem dX9_room_10 : decode cX9_room 10 = .ok (.ireturn, 1) := by decide +kernel
theorem dX9_room_11 : decode cX9_room 11 = .ok (.iload_n 2, 1) := by decide +kernel
theorem dX9_room_12 : decode cX9_room 12 = .ok (.lookupswitch 40 #[(0, 28), (1, 34)], 28) := by decide +kernel
theorem dX9_room_40 : decode cX9_room 40 = .ok (.aload_n 0, 1) := by decide +kernel
theorem dX9_room_41 : decode cX9_room 41 = .ok (.iload_n 1, 1) := by decide +kernel
theorem dX9_room_42 : decode cX9_room 42 = .ok (.invokevirtual 392, 3) := by decide +kernel
theorem dX9_room_45 : decode cX9_room 45 = .ok (.ireturn, 1) := by decide +kernel
theorem dX9_room_46 : decode cX9_room 46 = .ok (.aload_n 0, 1) := by decide +kernel
theorem dX9_room_47 : decode cX9_room 47 = .ok (.iload_n 1, 1) := by decide +kernel
theorem dX9_room_48 : decode cX9_room 48 = .ok (.invokevirtual 465, 3) := by decide +kernel
theorem dX9_room_51 : decode cX9_room 51 = .ok (.ireturn, 1) := by decide +kernel
theorem dX9_room_52 : decode cX9_room 52 = .ok (.bipush (-2), 2) := by decide +kernel
theorem dX9_room_54 : decode cX9_room 54 = .ok (.ireturn, 1) := by decide +kernel
set_option maxRecDepth 20000 in
theorem ggX9_tenant_X9_isTenant : GoodIn wsX9_tenant wsX9_isTenant := goodIn_r _ [8, 9, 10, 11, 7, 12, 13, 3, 14, 15, 16, 17, 18, 19, 20, 21, 22, 23, 24, 25, 26, 27, 28, 29, 30, 31, 32, 33, 34, 35, 36, 37, 38, 39, 40, 41, 42, 43, 44, 45, 46, 47, 48, 49, 50, 51, 52, 53, 54, 55, 56, 57, 58, 59, 60, 61, 62, 63, 64, 65, 66, 67, 68, 69, 70, 71, 72, 73, 74, 75, 76, 77, 78, 79, 80, 81, 82, 83] rfl (by decide +kernel)
set_option maxRecDepth 20000 in
theorem gX9_tenant_X9_isTenant : GoodIn wsX9_tenant (wsV RX9 386 RX9 yX9_isTenant wsX9_isTenant) := goodIn_app (goodIn_r _ [4, 5, 6, 7] rfl (by decide +kernel)) ggX9_tenant_X9_isTenant
theorem dX9_tenant_0 : decode cX9_tenant 0 = .ok (.aload_n 0, 1) := by decide +kernel
theorem dX9_tenant_1 : decode cX9_tenant 1 = .ok (.iload_n 1, 1) := by decide +kernel
theorem dX9_tenant_2 : decode cX9_tenant 2 = .ok (.invokevirtual 386, 3) := by decide +kernel
theorem dX9_tenant_5 : decode cX9_tenant 5 = .ok (.ifCond .ne 6, 3) := by decide +kernel
theorem dX9_tenant_8 : decode cX9_tenant 8 = .ok (.bipush (-2), 2) := by decide +kernel
theorem dX9_tenant_10 : decode cX9_tenant 10 = .ok (.ireturn, 1) := by decide +kernel
theorem dX9_tenant_11 : decode cX9_tenant 11 = .ok (.iload_n 2, 1) := by decide +kernel
theorem dX9_tenant_12 : decode cX9_tenant 12 = .ok (.tableswitch 90 0 4 #[36, 45, 55, 70, 80], 36) := by decide +kernel
theorem dX9_tenant_48 : decode cX9_tenant 48 = .ok (.aload_n 0, 1) := by decide +kernel
theorem dX9_tenant_49 : decode cX9_tenant 49 = .ok (.getfield 94, 3) := by decide +kernel
theorem dX9_tenant_52 : decode cX9_tenant 52 = .ok (.iconst 0, 1) := by decide +kernel
theorem dX9_tenant_53 : decode cX9_tenant 53 = .ok (.iload_n 1, 1) := by decide +kernel
theorem dX9_tenant_54 : decode cX9_tenant 54 = .ok (.iadd, 1) := by decide +kernel
theorem dX9_tenant_55 : decode cX9_tenant 55 = .ok (.iaload, 1) := by decide +kernel
theorem dX9_tenant_56 : decode cX9_tenant 56 = .ok (.ireturn, 1) := by decide +kernel
theorem dX9_tenant_57 : decode cX9_tenant 57 = .ok (.aload_n 0, 1) := by decide +kernel
theorem dX9_tenant_58 : decode cX9_tenant 58 = .ok (.getfield 94, 3) := by decide +kernel
theorem dX9_tenant_61 : decode cX9_tenant 61 = .ok (.bipush 22, 2) := by decide +kernel
theorem dX9_tenant_63 : decode cX9_tenant 63 = .ok (.iload_n 1, 1) := by decide +kernel
theorem dX9_tenant_64 : decode cX9_tenant 64 = .ok (.iadd, 1) := by decide +kernel
theorem dX9_tenant_65 : decode cX9_tenant 65 = .ok (.iaload, 1) := by decide +kernel
theorem dX9_tenant_66 : decode cX9_tenant 66 = .ok (.ireturn, 1) := by decide +kernel
theorem dX9_tenant_67 : decode cX9_tenant 67 = .ok (.aload_n 0, 1) := by decide +kernel
theorem dX9_tenant_68 : decode cX9_tenant 68 = .ok (.getfield 54, 3) := by decide +kernel
theorem dX9_tenant_71 : decode cX9_tenant 71 = .ok (.bipush 7, 2) := by decide +kernel
theorem dX9_tenant_73 : decode cX9_tenant 73 = .ok (.aload_n 0, 1) := by decide +kernel
theorem dX9_tenant_74 : decode cX9_tenant 74 = .ok (.getfield 268, 3) := by decide +kernel
theorem dX9_tenant_77 : decode cX9_tenant 77 = .ok (.imul, 1) := by decide +kernel
theorem dX9_tenant_78 : decode cX9_tenant 78 = .ok (.iload_n 1, 1) := by decide +kernel
theorem dX9_tenant_79 : decode cX9_tenant 79 = .ok (.iadd, 1) := by decide +kernel
theorem dX9_tenant_80 : decode cX9_tenant 80 = .ok (.iaload, 1) := by decide +kernel
theorem dX9_tenant_81 : decode cX9_tenant 81 = .ok (.ireturn, 1) := by decide +kernel
theorem dX9_tenant_82 : decode cX9_tenant 82 = .ok (.aload_n 0, 1) := by decide +kernel
theorem dX9_tenant_83 : decode cX9_tenant 83 = .ok (.getfield 94, 3) := by decide +kernel
theorem dX9_tenant_86 : decode cX9_tenant 86 = .ok (.bipush 29, 2) := by decide +kernel
theorem dX9_tenant_88 : decode cX9_tenant 88 = .ok (.iload_n 1, 1) := by decide +kernel
theorem dX9_tenant_89 : decode cX9_tenant 89 = .ok (.iadd, 1) := by decide +kernel
theorem dX9_tenant_90 : decode cX9_tenant 90 = .ok (.iaload, 1) := by decide +kernel
theorem dX9_tenant_91 : decode cX9_tenant 91 = .ok (.ireturn, 1) := by decide +kernel
theorem dX9_tenant_92 : decode cX9_tenant 92 = .ok (.aload_n 0, 1) := by decide +kernel
theorem dX9_tenant_93 : decode cX9_tenant 93 = .ok (.getfield 94, 3) := by decide +kernel
theorem dX9_tenant_96 : decode cX9_tenant 96 = .ok (.bipush 7, 2) := by decide +kernel
theorem dX9_tenant_98 : decode cX9_tenant 98 = .ok (.iload_n 1, 1) := by decide +kernel
theorem dX9_tenant_99 : decode cX9_tenant 99 = .ok (.iadd, 1) := by decide +kernel
theorem dX9_tenant_100 : decode cX9_tenant 100 = .ok (.iaload, 1) := by decide +kernel
theorem dX9_tenant_101 : decode cX9_tenant 101 = .ok (.ireturn, 1) := by decide +kernel
theorem dX9_tenant_102 : decode cX9_tenant 102 = .ok (.bipush (-2), 2) := by decide +kernel
theorem dX9_tenant_104 : decode cX9_tenant 104 = .ok (.ireturn, 1) := by decide +kernel
set_option maxRecDepth 20000 in
theorem ggX9_liking_X9_isTenant : GoodIn wsX9_liking wsX9_isTenant := goodIn_r _ [6, 7, 8, 9, 5, 10, 11, 12, 13, 14, 15, 86, 87, 88, 89, 90, 91, 92, 93, 94, 95, 96, 97, 98, 99, 100, 101, 102, 103, 104, 105, 106, 107, 108, 109, 110, 111, 112, 113, 114, 115, 116, 117, 118, 119, 120, 121, 122, 123, 124, 125, 126, 127, 128, 129, 130, 131, 132, 133, 134, 135, 136, 137, 138, 139, 140, 141, 142, 143, 144, 145, 146, 147, 148, 149, 150, 151, 152] rfl (by decide +kernel)
set_option maxRecDepth 20000 in
theorem gX9_liking_X9_isTenant : GoodIn wsX9_liking (wsV RX9 386 RX9 yX9_isTenant wsX9_isTenant) := goodIn_app (goodIn_r _ [2, 3, 4, 5] rfl (by decide +kernel)) ggX9_liking_X9_isTenant
set_option maxRecDepth 20000 in
theorem ggX9_liking_X9_isRoom : GoodIn wsX9_liking wsX9_isRoom := goodIn_r _ [19, 20, 21, 22, 5, 23, 24, 12, 13, 14, 15, 86, 87, 88, 89, 90, 91, 92, 93, 94, 95, 96, 97, 98, 99, 100, 101, 102, 103, 104, 105, 106, 107, 108, 109, 110, 111, 112, 113, 114, 115, 116, 117, 118, 119, 120, 121, 122, 123, 124, 125, 126, 127, 128, 129, 130, 131, 132, 133, 134, 135, 136, 137, 138, 139, 140, 141, 142, 143, 144, 145, 146, 147, 148, 149, 150, 151, 152] rfl (by decide +kernel)
set_option maxRecDepth 20000 in
theorem gX9_liking_X9_isRoom : GoodIn wsX9_liking (wsV RX9 462 RX9 yX9_isRoom wsX9_isRoom) := goodIn_app (goodIn_r _ [16, 17, 18, 5] rfl (by decide +kernel)) ggX9_liking_X9_isRoom
set_option maxRecDepth 20000 in
theorem ggX9_liking_X9_keeperOf : GoodIn wsX9_liking wsX9_keeperOf := goodIn_r _ [28, 29, 86, 87, 88, 89, 90, 91, 92, 93, 94, 95, 96, 97, 98, 99, 100, 101, 102, 103, 104, 105, 106, 107, 108, 109, 110, 111, 112, 113, 114, 115, 116, 117, 118, 119, 120, 121, 122, 123, 124, 125, 126, 127, 128, 129, 130, 131, 132, 133, 134, 135, 136, 137, 138, 139, 140, 141, 142, 143, 144, 145, 146, 147, 148, 149, 150, 151, 152] rfl (by decide +kernel)
set_option maxRecDepth 20000 in
theorem gX9_liking_X9_keeperOf : GoodIn wsX9_liking (wsV RX9 392 RX9 yX9_keeperOf wsX9_keeperOf) := goodIn_app (goodIn_r _ [25, 26, 27, 5] rfl (by decide +kernel)) ggX9_liking_X9_keeperOf
set_option maxRecDepth 20000 in
theorem ggX9_liking_X9_likingIn : GoodIn wsX9_liking wsX9_likingIn := goodIn_r _ [33, 29, 34, 35, 36, 5, 37, 38, 39, 40, 41, 42, 43, 12, 44, 25, 26, 27, 28, 45, 46, 47, 48, 49, 50, 51, 52, 53, 54, 55, 56, 57, 58, 59, 60, 20, 21, 22, 23, 24, 61, 62, 63, 64, 65, 66, 67, 68, 69, 70, 71, 72, 73, 74, 75, 76, 77, 78, 79, 80, 81, 82, 83, 84, 85, 86, 87, 88, 89, 90, 91, 92, 93, 94, 95, 96, 97, 98, 99, 100, 101, 102, 103, 104, 105, 106, 107, 108, 109, 110, 111, 112, 113, 114, 115, 116, 117, 118, 119, 120, 121, 122, 123, 124, 125, 126, 127, 128, 129, 130, 131, 132, 133, 134, 135, 136, 137, 138, 139, 140, 141, 142, 143, 144, 145, 146, 147, 148, 149, 150, 151, 152] rfl (by decide +kernel)
set_option maxRecDepth 20000 in
theorem gX9_liking_X9_likingIn : GoodIn wsX9_liking (wsV RX9 425 RX9 yX9_likingIn wsX9_likingIn) := goodIn_app (goodIn_r _ [30, 31, 32, 5] rfl (by decide +kernel)) ggX9_liking_X9_likingIn
theorem dX9_liking_0 : decode cX9_liking 0 = .ok (.aload_n 0, 1) := by decide +kernel
theorem dX9_liking_1 : decode cX9_liking 1 = .ok (.iload_n 1, 1) := by decide +kernel
theorem dX9_liking_2 : decode cX9_liking 2 = .ok (.invokevirtual 386, 3) := by decide +kernel
theorem dX9_liking_5 : decode cX9_liking 5 = .ok (.ifCond .eq 28, 3) := by decide +kernel
theorem dX9_liking_8 : decode cX9_liking 8 = .ok (.aload_n 0, 1) := by decide +kernel
theorem dX9_liking_9 : decode cX9_liking 9 = .ok (.iload_n 2, 1) := by decide +kernel
theorem dX9_liking_10 : decode cX9_liking 10 = .ok (.invokevirtual 462, 3) := by decide +kernel
theorem dX9_liking_13 : decode cX9_liking 13 = .ok (.ifCond .eq 20, 3) := by decide +kernel
theorem dX9_liking_16 : decode cX9_liking 16 = .ok (.aload_n 0, 1) := by decide +kernel
theorem dX9_liking_17 : decode cX9_liking 17 = .ok (.iload_n 2, 1) := by decide +kernel
theorem dX9_liking_18 : decode cX9_liking 18 = .ok (.invokevirtual 392, 3) := by decide +kernel
theorem dX9_liking_21 : decode cX9_liking 21 = .ok (.ifCond .lt 12, 3) := by decide +kernel
theorem dX9_liking_24 : decode cX9_liking 24 = .ok (.aload_n 0, 1) := by decide +kernel
theorem dX9_liking_25 : decode cX9_liking 25 = .ok (.iload_n 1, 1) := by decide +kernel
theorem dX9_liking_26 : decode cX9_liking 26 = .ok (.iload_n 2, 1) := by decide +kernel
theorem dX9_liking_27 : decode cX9_liking 27 = .ok (.invokevirtual 425, 3) := by decide +kernel
theorem dX9_liking_30 : decode cX9_liking 30 = .ok (.goto 6, 3) := by decide +kernel
theorem dX9_liking_33 : decode cX9_liking 33 = .ok (.ldc_w 468, 3) := by decide +kernel
theorem dX9_liking_36 : decode cX9_liking 36 = .ok (.ireturn, 1) := by decide +kernel
set_option maxRecDepth 20000 in
theorem ggX9_shaky_X9_thrown : GoodIn wsX9_shaky wsX9_thrown := goodIn_r _ [5, 6, 7, 8, 4, 9, 10, 11, 12, 13, 14, 15, 16, 17, 18, 19, 20, 21, 22, 23, 24, 25, 26, 27, 28, 29, 30, 31, 32, 33, 34, 35, 36, 37, 38, 39, 40, 41, 42, 43, 44, 45, 46, 47, 48, 49, 50, 51, 52, 53, 54, 55, 56, 57, 58, 59, 60, 61, 62, 63, 64, 65, 66, 67, 68, 69, 70, 71, 72, 73, 74, 75, 76, 77, 78, 79, 80, 81, 82, 83, 84, 85, 86, 87, 88, 89, 90, 91, 92, 93, 94, 95, 96, 97, 98, 99, 100, 101, 102, 103, 104, 105, 106, 107, 108, 109, 110, 111, 112, 113, 114, 115, 116, 117, 118, 119, 120, 121, 122, 123, 124, 125, 126, 127, 128, 129, 130, 131, 132, 133, 134, 135, 136, 137, 138, 139, 140, 141, 142, 143, 144, 145, 146, 147, 148, 149, 150, 151, 152, 153, 154, 155, 156, 157, 158, 159, 160, 161, 162, 163] rfl (by decide +kernel)
set_option maxRecDepth 20000 in
theorem gX9_shaky_X9_thrown : GoodIn wsX9_shaky (wsV RX9 443 RX9 yX9_thrown wsX9_thrown) := goodIn_app (goodIn_r _ [1, 2, 3, 4] rfl (by decide +kernel)) ggX9_shaky_X9_thrown
theorem dX9_shaky_0 : decode cX9_shaky 0 = .ok (.aload_n 0, 1) := by decide +kernel
theorem dX9_shaky_1 : decode cX9_shaky 1 = .ok (.invokevirtual 443, 3) := by decide +kernel
theorem dX9_shaky_4 : decode cX9_shaky 4 = .ok (.ireturn, 1) := by decide +kernel
set_option maxRecDepth 20000 in
theorem ggX9_law_X9_isIn : GoodIn wsX9_law wsX9_isIn := goodIn_r _ [5] rfl (by decide +kernel)
set_option maxRecDepth 20000 in
theorem gX9_law_X9_isIn : GoodIn wsX9_law (va_wsS RX9 376 yX9_isIn wsX9_isIn) := goodIn_app (goodIn_r _ [2, 3, 4] rfl (by decide +kernel)) ggX9_law_X9_isIn
set_option maxRecDepth 20000 in
theorem ggX9_law_X9_thrown : GoodIn wsX9_law wsX9_thrown := goodIn_r _ [9, 10, 11, 12, 4, 13, 14, 15, 16, 17, 18, 19, 20, 21, 22, 23, 24, 2, 3, 5, 25, 26, 27, 28, 29, 30, 31, 32, 33, 34, 35, 36, 37, 38, 39, 40, 41, 42, 43, 44, 45, 46, 47, 48, 49, 50, 51, 52, 53, 54, 55, 1, 56, 57, 58, 59, 60, 61, 62, 63, 64, 65, 66, 67, 68, 69, 70, 71, 72, 73, 74, 75, 76, 77, 78, 79, 80, 81, 82, 83, 84, 85, 86, 87, 88, 89, 90, 91, 92, 93, 94, 95, 96, 97, 98, 99, 100, 101, 102, 103, 104, 105, 106, 107, 108, 109, 110, 111, 112, 113, 114, 115, 116, 117, 118, 119, 120, 121, 122, 123, 124, 125, 126, 127, 128, 129, 130, 131, 132, 133, 134, 135, 136, 137, 138, 139, 140, 141, 142, 143, 144, 145, 146, 147, 148, 149, 150, 151, 152, 153, 154, 155, 156, 157, 158, 159, 160, 161, 162, 163] rfl (by decide +kernel)
set_option maxRecDepth 20000 in
theorem gX9_law_X9_thrown : GoodIn wsX9_law (wsV RX9 443 RX9 yX9_thrown wsX9_thrown) := goodIn_app (goodIn_r _ [6, 7, 8, 4] rfl (by decide +kernel)) ggX9_law_X9_thrown
set_option maxRecDepth 20000 in
theorem ggX9_law_X9_bitsOf : GoodIn wsX9_law wsX9_bitsOf := goodIn_r _ [74] rfl (by decide +kernel)
set_option maxRecDepth 20000 in
theorem gX9_law_X9_bitsOf : GoodIn wsX9_law (va_wsS RX9 416 yX9_bitsOf wsX9_bitsOf) := goodIn_app (goodIn_r _ [72, 73, 4] rfl (by decide +kernel)) ggX9_law_X9_bitsOf
theorem dX9_law_0 : decode cX9_law 0 = .ok (.iload_n 1, 1) := by decide +kernel
theorem dX9_law_1 : decode cX9_law 1 = .ok (.iconst 0, 1) := by decide +kernel
theorem dX9_law_2 : decode cX9_law 2 = .ok (.bipush 99, 2) := by decide +kernel
theorem dX9_law_4 : decode cX9_law 4 = .ok (.invokestatic 376, 3) := by decide +kernel
theorem dX9_law_7 : decode cX9_law 7 = .ok (.ifCond .ne 5, 3) := by decide +kernel
theorem dX9_law_10 : decode cX9_law 10 = .ok (.iconst (-1), 1) := by decide +kernel
theorem dX9_law_11 : decode cX9_law 11 = .ok (.ireturn, 1) := by decide +kernel
theorem dX9_law_12 : decode cX9_law 12 = .ok (.aload_n 0, 1) := by decide +kernel
theorem dX9_law_13 : decode cX9_law 13 = .ok (.iload_n 1, 1) := by decide +kernel
theorem dX9_law_14 : decode cX9_law 14 = .ok (.putfield 100, 3) := by decide +kernel
theorem dX9_law_17 : decode cX9_law 17 = .ok (.aload_n 0, 1) := by decide +kernel
theorem dX9_law_18 : decode cX9_law 18 = .ok (.invokevirtual 443, 3) := by decide +kernel
theorem dX9_law_21 : decode cX9_law 21 = .ok (.invokestatic 416, 3) := by decide +kernel
theorem dX9_law_24 : decode cX9_law 24 = .ok (.istore_n 2, 1) := by decide +kernel
theorem dX9_law_25 : decode cX9_law 25 = .ok (.aload_n 0, 1) := by decide +kernel
theorem dX9_law_26 : decode cX9_law 26 = .ok (.iconst (-1), 1) := by decide +kernel
theorem dX9_law_27 : decode cX9_law 27 = .ok (.putfield 100, 3) := by decide +kernel
theorem dX9_law_30 : decode cX9_law 30 = .ok (.iload_n 2, 1) := by decide +kernel
theorem dX9_law_31 : decode cX9_law 31 = .ok (.ireturn, 1) := by decide +kernel
set_option maxRecDepth 20000 in
theorem ggX9_purse_X9_isCat : GoodIn wsX9_purse wsX9_isCat := goodIn_r _ [9, 10, 11, 12, 8, 13, 14, 4, 15, 16, 17, 47, 48, 49, 50, 51, 52, 53, 54, 55, 56, 57, 58, 59, 60, 61, 62, 63, 64, 65, 66, 67, 68, 69, 70, 71, 72, 73, 74, 75, 76, 77, 78, 79, 80, 81, 82, 83, 84, 85, 86, 87, 88, 89, 90, 91, 92, 93, 94, 95, 96, 97, 98, 99, 100, 101, 102, 103, 104, 105, 106, 107, 108, 109, 110, 111, 112, 113] rfl (by decide +kernel)
set_option maxRecDepth 20000 in
theorem gX9_purse_X9_isCat : GoodIn wsX9_purse (wsV RX9 456 RX9 yX9_isCat wsX9_isCat) := goodIn_app (goodIn_r _ [5, 6, 7, 8] rfl (by decide +kernel)) ggX9_purse_X9_isCat
set_option maxRecDepth 20000 in
theorem ggX9_purse_X9_roomsOf : GoodIn wsX9_purse wsX9_roomsOf := goodIn_r _ [21, 22, 23, 24, 8, 25, 26, 4, 27, 28, 29, 30, 2, 47, 48, 49, 50, 51, 52, 53, 54, 55, 56, 57, 58, 59, 60, 61, 62, 63, 64, 65, 66, 67, 68, 69, 70, 71, 72, 73, 74, 75, 76, 77, 78, 79, 80, 81, 82, 83, 84, 85, 86, 87, 88, 89, 90, 91, 92, 93, 94, 95, 96, 97, 98, 99, 100, 101, 102, 103, 104, 105, 106, 107, 108, 109, 110, 111, 112, 113] rfl (by decide +kernel)
set_option maxRecDepth 20000 in
theorem gX9_purse_X9_roomsOf : GoodIn wsX9_purse (wsV RX9 413 RX9 yX9_roomsOf wsX9_roomsOf) := goodIn_app (goodIn_r _ [18, 19, 20, 8] rfl (by decide +kernel)) ggX9_purse_X9_roomsOf
set_option maxRecDepth 20000 in
theorem ggX9_purse_X9_thoseIn : GoodIn wsX9_purse wsX9_thoseIn := goodIn_r _ [34, 2, 35, 36, 37, 8, 38, 39, 4, 40, 41, 42, 43, 44, 45, 46, 47, 48, 49, 50, 51, 52, 53, 54, 55, 56, 57, 58, 59, 60, 61, 62, 63, 64, 65, 66, 67, 68, 69, 70, 71, 72, 73, 74, 75, 76, 77, 78, 79, 80, 81, 82, 83, 84, 85, 86, 87, 88, 89, 90, 91, 92, 93, 94, 95, 96, 97, 98, 99, 100, 101, 102, 103, 104, 105, 106, 107, 108, 109, 110, 111, 112, 113] rfl (by decide +kernel)
set_option maxRecDepth 20000 in
theorem gX9_purse_X9_thoseIn : GoodIn wsX9_purse (wsV RX9 459 RX9 yX9_thoseIn wsX9_thoseIn) := goodIn_app (goodIn_r _ [31, 32, 33, 8] rfl (by decide +kernel)) ggX9_purse_X9_thoseIn
set_option maxRecDepth 20000 in
theorem ggX9_purse_X9_many : GoodIn wsX9_purse wsX9_many := goodIn_r _ [38, 39, 4, 47, 48, 49, 50, 51, 52, 53, 54, 55, 56, 57, 58, 59, 60, 61, 62, 63, 64, 65, 66, 67, 68, 69, 70, 71, 72, 73, 74, 75, 76, 77, 78, 79, 80, 81, 82, 83, 84, 85, 86, 87, 88, 89, 90, 91, 92, 93, 94, 95, 96, 97, 98, 99, 100, 101, 102, 103, 104, 105, 106, 107, 108, 109, 110, 111, 112, 113] rfl (by decide +kernel)
set_option maxRecDepth 20000 in
theorem gX9_purse_X9_many : GoodIn wsX9_purse (wsV RX9 373 RX9 yX9_many wsX9_many) := goodIn_app (goodIn_r _ [35, 36, 37, 8] rfl (by decide +kernel)) ggX9_purse_X9_many
set_option maxRecDepth 20000 in
theorem ggX9_purse_X9_bit : GoodIn wsX9_purse wsX9_bit := goodIn_r _ [46] rfl (by decide +kernel)
set_option maxRecDepth 20000 in
theorem gX9_purse_X9_bit : GoodIn wsX9_purse (va_wsS RX9 274 yX9_bit wsX9_bit) := goodIn_app (goodIn_r _ [44, 45, 8] rfl (by decide +kernel)) ggX9_purse_X9_bit
theorem dX9_purse_0 : decode cX9_purse 0 = .ok (.aload_n 0, 1) := by decide +kernel
theorem dX9_purse_1 : decode cX9_purse 1 = .ok (.iload_n 1, 1) := by decide +kernel
theorem dX9_purse_2 : decode cX9_purse 2 = .ok (.invokevirtual 456, 3) := by decide +kernel
theorem dX9_purse_5 : decode cX9_purse 5 = .ok (.ifCond .ne 7, 3) := by decide +kernel
theorem dX9_purse_8 : decode cX9_purse 8 = .ok (.ldc_w 469, 3) := by decide +kernel
theorem dX9_purse_11 : decode cX9_purse 11 = .ok (.ireturn, 1) := by decide +kernel
theorem dX9_purse_12 : decode cX9_purse 12 = .ok (.aload_n 0, 1) := by decide +kernel
theorem dX9_purse_13 : decode cX9_purse 13 = .ok (.aload_n 0, 1) := by decide +kernel
theorem dX9_purse_14 : decode cX9_purse 14 = .ok (.iload_n 1, 1) := by decide +kernel
theorem dX9_purse_15 : decode cX9_purse 15 = .ok (.invokevirtual 413, 3) := by decide +kernel
theorem dX9_purse_18 : decode cX9_purse 18 = .ok (.invokevirtual 459, 3) := by decide +kernel
theorem dX9_purse_21 : decode cX9_purse 21 = .ok (.istore_n 2, 1) := by decide +kernel
theorem dX9_purse_22 : decode cX9_purse 22 = .ok (.iconst 0, 1) := by decide +kernel
theorem dX9_purse_23 : decode cX9_purse 23 = .ok (.istore_n 3, 1) := by decide +kernel
theorem dX9_purse_24 : decode cX9_purse 24 = .ok (.iconst 0, 1) := by decide +kernel
theorem dX9_purse_25 : decode cX9_purse 25 = .ok (.istore 4, 2) := by decide +kernel
theorem dX9_purse_27 : decode cX9_purse 27 = .ok (.iload 4, 2) := by decide +kernel
theorem dX9_purse_29 : decode cX9_purse 29 = .ok (.aload_n 0, 1) := by decide +kernel
theorem dX9_purse_30 : decode cX9_purse 30 = .ok (.invokevirtual 373, 3) := by decide +kernel
theorem dX9_purse_33 : decode cX9_purse 33 = .ok (.if_icmp .ge 50, 3) := by decide +kernel
theorem dX9_purse_36 : decode cX9_purse 36 = .ok (.iload_n 3, 1) := by decide +kernel
theorem dX9_purse_37 : decode cX9_purse 37 = .ok (.iload_n 2, 1) := by decide +kernel
theorem dX9_purse_38 : decode cX9_purse 38 = .ok (.iload 4, 2) := by decide +kernel
theorem dX9_purse_40 : decode cX9_purse 40 = .ok (.invokestatic 274, 3) := by decide +kernel
theorem dX9_purse_43 : decode cX9_purse 43 = .ok (.ifCond .eq 31, 3) := by decide +kernel
