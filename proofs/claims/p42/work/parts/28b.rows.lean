theorem dX9_divisor_21 : decode cX9_divisor 21 = .ok (.iload_n 2, 1) := by decide +kernel
theorem dX9_divisor_22 : decode cX9_divisor 22 = .ok (.ireturn, 1) := by decide +kernel
theorem dX9_power_0 : decode cX9_power 0 = .ok (.iconst 1, 1) := by decide +kernel
theorem dX9_power_1 : decode cX9_power 1 = .ok (.istore_n 2, 1) := by decide +kernel
theorem dX9_power_2 : decode cX9_power 2 = .ok (.iconst 0, 1) := by decide +kernel
theorem dX9_power_3 : decode cX9_power 3 = .ok (.istore_n 3, 1) := by decide +kernel
theorem dX9_power_4 : decode cX9_power 4 = .ok (.iload_n 3, 1) := by decide +kernel
theorem dX9_power_5 : decode cX9_power 5 = .ok (.iload_n 1, 1) := by decide +kernel
theorem dX9_power_6 : decode cX9_power 6 = .ok (.if_icmp .ge 13, 3) := by decide +kernel
theorem dX9_power_9 : decode cX9_power 9 = .ok (.iload_n 2, 1) := by decide +kernel
theorem dX9_power_10 : decode cX9_power 10 = .ok (.iload_n 0, 1) := by decide +kernel
theorem dX9_power_11 : decode cX9_power 11 = .ok (.imul, 1) := by decide +kernel
theorem dX9_power_12 : decode cX9_power 12 = .ok (.istore_n 2, 1) := by decide +kernel
theorem dX9_power_13 : decode cX9_power 13 = .ok (.iinc 3 1, 3) := by decide +kernel
theorem dX9_power_16 : decode cX9_power 16 = .ok (.goto (-12), 3) := by decide +kernel
theorem dX9_power_19 : decode cX9_power 19 = .ok (.iload_n 2, 1) := by decide +kernel
theorem dX9_power_20 : decode cX9_power 20 = .ok (.ireturn, 1) := by decide +kernel
theorem dX9_many_0 : decode cX9_many 0 = .ok (.aload_n 0, 1) := by decide +kernel
theorem dX9_many_1 : decode cX9_many 1 = .ok (.getfield 27, 3) := by decide +kernel
theorem dX9_many_4 : decode cX9_many 4 = .ok (.aload_n 0, 1) := by decide +kernel
theorem dX9_many_5 : decode cX9_many 5 = .ok (.getfield 268, 3) := by decide +kernel
theorem dX9_many_8 : decode cX9_many 8 = .ok (.iaload, 1) := by decide +kernel
theorem dX9_many_9 : decode cX9_many 9 = .ok (.ireturn, 1) := by decide +kernel
theorem dX9_cattery_0 : decode cX9_cattery 0 = .ok (.aload_n 0, 1) := by decide +kernel
theorem dX9_cattery_1 : decode cX9_cattery 1 = .ok (.getfield 20, 3) := by decide +kernel
theorem dX9_cattery_4 : decode cX9_cattery 4 = .ok (.aload_n 0, 1) := by decide +kernel
theorem dX9_cattery_5 : decode cX9_cattery 5 = .ok (.getfield 268, 3) := by decide +kernel
theorem dX9_cattery_8 : decode cX9_cattery 8 = .ok (.iaload, 1) := by decide +kernel
theorem dX9_cattery_9 : decode cX9_cattery 9 = .ok (.ireturn, 1) := by decide +kernel
theorem dX9_chambers_0 : decode cX9_chambers 0 = .ok (.aload_n 0, 1) := by decide +kernel
theorem dX9_chambers_1 : decode cX9_chambers 1 = .ok (.getfield 24, 3) := by decide +kernel
theorem dX9_chambers_4 : decode cX9_chambers 4 = .ok (.aload_n 0, 1) := by decide +kernel
theorem dX9_chambers_5 : decode cX9_chambers 5 = .ok (.getfield 268, 3) := by decide +kernel
theorem dX9_chambers_8 : decode cX9_chambers 8 = .ok (.iaload, 1) := by decide +kernel
theorem dX9_chambers_9 : decode cX9_chambers 9 = .ok (.ireturn, 1) := by decide +kernel
set_option maxRecDepth 20000 in
theorem ggX9_isTenant_X9_many : GoodIn wsX9_isTenant wsX9_many := goodIn_r _ [5, 6, 7, 11, 12, 13, 14, 15, 16, 17, 18, 19, 20, 21, 22, 23, 24, 25, 26, 27, 28, 29, 30, 31, 32, 33, 34, 35, 36, 37, 38, 39, 40, 41, 42, 43, 44, 45, 46, 47, 48, 49, 50, 51, 52, 53, 54, 55, 56, 57, 58, 59, 60, 61, 62, 63, 64, 65, 66, 67, 68, 69, 70, 71, 72, 73, 74, 75, 76, 77] rfl (by decide +kernel)
set_option maxRecDepth 20000 in
theorem gX9_isTenant_X9_many : GoodIn wsX9_isTenant (wsV RX9 373 RX9 yX9_many wsX9_many) := goodIn_app (goodIn_r _ [1, 2, 3, 4] rfl (by decide +kernel)) ggX9_isTenant_X9_many
set_option maxRecDepth 20000 in
theorem ggX9_isTenant_X9_isIn : GoodIn wsX9_isTenant wsX9_isIn := goodIn_r _ [10] rfl (by decide +kernel)
set_option maxRecDepth 20000 in
theorem gX9_isTenant_X9_isIn : GoodIn wsX9_isTenant (va_wsS RX9 376 yX9_isIn wsX9_isIn) := goodIn_app (goodIn_r _ [8, 9, 4] rfl (by decide +kernel)) ggX9_isTenant_X9_isIn
theorem dX9_isTenant_0 : decode cX9_isTenant 0 = .ok (.iload_n 1, 1) := by decide +kernel
theorem dX9_isTenant_1 : decode cX9_isTenant 1 = .ok (.iconst 0, 1) := by decide +kernel
theorem dX9_isTenant_2 : decode cX9_isTenant 2 = .ok (.aload_n 0, 1) := by decide +kernel
theorem dX9_isTenant_3 : decode cX9_isTenant 3 = .ok (.invokevirtual 373, 3) := by decide +kernel
theorem dX9_isTenant_6 : decode cX9_isTenant 6 = .ok (.iconst 1, 1) := by decide +kernel
theorem dX9_isTenant_7 : decode cX9_isTenant 7 = .ok (.isub, 1) := by decide +kernel
theorem dX9_isTenant_8 : decode cX9_isTenant 8 = .ok (.invokestatic 376, 3) := by decide +kernel
theorem dX9_isTenant_11 : decode cX9_isTenant 11 = .ok (.ireturn, 1) := by decide +kernel
set_option maxRecDepth 20000 in
theorem ggX9_isCat_X9_cattery : GoodIn wsX9_isCat wsX9_cattery := goodIn_r _ [5, 6, 7, 11, 12, 13, 14, 15, 16, 17, 18, 19, 20, 21, 22, 23, 24, 25, 26, 27, 28, 29, 30, 31, 32, 33, 34, 35, 36, 37, 38, 39, 40, 41, 42, 43, 44, 45, 46, 47, 48, 49, 50, 51, 52, 53, 54, 55, 56, 57, 58, 59, 60, 61, 62, 63, 64, 65, 66, 67, 68, 69, 70, 71, 72, 73, 74, 75, 76, 77] rfl (by decide +kernel)
set_option maxRecDepth 20000 in
theorem gX9_isCat_X9_cattery : GoodIn wsX9_isCat (wsV RX9 380 RX9 yX9_cattery wsX9_cattery) := goodIn_app (goodIn_r _ [1, 2, 3, 4] rfl (by decide +kernel)) ggX9_isCat_X9_cattery
set_option maxRecDepth 20000 in
theorem ggX9_isCat_X9_isIn : GoodIn wsX9_isCat wsX9_isIn := goodIn_r _ [10] rfl (by decide +kernel)
set_option maxRecDepth 20000 in
theorem gX9_isCat_X9_isIn : GoodIn wsX9_isCat (va_wsS RX9 376 yX9_isIn wsX9_isIn) := goodIn_app (goodIn_r _ [8, 9, 4] rfl (by decide +kernel)) ggX9_isCat_X9_isIn
theorem dX9_isCat_0 : decode cX9_isCat 0 = .ok (.iload_n 1, 1) := by decide +kernel
theorem dX9_isCat_1 : decode cX9_isCat 1 = .ok (.iconst 0, 1) := by decide +kernel
theorem dX9_isCat_2 : decode cX9_isCat 2 = .ok (.aload_n 0, 1) := by decide +kernel
theorem dX9_isCat_3 : decode cX9_isCat 3 = .ok (.invokevirtual 380, 3) := by decide +kernel
theorem dX9_isCat_6 : decode cX9_isCat 6 = .ok (.iconst 1, 1) := by decide +kernel
theorem dX9_isCat_7 : decode cX9_isCat 7 = .ok (.isub, 1) := by decide +kernel
theorem dX9_isCat_8 : decode cX9_isCat 8 = .ok (.invokestatic 376, 3) := by decide +kernel
theorem dX9_isCat_11 : decode cX9_isCat 11 = .ok (.ireturn, 1) := by decide +kernel
set_option maxRecDepth 20000 in
theorem ggX9_isRoom_X9_chambers : GoodIn wsX9_isRoom wsX9_chambers := goodIn_r _ [5, 6, 7, 11, 12, 13, 14, 15, 16, 17, 18, 19, 20, 21, 22, 23, 24, 25, 26, 27, 28, 29, 30, 31, 32, 33, 34, 35, 36, 37, 38, 39, 40, 41, 42, 43, 44, 45, 46, 47, 48, 49, 50, 51, 52, 53, 54, 55, 56, 57, 58, 59, 60, 61, 62, 63, 64, 65, 66, 67, 68, 69, 70, 71, 72, 73, 74, 75, 76, 77] rfl (by decide +kernel)
set_option maxRecDepth 20000 in
theorem gX9_isRoom_X9_chambers : GoodIn wsX9_isRoom (wsV RX9 383 RX9 yX9_chambers wsX9_chambers) := goodIn_app (goodIn_r _ [1, 2, 3, 4] rfl (by decide +kernel)) ggX9_isRoom_X9_chambers
set_option maxRecDepth 20000 in
theorem ggX9_isRoom_X9_isIn : GoodIn wsX9_isRoom wsX9_isIn := goodIn_r _ [10] rfl (by decide +kernel)
set_option maxRecDepth 20000 in
theorem gX9_isRoom_X9_isIn : GoodIn wsX9_isRoom (va_wsS RX9 376 yX9_isIn wsX9_isIn) := goodIn_app (goodIn_r _ [8, 9, 4] rfl (by decide +kernel)) ggX9_isRoom_X9_isIn
theorem dX9_isRoom_0 : decode cX9_isRoom 0 = .ok (.iload_n 1, 1) := by decide +kernel
theorem dX9_isRoom_1 : decode cX9_isRoom 1 = .ok (.iconst 0, 1) := by decide +kernel
theorem dX9_isRoom_2 : decode cX9_isRoom 2 = .ok (.aload_n 0, 1) := by decide +kernel
theorem dX9_isRoom_3 : decode cX9_isRoom 3 = .ok (.invokevirtual 383, 3) := by decide +kernel
theorem dX9_isRoom_6 : decode cX9_isRoom 6 = .ok (.iconst 1, 1) := by decide +kernel
theorem dX9_isRoom_7 : decode cX9_isRoom 7 = .ok (.isub, 1) := by decide +kernel
theorem dX9_isRoom_8 : decode cX9_isRoom 8 = .ok (.invokestatic 376, 3) := by decide +kernel
theorem dX9_isRoom_11 : decode cX9_isRoom 11 = .ok (.ireturn, 1) := by decide +kernel
set_option maxRecDepth 20000 in
theorem ggX9_lives_X9_bit : GoodIn wsX9_lives wsX9_bit := goodIn_r _ [5] rfl (by decide +kernel)
set_option maxRecDepth 20000 in
theorem gX9_lives_X9_bit : GoodIn wsX9_lives (va_wsS RX9 274 yX9_bit wsX9_bit) := goodIn_app (goodIn_r _ [2, 3, 4] rfl (by decide +kernel)) ggX9_lives_X9_bit
theorem dX9_lives_0 : decode cX9_lives 0 = .ok (.aload_n 0, 1) := by decide +kernel
theorem dX9_lives_1 : decode cX9_lives 1 = .ok (.getfield 94, 3) := by decide +kernel
theorem dX9_lives_4 : decode cX9_lives 4 = .ok (.bipush 36, 2) := by decide +kernel
theorem dX9_lives_6 : decode cX9_lives 6 = .ok (.iaload, 1) := by decide +kernel
theorem dX9_lives_7 : decode cX9_lives 7 = .ok (.iload_n 1, 1) := by decide +kernel
theorem dX9_lives_8 : decode cX9_lives 8 = .ok (.invokestatic 274, 3) := by decide +kernel
theorem dX9_lives_11 : decode cX9_lives 11 = .ok (.ireturn, 1) := by decide +kernel
theorem dX9_keeperOf_0 : decode cX9_keeperOf 0 = .ok (.aload_n 0, 1) := by decide +kernel
theorem dX9_keeperOf_1 : decode cX9_keeperOf 1 = .ok (.getfield 94, 3) := by decide +kernel
theorem dX9_keeperOf_4 : decode cX9_keeperOf 4 = .ok (.bipush 14, 2) := by decide +kernel
theorem dX9_keeperOf_6 : decode cX9_keeperOf 6 = .ok (.iload_n 1, 1) := by decide +kernel
theorem dX9_keeperOf_7 : decode cX9_keeperOf 7 = .ok (.iadd, 1) := by decide +kernel
theorem dX9_keeperOf_8 : decode cX9_keeperOf 8 = .ok (.iaload, 1) := by decide +kernel
theorem dX9_keeperOf_9 : decode cX9_keeperOf 9 = .ok (.ireturn, 1) := by decide +kernel
theorem dX9_isOut_0 : decode cX9_isOut 0 = .ok (.aload_n 0, 1) := by decide +kernel
theorem dX9_isOut_1 : decode cX9_isOut 1 = .ok (.getfield 94, 3) := by decide +kernel
theorem dX9_isOut_4 : decode cX9_isOut 4 = .ok (.iconst 0, 1) := by decide +kernel
theorem dX9_isOut_5 : decode cX9_isOut 5 = .ok (.iload_n 1, 1) := by decide +kernel
theorem dX9_isOut_6 : decode cX9_isOut 6 = .ok (.iadd, 1) := by decide +kernel
theorem dX9_isOut_7 : decode cX9_isOut 7 = .ok (.iaload, 1) := by decide +kernel
theorem dX9_isOut_8 : decode cX9_isOut 8 = .ok (.ifCond .ge 7, 3) := by decide +kernel
theorem dX9_isOut_11 : decode cX9_isOut 11 = .ok (.iconst 1, 1) := by decide +kernel
theorem dX9_isOut_12 : decode cX9_isOut 12 = .ok (.goto 4, 3) := by decide +kernel
theorem dX9_isOut_15 : decode cX9_isOut 15 = .ok (.iconst 0, 1) := by decide +kernel
theorem dX9_isOut_16 : decode cX9_isOut 16 = .ok (.ireturn, 1) := by decide +kernel
set_option maxRecDepth 20000 in
theorem ggX9_isAtHome_X9_isTenant : GoodIn wsX9_isAtHome wsX9_isTenant := goodIn_r _ [6, 7, 8, 9, 5, 10, 11, 12, 13, 14, 15, 24, 25, 26, 27, 28, 29, 30, 31, 32, 33, 34, 35, 36, 37, 38, 39, 40, 41, 42, 43, 44, 45, 46, 47, 48, 49, 50, 51, 52, 53, 54, 55, 56, 57, 58, 59, 60, 61, 62, 63, 64, 65, 66, 67, 68, 69, 70, 71, 72, 73, 74, 75, 76, 77, 78, 79, 80, 81, 82, 83, 84, 85, 86, 87, 88, 89, 90] rfl (by decide +kernel)
set_option maxRecDepth 20000 in
theorem gX9_isAtHome_X9_isTenant : GoodIn wsX9_isAtHome (wsV RX9 386 RX9 yX9_isTenant wsX9_isTenant) := goodIn_app (goodIn_r _ [2, 3, 4, 5] rfl (by decide +kernel)) ggX9_isAtHome_X9_isTenant
set_option maxRecDepth 20000 in
theorem ggX9_isAtHome_X9_isOut : GoodIn wsX9_isAtHome wsX9_isOut := goodIn_r _ [19, 1, 24, 25, 26, 27, 28, 29, 30, 31, 32, 33, 34, 35, 36, 37, 38, 39, 40, 41, 42, 43, 44, 45, 46, 47, 48, 49, 50, 51, 52, 53, 54, 55, 56, 57, 58, 59, 60, 61, 62, 63, 64, 65, 66, 67, 68, 69, 70, 71, 72, 73, 74, 75, 76, 77, 78, 79, 80, 81, 82, 83, 84, 85, 86, 87, 88, 89, 90] rfl (by decide +kernel)
set_option maxRecDepth 20000 in
theorem gX9_isAtHome_X9_isOut : GoodIn wsX9_isAtHome (wsV RX9 389 RX9 yX9_isOut wsX9_isOut) := goodIn_app (goodIn_r _ [16, 17, 18, 5] rfl (by decide +kernel)) ggX9_isAtHome_X9_isOut
set_option maxRecDepth 20000 in
theorem ggX9_isAtHome_X9_keeperOf : GoodIn wsX9_isAtHome wsX9_keeperOf := goodIn_r _ [23, 1, 24, 25, 26, 27, 28, 29, 30, 31, 32, 33, 34, 35, 36, 37, 38, 39, 40, 41, 42, 43, 44, 45, 46, 47, 48, 49, 50, 51, 52, 53, 54, 55, 56, 57, 58, 59, 60, 61, 62, 63, 64, 65, 66, 67, 68, 69, 70, 71, 72, 73, 74, 75, 76, 77, 78, 79, 80, 81, 82, 83, 84, 85, 86, 87, 88, 89, 90] rfl (by decide +kernel)
set_option maxRecDepth 20000 in
theorem gX9_isAtHome_X9_keeperOf : GoodIn wsX9_isAtHome (wsV RX9 392 RX9 yX9_keeperOf wsX9_keeperOf) := goodIn_app (goodIn_r _ [20, 21, 22, 5] rfl (by decide +kernel)) ggX9_isAtHome_X9_keeperOf
theorem dX9_isAtHome_0 : decode cX9_isAtHome 0 = .ok (.aload_n 0, 1) := by decide +kernel
theorem dX9_isAtHome_1 : decode cX9_isAtHome 1 = .ok (.iload_n 1, 1) := by decide +kernel
theorem dX9_isAtHome_2 : decode cX9_isAtHome 2 = .ok (.invokevirtual 386, 3) := by decide +kernel
theorem dX9_isAtHome_5 : decode cX9_isAtHome 5 = .ok (.ifCond .eq 30, 3) := by decide +kernel
theorem dX9_isAtHome_8 : decode cX9_isAtHome 8 = .ok (.aload_n 0, 1) := by decide +kernel
theorem dX9_isAtHome_9 : decode cX9_isAtHome 9 = .ok (.iload_n 1, 1) := by decide +kernel
theorem dX9_isAtHome_10 : decode cX9_isAtHome 10 = .ok (.invokevirtual 389, 3) := by decide +kernel
theorem dX9_isAtHome_13 : decode cX9_isAtHome 13 = .ok (.ifCond .ne 22, 3) := by decide +kernel
theorem dX9_isAtHome_16 : decode cX9_isAtHome 16 = .ok (.aload_n 0, 1) := by decide +kernel
theorem dX9_isAtHome_17 : decode cX9_isAtHome 17 = .ok (.aload_n 0, 1) := by decide +kernel
theorem dX9_isAtHome_18 : decode cX9_isAtHome 18 = .ok (.getfield 94, 3) := by decide +kernel
theorem dX9_isAtHome_21 : decode cX9_isAtHome 21 = .ok (.iconst 0, 1) := by decide +kernel
theorem dX9_isAtHome_22 : decode cX9_isAtHome 22 = .ok (.iload_n 1, 1) := by decide +kernel
theorem dX9_isAtHome_23 : decode cX9_isAtHome 23 = .ok (.iadd, 1) := by decide +kernel
theorem dX9_isAtHome_24 : decode cX9_isAtHome 24 = .ok (.iaload, 1) := by decide +kernel
theorem dX9_isAtHome_25 : decode cX9_isAtHome 25 = .ok (.invokevirtual 392, 3) := by decide +kernel
theorem dX9_isAtHome_28 : decode cX9_isAtHome 28 = .ok (.ifCond .lt 7, 3) := by decide +kernel
theorem dX9_isAtHome_31 : decode cX9_isAtHome 31 = .ok (.iconst 1, 1) := by decide +kernel
theorem dX9_isAtHome_32 : decode cX9_isAtHome 32 = .ok (.goto 4, 3) := by decide +kernel
theorem dX9_isAtHome_35 : decode cX9_isAtHome 35 = .ok (.iconst 0, 1) := by decide +kernel
theorem dX9_isAtHome_36 : decode cX9_isAtHome 36 = .ok (.ireturn, 1) := by decide +kernel
set_option maxRecDepth 20000 in
theorem ggX9_whoIn_X9_many : GoodIn wsX9_whoIn wsX9_many := goodIn_r _ [6, 7, 8, 9, 10, 11, 12, 13, 14, 15, 16, 17, 18, 19, 20, 21, 22, 23, 24, 25, 26, 27, 28, 29, 30, 31, 32, 33, 34, 35, 36, 37, 38, 39, 40, 41, 42, 43, 44, 45, 46, 47, 48, 49, 50, 51, 52, 53, 54, 55, 56, 57, 58, 59, 60, 61, 62, 63, 64, 65, 66, 67, 68, 69, 70, 71, 72, 73, 74, 75] rfl (by decide +kernel)
set_option maxRecDepth 20000 in
theorem gX9_whoIn_X9_many : GoodIn wsX9_whoIn (wsV RX9 373 RX9 yX9_many wsX9_many) := goodIn_app (goodIn_r _ [2, 3, 4, 5] rfl (by decide +kernel)) ggX9_whoIn_X9_many
theorem dX9_whoIn_0 : decode cX9_whoIn 0 = .ok (.iconst 0, 1) := by decide +kernel
theorem dX9_whoIn_1 : decode cX9_whoIn 1 = .ok (.istore_n 2, 1) := by decide +kernel
theorem dX9_whoIn_2 : decode cX9_whoIn 2 = .ok (.iload_n 2, 1) := by decide +kernel
theorem dX9_whoIn_3 : decode cX9_whoIn 3 = .ok (.aload_n 0, 1) := by decide +kernel
theorem dX9_whoIn_4 : decode cX9_whoIn 4 = .ok (.invokevirtual 373, 3) := by decide +kernel
theorem dX9_whoIn_7 : decode cX9_whoIn 7 = .ok (.if_icmp .ge 23, 3) := by decide +kernel
theorem dX9_whoIn_10 : decode cX9_whoIn 10 = .ok (.aload_n 0, 1) := by decide +kernel
theorem dX9_whoIn_11 : decode cX9_whoIn 11 = .ok (.getfield 94, 3) := by decide +kernel
theorem dX9_whoIn_14 : decode cX9_whoIn 14 = .ok (.iconst 0, 1) := by decide +kernel
theorem dX9_whoIn_15 : decode cX9_whoIn 15 = .ok (.iload_n 2, 1) := by decide +kernel
theorem dX9_whoIn_16 : decode cX9_whoIn 16 = .ok (.iadd, 1) := by decide +kernel
theorem dX9_whoIn_17 : decode cX9_whoIn 17 = .ok (.iaload, 1) := by decide +kernel
theorem dX9_whoIn_18 : decode cX9_whoIn 18 = .ok (.iload_n 1, 1) := by decide +kernel
theorem dX9_whoIn_19 : decode cX9_whoIn 19 = .ok (.if_icmp .ne 5, 3) := by decide +kernel
theorem dX9_whoIn_22 : decode cX9_whoIn 22 = .ok (.iload_n 2, 1) := by decide +kernel
theorem dX9_whoIn_23 : decode cX9_whoIn 23 = .ok (.ireturn, 1) := by decide +kernel
theorem dX9_whoIn_24 : decode cX9_whoIn 24 = .ok (.iinc 2 1, 3) := by decide +kernel
theorem dX9_whoIn_27 : decode cX9_whoIn 27 = .ok (.goto (-25), 3) := by decide +kernel
theorem dX9_whoIn_30 : decode cX9_whoIn 30 = .ok (.iconst (-1), 1) := by decide +kernel
theorem dX9_whoIn_31 : decode cX9_whoIn 31 = .ok (.ireturn, 1) := by decide +kernel
set_option maxRecDepth 20000 in
theorem ggX9_roomsOf_X9_chambers : GoodIn wsX9_roomsOf wsX9_chambers := goodIn_r _ [5, 6, 7, 13, 14, 15, 16, 17, 18, 19, 20, 21, 22, 23, 24, 25, 26, 27, 28, 29, 30, 31, 32, 33, 34, 35, 36, 37, 38, 39, 40, 41, 42, 43, 44, 45, 46, 47, 48, 49, 50, 51, 52, 53, 54, 55, 56, 57, 58, 59, 60, 61, 62, 63, 64, 65, 66, 67, 68, 69, 70, 71, 72, 73, 74, 75, 76, 77, 78, 79] rfl (by decide +kernel)
set_option maxRecDepth 20000 in
theorem gX9_roomsOf_X9_chambers : GoodIn wsX9_roomsOf (wsV RX9 383 RX9 yX9_chambers wsX9_chambers) := goodIn_app (goodIn_r _ [1, 2, 3, 4] rfl (by decide +kernel)) ggX9_roomsOf_X9_chambers
set_option maxRecDepth 20000 in
theorem ggX9_roomsOf_X9_keeperOf : GoodIn wsX9_roomsOf wsX9_keeperOf := goodIn_r _ [11, 12, 13, 14, 15, 16, 17, 18, 19, 20, 21, 22, 23, 24, 25, 26, 27, 28, 29, 30, 31, 32, 33, 34, 35, 36, 37, 38, 39, 40, 41, 42, 43, 44, 45, 46, 47, 48, 49, 50, 51, 52, 53, 54, 55, 56, 57, 58, 59, 60, 61, 62, 63, 64, 65, 66, 67, 68, 69, 70, 71, 72, 73, 74, 75, 76, 77, 78, 79] rfl (by decide +kernel)
set_option maxRecDepth 20000 in
theorem gX9_roomsOf_X9_keeperOf : GoodIn wsX9_roomsOf (wsV RX9 392 RX9 yX9_keeperOf wsX9_keeperOf) := goodIn_app (goodIn_r _ [8, 9, 10, 4] rfl (by decide +kernel)) ggX9_roomsOf_X9_keeperOf
theorem dX9_roomsOf_0 : decode cX9_roomsOf 0 = .ok (.iconst 0, 1) := by decide +kernel
theorem dX9_roomsOf_1 : decode cX9_roomsOf 1 = .ok (.istore_n 2, 1) := by decide +kernel
theorem dX9_roomsOf_2 : decode cX9_roomsOf 2 = .ok (.iconst 0, 1) := by decide +kernel
theorem dX9_roomsOf_3 : decode cX9_roomsOf 3 = .ok (.istore_n 3, 1) := by decide +kernel
theorem dX9_roomsOf_4 : decode cX9_roomsOf 4 = .ok (.iload_n 3, 1) := by decide +kernel
theorem dX9_roomsOf_5 : decode cX9_roomsOf 5 = .ok (.aload_n 0, 1) := by decide +kernel
theorem dX9_roomsOf_6 : decode cX9_roomsOf 6 = .ok (.invokevirtual 383, 3) := by decide +kernel
theorem dX9_roomsOf_9 : decode cX9_roomsOf 9 = .ok (.if_icmp .ge 24, 3) := by decide +kernel
theorem dX9_roomsOf_12 : decode cX9_roomsOf 12 = .ok (.aload_n 0, 1) := by decide +kernel
theorem dX9_roomsOf_13 : decode cX9_roomsOf 13 = .ok (.iload_n 3, 1) := by decide +kernel
theorem dX9_roomsOf_14 : decode cX9_roomsOf 14 = .ok (.invokevirtual 392, 3) := by decide +kernel
theorem dX9_roomsOf_17 : decode cX9_roomsOf 17 = .ok (.iload_n 1, 1) := by decide +kernel
theorem dX9_roomsOf_18 : decode cX9_roomsOf 18 = .ok (.if_icmp .ne 9, 3) := by decide +kernel
theorem dX9_roomsOf_21 : decode cX9_roomsOf 21 = .ok (.iload_n 2, 1) := by decide +kernel
theorem dX9_roomsOf_22 : decode cX9_roomsOf 22 = .ok (.iconst 1, 1) := by decide +kernel
theorem dX9_roomsOf_23 : decode cX9_roomsOf 23 = .ok (.iload_n 3, 1) := by decide +kernel
theorem dX9_roomsOf_24 : decode cX9_roomsOf 24 = .ok (.ishl, 1) := by decide +kernel
theorem dX9_roomsOf_25 : decode cX9_roomsOf 25 = .ok (.ior, 1) := by decide +kernel
theorem dX9_roomsOf_26 : decode cX9_roomsOf 26 = .ok (.istore_n 2, 1) := by decide +kernel
theorem dX9_roomsOf_27 : decode cX9_roomsOf 27 = .ok (.iinc 3 1, 3) := by decide +kernel
theorem dX9_roomsOf_30 : decode cX9_roomsOf 30 = .ok (.goto (-26), 3) := by decide +kernel
theorem dX9_roomsOf_33 : decode cX9_roomsOf 33 = .ok (.iload_n 2, 1) := by decide +kernel
theorem dX9_roomsOf_34 : decode cX9_roomsOf 34 = .ok (.ireturn, 1) := by decide +kernel
set_option maxRecDepth 20000 in
theorem ggX9_thoseIn_X9_many : GoodIn wsX9_thoseIn wsX9_many := goodIn_r _ [6, 7, 8, 16, 17, 18, 19, 20, 21, 22, 23, 24, 25, 26, 27, 28, 29, 30, 31, 32, 33, 34, 35, 36, 37, 38, 39, 40, 41, 42, 43, 44, 45, 46, 47, 48, 49, 50, 51, 52, 53, 54, 55, 56, 57, 58, 59, 60, 61, 62, 63, 64, 65, 66, 67, 68, 69, 70, 71, 72, 73, 74, 75, 76, 77, 78, 79, 80, 81, 82] rfl (by decide +kernel)
set_option maxRecDepth 20000 in
theorem gX9_thoseIn_X9_many : GoodIn wsX9_thoseIn (wsV RX9 373 RX9 yX9_many wsX9_many) := goodIn_app (goodIn_r _ [2, 3, 4, 5] rfl (by decide +kernel)) ggX9_thoseIn_X9_many
set_option maxRecDepth 20000 in
theorem ggX9_thoseIn_X9_isOut : GoodIn wsX9_thoseIn wsX9_isOut := goodIn_r _ [12, 1, 16, 17, 18, 19, 20, 21, 22, 23, 24, 25, 26, 27, 28, 29, 30, 31, 32, 33, 34, 35, 36, 37, 38, 39, 40, 41, 42, 43, 44, 45, 46, 47, 48, 49, 50, 51, 52, 53, 54, 55, 56, 57, 58, 59, 60, 61, 62, 63, 64, 65, 66, 67, 68, 69, 70, 71, 72, 73, 74, 75, 76, 77, 78, 79, 80, 81, 82] rfl (by decide +kernel)
set_option maxRecDepth 20000 in
theorem gX9_thoseIn_X9_isOut : GoodIn wsX9_thoseIn (wsV RX9 389 RX9 yX9_isOut wsX9_isOut) := goodIn_app (goodIn_r _ [9, 10, 11, 5] rfl (by decide +kernel)) ggX9_thoseIn_X9_isOut
set_option maxRecDepth 20000 in
theorem ggX9_thoseIn_X9_bit : GoodIn wsX9_thoseIn wsX9_bit := goodIn_r _ [15] rfl (by decide +kernel)
set_option maxRecDepth 20000 in
theorem gX9_thoseIn_X9_bit : GoodIn wsX9_thoseIn (va_wsS RX9 274 yX9_bit wsX9_bit) := goodIn_app (goodIn_r _ [13, 14, 5] rfl (by decide +kernel)) ggX9_thoseIn_X9_bit
theorem dX9_thoseIn_0 : decode cX9_thoseIn 0 = .ok (.iconst 0, 1) := by decide +kernel
theorem dX9_thoseIn_1 : decode cX9_thoseIn 1 = .ok (.istore_n 2, 1) := by decide +kernel
theorem dX9_thoseIn_2 : decode cX9_thoseIn 2 = .ok (.iconst 0, 1) := by decide +kernel
theorem dX9_thoseIn_3 : decode cX9_thoseIn 3 = .ok (.istore_n 3, 1) := by decide +kernel
theorem dX9_thoseIn_4 : decode cX9_thoseIn 4 = .ok (.iload_n 3, 1) := by decide +kernel
theorem dX9_thoseIn_5 : decode cX9_thoseIn 5 = .ok (.aload_n 0, 1) := by decide +kernel
theorem dX9_thoseIn_6 : decode cX9_thoseIn 6 = .ok (.invokevirtual 373, 3) := by decide +kernel
theorem dX9_thoseIn_9 : decode cX9_thoseIn 9 = .ok (.if_icmp .ge 38, 3) := by decide +kernel
theorem dX9_thoseIn_12 : decode cX9_thoseIn 12 = .ok (.aload_n 0, 1) := by decide +kernel
theorem dX9_thoseIn_13 : decode cX9_thoseIn 13 = .ok (.iload_n 3, 1) := by decide +kernel
theorem dX9_thoseIn_14 : decode cX9_thoseIn 14 = .ok (.invokevirtual 389, 3) := by decide +kernel
theorem dX9_thoseIn_17 : decode cX9_thoseIn 17 = .ok (.ifCond .ne 24, 3) := by decide +kernel
theorem dX9_thoseIn_20 : decode cX9_thoseIn 20 = .ok (.iload_n 1, 1) := by decide +kernel
theorem dX9_thoseIn_21 : decode cX9_thoseIn 21 = .ok (.aload_n 0, 1) := by decide +kernel
theorem dX9_thoseIn_22 : decode cX9_thoseIn 22 = .ok (.getfield 94, 3) := by decide +kernel
theorem dX9_thoseIn_25 : decode cX9_thoseIn 25 = .ok (.iconst 0, 1) := by decide +kernel
theorem dX9_thoseIn_26 : decode cX9_thoseIn 26 = .ok (.iload_n 3, 1) := by decide +kernel
theorem dX9_thoseIn_27 : decode cX9_thoseIn 27 = .ok (.iadd, 1) := by decide +kernel
theorem dX9_thoseIn_28 : decode cX9_thoseIn 28 = .ok (.iaload, 1) := by decide +kernel
theorem dX9_thoseIn_29 : decode cX9_thoseIn 29 = .ok (.invokestatic 274, 3) := by decide +kernel
theorem dX9_thoseIn_32 : decode cX9_thoseIn 32 = .ok (.ifCond .eq 9, 3) := by decide +kernel
theorem dX9_thoseIn_35 : decode cX9_thoseIn 35 = .ok (.iload_n 2, 1) := by decide +kernel
theorem dX9_thoseIn_36 : decode cX9_thoseIn 36 = .ok (.iconst 1, 1) := by decide +kernel
theorem dX9_thoseIn_37 : decode cX9_thoseIn 37 = .ok (.iload_n 3, 1) := by decide +kernel
theorem dX9_thoseIn_38 : decode cX9_thoseIn 38 = .ok (.ishl, 1) := by decide +kernel
theorem dX9_thoseIn_39 : decode cX9_thoseIn 39 = .ok (.ior, 1) := by decide +kernel
theorem dX9_thoseIn_40 : decode cX9_thoseIn 40 = .ok (.istore_n 2, 1) := by decide +kernel
theorem dX9_thoseIn_41 : decode cX9_thoseIn 41 = .ok (.iinc 3 1, 3) := by decide +kernel
theorem dX9_thoseIn_44 : decode cX9_thoseIn 44 = .ok (.goto (-40), 3) := by decide +kernel
theorem dX9_thoseIn_47 : decode cX9_thoseIn 47 = .ok (.iload_n 2, 1) := by decide +kernel
theorem dX9_thoseIn_48 : decode cX9_thoseIn 48 = .ok (.ireturn, 1) := by decide +kernel
set_option maxRecDepth 20000 in
theorem ggX9_wantsOf_X9_cattery : GoodIn wsX9_wantsOf wsX9_cattery := goodIn_r _ [9, 10, 4, 11, 12, 13, 14, 15, 16, 17, 18, 19, 20, 21, 22, 23, 24, 25, 26, 27, 28, 29, 30, 31, 32, 33, 34, 35, 36, 37, 38, 39, 40, 41, 42, 43, 44, 45, 46, 47, 48, 49, 50, 51, 52, 53, 54, 55, 56, 57, 58, 59, 60, 61, 62, 63, 64, 65, 66, 67, 68, 69, 70, 71, 72, 73, 74, 75, 76, 77] rfl (by decide +kernel)
set_option maxRecDepth 20000 in
theorem gX9_wantsOf_X9_cattery : GoodIn wsX9_wantsOf (wsV RX9 380 RX9 yX9_cattery wsX9_cattery) := goodIn_app (goodIn_r _ [5, 6, 7, 8] rfl (by decide +kernel)) ggX9_wantsOf_X9_cattery
theorem dX9_wantsOf_0 : decode cX9_wantsOf 0 = .ok (.aload_n 0, 1) := by decide +kernel
theorem dX9_wantsOf_1 : decode cX9_wantsOf 1 = .ok (.getfield 100, 3) := by decide +kernel
theorem dX9_wantsOf_4 : decode cX9_wantsOf 4 = .ok (.ifCond .lt 10, 3) := by decide +kernel
theorem dX9_wantsOf_7 : decode cX9_wantsOf 7 = .ok (.aload_n 0, 1) := by decide +kernel
theorem dX9_wantsOf_8 : decode cX9_wantsOf 8 = .ok (.getfield 100, 3) := by decide +kernel
theorem dX9_wantsOf_11 : decode cX9_wantsOf 11 = .ok (.goto 41, 3) := by decide +kernel
theorem dX9_wantsOf_14 : decode cX9_wantsOf 14 = .ok (.aload_n 0, 1) := by decide +kernel
theorem dX9_wantsOf_15 : decode cX9_wantsOf 15 = .ok (.getfield 97, 3) := by decide +kernel
theorem dX9_wantsOf_18 : decode cX9_wantsOf 18 = .ok (.ifCond .lt 20, 3) := by decide +kernel
theorem dX9_wantsOf_21 : decode cX9_wantsOf 21 = .ok (.iload_n 1, 1) := by decide +kernel
theorem dX9_wantsOf_22 : decode cX9_wantsOf 22 = .ok (.aload_n 0, 1) := by decide +kernel
theorem dX9_wantsOf_23 : decode cX9_wantsOf 23 = .ok (.invokevirtual 380, 3) := by decide +kernel
theorem dX9_wantsOf_26 : decode cX9_wantsOf 26 = .ok (.iconst 1, 1) := by decide +kernel
theorem dX9_wantsOf_27 : decode cX9_wantsOf 27 = .ok (.isub, 1) := by decide +kernel
theorem dX9_wantsOf_28 : decode cX9_wantsOf 28 = .ok (.if_icmp .ne 10, 3) := by decide +kernel
theorem dX9_wantsOf_31 : decode cX9_wantsOf 31 = .ok (.aload_n 0, 1) := by decide +kernel
theorem dX9_wantsOf_32 : decode cX9_wantsOf 32 = .ok (.getfield 97, 3) := by decide +kernel
theorem dX9_wantsOf_35 : decode cX9_wantsOf 35 = .ok (.goto 17, 3) := by decide +kernel
theorem dX9_wantsOf_38 : decode cX9_wantsOf 38 = .ok (.aload_n 0, 1) := by decide +kernel
theorem dX9_wantsOf_39 : decode cX9_wantsOf 39 = .ok (.getfield 42, 3) := by decide +kernel
theorem dX9_wantsOf_42 : decode cX9_wantsOf 42 = .ok (.bipush 6, 2) := by decide +kernel
theorem dX9_wantsOf_44 : decode cX9_wantsOf 44 = .ok (.aload_n 0, 1) := by decide +kernel
theorem dX9_wantsOf_45 : decode cX9_wantsOf 45 = .ok (.getfield 268, 3) := by decide +kernel
theorem dX9_wantsOf_48 : decode cX9_wantsOf 48 = .ok (.imul, 1) := by decide +kernel
theorem dX9_wantsOf_49 : decode cX9_wantsOf 49 = .ok (.iload_n 1, 1) := by decide +kernel
theorem dX9_wantsOf_50 : decode cX9_wantsOf 50 = .ok (.iadd, 1) := by decide +kernel
theorem dX9_wantsOf_51 : decode cX9_wantsOf 51 = .ok (.iaload, 1) := by decide +kernel
theorem dX9_wantsOf_52 : decode cX9_wantsOf 52 = .ok (.ireturn, 1) := by decide +kernel
set_option maxRecDepth 20000 in
theorem ggX9_likingBy_X9_keeperOf : GoodIn wsX9_likingBy wsX9_keeperOf := goodIn_r _ [14, 8, 61, 62, 63, 64, 65, 66, 67, 68, 69, 70, 71, 72, 73, 74, 75, 76, 77, 78, 79, 80, 81, 82, 83, 84, 85, 86, 87, 88, 89, 90, 91, 92, 93, 94, 95, 96, 97, 98, 99, 100, 101, 102, 103, 104, 105, 106, 107, 108, 109, 110, 111, 112, 113, 114, 115, 116, 117, 118, 119, 120, 121, 122, 123, 124, 125, 126, 127] rfl (by decide +kernel)
set_option maxRecDepth 20000 in
theorem gX9_likingBy_X9_keeperOf : GoodIn wsX9_likingBy (wsV RX9 392 RX9 yX9_keeperOf wsX9_keeperOf) := goodIn_app (goodIn_r _ [10, 11, 12, 13] rfl (by decide +kernel)) ggX9_likingBy_X9_keeperOf
set_option maxRecDepth 20000 in
theorem ggX9_likingBy_X9_wantsOf : GoodIn wsX9_likingBy wsX9_wantsOf := goodIn_r _ [18, 19, 20, 21, 7, 22, 23, 24, 13, 25, 26, 61, 62, 63, 64, 65, 66, 67, 68, 69, 70, 71, 72, 73, 74, 75, 76, 77, 78, 79, 80, 81, 82, 83, 84, 85, 86, 87, 88, 89, 90, 91, 92, 93, 94, 95, 96, 97, 98, 99, 100, 101, 102, 103, 104, 105, 106, 107, 108, 109, 110, 111, 112, 113, 114, 115, 116, 117, 118, 119, 120, 121, 122, 123, 124, 125, 126, 127] rfl (by decide +kernel)
set_option maxRecDepth 20000 in
theorem gX9_likingBy_X9_wantsOf : GoodIn wsX9_likingBy (wsV RX9 410 RX9 yX9_wantsOf wsX9_wantsOf) := goodIn_app (goodIn_r _ [15, 16, 17, 13] rfl (by decide +kernel)) ggX9_likingBy_X9_wantsOf
set_option maxRecDepth 20000 in
theorem ggX9_likingBy_X9_roomsOf : GoodIn wsX9_likingBy wsX9_roomsOf := goodIn_r _ [30, 31, 32, 33, 13, 34, 35, 7, 10, 11, 12, 14, 8, 61, 62, 63, 64, 65, 66, 67, 68, 69, 70, 71, 72, 73, 74, 75, 76, 77, 78, 79, 80, 81, 82, 83, 84, 85, 86, 87, 88, 89, 90, 91, 92, 93, 94, 95, 96, 97, 98, 99, 100, 101, 102, 103, 104, 105, 106, 107, 108, 109, 110, 111, 112, 113, 114, 115, 116, 117, 118, 119, 120, 121, 122, 123, 124, 125, 126, 127] rfl (by decide +kernel)
set_option maxRecDepth 20000 in
theorem gX9_likingBy_X9_roomsOf : GoodIn wsX9_likingBy (wsV RX9 413 RX9 yX9_roomsOf wsX9_roomsOf) := goodIn_app (goodIn_r _ [27, 28, 29, 13] rfl (by decide +kernel)) ggX9_likingBy_X9_roomsOf
set_option maxRecDepth 20000 in
theorem ggX9_likingBy_X9_bitsOf : GoodIn wsX9_likingBy wsX9_bitsOf := goodIn_r _ [38] rfl (by decide +kernel)
set_option maxRecDepth 20000 in
theorem gX9_likingBy_X9_bitsOf : GoodIn wsX9_likingBy (va_wsS RX9 416 yX9_bitsOf wsX9_bitsOf) := goodIn_app (goodIn_r _ [36, 37, 13] rfl (by decide +kernel)) ggX9_likingBy_X9_bitsOf
set_option maxRecDepth 20000 in
theorem ggX9_likingBy_X9_bit : GoodIn wsX9_likingBy wsX9_bit := goodIn_r _ [41] rfl (by decide +kernel)
set_option maxRecDepth 20000 in
theorem gX9_likingBy_X9_bit : GoodIn wsX9_likingBy (va_wsS RX9 274 yX9_bit wsX9_bit) := goodIn_app (goodIn_r _ [39, 40, 13] rfl (by decide +kernel)) ggX9_likingBy_X9_bit
set_option maxRecDepth 20000 in
theorem ggX9_likingBy_X9_comes : GoodIn wsX9_likingBy wsX9_comes := goodIn_r _ [45, 46, 7, 47, 48, 49, 50, 51, 52, 13, 53, 54, 55, 56, 57, 8, 1, 2, 9, 3, 5, 58, 59, 60, 61, 62, 63, 64, 65, 66, 67, 68, 69, 70, 71, 72, 73, 74, 75, 76, 77, 78, 79, 80, 81, 82, 83, 84, 85, 86, 87, 88, 89, 90, 91, 92, 93, 94, 95, 96, 97, 98, 99, 100, 101, 102, 103, 104, 105, 106, 107, 108, 109, 110, 111, 112, 113, 114, 115, 116, 117, 118, 119, 120, 121, 122, 123, 124, 125, 126, 127] rfl (by decide +kernel)
set_option maxRecDepth 20000 in
theorem gX9_likingBy_X9_comes : GoodIn wsX9_likingBy (wsV RX9 419 RX9 yX9_comes wsX9_comes) := goodIn_app (goodIn_r _ [42, 43, 44, 13] rfl (by decide +kernel)) ggX9_likingBy_X9_comes
theorem dX9_likingBy_0 : decode cX9_likingBy 0 = .ok (.aload_n 0, 1) := by decide +kernel
theorem dX9_likingBy_1 : decode cX9_likingBy 1 = .ok (.iload_n 2, 1) := by decide +kernel
theorem dX9_likingBy_2 : decode cX9_likingBy 2 = .ok (.invokevirtual 392, 3) := by decide +kernel
theorem dX9_likingBy_5 : decode cX9_likingBy 5 = .ok (.istore 4, 2) := by decide +kernel
theorem dX9_likingBy_7 : decode cX9_likingBy 7 = .ok (.aload_n 0, 1) := by decide +kernel
theorem dX9_likingBy_8 : decode cX9_likingBy 8 = .ok (.iload_n 1, 1) := by decide +kernel
theorem dX9_likingBy_9 : decode cX9_likingBy 9 = .ok (.putfield 354, 3) := by decide +kernel
theorem dX9_likingBy_12 : decode cX9_likingBy 12 = .ok (.aload_n 0, 1) := by decide +kernel
theorem dX9_likingBy_13 : decode cX9_likingBy 13 = .ok (.aload_n 0, 1) := by decide +kernel
theorem dX9_likingBy_14 : decode cX9_likingBy 14 = .ok (.iload 4, 2) := by decide +kernel
theorem dX9_likingBy_16 : decode cX9_likingBy 16 = .ok (.invokevirtual 410, 3) := by decide +kernel
theorem dX9_likingBy_19 : decode cX9_likingBy 19 = .ok (.putfield 357, 3) := by decide +kernel
theorem dX9_likingBy_22 : decode cX9_likingBy 22 = .ok (.aload_n 0, 1) := by decide +kernel
theorem dX9_likingBy_23 : decode cX9_likingBy 23 = .ok (.iload_n 3, 1) := by decide +kernel
theorem dX9_likingBy_24 : decode cX9_likingBy 24 = .ok (.putfield 360, 3) := by decide +kernel
theorem dX9_likingBy_27 : decode cX9_likingBy 27 = .ok (.aload_n 0, 1) := by decide +kernel
theorem dX9_likingBy_28 : decode cX9_likingBy 28 = .ok (.aload_n 0, 1) := by decide +kernel
theorem dX9_likingBy_29 : decode cX9_likingBy 29 = .ok (.getfield 103, 3) := by decide +kernel
theorem dX9_likingBy_32 : decode cX9_likingBy 32 = .ok (.ifCond .lt 10, 3) := by decide +kernel
theorem dX9_likingBy_35 : decode cX9_likingBy 35 = .ok (.aload_n 0, 1) := by decide +kernel
theorem dX9_likingBy_36 : decode cX9_likingBy 36 = .ok (.getfield 103, 3) := by decide +kernel
theorem dX9_likingBy_39 : decode cX9_likingBy 39 = .ok (.goto 12, 3) := by decide +kernel
theorem dX9_likingBy_42 : decode cX9_likingBy 42 = .ok (.aload_n 0, 1) := by decide +kernel
theorem dX9_likingBy_43 : decode cX9_likingBy 43 = .ok (.iload 4, 2) := by decide +kernel
theorem dX9_likingBy_45 : decode cX9_likingBy 45 = .ok (.invokevirtual 413, 3) := by decide +kernel
theorem dX9_likingBy_48 : decode cX9_likingBy 48 = .ok (.invokestatic 416, 3) := by decide +kernel
theorem dX9_likingBy_51 : decode cX9_likingBy 51 = .ok (.putfield 363, 3) := by decide +kernel
theorem dX9_likingBy_54 : decode cX9_likingBy 54 = .ok (.aload_n 0, 1) := by decide +kernel
theorem dX9_likingBy_55 : decode cX9_likingBy 55 = .ok (.getfield 39, 3) := by decide +kernel
theorem dX9_likingBy_58 : decode cX9_likingBy 58 = .ok (.aload_n 0, 1) := by decide +kernel
theorem dX9_likingBy_59 : decode cX9_likingBy 59 = .ok (.getfield 268, 3) := by decide +kernel
theorem dX9_likingBy_62 : decode cX9_likingBy 62 = .ok (.iaload, 1) := by decide +kernel
theorem dX9_likingBy_63 : decode cX9_likingBy 63 = .ok (.iconst 0, 1) := by decide +kernel
theorem dX9_likingBy_64 : decode cX9_likingBy 64 = .ok (.invokestatic 274, 3) := by decide +kernel
theorem dX9_likingBy_67 : decode cX9_likingBy 67 = .ok (.ifCond .eq 8, 3) := by decide +kernel
theorem dX9_likingBy_70 : decode cX9_likingBy 70 = .ok (.aload_n 0, 1) := by decide +kernel
theorem dX9_likingBy_71 : decode cX9_likingBy 71 = .ok (.invokevirtual 419, 3) := by decide +kernel
theorem dX9_likingBy_74 : decode cX9_likingBy 74 = .ok (.ireturn, 1) := by decide +kernel
theorem dX9_likingBy_75 : decode cX9_likingBy 75 = .ok (.aload_n 0, 1) := by decide +kernel
theorem dX9_likingBy_76 : decode cX9_likingBy 76 = .ok (.getfield 94, 3) := by decide +kernel
theorem dX9_likingBy_79 : decode cX9_likingBy 79 = .ok (.bipush 22, 2) := by decide +kernel
theorem dX9_likingBy_81 : decode cX9_likingBy 81 = .ok (.iload_n 1, 1) := by decide +kernel
theorem dX9_likingBy_82 : decode cX9_likingBy 82 = .ok (.iadd, 1) := by decide +kernel
theorem dX9_likingBy_83 : decode cX9_likingBy 83 = .ok (.iaload, 1) := by decide +kernel
theorem dX9_likingBy_84 : decode cX9_likingBy 84 = .ok (.aload_n 0, 1) := by decide +kernel
theorem dX9_likingBy_85 : decode cX9_likingBy 85 = .ok (.getfield 357, 3) := by decide +kernel
theorem dX9_likingBy_88 : decode cX9_likingBy 88 = .ok (.isub, 1) := by decide +kernel
theorem dX9_likingBy_89 : decode cX9_likingBy 89 = .ok (.aload_n 0, 1) := by decide +kernel
theorem dX9_likingBy_90 : decode cX9_likingBy 90 = .ok (.getfield 54, 3) := by decide +kernel
theorem dX9_likingBy_93 : decode cX9_likingBy 93 = .ok (.bipush 7, 2) := by decide +kernel
theorem dX9_likingBy_95 : decode cX9_likingBy 95 = .ok (.aload_n 0, 1) := by decide +kernel
theorem dX9_likingBy_96 : decode cX9_likingBy 96 = .ok (.getfield 268, 3) := by decide +kernel
theorem dX9_likingBy_99 : decode cX9_likingBy 99 = .ok (.imul, 1) := by decide +kernel
theorem dX9_likingBy_100 : decode cX9_likingBy 100 = .ok (.iload_n 1, 1) := by decide +kernel
theorem dX9_likingBy_101 : decode cX9_likingBy 101 = .ok (.iadd, 1) := by decide +kernel
theorem dX9_likingBy_102 : decode cX9_likingBy 102 = .ok (.iaload, 1) := by decide +kernel
theorem dX9_likingBy_103 : decode cX9_likingBy 103 = .ok (.iconst 3, 1) := by decide +kernel
theorem dX9_likingBy_104 : decode cX9_likingBy 104 = .ok (.imul, 1) := by decide +kernel
theorem dX9_likingBy_105 : decode cX9_likingBy 105 = .ok (.iadd, 1) := by decide +kernel
theorem dX9_likingBy_106 : decode cX9_likingBy 106 = .ok (.aload_n 0, 1) := by decide +kernel
theorem dX9_likingBy_107 : decode cX9_likingBy 107 = .ok (.getfield 94, 3) := by decide +kernel
theorem dX9_likingBy_110 : decode cX9_likingBy 110 = .ok (.bipush 29, 2) := by decide +kernel
theorem dX9_likingBy_112 : decode cX9_likingBy 112 = .ok (.iload_n 1, 1) := by decide +kernel
theorem dX9_likingBy_113 : decode cX9_likingBy 113 = .ok (.iadd, 1) := by decide +kernel
theorem dX9_likingBy_114 : decode cX9_likingBy 114 = .ok (.iaload, 1) := by decide +kernel
theorem dX9_likingBy_115 : decode cX9_likingBy 115 = .ok (.isub, 1) := by decide +kernel
theorem dX9_likingBy_116 : decode cX9_likingBy 116 = .ok (.ireturn, 1) := by decide +kernel
set_option maxRecDepth 20000 in
theorem ggX9_likingIn_X9_likingBy : GoodIn wsX9_likingIn wsX9_likingBy := goodIn_r _ [6, 7, 8, 9, 10, 11, 12, 13, 1, 14, 15, 16, 17, 5, 18, 19, 20, 21, 22, 23, 24, 25, 26, 27, 28, 29, 30, 31, 32, 33, 34, 35, 36, 37, 38, 39, 40, 41, 42, 43, 44, 45, 46, 47, 48, 49, 50, 51, 52, 53, 54, 55, 56, 57, 58, 59, 60, 61, 62, 63, 64, 65, 66, 67, 68, 69, 70, 71, 72, 73, 74, 75, 76, 77, 78, 79, 80, 81, 82, 83, 84, 85, 86, 87, 88, 89, 90, 91, 92, 93, 94, 95, 96, 97, 98, 99, 100, 101, 102, 103, 104, 105, 106, 107, 108, 109, 110, 111, 112, 113, 114, 115, 116, 117, 118, 119, 120, 121, 122, 123, 124, 125, 126, 127, 128, 129, 130, 131] rfl (by decide +kernel)
set_option maxRecDepth 20000 in
theorem gX9_likingIn_X9_likingBy : GoodIn wsX9_likingIn (wsV RX9 422 RX9 yX9_likingBy wsX9_likingBy) := goodIn_app (goodIn_r _ [2, 3, 4, 5] rfl (by decide +kernel)) ggX9_likingIn_X9_likingBy
theorem dX9_likingIn_0 : decode cX9_likingIn 0 = .ok (.aload_n 0, 1) := by decide +kernel
theorem dX9_likingIn_1 : decode cX9_likingIn 1 = .ok (.iload_n 1, 1) := by decide +kernel
theorem dX9_likingIn_2 : decode cX9_likingIn 2 = .ok (.iload_n 2, 1) := by decide +kernel
theorem dX9_likingIn_3 : decode cX9_likingIn 3 = .ok (.aload_n 0, 1) := by decide +kernel
theorem dX9_likingIn_4 : decode cX9_likingIn 4 = .ok (.getfield 94, 3) := by decide +kernel
theorem dX9_likingIn_7 : decode cX9_likingIn 7 = .ok (.iconst 0, 1) := by decide +kernel
theorem dX9_likingIn_8 : decode cX9_likingIn 8 = .ok (.iload_n 1, 1) := by decide +kernel
theorem dX9_likingIn_9 : decode cX9_likingIn 9 = .ok (.iadd, 1) := by decide +kernel
theorem dX9_likingIn_10 : decode cX9_likingIn 10 = .ok (.iaload, 1) := by decide +kernel
theorem dX9_likingIn_11 : decode cX9_likingIn 11 = .ok (.iload_n 2, 1) := by decide +kernel
theorem dX9_likingIn_12 : decode cX9_likingIn 12 = .ok (.if_icmp .ne 15, 3) := by decide +kernel
theorem dX9_likingIn_15 : decode cX9_likingIn 15 = .ok (.aload_n 0, 1) := by decide +kernel
theorem dX9_likingIn_16 : decode cX9_likingIn 16 = .ok (.getfield 94, 3) := by decide +kernel
theorem dX9_likingIn_19 : decode cX9_likingIn 19 = .ok (.bipush 7, 2) := by decide +kernel
theorem dX9_likingIn_21 : decode cX9_likingIn 21 = .ok (.iload_n 1, 1) := by decide +kernel
theorem dX9_likingIn_22 : decode cX9_likingIn 22 = .ok (.iadd, 1) := by decide +kernel
theorem dX9_likingIn_23 : decode cX9_likingIn 23 = .ok (.iaload, 1) := by decide +kernel
theorem dX9_likingIn_24 : decode cX9_likingIn 24 = .ok (.goto 4, 3) := by decide +kernel
theorem dX9_likingIn_27 : decode cX9_likingIn 27 = .ok (.iconst 0, 1) := by decide +kernel
theorem dX9_likingIn_28 : decode cX9_likingIn 28 = .ok (.invokevirtual 422, 3) := by decide +kernel
theorem dX9_likingIn_31 : decode cX9_likingIn 31 = .ok (.ireturn, 1) := by decide +kernel
set_option maxRecDepth 20000 in
theorem ggX9_likingNow_X9_likingIn : GoodIn wsX9_likingNow wsX9_likingIn := goodIn_r _ [6, 1, 7, 8, 9, 5, 10, 11, 12, 13, 14, 15, 16, 17, 18, 19, 20, 21, 22, 23, 24, 25, 26, 27, 28, 29, 30, 31, 32, 33, 34, 35, 36, 37, 38, 39, 40, 41, 42, 43, 44, 45, 46, 47, 48, 49, 50, 51, 52, 53, 54, 55, 56, 57, 58, 59, 60, 61, 62, 63, 64, 65, 66, 67, 68, 69, 70, 71, 72, 73, 74, 75, 76, 77, 78, 79, 80, 81, 82, 83, 84, 85, 86, 87, 88, 89, 90, 91, 92, 93, 94, 95, 96, 97, 98, 99, 100, 101, 102, 103, 104, 105, 106, 107, 108, 109, 110, 111, 112, 113, 114, 115, 116, 117, 118, 119, 120, 121, 122, 123, 124, 125, 126, 127, 128, 129, 130, 131, 132, 133, 134, 135] rfl (by decide +kernel)
set_option maxRecDepth 20000 in
theorem gX9_likingNow_X9_likingIn : GoodIn wsX9_likingNow (wsV RX9 425 RX9 yX9_likingIn wsX9_likingIn) := goodIn_app (goodIn_r _ [2, 3, 4, 5] rfl (by decide +kernel)) ggX9_likingNow_X9_likingIn
theorem dX9_likingNow_0 : decode cX9_likingNow 0 = .ok (.aload_n 0, 1) := by decide +kernel
theorem dX9_likingNow_1 : decode cX9_likingNow 1 = .ok (.iload_n 1, 1) := by decide +kernel
theorem dX9_likingNow_2 : decode cX9_likingNow 2 = .ok (.aload_n 0, 1) := by decide +kernel
theorem dX9_likingNow_3 : decode cX9_likingNow 3 = .ok (.getfield 94, 3) := by decide +kernel
theorem dX9_likingNow_6 : decode cX9_likingNow 6 = .ok (.iconst 0, 1) := by decide +kernel
theorem dX9_likingNow_7 : decode cX9_likingNow 7 = .ok (.iload_n 1, 1) := by decide +kernel
theorem dX9_likingNow_8 : decode cX9_likingNow 8 = .ok (.iadd, 1) := by decide +kernel
theorem dX9_likingNow_9 : decode cX9_likingNow 9 = .ok (.iaload, 1) := by decide +kernel
theorem dX9_likingNow_10 : decode cX9_likingNow 10 = .ok (.invokevirtual 425, 3) := by decide +kernel
theorem dX9_likingNow_13 : decode cX9_likingNow 13 = .ok (.ireturn, 1) := by decide +kernel
set_option maxRecDepth 20000 in
theorem ggX9_thrown_X9_many : GoodIn wsX9_thrown wsX9_many := goodIn_r _ [5, 6, 7, 93, 94, 95, 96, 97, 98, 99, 100, 101, 102, 103, 104, 105, 106, 107, 108, 109, 110, 111, 112, 113, 114, 115, 116, 117, 118, 119, 120, 121, 122, 123, 124, 125, 126, 127, 128, 129, 130, 131, 132, 133, 134, 135, 136, 137, 138, 139, 140, 141, 142, 143, 144, 145, 146, 147, 148, 149, 150, 151, 152, 153, 154, 155, 156, 157, 158, 159] rfl (by decide +kernel)
set_option maxRecDepth 20000 in
theorem gX9_thrown_X9_many : GoodIn wsX9_thrown (wsV RX9 373 RX9 yX9_many wsX9_many) := goodIn_app (goodIn_r _ [1, 2, 3, 4] rfl (by decide +kernel)) ggX9_thrown_X9_many
set_option maxRecDepth 20000 in
theorem ggX9_thrown_X9_isAtHome : GoodIn wsX9_thrown wsX9_isAtHome := goodIn_r _ [11, 12, 13, 14, 15, 4, 16, 1, 2, 3, 5, 6, 7, 17, 18, 19, 20, 21, 22, 23, 24, 25, 26, 27, 93, 94, 95, 96, 97, 98, 99, 100, 101, 102, 103, 104, 105, 106, 107, 108, 109, 110, 111, 112, 113, 114, 115, 116, 117, 118, 119, 120, 121, 122, 123, 124, 125, 126, 127, 128, 129, 130, 131, 132, 133, 134, 135, 136, 137, 138, 139, 140, 141, 142, 143, 144, 145, 146, 147, 148, 149, 150, 151, 152, 153, 154, 155, 156, 157, 158, 159] rfl (by decide +kernel)
set_option maxRecDepth 20000 in
theorem gX9_thrown_X9_isAtHome : GoodIn wsX9_thrown (wsV RX9 428 RX9 yX9_isAtHome wsX9_isAtHome) := goodIn_app (goodIn_r _ [8, 9, 10, 4] rfl (by decide +kernel)) ggX9_thrown_X9_isAtHome
set_option maxRecDepth 20000 in
theorem ggX9_thrown_X9_likingNow : GoodIn wsX9_thrown wsX9_likingNow := goodIn_r _ [31, 12, 32, 33, 34, 4, 35, 36, 37, 38, 39, 40, 41, 42, 43, 44, 45, 7, 46, 24, 25, 26, 27, 47, 48, 49, 50, 51, 52, 53, 54, 55, 56, 57, 58, 59, 60, 61, 62, 63, 64, 65, 66, 67, 68, 69, 70, 71, 72, 73, 74, 75, 76, 77, 78, 79, 80, 81, 82, 83, 84, 85, 86, 87, 88, 89, 90, 91, 92, 93, 94, 95, 96, 97, 98, 99, 100, 101, 102, 103, 104, 105, 106, 107, 108, 109, 110, 111, 112, 113, 114, 115, 116, 117, 118, 119, 120, 121, 122, 123, 124, 125, 126, 127, 128, 129, 130, 131, 132, 133, 134, 135, 136, 137, 138, 139, 140, 141, 142, 143, 144, 145, 146, 147, 148, 149, 150, 151, 152, 153, 154, 155, 156, 157, 158, 159] rfl (by decide +kernel)
set_option maxRecDepth 20000 in
theorem gX9_thrown_X9_likingNow : GoodIn wsX9_thrown (wsV RX9 431 RX9 yX9_likingNow wsX9_likingNow) := goodIn_app (goodIn_r _ [28, 29, 30, 4] rfl (by decide +kernel)) ggX9_thrown_X9_likingNow
theorem dX9_thrown_0 : decode cX9_thrown 0 = .ok (.iconst 0, 1) := by decide +kernel
theorem dX9_thrown_1 : decode cX9_thrown 1 = .ok (.istore_n 1, 1) := by decide +kernel
theorem dX9_thrown_2 : decode cX9_thrown 2 = .ok (.iconst 0, 1) := by decide +kernel
theorem dX9_thrown_3 : decode cX9_thrown 3 = .ok (.istore_n 2, 1) := by decide +kernel
theorem dX9_thrown_4 : decode cX9_thrown 4 = .ok (.iload_n 2, 1) := by decide +kernel
theorem dX9_thrown_5 : decode cX9_thrown 5 = .ok (.aload_n 0, 1) := by decide +kernel
theorem dX9_thrown_6 : decode cX9_thrown 6 = .ok (.invokevirtual 373, 3) := by decide +kernel
theorem dX9_thrown_9 : decode cX9_thrown 9 = .ok (.if_icmp .ge 31, 3) := by decide +kernel
theorem dX9_thrown_12 : decode cX9_thrown 12 = .ok (.aload_n 0, 1) := by decide +kernel
theorem dX9_thrown_13 : decode cX9_thrown 13 = .ok (.iload_n 2, 1) := by decide +kernel
theorem dX9_thrown_14 : decode cX9_thrown 14 = .ok (.invokevirtual 428, 3) := by decide +kernel
theorem dX9_thrown_17 : decode cX9_thrown 17 = .ok (.ifCond .eq 17, 3) := by decide +kernel
theorem dX9_thrown_20 : decode cX9_thrown 20 = .ok (.aload_n 0, 1) := by decide +kernel
theorem dX9_thrown_21 : decode cX9_thrown 21 = .ok (.iload_n 2, 1) := by decide +kernel
theorem dX9_thrown_22 : decode cX9_thrown 22 = .ok (.invokevirtual 431, 3) := by decide +kernel
theorem dX9_thrown_25 : decode cX9_thrown 25 = .ok (.ifCond .gt 9, 3) := by decide +kernel
theorem dX9_thrown_28 : decode cX9_thrown 28 = .ok (.iload_n 1, 1) := by decide +kernel
theorem dX9_thrown_29 : decode cX9_thrown 29 = .ok (.iconst 1, 1) := by decide +kernel
theorem dX9_thrown_30 : decode cX9_thrown 30 = .ok (.iload_n 2, 1) := by decide +kernel
theorem dX9_thrown_31 : decode cX9_thrown 31 = .ok (.ishl, 1) := by decide +kernel
theorem dX9_thrown_32 : decode cX9_thrown 32 = .ok (.ior, 1) := by decide +kernel
theorem dX9_thrown_33 : decode cX9_thrown 33 = .ok (.istore_n 1, 1) := by decide +kernel
theorem dX9_thrown_34 : decode cX9_thrown 34 = .ok (.iinc 2 1, 3) := by decide +kernel
theorem dX9_thrown_37 : decode cX9_thrown 37 = .ok (.goto (-33), 3) := by decide +kernel
theorem dX9_thrown_40 : decode cX9_thrown 40 = .ok (.iload_n 1, 1) := by decide +kernel
theorem dX9_thrown_41 : decode cX9_thrown 41 = .ok (.ireturn, 1) := by decide +kernel
set_option maxRecDepth 20000 in
theorem ggX9_heirOf_X9_lives : GoodIn wsX9_heirOf wsX9_lives := goodIn_r _ [7, 8, 9, 10, 6, 11, 12, 13, 14, 15, 16, 17, 18, 19, 20, 21, 22, 23, 24, 25, 26, 27, 28, 29, 30, 31, 32, 33, 34, 35, 36, 37, 38, 39, 40, 41, 42, 43, 44, 45, 46, 47, 48, 49, 50, 51, 52, 53, 54, 55, 56, 57, 58, 59, 60, 61, 62, 63, 64, 65, 66, 67, 68, 69, 70, 71, 72, 73, 74, 75, 76, 77, 78] rfl (by decide +kernel)
set_option maxRecDepth 20000 in
theorem gX9_heirOf_X9_lives : GoodIn wsX9_heirOf (wsV RX9 434 RX9 yX9_lives wsX9_lives) := goodIn_app (goodIn_r _ [3, 4, 5, 6] rfl (by decide +kernel)) ggX9_heirOf_X9_lives
set_option maxRecDepth 20000 in
theorem ggX9_heirOf_X9_bit : GoodIn wsX9_heirOf wsX9_bit := goodIn_r _ [11] rfl (by decide +kernel)
set_option maxRecDepth 20000 in
theorem gX9_heirOf_X9_bit : GoodIn wsX9_heirOf (va_wsS RX9 274 yX9_bit wsX9_bit) := goodIn_app (goodIn_r _ [9, 10, 6] rfl (by decide +kernel)) ggX9_heirOf_X9_bit
theorem dX9_heirOf_0 : decode cX9_heirOf 0 = .ok (.aload_n 0, 1) := by decide +kernel
theorem dX9_heirOf_1 : decode cX9_heirOf 1 = .ok (.getfield 45, 3) := by decide +kernel
theorem dX9_heirOf_4 : decode cX9_heirOf 4 = .ok (.bipush 6, 2) := by decide +kernel
theorem dX9_heirOf_6 : decode cX9_heirOf 6 = .ok (.aload_n 0, 1) := by decide +kernel
theorem dX9_heirOf_7 : decode cX9_heirOf 7 = .ok (.getfield 268, 3) := by decide +kernel
theorem dX9_heirOf_10 : decode cX9_heirOf 10 = .ok (.imul, 1) := by decide +kernel
theorem dX9_heirOf_11 : decode cX9_heirOf 11 = .ok (.iload_n 1, 1) := by decide +kernel
theorem dX9_heirOf_12 : decode cX9_heirOf 12 = .ok (.iadd, 1) := by decide +kernel
theorem dX9_heirOf_13 : decode cX9_heirOf 13 = .ok (.iaload, 1) := by decide +kernel
theorem dX9_heirOf_14 : decode cX9_heirOf 14 = .ok (.istore_n 3, 1) := by decide +kernel
theorem dX9_heirOf_15 : decode cX9_heirOf 15 = .ok (.iload_n 3, 1) := by decide +kernel
theorem dX9_heirOf_16 : decode cX9_heirOf 16 = .ok (.ifCond .lt 37, 3) := by decide +kernel
theorem dX9_heirOf_19 : decode cX9_heirOf 19 = .ok (.aload_n 0, 1) := by decide +kernel
theorem dX9_heirOf_20 : decode cX9_heirOf 20 = .ok (.iload_n 3, 1) := by decide +kernel
theorem dX9_heirOf_21 : decode cX9_heirOf 21 = .ok (.invokevirtual 434, 3) := by decide +kernel
theorem dX9_heirOf_24 : decode cX9_heirOf 24 = .ok (.ifCond .eq 11, 3) := by decide +kernel
theorem dX9_heirOf_27 : decode cX9_heirOf 27 = .ok (.iload_n 2, 1) := by decide +kernel
theorem dX9_heirOf_28 : decode cX9_heirOf 28 = .ok (.iload_n 3, 1) := by decide +kernel
theorem dX9_heirOf_29 : decode cX9_heirOf 29 = .ok (.invokestatic 274, 3) := by decide +kernel
theorem dX9_heirOf_32 : decode cX9_heirOf 32 = .ok (.ifCond .eq 21, 3) := by decide +kernel
theorem dX9_heirOf_35 : decode cX9_heirOf 35 = .ok (.aload_n 0, 1) := by decide +kernel
theorem dX9_heirOf_36 : decode cX9_heirOf 36 = .ok (.getfield 45, 3) := by decide +kernel
theorem dX9_heirOf_39 : decode cX9_heirOf 39 = .ok (.bipush 6, 2) := by decide +kernel
theorem dX9_heirOf_41 : decode cX9_heirOf 41 = .ok (.aload_n 0, 1) := by decide +kernel
theorem dX9_heirOf_42 : decode cX9_heirOf 42 = .ok (.getfield 268, 3) := by decide +kernel
theorem dX9_heirOf_45 : decode cX9_heirOf 45 = .ok (.imul, 1) := by decide +kernel
theorem dX9_heirOf_46 : decode cX9_heirOf 46 = .ok (.iload_n 3, 1) := by decide +kernel
theorem dX9_heirOf_47 : decode cX9_heirOf 47 = .ok (.iadd, 1) := by decide +kernel
theorem dX9_heirOf_48 : decode cX9_heirOf 48 = .ok (.iaload, 1) := by decide +kernel
