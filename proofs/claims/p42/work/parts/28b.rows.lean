theorem dX9_bit_5 : decode cX9_bit 5 = .ok (.iconst 1, 1) := by decide +kernel
theorem dX9_bit_6 : decode cX9_bit 6 = .ok (.if_icmp .ne 7, 3) := by decide +kernel
theorem dX9_bit_9 : decode cX9_bit 9 = .ok (.iconst 1, 1) := by decide +kernel
theorem dX9_bit_10 : decode cX9_bit 10 = .ok (.goto 4, 3) := by decide +kernel
theorem dX9_bit_13 : decode cX9_bit 13 = .ok (.iconst 0, 1) := by decide +kernel
theorem dX9_bit_14 : decode cX9_bit 14 = .ok (.ireturn, 1) := by decide +kernel
theorem dX9_bitsOf_0 : decode cX9_bitsOf 0 = .ok (.iconst 0, 1) := by decide +kernel
theorem dX9_bitsOf_1 : decode cX9_bitsOf 1 = .ok (.istore_n 1, 1) := by decide +kernel
theorem dX9_bitsOf_2 : decode cX9_bitsOf 2 = .ok (.iload_n 0, 1) := by decide +kernel
theorem dX9_bitsOf_3 : decode cX9_bitsOf 3 = .ok (.istore_n 2, 1) := by decide +kernel
theorem dX9_bitsOf_4 : decode cX9_bitsOf 4 = .ok (.iload_n 2, 1) := by decide +kernel
theorem dX9_bitsOf_5 : decode cX9_bitsOf 5 = .ok (.ifCond .eq 15, 3) := by decide +kernel
theorem dX9_bitsOf_8 : decode cX9_bitsOf 8 = .ok (.iinc 1 1, 3) := by decide +kernel
theorem dX9_bitsOf_11 : decode cX9_bitsOf 11 = .ok (.iload_n 2, 1) := by decide +kernel
theorem dX9_bitsOf_12 : decode cX9_bitsOf 12 = .ok (.iload_n 2, 1) := by decide +kernel
theorem dX9_bitsOf_13 : decode cX9_bitsOf 13 = .ok (.iconst 1, 1) := by decide +kernel
theorem dX9_bitsOf_14 : decode cX9_bitsOf 14 = .ok (.isub, 1) := by decide +kernel
theorem dX9_bitsOf_15 : decode cX9_bitsOf 15 = .ok (.iand, 1) := by decide +kernel
theorem dX9_bitsOf_16 : decode cX9_bitsOf 16 = .ok (.istore_n 2, 1) := by decide +kernel
theorem dX9_bitsOf_17 : decode cX9_bitsOf 17 = .ok (.goto (-13), 3) := by decide +kernel
theorem dX9_bitsOf_20 : decode cX9_bitsOf 20 = .ok (.iload_n 1, 1) := by decide +kernel
theorem dX9_bitsOf_21 : decode cX9_bitsOf 21 = .ok (.ireturn, 1) := by decide +kernel
theorem dX9_held_0 : decode cX9_held 0 = .ok (.iload_n 0, 1) := by decide +kernel
theorem dX9_held_1 : decode cX9_held 1 = .ok (.sipush (-9999), 3) := by decide +kernel
theorem dX9_held_4 : decode cX9_held 4 = .ok (.if_icmp .ge 9, 3) := by decide +kernel
theorem dX9_held_7 : decode cX9_held 7 = .ok (.sipush (-9999), 3) := by decide +kernel
theorem dX9_held_10 : decode cX9_held 10 = .ok (.goto 17, 3) := by decide +kernel
theorem dX9_held_13 : decode cX9_held 13 = .ok (.iload_n 0, 1) := by decide +kernel
theorem dX9_held_14 : decode cX9_held 14 = .ok (.sipush 9999, 3) := by decide +kernel
theorem dX9_held_17 : decode cX9_held 17 = .ok (.if_icmp .le 9, 3) := by decide +kernel
theorem dX9_held_20 : decode cX9_held 20 = .ok (.sipush 9999, 3) := by decide +kernel
theorem dX9_held_23 : decode cX9_held 23 = .ok (.goto 4, 3) := by decide +kernel
theorem dX9_held_26 : decode cX9_held 26 = .ok (.iload_n 0, 1) := by decide +kernel
theorem dX9_held_27 : decode cX9_held 27 = .ok (.ireturn, 1) := by decide +kernel
theorem dX9_divisor_0 : decode cX9_divisor 0 = .ok (.iload_n 0, 1) := by decide +kernel
theorem dX9_divisor_1 : decode cX9_divisor 1 = .ok (.istore_n 2, 1) := by decide +kernel
theorem dX9_divisor_2 : decode cX9_divisor 2 = .ok (.iload_n 1, 1) := by decide +kernel
theorem dX9_divisor_3 : decode cX9_divisor 3 = .ok (.istore_n 3, 1) := by decide +kernel
theorem dX9_divisor_4 : decode cX9_divisor 4 = .ok (.iload_n 3, 1) := by decide +kernel
theorem dX9_divisor_5 : decode cX9_divisor 5 = .ok (.ifCond .le 16, 3) := by decide +kernel
theorem dX9_divisor_8 : decode cX9_divisor 8 = .ok (.iload_n 2, 1) := by decide +kernel
theorem dX9_divisor_9 : decode cX9_divisor 9 = .ok (.iload_n 3, 1) := by decide +kernel
theorem dX9_divisor_10 : decode cX9_divisor 10 = .ok (.irem, 1) := by decide +kernel
theorem dX9_divisor_11 : decode cX9_divisor 11 = .ok (.istore 4, 2) := by decide +kernel
theorem dX9_divisor_13 : decode cX9_divisor 13 = .ok (.iload_n 3, 1) := by decide +kernel
theorem dX9_divisor_14 : decode cX9_divisor 14 = .ok (.istore_n 2, 1) := by decide +kernel
theorem dX9_divisor_15 : decode cX9_divisor 15 = .ok (.iload 4, 2) := by decide +kernel
theorem dX9_divisor_17 : decode cX9_divisor 17 = .ok (.istore_n 3, 1) := by decide +kernel
theorem dX9_divisor_18 : decode cX9_divisor 18 = .ok (.goto (-14), 3) := by decide +kernel
theorem dX9_divisor_21 : decode cX9_divisor 21 = .ok (.iload_n 2, 1) := by decide +kernel
theorem dX9_divisor_22 : decode cX9_divisor 22 = .ok (.ireturn, 1) := by decide +kernel
theorem dX9_power_0 : decode cX9_power 0 = .ok (.iconst 1, 1) := by decide +kernel
theorem dX9_power_1 : decode cX9_power 1 = .ok (.istore_n 2, 1) := by decide +kernel
theorem dX9_power_2 : decode cX9_power 2 = .ok (.iconst 0, 1) := by decide +kernel
theorem dX9_power_3 : decode cX9_power 3 = .ok (.istore_n 3, 1) := by decide +kernel
theorem dX9_power_4 : decode cX9_power 4 = .ok (.iload_n 3, 1) := by decide +kernel
theorem dX9_power_5 : decode cX9_power 5 = .ok (.iload_n 1, 1) := by decide +kernel
theorem dX9_power_6 : decode cX9_power 6 = .ok (.if_icmp .ge 13, 3) := by decide +kernel
theorem dX9_power_9 : decode cX9_power 9 = .ok (.iload_n 2, 1) := by decide +kernel
theorem dX9_power_10 : decode cX9_power 10 = .ok (.iload_n 0, 1) := by decide +kernel
theorem dX9_power_11 : decode cX9_power 11 = .ok (.imul, 1) := by decide +kernel
theorem dX9_power_12 : decode cX9_power 12 = .ok (.istore_n 2, 1) := by decide +kernel
theorem dX9_power_13 : decode cX9_power 13 = .ok (.iinc 3 1, 3) := by decide +kernel
theorem dX9_power_16 : decode cX9_power 16 = .ok (.goto (-12), 3) := by decide +kernel
theorem dX9_power_19 : decode cX9_power 19 = .ok (.iload_n 2, 1) := by decide +kernel
theorem dX9_power_20 : decode cX9_power 20 = .ok (.ireturn, 1) := by decide +kernel
theorem dX9_many_0 : decode cX9_many 0 = .ok (.aload_n 0, 1) := by decide +kernel
theorem dX9_many_1 : decode cX9_many 1 = .ok (.getfield 27, 3) := by decide +kernel
theorem dX9_many_4 : decode cX9_many 4 = .ok (.aload_n 0, 1) := by decide +kernel
theorem dX9_many_5 : decode cX9_many 5 = .ok (.getfield 268, 3) := by decide +kernel
theorem dX9_many_8 : decode cX9_many 8 = .ok (.iaload, 1) := by decide +kernel
theorem dX9_many_9 : decode cX9_many 9 = .ok (.ireturn, 1) := by decide +kernel
theorem dX9_cattery_0 : decode cX9_cattery 0 = .ok (.aload_n 0, 1) := by decide +kernel
theorem dX9_cattery_1 : decode cX9_cattery 1 = .ok (.getfield 20, 3) := by decide +kernel
theorem dX9_cattery_4 : decode cX9_cattery 4 = .ok (.aload_n 0, 1) := by decide +kernel
theorem dX9_cattery_5 : decode cX9_cattery 5 = .ok (.getfield 268, 3) := by decide +kernel
theorem dX9_cattery_8 : decode cX9_cattery 8 = .ok (.iaload, 1) := by decide +kernel
theorem dX9_cattery_9 : decode cX9_cattery 9 = .ok (.ireturn, 1) := by decide +kernel
theorem dX9_chambers_0 : decode cX9_chambers 0 = .ok (.aload_n 0, 1) := by decide +kernel
theorem dX9_chambers_1 : decode cX9_chambers 1 = .ok (.getfield 24, 3) := by decide +kernel
theorem dX9_chambers_4 : decode cX9_chambers 4 = .ok (.aload_n 0, 1) := by decide +kernel
theorem dX9_chambers_5 : decode cX9_chambers 5 = .ok (.getfield 268, 3) := by decide +kernel
theorem dX9_chambers_8 : decode cX9_chambers 8 = .ok (.iaload, 1) := by decide +kernel
theorem dX9_chambers_9 : decode cX9_chambers 9 = .ok (.ireturn, 1) := by decide +kernel
set_option maxRecDepth 20000 in
theorem ggX9_isTenant_X9_many : GoodIn wsX9_isTenant wsX9_many := goodIn_r _ [5, 6, 7, 11, 12, 13, 14, 15, 16, 17, 18, 19, 20, 21, 22, 23, 24, 25, 26, 27, 28, 29, 30, 31, 32, 33, 34, 35, 36, 37, 38, 39, 40, 41, 42, 43, 44, 45, 46, 47, 48, 49, 50, 51, 52, 53, 54, 55, 56, 57, 58, 59, 60, 61, 62, 63, 64, 65, 66, 67, 68, 69, 70, 71, 72, 73, 74, 75, 76, 77] rfl (by decide +kernel)
set_option maxRecDepth 20000 in
theorem gX9_isTenant_X9_many : GoodIn wsX9_isTenant (wsV RX9 373 RX9 yX9_many wsX9_many) := goodIn_app (goodIn_r _ [1, 2, 3, 4] rfl (by decide +kernel)) ggX9_isTenant_X9_many
set_option maxRecDepth 20000 in
theorem ggX9_isTenant_X9_isIn : GoodIn wsX9_isTenant wsX9_isIn := goodIn_r _ [10] rfl (by decide +kernel)
set_option maxRecDepth 20000 in
theorem gX9_isTenant_X9_isIn : GoodIn wsX9_isTenant (va_wsS RX9 376 yX9_isIn wsX9_isIn) := goodIn_app (goodIn_r _ [8, 9, 4] rfl (by decide +kernel)) ggX9_isTenant_X9_isIn
theorem dX9_isTenant_0 : decode cX9_isTenant 0 = .ok (.iload_n 1, 1) := by decide +kernel
theorem dX9_isTenant_1 : decode cX9_isTenant 1 = .ok (.iconst 0, 1) := by decide +kernel
theorem dX9_isTenant_2 : decode cX9_isTenant 2 = .ok (.aload_n 0, 1) := by decide +kernel
theorem dX9_isTenant_3 : decode cX9_isTenant 3 = .ok (.invokevirtual 373, 3) := by decide +kernel
theorem dX9_isTenant_6 : decode cX9_isTenant 6 = .ok (.iconst 1, 1) := by decide +kernel
theorem dX9_isTenant_7 : decode cX9_isTenant 7 = .ok (.isub, 1) := by decide +kernel
theorem dX9_isTenant_8 : decode cX9_isTenant 8 = .ok (.invokestatic 376, 3) := by decide +kernel
theorem dX9_isTenant_11 : decode cX9_isTenant 11 = .ok (.ireturn, 1) := by decide +kernel
set_option maxRecDepth 20000 in
theorem ggX9_isCat_X9_cattery : GoodIn wsX9_isCat wsX9_cattery := goodIn_r _ [5, 6, 7, 11, 12, 13, 14, 15, 16, 17, 18, 19, 20, 21, 22, 23, 24, 25, 26, 27, 28, 29, 30, 31, 32, 33, 34, 35, 36, 37, 38, 39, 40, 41, 42, 43, 44, 45, 46, 47, 48, 49, 50, 51, 52, 53, 54, 55, 56, 57, 58, 59, 60, 61, 62, 63, 64, 65, 66, 67, 68, 69, 70, 71, 72, 73, 74, 75, 76, 77] rfl (by decide +kernel)
set_option maxRecDepth 20000 in
theorem gX9_isCat_X9_cattery : GoodIn wsX9_isCat (wsV RX9 380 RX9 yX9_cattery wsX9_cattery) := goodIn_app (goodIn_r _ [1, 2, 3, 4] rfl (by decide +kernel)) ggX9_isCat_X9_cattery
set_option maxRecDepth 20000 in
theorem ggX9_isCat_X9_isIn : GoodIn wsX9_isCat wsX9_isIn := goodIn_r _ [10] rfl (by decide +kernel)
set_option maxRecDepth 20000 in
theorem gX9_isCat_X9_isIn : GoodIn wsX9_isCat (va_wsS RX9 376 yX9_isIn wsX9_isIn) := goodIn_app (goodIn_r _ [8, 9, 4] rfl (by decide +kernel)) ggX9_isCat_X9_isIn
theorem dX9_isCat_0 : decode cX9_isCat 0 = .ok (.iload_n 1, 1) := by decide +kernel
theorem dX9_isCat_1 : decode cX9_isCat 1 = .ok (.iconst 0, 1) := by decide +kernel
theorem dX9_isCat_2 : decode cX9_isCat 2 = .ok (.aload_n 0, 1) := by decide +kernel
theorem dX9_isCat_3 : decode cX9_isCat 3 = .ok (.invokevirtual 380, 3) := by decide +kernel
theorem dX9_isCat_6 : decode cX9_isCat 6 = .ok (.iconst 1, 1) := by decide +kernel
theorem dX9_isCat_7 : decode cX9_isCat 7 = .ok (.isub, 1) := by decide +kernel
theorem dX9_isCat_8 : decode cX9_isCat 8 = .ok (.invokestatic 376, 3) := by decide +kernel
theorem dX9_isCat_11 : decode cX9_isCat 11 = .ok (.ireturn, 1) := by decide +kernel
set_option maxRecDepth 20000 in
theorem ggX9_isRoom_X9_chambers : GoodIn wsX9_isRoom wsX9_chambers := goodIn_r _ [5, 6, 7, 11, 12, 13, 14, 15, 16, 17, 18, 19, 20, 21, 22, 23, 24, 25, 26, 27, 28, 29, 30, 31, 32, 33, 34, 35, 36, 37, 38, 39, 40, 41, 42, 43, 44, 45, 46, 47, 48, 49, 50, 51, 52, 53, 54, 55, 56, 57, 58, 59, 60, 61, 62, 63, 64, 65, 66, 67, 68, 69, 70, 71, 72, 73, 74, 75, 76, 77] rfl (by decide +kernel)
set_option maxRecDepth 20000 in
theorem gX9_isRoom_X9_chambers : GoodIn wsX9_isRoom (wsV RX9 383 RX9 yX9_chambers wsX9_chambers) := goodIn_app (goodIn_r _ [1, 2, 3, 4] rfl (by decide +kernel)) ggX9_isRoom_X9_chambers
set_option maxRecDepth 20000 in
theorem ggX9_isRoom_X9_isIn : GoodIn wsX9_isRoom wsX9_isIn := goodIn_r _ [10] rfl (by decide +kernel)
set_option maxRecDepth 20000 in
theorem gX9_isRoom_X9_isIn : GoodIn wsX9_isRoom (va_wsS RX9 376 yX9_isIn wsX9_isIn) := goodIn_app (goodIn_r _ [8, 9, 4] rfl (by decide +kernel)) ggX9_isRoom_X9_isIn
theorem dX9_isRoom_0 : decode cX9_isRoom 0 = .ok (.iload_n 1, 1) := by decide +kernel
theorem dX9_isRoom_1 : decode cX9_isRoom 1 = .ok (.iconst 0, 1) := by decide +kernel
theorem dX9_isRoom_2 : decode cX9_isRoom 2 = .ok (.aload_n 0, 1) := by decide +kernel
theorem dX9_isRoom_3 : decode cX9_isRoom 3 = .ok (.invokevirtual 383, 3) := by decide +kernel
theorem dX9_isRoom_6 : decode cX9_isRoom 6 = .ok (.iconst 1, 1) := by decide +kernel
theorem dX9_isRoom_7 : decode cX9_isRoom 7 = .ok (.isub, 1) := by decide +kernel
theorem dX9_isRoom_8 : decode cX9_isRoom 8 = .ok (.invokestatic 376, 3) := by decide +kernel
theorem dX9_isRoom_11 : decode cX9_isRoom 11 = .ok (.ireturn, 1) := by decide +kernel
set_option maxRecDepth 20000 in
theorem ggX9_lives_X9_bit : GoodIn wsX9_lives wsX9_bit := goodIn_r _ [5] rfl (by decide +kernel)
set_option maxRecDepth 20000 in
theorem gX9_lives_X9_bit : GoodIn wsX9_lives (va_wsS RX9 274 yX9_bit wsX9_bit) := goodIn_app (goodIn_r _ [2, 3, 4] rfl (by decide +kernel)) ggX9_lives_X9_bit
theorem dX9_lives_0 : decode cX9_lives 0 = .ok (.aload_n 0, 1) := by decide +kernel
theorem dX9_lives_1 : decode cX9_lives 1 = .ok (.getfield 94, 3) := by decide +kernel
theorem dX9_lives_4 : decode cX9_lives 4 = .ok (.bipush 36, 2) := by decide +kernel
theorem dX9_lives_6 : decode cX9_lives 6 = .ok (.iaload, 1) := by decide +kernel
theorem dX9_lives_7 : decode cX9_lives 7 = .ok (.iload_n 1, 1) := by decide +kernel
theorem dX9_lives_8 : decode cX9_lives 8 = .ok (.invokestatic 274, 3) := by decide +kernel
theorem dX9_lives_11 : decode cX9_lives 11 = .ok (.ireturn, 1) := by decide +kernel
theorem dX9_keeperOf_0 : decode cX9_keeperOf 0 = .ok (.aload_n 0, 1) := by decide +kernel
theorem dX9_keeperOf_1 : decode cX9_keeperOf 1 = .ok (.getfield 94, 3) := by decide +kernel
theorem dX9_keeperOf_4 : decode cX9_keeperOf 4 = .ok (.bipush 14, 2) := by decide +kernel
theorem dX9_keeperOf_6 : decode cX9_keeperOf 6 = .ok (.iload_n 1, 1) := by decide +kernel
theorem dX9_keeperOf_7 : decode cX9_keeperOf 7 = .ok (.iadd, 1) := by decide +kernel
theorem dX9_keeperOf_8 : decode cX9_keeperOf 8 = .ok (.iaload, 1) := by decide +kernel
theorem dX9_keeperOf_9 : decode cX9_keeperOf 9 = .ok (.ireturn, 1) := by decide +kernel
theorem dX9_isOut_0 : decode cX9_isOut 0 = .ok (.aload_n 0, 1) := by decide +kernel
theorem dX9_isOut_1 : decode cX9_isOut 1 = .ok (.getfield 94, 3) := by decide +kernel
theorem dX9_isOut_4 : decode cX9_isOut 4 = .ok (.iconst 0, 1) := by decide +kernel
theorem dX9_isOut_5 : decode cX9_isOut 5 = .ok (.iload_n 1, 1) := by decide +kernel
theorem dX9_isOut_6 : decode cX9_isOut 6 = .ok (.iadd, 1) := by decide +kernel
theorem dX9_isOut_7 : decode cX9_isOut 7 = .ok (.iaload, 1) := by decide +kernel
theorem dX9_isOut_8 : decode cX9_isOut 8 = .ok (.ifCond .ge 7, 3) := by decide +kernel
theorem dX9_isOut_11 : decode cX9_isOut 11 = .ok (.iconst 1, 1) := by decide +kernel
theorem dX9_isOut_12 : decode cX9_isOut 12 = .ok (.goto 4, 3) := by decide +kernel
theorem dX9_isOut_15 : decode cX9_isOut 15 = .ok (.iconst 0, 1) := by decide +kernel
theorem dX9_isOut_16 : decode cX9_isOut 16 = .ok (.ireturn, 1) := by decide +kernel
set_option maxRecDepth 20000 in
theorem ggX9_isAtHome_X9_isTenant : GoodIn wsX9_isAtHome wsX9_isTenant := goodIn_r _ [6, 7, 8, 9, 5, 10, 11, 12, 13, 14, 15, 24, 25, 26, 27, 28, 29, 30, 31, 32, 33, 34, 35, 36, 37, 38, 39, 40, 41, 42, 43, 44, 45, 46, 47, 48, 49, 50, 51, 52, 53, 54, 55, 56, 57, 58, 59, 60, 61, 62, 63, 64, 65, 66, 67, 68, 69, 70, 71, 72, 73, 74, 75, 76, 77, 78, 79, 80, 81, 82, 83, 84, 85, 86, 87, 88, 89, 90] rfl (by decide +kernel)
set_option maxRecDepth 20000 in
theorem gX9_isAtHome_X9_isTenant : GoodIn wsX9_isAtHome (wsV RX9 386 RX9 yX9_isTenant wsX9_isTenant) := goodIn_app (goodIn_r _ [2, 3, 4, 5] rfl (by decide +kernel)) ggX9_isAtHome_X9_isTenant
set_option maxRecDepth 20000 in
theorem ggX9_isAtHome_X9_isOut : GoodIn wsX9_isAtHome wsX9_isOut := goodIn_r _ [19, 1, 24, 25, 26, 27, 28, 29, 30, 31, 32, 33, 34, 35, 36, 37, 38, 39, 40, 41, 42, 43, 44, 45, 46, 47, 48, 49, 50, 51, 52, 53, 54, 55, 56, 57, 58, 59, 60, 61, 62, 63, 64, 65, 66, 67, 68, 69, 70, 71, 72, 73, 74, 75, 76, 77, 78, 79, 80, 81, 82, 83, 84, 85, 86, 87, 88, 89, 90] rfl (by decide +kernel)
set_option maxRecDepth 20000 in
theorem gX9_isAtHome_X9_isOut : GoodIn wsX9_isAtHome (wsV RX9 389 RX9 yX9_isOut wsX9_isOut) := goodIn_app (goodIn_r _ [16, 17, 18, 5] rfl (by decide +kernel)) ggX9_isAtHome_X9_isOut
set_option maxRecDepth 20000 in
theorem ggX9_isAtHome_X9_keeperOf : GoodIn wsX9_isAtHome wsX9_keeperOf := goodIn_r _ [23, 1, 24, 25, 26, 27, 28, 29, 30, 31, 32, 33, 34, 35, 36, 37, 38, 39, 40, 41, 42, 43, 44, 45, 46, 47, 48, 49, 50, 51, 52, 53, 54, 55, 56, 57, 58, 59, 60, 61, 62, 63, 64, 65, 66, 67, 68, 69, 70, 71, 72, 73, 74, 75, 76, 77, 78, 79, 80, 81, 82, 83, 84, 85, 86, 87, 88, 89, 90] rfl (by decide +kernel)
set_option maxRecDepth 20000 in
theorem gX9_isAtHome_X9_keeperOf : GoodIn wsX9_isAtHome (wsV RX9 392 RX9 yX9_keeperOf wsX9_keeperOf) := goodIn_app (goodIn_r _ [20, 21, 22, 5] rfl (by decide +kernel)) ggX9_isAtHome_X9_keeperOf
theorem dX9_isAtHome_0 : decode cX9_isAtHome 0 = .ok (.aload_n 0, 1) := by decide +kernel
theorem dX9_isAtHome_1 : decode cX9_isAtHome 1 = .ok (.iload_n 1, 1) := by decide +kernel
theorem dX9_isAtHome_2 : decode cX9_isAtHome 2 = .ok (.invokevirtual 386, 3) := by decide +kernel
theorem dX9_isAtHome_5 : decode cX9_isAtHome 5 = .ok (.ifCond .eq 30, 3) := by decide +kernel
theorem dX9_isAtHome_8 : decode cX9_isAtHome 8 = .ok (.aload_n 0, 1) := by decide +kernel
theorem dX9_isAtHome_9 : decode cX9_isAtHome 9 = .ok (.iload_n 1, 1) := by decide +kernel
theorem dX9_isAtHome_10 : decode cX9_isAtHome 10 = .ok (.invokevirtual 389, 3) := by decide +kernel
theorem dX9_isAtHome_13 : decode cX9_isAtHome 13 = .ok (.ifCond .ne 22, 3) := by decide +kernel
theorem dX9_isAtHome_16 : decode cX9_isAtHome 16 = .ok (.aload_n 0, 1) := by decide +kernel
theorem dX9_isAtHome_17 : decode cX9_isAtHome 17 = .ok (.aload_n 0, 1) := by decide +kernel
theorem dX9_isAtHome_18 : decode cX9_isAtHome 18 = .ok (.getfield 94, 3) := by decide +kernel
theorem dX9_isAtHome_21 : decode cX9_isAtHome 21 = .ok (.iconst 0, 1) := by decide +kernel
theorem dX9_isAtHome_22 : decode cX9_isAtHome 22 = .ok (.iload_n 1, 1) := by decide +kernel
theorem dX9_isAtHome_23 : decode cX9_isAtHome 23 = .ok (.iadd, 1) := by decide +kernel
theorem dX9_isAtHome_24 : decode cX9_isAtHome 24 = .ok (.iaload, 1) := by decide +kernel
theorem dX9_isAtHome_25 : decode cX9_isAtHome 25 = .ok (.invokevirtual 392, 3) := by decide +kernel
theorem dX9_isAtHome_28 : decode cX9_isAtHome 28 = .ok (.ifCond .lt 7, 3) := by decide +kernel
theorem dX9_isAtHome_31 : decode cX9_isAtHome 31 = .ok (.iconst 1, 1) := by decide +kernel
theorem dX9_isAtHome_32 : decode cX9_isAtHome 32 = .ok (.goto 4, 3) := by decide +kernel
theorem dX9_isAtHome_35 : decode cX9_isAtHome 35 = .ok (.iconst 0, 1) := by decide +kernel
theorem dX9_isAtHome_36 : decode cX9_isAtHome 36 = .ok (.ireturn, 1) := by decide +kernel
set_option maxRecDepth 20000 in
theorem ggX9_startAnew_X9_layTold : GoodIn wsX9_startAnew wsX9_layTold := goodIn_r _ [10, 11, 12, 13, 14, 15, 16, 17, 18, 19, 20, 9, 21, 22, 23, 24, 25, 26, 27, 28, 29, 30, 31, 32, 33, 34, 35, 36, 37, 38, 39, 40, 41, 42, 43, 44, 45, 46, 47, 48, 49, 50, 51, 52, 53, 54, 55, 56, 57, 58, 59, 60, 61, 62, 63, 64, 65, 66, 67, 68, 69, 70, 71, 72, 73, 74, 75, 76, 77, 78, 79, 80, 81, 82, 83, 84, 85, 86, 87, 88, 89, 90, 91, 92, 93, 94, 95, 96, 97, 98, 99] rfl (by decide +kernel)
set_option maxRecDepth 20000 in
theorem gX9_startAnew_X9_layTold : GoodIn wsX9_startAnew (wsV RX9 395 RX9 yX9_layTold wsX9_layTold) := goodIn_app (goodIn_r _ [6, 7, 8, 9] rfl (by decide +kernel)) ggX9_startAnew_X9_layTold
theorem dX9_startAnew_0 : decode cX9_startAnew 0 = .ok (.aload_n 0, 1) := by decide +kernel
theorem dX9_startAnew_1 : decode cX9_startAnew 1 = .ok (.invokevirtual 395, 3) := by decide +kernel
theorem dX9_startAnew_4 : decode cX9_startAnew 4 = .ok (.aload_n 0, 1) := by decide +kernel
theorem dX9_startAnew_5 : decode cX9_startAnew 5 = .ok (.iconst 0, 1) := by decide +kernel
theorem dX9_startAnew_6 : decode cX9_startAnew 6 = .ok (.putfield 398, 3) := by decide +kernel
theorem dX9_startAnew_9 : decode cX9_startAnew 9 = .ok (.aload_n 0, 1) := by decide +kernel
theorem dX9_startAnew_10 : decode cX9_startAnew 10 = .ok (.iconst 0, 1) := by decide +kernel
theorem dX9_startAnew_11 : decode cX9_startAnew 11 = .ok (.putfield 401, 3) := by decide +kernel
theorem dX9_startAnew_14 : decode cX9_startAnew 14 = .ok (.aload_n 0, 1) := by decide +kernel
theorem dX9_startAnew_15 : decode cX9_startAnew 15 = .ok (.iconst 0, 1) := by decide +kernel
theorem dX9_startAnew_16 : decode cX9_startAnew 16 = .ok (.putfield 404, 3) := by decide +kernel
theorem dX9_startAnew_19 : decode cX9_startAnew 19 = .ok (.aload_n 0, 1) := by decide +kernel
theorem dX9_startAnew_20 : decode cX9_startAnew 20 = .ok (.iconst 0, 1) := by decide +kernel
theorem dX9_startAnew_21 : decode cX9_startAnew 21 = .ok (.putfield 407, 3) := by decide +kernel
theorem dX9_startAnew_24 : decode cX9_startAnew 24 = .ok (.iconst 0, 1) := by decide +kernel
theorem dX9_startAnew_25 : decode cX9_startAnew 25 = .ok (.istore_n 1, 1) := by decide +kernel
theorem dX9_startAnew_26 : decode cX9_startAnew 26 = .ok (.iload_n 1, 1) := by decide +kernel
theorem dX9_startAnew_27 : decode cX9_startAnew 27 = .ok (.iconst 3, 1) := by decide +kernel
theorem dX9_startAnew_28 : decode cX9_startAnew 28 = .ok (.if_icmp .ge 16, 3) := by decide +kernel
theorem dX9_startAnew_31 : decode cX9_startAnew 31 = .ok (.aload_n 0, 1) := by decide +kernel
theorem dX9_startAnew_32 : decode cX9_startAnew 32 = .ok (.getfield 142, 3) := by decide +kernel
theorem dX9_startAnew_35 : decode cX9_startAnew 35 = .ok (.iload_n 1, 1) := by decide +kernel
theorem dX9_startAnew_36 : decode cX9_startAnew 36 = .ok (.iconst 0, 1) := by decide +kernel
theorem dX9_startAnew_37 : decode cX9_startAnew 37 = .ok (.bastore, 1) := by decide +kernel
theorem dX9_startAnew_38 : decode cX9_startAnew 38 = .ok (.iinc 1 1, 3) := by decide +kernel
theorem dX9_startAnew_41 : decode cX9_startAnew 41 = .ok (.goto (-15), 3) := by decide +kernel
theorem dX9_startAnew_44 : decode cX9_startAnew 44 = .ok (.return_, 1) := by decide +kernel
set_option maxRecDepth 20000 in
theorem ggX9_layTold_X9_many : GoodIn wsX9_layTold wsX9_many := goodIn_r _ [12, 13, 3, 24, 25, 26, 27, 28, 29, 30, 31, 32, 33, 34, 35, 36, 37, 38, 39, 40, 41, 42, 43, 44, 45, 46, 47, 48, 49, 50, 51, 52, 53, 54, 55, 56, 57, 58, 59, 60, 61, 62, 63, 64, 65, 66, 67, 68, 69, 70, 71, 72, 73, 74, 75, 76, 77, 78, 79, 80, 81, 82, 83, 84, 85, 86, 87, 88, 89, 90] rfl (by decide +kernel)
set_option maxRecDepth 20000 in
theorem gX9_layTold_X9_many : GoodIn wsX9_layTold (wsV RX9 373 RX9 yX9_many wsX9_many) := goodIn_app (goodIn_r _ [8, 9, 10, 11] rfl (by decide +kernel)) ggX9_layTold_X9_many
set_option maxRecDepth 20000 in
theorem ggX9_layTold_X9_chambers : GoodIn wsX9_layTold wsX9_chambers := goodIn_r _ [17, 18, 3, 24, 25, 26, 27, 28, 29, 30, 31, 32, 33, 34, 35, 36, 37, 38, 39, 40, 41, 42, 43, 44, 45, 46, 47, 48, 49, 50, 51, 52, 53, 54, 55, 56, 57, 58, 59, 60, 61, 62, 63, 64, 65, 66, 67, 68, 69, 70, 71, 72, 73, 74, 75, 76, 77, 78, 79, 80, 81, 82, 83, 84, 85, 86, 87, 88, 89, 90] rfl (by decide +kernel)
set_option maxRecDepth 20000 in
theorem gX9_layTold_X9_chambers : GoodIn wsX9_layTold (wsV RX9 383 RX9 yX9_chambers wsX9_chambers) := goodIn_app (goodIn_r _ [14, 15, 16, 11] rfl (by decide +kernel)) ggX9_layTold_X9_chambers
set_option maxRecDepth 20000 in
theorem ggX9_layTold_X9_cattery : GoodIn wsX9_layTold wsX9_cattery := goodIn_r _ [22, 23, 3, 24, 25, 26, 27, 28, 29, 30, 31, 32, 33, 34, 35, 36, 37, 38, 39, 40, 41, 42, 43, 44, 45, 46, 47, 48, 49, 50, 51, 52, 53, 54, 55, 56, 57, 58, 59, 60, 61, 62, 63, 64, 65, 66, 67, 68, 69, 70, 71, 72, 73, 74, 75, 76, 77, 78, 79, 80, 81, 82, 83, 84, 85, 86, 87, 88, 89, 90] rfl (by decide +kernel)
set_option maxRecDepth 20000 in
theorem gX9_layTold_X9_cattery : GoodIn wsX9_layTold (wsV RX9 380 RX9 yX9_cattery wsX9_cattery) := goodIn_app (goodIn_r _ [19, 20, 21, 11] rfl (by decide +kernel)) ggX9_layTold_X9_cattery
theorem dX9_layTold_0 : decode cX9_layTold 0 = .ok (.iconst 0, 1) := by decide +kernel
theorem dX9_layTold_1 : decode cX9_layTold 1 = .ok (.istore_n 1, 1) := by decide +kernel
theorem dX9_layTold_2 : decode cX9_layTold 2 = .ok (.iload_n 1, 1) := by decide +kernel
theorem dX9_layTold_3 : decode cX9_layTold 3 = .ok (.bipush 39, 2) := by decide +kernel
theorem dX9_layTold_5 : decode cX9_layTold 5 = .ok (.if_icmp .ge 16, 3) := by decide +kernel
theorem dX9_layTold_8 : decode cX9_layTold 8 = .ok (.aload_n 0, 1) := by decide +kernel
theorem dX9_layTold_9 : decode cX9_layTold 9 = .ok (.getfield 94, 3) := by decide +kernel
theorem dX9_layTold_12 : decode cX9_layTold 12 = .ok (.iload_n 1, 1) := by decide +kernel
theorem dX9_layTold_13 : decode cX9_layTold 13 = .ok (.iconst 0, 1) := by decide +kernel
theorem dX9_layTold_14 : decode cX9_layTold 14 = .ok (.iastore, 1) := by decide +kernel
theorem dX9_layTold_15 : decode cX9_layTold 15 = .ok (.iinc 1 1, 3) := by decide +kernel
theorem dX9_layTold_18 : decode cX9_layTold 18 = .ok (.goto (-16), 3) := by decide +kernel
theorem dX9_layTold_21 : decode cX9_layTold 21 = .ok (.iconst 0, 1) := by decide +kernel
theorem dX9_layTold_22 : decode cX9_layTold 22 = .ok (.istore_n 1, 1) := by decide +kernel
theorem dX9_layTold_23 : decode cX9_layTold 23 = .ok (.iload_n 1, 1) := by decide +kernel
theorem dX9_layTold_24 : decode cX9_layTold 24 = .ok (.bipush 7, 2) := by decide +kernel
theorem dX9_layTold_26 : decode cX9_layTold 26 = .ok (.if_icmp .ge 115, 3) := by decide +kernel
theorem dX9_layTold_29 : decode cX9_layTold 29 = .ok (.iload_n 1, 1) := by decide +kernel
theorem dX9_layTold_30 : decode cX9_layTold 30 = .ok (.aload_n 0, 1) := by decide +kernel
theorem dX9_layTold_31 : decode cX9_layTold 31 = .ok (.invokevirtual 373, 3) := by decide +kernel
theorem dX9_layTold_34 : decode cX9_layTold 34 = .ok (.if_icmp .ge 7, 3) := by decide +kernel
theorem dX9_layTold_37 : decode cX9_layTold 37 = .ok (.iconst 1, 1) := by decide +kernel
theorem dX9_layTold_38 : decode cX9_layTold 38 = .ok (.goto 4, 3) := by decide +kernel
theorem dX9_layTold_41 : decode cX9_layTold 41 = .ok (.iconst 0, 1) := by decide +kernel
theorem dX9_layTold_42 : decode cX9_layTold 42 = .ok (.istore_n 2, 1) := by decide +kernel
theorem dX9_layTold_43 : decode cX9_layTold 43 = .ok (.aload_n 0, 1) := by decide +kernel
theorem dX9_layTold_44 : decode cX9_layTold 44 = .ok (.getfield 94, 3) := by decide +kernel
theorem dX9_layTold_47 : decode cX9_layTold 47 = .ok (.iconst 0, 1) := by decide +kernel
theorem dX9_layTold_48 : decode cX9_layTold 48 = .ok (.iload_n 1, 1) := by decide +kernel
theorem dX9_layTold_49 : decode cX9_layTold 49 = .ok (.iadd, 1) := by decide +kernel
theorem dX9_layTold_50 : decode cX9_layTold 50 = .ok (.iload_n 2, 1) := by decide +kernel
theorem dX9_layTold_51 : decode cX9_layTold 51 = .ok (.ifCond .eq 20, 3) := by decide +kernel
theorem dX9_layTold_54 : decode cX9_layTold 54 = .ok (.aload_n 0, 1) := by decide +kernel
theorem dX9_layTold_55 : decode cX9_layTold 55 = .ok (.getfield 60, 3) := by decide +kernel
theorem dX9_layTold_58 : decode cX9_layTold 58 = .ok (.bipush 7, 2) := by decide +kernel
theorem dX9_layTold_60 : decode cX9_layTold 60 = .ok (.aload_n 0, 1) := by decide +kernel
theorem dX9_layTold_61 : decode cX9_layTold 61 = .ok (.getfield 268, 3) := by decide +kernel
theorem dX9_layTold_64 : decode cX9_layTold 64 = .ok (.imul, 1) := by decide +kernel
theorem dX9_layTold_65 : decode cX9_layTold 65 = .ok (.iload_n 1, 1) := by decide +kernel
theorem dX9_layTold_66 : decode cX9_layTold 66 = .ok (.iadd, 1) := by decide +kernel
theorem dX9_layTold_67 : decode cX9_layTold 67 = .ok (.iaload, 1) := by decide +kernel
theorem dX9_layTold_68 : decode cX9_layTold 68 = .ok (.goto 4, 3) := by decide +kernel
theorem dX9_layTold_71 : decode cX9_layTold 71 = .ok (.iconst (-1), 1) := by decide +kernel
theorem dX9_layTold_72 : decode cX9_layTold 72 = .ok (.iastore, 1) := by decide +kernel
theorem dX9_layTold_73 : decode cX9_layTold 73 = .ok (.aload_n 0, 1) := by decide +kernel
theorem dX9_layTold_74 : decode cX9_layTold 74 = .ok (.getfield 94, 3) := by decide +kernel
theorem dX9_layTold_77 : decode cX9_layTold 77 = .ok (.bipush 22, 2) := by decide +kernel
theorem dX9_layTold_79 : decode cX9_layTold 79 = .ok (.iload_n 1, 1) := by decide +kernel
theorem dX9_layTold_80 : decode cX9_layTold 80 = .ok (.iadd, 1) := by decide +kernel
theorem dX9_layTold_81 : decode cX9_layTold 81 = .ok (.iload_n 2, 1) := by decide +kernel
theorem dX9_layTold_82 : decode cX9_layTold 82 = .ok (.ifCond .eq 20, 3) := by decide +kernel
theorem dX9_layTold_85 : decode cX9_layTold 85 = .ok (.aload_n 0, 1) := by decide +kernel
theorem dX9_layTold_86 : decode cX9_layTold 86 = .ok (.getfield 51, 3) := by decide +kernel
theorem dX9_layTold_89 : decode cX9_layTold 89 = .ok (.bipush 7, 2) := by decide +kernel
theorem dX9_layTold_91 : decode cX9_layTold 91 = .ok (.aload_n 0, 1) := by decide +kernel
theorem dX9_layTold_92 : decode cX9_layTold 92 = .ok (.getfield 268, 3) := by decide +kernel
theorem dX9_layTold_95 : decode cX9_layTold 95 = .ok (.imul, 1) := by decide +kernel
theorem dX9_layTold_96 : decode cX9_layTold 96 = .ok (.iload_n 1, 1) := by decide +kernel
theorem dX9_layTold_97 : decode cX9_layTold 97 = .ok (.iadd, 1) := by decide +kernel
theorem dX9_layTold_98 : decode cX9_layTold 98 = .ok (.iaload, 1) := by decide +kernel
theorem dX9_layTold_99 : decode cX9_layTold 99 = .ok (.goto 4, 3) := by decide +kernel
theorem dX9_layTold_102 : decode cX9_layTold 102 = .ok (.iconst 0, 1) := by decide +kernel
theorem dX9_layTold_103 : decode cX9_layTold 103 = .ok (.iastore, 1) := by decide +kernel
theorem dX9_layTold_104 : decode cX9_layTold 104 = .ok (.aload_n 0, 1) := by decide +kernel
theorem dX9_layTold_105 : decode cX9_layTold 105 = .ok (.getfield 94, 3) := by decide +kernel
theorem dX9_layTold_108 : decode cX9_layTold 108 = .ok (.bipush 29, 2) := by decide +kernel
theorem dX9_layTold_110 : decode cX9_layTold 110 = .ok (.iload_n 1, 1) := by decide +kernel
theorem dX9_layTold_111 : decode cX9_layTold 111 = .ok (.iadd, 1) := by decide +kernel
theorem dX9_layTold_112 : decode cX9_layTold 112 = .ok (.iload_n 2, 1) := by decide +kernel
theorem dX9_layTold_113 : decode cX9_layTold 113 = .ok (.ifCond .eq 20, 3) := by decide +kernel
theorem dX9_layTold_116 : decode cX9_layTold 116 = .ok (.aload_n 0, 1) := by decide +kernel
theorem dX9_layTold_117 : decode cX9_layTold 117 = .ok (.getfield 57, 3) := by decide +kernel
theorem dX9_layTold_120 : decode cX9_layTold 120 = .ok (.bipush 7, 2) := by decide +kernel
theorem dX9_layTold_122 : decode cX9_layTold 122 = .ok (.aload_n 0, 1) := by decide +kernel
theorem dX9_layTold_123 : decode cX9_layTold 123 = .ok (.getfield 268, 3) := by decide +kernel
theorem dX9_layTold_126 : decode cX9_layTold 126 = .ok (.imul, 1) := by decide +kernel
theorem dX9_layTold_127 : decode cX9_layTold 127 = .ok (.iload_n 1, 1) := by decide +kernel
theorem dX9_layTold_128 : decode cX9_layTold 128 = .ok (.iadd, 1) := by decide +kernel
theorem dX9_layTold_129 : decode cX9_layTold 129 = .ok (.iaload, 1) := by decide +kernel
theorem dX9_layTold_130 : decode cX9_layTold 130 = .ok (.goto 4, 3) := by decide +kernel
theorem dX9_layTold_133 : decode cX9_layTold 133 = .ok (.iconst 0, 1) := by decide +kernel
theorem dX9_layTold_134 : decode cX9_layTold 134 = .ok (.iastore, 1) := by decide +kernel
theorem dX9_layTold_135 : decode cX9_layTold 135 = .ok (.iinc 1 1, 3) := by decide +kernel
theorem dX9_layTold_138 : decode cX9_layTold 138 = .ok (.goto (-115), 3) := by decide +kernel
theorem dX9_layTold_141 : decode cX9_layTold 141 = .ok (.iconst 0, 1) := by decide +kernel
theorem dX9_layTold_142 : decode cX9_layTold 142 = .ok (.istore_n 1, 1) := by decide +kernel
theorem dX9_layTold_143 : decode cX9_layTold 143 = .ok (.iload_n 1, 1) := by decide +kernel
theorem dX9_layTold_144 : decode cX9_layTold 144 = .ok (.bipush 8, 2) := by decide +kernel
theorem dX9_layTold_146 : decode cX9_layTold 146 = .ok (.if_icmp .ge 44, 3) := by decide +kernel
theorem dX9_layTold_149 : decode cX9_layTold 149 = .ok (.aload_n 0, 1) := by decide +kernel
theorem dX9_layTold_150 : decode cX9_layTold 150 = .ok (.getfield 94, 3) := by decide +kernel
theorem dX9_layTold_153 : decode cX9_layTold 153 = .ok (.bipush 14, 2) := by decide +kernel
theorem dX9_layTold_155 : decode cX9_layTold 155 = .ok (.iload_n 1, 1) := by decide +kernel
theorem dX9_layTold_156 : decode cX9_layTold 156 = .ok (.iadd, 1) := by decide +kernel
theorem dX9_layTold_157 : decode cX9_layTold 157 = .ok (.iload_n 1, 1) := by decide +kernel
theorem dX9_layTold_158 : decode cX9_layTold 158 = .ok (.aload_n 0, 1) := by decide +kernel
theorem dX9_layTold_159 : decode cX9_layTold 159 = .ok (.invokevirtual 383, 3) := by decide +kernel
theorem dX9_layTold_162 : decode cX9_layTold 162 = .ok (.if_icmp .ge 20, 3) := by decide +kernel
theorem dX9_layTold_165 : decode cX9_layTold 165 = .ok (.aload_n 0, 1) := by decide +kernel
theorem dX9_layTold_166 : decode cX9_layTold 166 = .ok (.getfield 48, 3) := by decide +kernel
theorem dX9_layTold_169 : decode cX9_layTold 169 = .ok (.bipush 8, 2) := by decide +kernel
theorem dX9_layTold_171 : decode cX9_layTold 171 = .ok (.aload_n 0, 1) := by decide +kernel
theorem dX9_layTold_172 : decode cX9_layTold 172 = .ok (.getfield 268, 3) := by decide +kernel
theorem dX9_layTold_175 : decode cX9_layTold 175 = .ok (.imul, 1) := by decide +kernel
theorem dX9_layTold_176 : decode cX9_layTold 176 = .ok (.iload_n 1, 1) := by decide +kernel
theorem dX9_layTold_177 : decode cX9_layTold 177 = .ok (.iadd, 1) := by decide +kernel
theorem dX9_layTold_178 : decode cX9_layTold 178 = .ok (.iaload, 1) := by decide +kernel
theorem dX9_layTold_179 : decode cX9_layTold 179 = .ok (.goto 4, 3) := by decide +kernel
theorem dX9_layTold_182 : decode cX9_layTold 182 = .ok (.iconst (-1), 1) := by decide +kernel
theorem dX9_layTold_183 : decode cX9_layTold 183 = .ok (.iastore, 1) := by decide +kernel
theorem dX9_layTold_184 : decode cX9_layTold 184 = .ok (.iinc 1 1, 3) := by decide +kernel
theorem dX9_layTold_187 : decode cX9_layTold 187 = .ok (.goto (-44), 3) := by decide +kernel
theorem dX9_layTold_190 : decode cX9_layTold 190 = .ok (.aload_n 0, 1) := by decide +kernel
theorem dX9_layTold_191 : decode cX9_layTold 191 = .ok (.getfield 94, 3) := by decide +kernel
theorem dX9_layTold_194 : decode cX9_layTold 194 = .ok (.bipush 36, 2) := by decide +kernel
theorem dX9_layTold_196 : decode cX9_layTold 196 = .ok (.iconst 1, 1) := by decide +kernel
theorem dX9_layTold_197 : decode cX9_layTold 197 = .ok (.aload_n 0, 1) := by decide +kernel
theorem dX9_layTold_198 : decode cX9_layTold 198 = .ok (.invokevirtual 380, 3) := by decide +kernel
theorem dX9_layTold_201 : decode cX9_layTold 201 = .ok (.ishl, 1) := by decide +kernel
theorem dX9_layTold_202 : decode cX9_layTold 202 = .ok (.iconst 1, 1) := by decide +kernel
theorem dX9_layTold_203 : decode cX9_layTold 203 = .ok (.isub, 1) := by decide +kernel
theorem dX9_layTold_204 : decode cX9_layTold 204 = .ok (.iastore, 1) := by decide +kernel
theorem dX9_layTold_205 : decode cX9_layTold 205 = .ok (.aload_n 0, 1) := by decide +kernel
theorem dX9_layTold_206 : decode cX9_layTold 206 = .ok (.getfield 94, 3) := by decide +kernel
theorem dX9_layTold_209 : decode cX9_layTold 209 = .ok (.bipush 38, 2) := by decide +kernel
theorem dX9_layTold_211 : decode cX9_layTold 211 = .ok (.aload_n 0, 1) := by decide +kernel
theorem dX9_layTold_212 : decode cX9_layTold 212 = .ok (.getfield 36, 3) := by decide +kernel
theorem dX9_layTold_215 : decode cX9_layTold 215 = .ok (.aload_n 0, 1) := by decide +kernel
theorem dX9_layTold_216 : decode cX9_layTold 216 = .ok (.getfield 268, 3) := by decide +kernel
theorem dX9_layTold_219 : decode cX9_layTold 219 = .ok (.iaload, 1) := by decide +kernel
theorem dX9_layTold_220 : decode cX9_layTold 220 = .ok (.iastore, 1) := by decide +kernel
theorem dX9_layTold_221 : decode cX9_layTold 221 = .ok (.return_, 1) := by decide +kernel
set_option maxRecDepth 20000 in
theorem ggX9_whoIn_X9_many : GoodIn wsX9_whoIn wsX9_many := goodIn_r _ [6, 7, 8, 9, 10, 11, 12, 13, 14, 15, 16, 17, 18, 19, 20, 21, 22, 23, 24, 25, 26, 27, 28, 29, 30, 31, 32, 33, 34, 35, 36, 37, 38, 39, 40, 41, 42, 43, 44, 45, 46, 47, 48, 49, 50, 51, 52, 53, 54, 55, 56, 57, 58, 59, 60, 61, 62, 63, 64, 65, 66, 67, 68, 69, 70, 71, 72, 73, 74, 75] rfl (by decide +kernel)
set_option maxRecDepth 20000 in
theorem gX9_whoIn_X9_many : GoodIn wsX9_whoIn (wsV RX9 373 RX9 yX9_many wsX9_many) := goodIn_app (goodIn_r _ [2, 3, 4, 5] rfl (by decide +kernel)) ggX9_whoIn_X9_many
theorem dX9_whoIn_0 : decode cX9_whoIn 0 = .ok (.iconst 0, 1) := by decide +kernel
theorem dX9_whoIn_1 : decode cX9_whoIn 1 = .ok (.istore_n 2, 1) := by decide +kernel
theorem dX9_whoIn_2 : decode cX9_whoIn 2 = .ok (.iload_n 2, 1) := by decide +kernel
theorem dX9_whoIn_3 : decode cX9_whoIn 3 = .ok (.aload_n 0, 1) := by decide +kernel
theorem dX9_whoIn_4 : decode cX9_whoIn 4 = .ok (.invokevirtual 373, 3) := by decide +kernel
theorem dX9_whoIn_7 : decode cX9_whoIn 7 = .ok (.if_icmp .ge 23, 3) := by decide +kernel
theorem dX9_whoIn_10 : decode cX9_whoIn 10 = .ok (.aload_n 0, 1) := by decide +kernel
theorem dX9_whoIn_11 : decode cX9_whoIn 11 = .ok (.getfield 94, 3) := by decide +kernel
theorem dX9_whoIn_14 : decode cX9_whoIn 14 = .ok (.iconst 0, 1) := by decide +kernel
theorem dX9_whoIn_15 : decode cX9_whoIn 15 = .ok (.iload_n 2, 1) := by decide +kernel
theorem dX9_whoIn_16 : decode cX9_whoIn 16 = .ok (.iadd, 1) := by decide +kernel
theorem dX9_whoIn_17 : decode cX9_whoIn 17 = .ok (.iaload, 1) := by decide +kernel
theorem dX9_whoIn_18 : decode cX9_whoIn 18 = .ok (.iload_n 1, 1) := by decide +kernel
theorem dX9_whoIn_19 : decode cX9_whoIn 19 = .ok (.if_icmp .ne 5, 3) := by decide +kernel
theorem dX9_whoIn_22 : decode cX9_whoIn 22 = .ok (.iload_n 2, 1) := by decide +kernel
theorem dX9_whoIn_23 : decode cX9_whoIn 23 = .ok (.ireturn, 1) := by decide +kernel
theorem dX9_whoIn_24 : decode cX9_whoIn 24 = .ok (.iinc 2 1, 3) := by decide +kernel
theorem dX9_whoIn_27 : decode cX9_whoIn 27 = .ok (.goto (-25), 3) := by decide +kernel
theorem dX9_whoIn_30 : decode cX9_whoIn 30 = .ok (.iconst (-1), 1) := by decide +kernel
theorem dX9_whoIn_31 : decode cX9_whoIn 31 = .ok (.ireturn, 1) := by decide +kernel
set_option maxRecDepth 20000 in
theorem ggX9_roomsOf_X9_chambers : GoodIn wsX9_roomsOf wsX9_chambers := goodIn_r _ [5, 6, 7, 13, 14, 15, 16, 17, 18, 19, 20, 21, 22, 23, 24, 25, 26, 27, 28, 29, 30, 31, 32, 33, 34, 35, 36, 37, 38, 39, 40, 41, 42, 43, 44, 45, 46, 47, 48, 49, 50, 51, 52, 53, 54, 55, 56, 57, 58, 59, 60, 61, 62, 63, 64, 65, 66, 67, 68, 69, 70, 71, 72, 73, 74, 75, 76, 77, 78, 79] rfl (by decide +kernel)
set_option maxRecDepth 20000 in
theorem gX9_roomsOf_X9_chambers : GoodIn wsX9_roomsOf (wsV RX9 383 RX9 yX9_chambers wsX9_chambers) := goodIn_app (goodIn_r _ [1, 2, 3, 4] rfl (by decide +kernel)) ggX9_roomsOf_X9_chambers
set_option maxRecDepth 20000 in
theorem ggX9_roomsOf_X9_keeperOf : GoodIn wsX9_roomsOf wsX9_keeperOf := goodIn_r _ [11, 12, 13, 14, 15, 16, 17, 18, 19, 20, 21, 22, 23, 24, 25, 26, 27, 28, 29, 30, 31, 32, 33, 34, 35, 36, 37, 38, 39, 40, 41, 42, 43, 44, 45, 46, 47, 48, 49, 50, 51, 52, 53, 54, 55, 56, 57, 58, 59, 60, 61, 62, 63, 64, 65, 66, 67, 68, 69, 70, 71, 72, 73, 74, 75, 76, 77, 78, 79] rfl (by decide +kernel)
set_option maxRecDepth 20000 in
theorem gX9_roomsOf_X9_keeperOf : GoodIn wsX9_roomsOf (wsV RX9 392 RX9 yX9_keeperOf wsX9_keeperOf) := goodIn_app (goodIn_r _ [8, 9, 10, 4] rfl (by decide +kernel)) ggX9_roomsOf_X9_keeperOf
theorem dX9_roomsOf_0 : decode cX9_roomsOf 0 = .ok (.iconst 0, 1) := by decide +kernel
theorem dX9_roomsOf_1 : decode cX9_roomsOf 1 = .ok (.istore_n 2, 1) := by decide +kernel
theorem dX9_roomsOf_2 : decode cX9_roomsOf 2 = .ok (.iconst 0, 1) := by decide +kernel
theorem dX9_roomsOf_3 : decode cX9_roomsOf 3 = .ok (.istore_n 3, 1) := by decide +kernel
theorem dX9_roomsOf_4 : decode cX9_roomsOf 4 = .ok (.iload_n 3, 1) := by decide +kernel
theorem dX9_roomsOf_5 : decode cX9_roomsOf 5 = .ok (.aload_n 0, 1) := by decide +kernel
theorem dX9_roomsOf_6 : decode cX9_roomsOf 6 = .ok (.invokevirtual 383, 3) := by decide +kernel
theorem dX9_roomsOf_9 : decode cX9_roomsOf 9 = .ok (.if_icmp .ge 24, 3) := by decide +kernel
theorem dX9_roomsOf_12 : decode cX9_roomsOf 12 = .ok (.aload_n 0, 1) := by decide +kernel
theorem dX9_roomsOf_13 : decode cX9_roomsOf 13 = .ok (.iload_n 3, 1) := by decide +kernel
theorem dX9_roomsOf_14 : decode cX9_roomsOf 14 = .ok (.invokevirtual 392, 3) := by decide +kernel
theorem dX9_roomsOf_17 : decode cX9_roomsOf 17 = .ok (.iload_n 1, 1) := by decide +kernel
theorem dX9_roomsOf_18 : decode cX9_roomsOf 18 = .ok (.if_icmp .ne 9, 3) := by decide +kernel
theorem dX9_roomsOf_21 : decode cX9_roomsOf 21 = .ok (.iload_n 2, 1) := by decide +kernel
theorem dX9_roomsOf_22 : decode cX9_roomsOf 22 = .ok (.iconst 1, 1) := by decide +kernel
theorem dX9_roomsOf_23 : decode cX9_roomsOf 23 = .ok (.iload_n 3, 1) := by decide +kernel
theorem dX9_roomsOf_24 : decode cX9_roomsOf 24 = .ok (.ishl, 1) := by decide +kernel
theorem dX9_roomsOf_25 : decode cX9_roomsOf 25 = .ok (.ior, 1) := by decide +kernel
theorem dX9_roomsOf_26 : decode cX9_roomsOf 26 = .ok (.istore_n 2, 1) := by decide +kernel
theorem dX9_roomsOf_27 : decode cX9_roomsOf 27 = .ok (.iinc 3 1, 3) := by decide +kernel
theorem dX9_roomsOf_30 : decode cX9_roomsOf 30 = .ok (.goto (-26), 3) := by decide +kernel
theorem dX9_roomsOf_33 : decode cX9_roomsOf 33 = .ok (.iload_n 2, 1) := by decide +kernel
theorem dX9_roomsOf_34 : decode cX9_roomsOf 34 = .ok (.ireturn, 1) := by decide +kernel
set_option maxRecDepth 20000 in
theorem ggX9_thoseIn_X9_many : GoodIn wsX9_thoseIn wsX9_many := goodIn_r _ [6, 7, 8, 16, 17, 18, 19, 20, 21, 22, 23, 24, 25, 26, 27, 28, 29, 30, 31, 32, 33, 34, 35, 36, 37, 38, 39, 40, 41, 42, 43, 44, 45, 46, 47, 48, 49, 50, 51, 52, 53, 54, 55, 56, 57, 58, 59, 60, 61, 62, 63, 64, 65, 66, 67, 68, 69, 70, 71, 72, 73, 74, 75, 76, 77, 78, 79, 80, 81, 82] rfl (by decide +kernel)
set_option maxRecDepth 20000 in
theorem gX9_thoseIn_X9_many : GoodIn wsX9_thoseIn (wsV RX9 373 RX9 yX9_many wsX9_many) := goodIn_app (goodIn_r _ [2, 3, 4, 5] rfl (by decide +kernel)) ggX9_thoseIn_X9_many
set_option maxRecDepth 20000 in
theorem ggX9_thoseIn_X9_isOut : GoodIn wsX9_thoseIn wsX9_isOut := goodIn_r _ [12, 1, 16, 17, 18, 19, 20, 21, 22, 23, 24, 25, 26, 27, 28, 29, 30, 31, 32, 33, 34, 35, 36, 37, 38, 39, 40, 41, 42, 43, 44, 45, 46, 47, 48, 49, 50, 51, 52, 53, 54, 55, 56, 57, 58, 59, 60, 61, 62, 63, 64, 65, 66, 67, 68, 69, 70, 71, 72, 73, 74, 75, 76, 77, 78, 79, 80, 81, 82] rfl (by decide +kernel)
set_option maxRecDepth 20000 in
theorem gX9_thoseIn_X9_isOut : GoodIn wsX9_thoseIn (wsV RX9 389 RX9 yX9_isOut wsX9_isOut) := goodIn_app (goodIn_r _ [9, 10, 11, 5] rfl (by decide +kernel)) ggX9_thoseIn_X9_isOut
set_option maxRecDepth 20000 in
theorem ggX9_thoseIn_X9_bit : GoodIn wsX9_thoseIn wsX9_bit := goodIn_r _ [15] rfl (by decide +kernel)
set_option maxRecDepth 20000 in
theorem gX9_thoseIn_X9_bit : GoodIn wsX9_thoseIn (va_wsS RX9 274 yX9_bit wsX9_bit) := goodIn_app (goodIn_r _ [13, 14, 5] rfl (by decide +kernel)) ggX9_thoseIn_X9_bit
theorem dX9_thoseIn_0 : decode cX9_thoseIn 0 = .ok (.iconst 0, 1) := by decide +kernel
theorem dX9_thoseIn_1 : decode cX9_thoseIn 1 = .ok (.istore_n 2, 1) := by decide +kernel
theorem dX9_thoseIn_2 : decode cX9_thoseIn 2 = .ok (.iconst 0, 1) := by decide +kernel
theorem dX9_thoseIn_3 : decode cX9_thoseIn 3 = .ok (.istore_n 3, 1) := by decide +kernel
theorem dX9_thoseIn_4 : decode cX9_thoseIn 4 = .ok (.iload_n 3, 1) := by decide +kernel
theorem dX9_thoseIn_5 : decode cX9_thoseIn 5 = .ok (.aload_n 0, 1) := by decide +kernel
theorem dX9_thoseIn_6 : decode cX9_thoseIn 6 = .ok (.invokevirtual 373, 3) := by decide +kernel
theorem dX9_thoseIn_9 : decode cX9_thoseIn 9 = .ok (.if_icmp .ge 38, 3) := by decide +kernel
theorem dX9_thoseIn_12 : decode cX9_thoseIn 12 = .ok (.aload_n 0, 1) := by decide +kernel
theorem dX9_thoseIn_13 : decode cX9_thoseIn 13 = .ok (.iload_n 3, 1) := by decide +kernel
theorem dX9_thoseIn_14 : decode cX9_thoseIn 14 = .ok (.invokevirtual 389, 3) := by decide +kernel
theorem dX9_thoseIn_17 : decode cX9_thoseIn 17 = .ok (.ifCond .ne 24, 3) := by decide +kernel
theorem dX9_thoseIn_20 : decode cX9_thoseIn 20 = .ok (.iload_n 1, 1) := by decide +kernel
theorem dX9_thoseIn_21 : decode cX9_thoseIn 21 = .ok (.aload_n 0, 1) := by decide +kernel
theorem dX9_thoseIn_22 : decode cX9_thoseIn 22 = .ok (.getfield 94, 3) := by decide +kernel
theorem dX9_thoseIn_25 : decode cX9_thoseIn 25 = .ok (.iconst 0, 1) := by decide +kernel
theorem dX9_thoseIn_26 : decode cX9_thoseIn 26 = .ok (.iload_n 3, 1) := by decide +kernel
theorem dX9_thoseIn_27 : decode cX9_thoseIn 27 = .ok (.iadd, 1) := by decide +kernel
theorem dX9_thoseIn_28 : decode cX9_thoseIn 28 = .ok (.iaload, 1) := by decide +kernel
theorem dX9_thoseIn_29 : decode cX9_thoseIn 29 = .ok (.invokestatic 274, 3) := by decide +kernel
theorem dX9_thoseIn_32 : decode cX9_thoseIn 32 = .ok (.ifCond .eq 9, 3) := by decide +kernel
theorem dX9_thoseIn_35 : decode cX9_thoseIn 35 = .ok (.iload_n 2, 1) := by decide +kernel
theorem dX9_thoseIn_36 : decode cX9_thoseIn 36 = .ok (.iconst 1, 1) := by decide +kernel
theorem dX9_thoseIn_37 : decode cX9_thoseIn 37 = .ok (.iload_n 3, 1) := by decide +kernel
