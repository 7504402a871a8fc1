theorem dX8_outCount_28 : decode cX8_outCount 28 = .ok (.iload_n 2, 1) := by decide +kernel
theorem dX8_outCount_29 : decode cX8_outCount 29 = .ok (.if_icmp .gt 6, 3) := by decide +kernel
theorem dX8_outCount_32 : decode cX8_outCount 32 = .ok (.iinc 3 1, 3) := by decide +kernel
theorem dX8_outCount_35 : decode cX8_outCount 35 = .ok (.iinc 4 1, 3) := by decide +kernel
theorem dX8_outCount_38 : decode cX8_outCount 38 = .ok (.goto (-33), 3) := by decide +kernel
theorem dX8_outCount_41 : decode cX8_outCount 41 = .ok (.iload_n 3, 1) := by decide +kernel
theorem dX8_outCount_42 : decode cX8_outCount 42 = .ok (.ireturn, 1) := by decide +kernel
set_option maxRecDepth 20000 in
theorem ggX8_timeIn_X0_current : GoodIn wsX8_timeIn wsX0_current := goodIn_r _ [12, 13, 14, 101, 102, 103, 104] rfl (by decide +kernel)
set_option maxRecDepth 20000 in
theorem gX8_timeIn_X0_current : GoodIn wsX8_timeIn (wsV RX8 115 RX0 yX0_current wsX0_current) := goodIn_app (goodIn_r _ [8, 9, 10, 11] rfl (by decide +kernel)) ggX8_timeIn_X0_current
set_option maxRecDepth 20000 in
theorem ggX8_timeIn_X4_whoIsIn : GoodIn wsX8_timeIn wsX4_whoIsIn := goodIn_r _ [19, 20, 21, 105, 106, 107, 108, 109, 110, 111, 112, 113, 114, 115, 116, 117, 118, 119, 120, 121, 122, 123] rfl (by decide +kernel)
set_option maxRecDepth 20000 in
theorem gX8_timeIn_X4_whoIsIn : GoodIn wsX8_timeIn (wsV RX8 141 RX4 yX4_whoIsIn wsX4_whoIsIn) := goodIn_app (goodIn_r _ [15, 16, 17, 18] rfl (by decide +kernel)) ggX8_timeIn_X4_whoIsIn
set_option maxRecDepth 20000 in
theorem ggX8_timeIn_X7_copyOf : GoodIn wsX8_timeIn wsX7_copyOf := goodIn_r _ [26, 27, 28, 29, 30, 31, 32, 33, 34, 35, 36, 37, 38, 116, 117, 118, 119, 120, 121, 122, 123] rfl (by decide +kernel)
set_option maxRecDepth 20000 in
theorem gX8_timeIn_X7_copyOf : GoodIn wsX8_timeIn (wsV RX8 210 RX7 yX7_copyOf wsX7_copyOf) := goodIn_app (goodIn_r _ [22, 23, 24, 25] rfl (by decide +kernel)) ggX8_timeIn_X7_copyOf
set_option maxRecDepth 20000 in
theorem ggX8_timeIn_X7_place : GoodIn wsX8_timeIn wsX7_place := goodIn_r _ [42, 32, 33, 116, 117, 118, 119, 120, 121, 122, 123] rfl (by decide +kernel)
set_option maxRecDepth 20000 in
theorem gX8_timeIn_X7_place : GoodIn wsX8_timeIn (wsV RX8 186 RX7 yX7_place wsX7_place) := goodIn_app (goodIn_r _ [39, 40, 41, 25] rfl (by decide +kernel)) ggX8_timeIn_X7_place
set_option maxRecDepth 20000 in
theorem ggX8_timeIn_X4_outBehind : GoodIn wsX8_timeIn wsX4_outBehind := goodIn_r _ [46, 21, 47, 48, 49, 18, 50, 20, 51, 52, 53, 54, 55, 56, 57, 58, 59, 60, 61, 25, 62, 27, 63, 64, 65, 66, 67, 68, 69, 70, 71, 5, 6, 7, 72, 73, 74, 75, 76, 77, 78, 79, 80, 81, 82, 83, 84, 85, 86, 116, 117, 118, 119, 120, 121, 122, 123, 105, 106, 107, 108, 109, 110, 111, 112, 113, 114, 115, 124, 125, 126] rfl (by decide +kernel)
set_option maxRecDepth 20000 in
theorem gX8_timeIn_X4_outBehind : GoodIn wsX8_timeIn (wsV RX8 207 RX4 yX4_outBehind wsX4_outBehind) := goodIn_app (goodIn_r _ [43, 44, 45, 18] rfl (by decide +kernel)) ggX8_timeIn_X4_outBehind
theorem dX8_timeIn_0 : decode cX8_timeIn 0 = .ok (.aload_n 0, 1) := by decide +kernel
theorem dX8_timeIn_1 : decode cX8_timeIn 1 = .ok (.getfield 34, 3) := by decide +kernel
theorem dX8_timeIn_4 : decode cX8_timeIn 4 = .ok (.invokevirtual 115, 3) := by decide +kernel
theorem dX8_timeIn_7 : decode cX8_timeIn 7 = .ok (.astore_n 3, 1) := by decide +kernel
theorem dX8_timeIn_8 : decode cX8_timeIn 8 = .ok (.aload_n 0, 1) := by decide +kernel
theorem dX8_timeIn_9 : decode cX8_timeIn 9 = .ok (.getfield 27, 3) := by decide +kernel
theorem dX8_timeIn_12 : decode cX8_timeIn 12 = .ok (.aload_n 3, 1) := by decide +kernel
theorem dX8_timeIn_13 : decode cX8_timeIn 13 = .ok (.iload_n 2, 1) := by decide +kernel
theorem dX8_timeIn_14 : decode cX8_timeIn 14 = .ok (.invokevirtual 141, 3) := by decide +kernel
theorem dX8_timeIn_17 : decode cX8_timeIn 17 = .ok (.istore 4, 2) := by decide +kernel
theorem dX8_timeIn_19 : decode cX8_timeIn 19 = .ok (.iload 4, 2) := by decide +kernel
theorem dX8_timeIn_21 : decode cX8_timeIn 21 = .ok (.iconst (-1), 1) := by decide +kernel
theorem dX8_timeIn_22 : decode cX8_timeIn 22 = .ok (.if_icmp .eq 11, 3) := by decide +kernel
theorem dX8_timeIn_25 : decode cX8_timeIn 25 = .ok (.iload 4, 2) := by decide +kernel
theorem dX8_timeIn_27 : decode cX8_timeIn 27 = .ok (.iload_n 1, 1) := by decide +kernel
theorem dX8_timeIn_28 : decode cX8_timeIn 28 = .ok (.if_icmp .eq 5, 3) := by decide +kernel
theorem dX8_timeIn_31 : decode cX8_timeIn 31 = .ok (.iconst (-1), 1) := by decide +kernel
theorem dX8_timeIn_32 : decode cX8_timeIn 32 = .ok (.ireturn, 1) := by decide +kernel
theorem dX8_timeIn_33 : decode cX8_timeIn 33 = .ok (.aload_n 0, 1) := by decide +kernel
theorem dX8_timeIn_34 : decode cX8_timeIn 34 = .ok (.getfield 41, 3) := by decide +kernel
theorem dX8_timeIn_37 : decode cX8_timeIn 37 = .ok (.aload_n 3, 1) := by decide +kernel
theorem dX8_timeIn_38 : decode cX8_timeIn 38 = .ok (.invokevirtual 210, 3) := by decide +kernel
theorem dX8_timeIn_41 : decode cX8_timeIn 41 = .ok (.iload 4, 2) := by decide +kernel
theorem dX8_timeIn_43 : decode cX8_timeIn 43 = .ok (.iconst (-1), 1) := by decide +kernel
theorem dX8_timeIn_44 : decode cX8_timeIn 44 = .ok (.if_icmp .ne 12, 3) := by decide +kernel
theorem dX8_timeIn_47 : decode cX8_timeIn 47 = .ok (.aload_n 0, 1) := by decide +kernel
theorem dX8_timeIn_48 : decode cX8_timeIn 48 = .ok (.getfield 41, 3) := by decide +kernel
theorem dX8_timeIn_51 : decode cX8_timeIn 51 = .ok (.iload_n 1, 1) := by decide +kernel
theorem dX8_timeIn_52 : decode cX8_timeIn 52 = .ok (.iload_n 2, 1) := by decide +kernel
theorem dX8_timeIn_53 : decode cX8_timeIn 53 = .ok (.invokevirtual 186, 3) := by decide +kernel
theorem dX8_timeIn_56 : decode cX8_timeIn 56 = .ok (.bipush 99, 2) := by decide +kernel
theorem dX8_timeIn_58 : decode cX8_timeIn 58 = .ok (.aload_n 0, 1) := by decide +kernel
theorem dX8_timeIn_59 : decode cX8_timeIn 59 = .ok (.getfield 27, 3) := by decide +kernel
theorem dX8_timeIn_62 : decode cX8_timeIn 62 = .ok (.aload_n 0, 1) := by decide +kernel
theorem dX8_timeIn_63 : decode cX8_timeIn 63 = .ok (.getfield 41, 3) := by decide +kernel
theorem dX8_timeIn_66 : decode cX8_timeIn 66 = .ok (.iload_n 1, 1) := by decide +kernel
theorem dX8_timeIn_67 : decode cX8_timeIn 67 = .ok (.bipush 99, 2) := by decide +kernel
theorem dX8_timeIn_69 : decode cX8_timeIn 69 = .ok (.invokevirtual 207, 3) := by decide +kernel
theorem dX8_timeIn_72 : decode cX8_timeIn 72 = .ok (.invokestatic 246, 3) := by decide +kernel
theorem dX8_timeIn_75 : decode cX8_timeIn 75 = .ok (.ireturn, 1) := by decide +kernel
theorem dX8_commonDivisor_0 : decode cX8_commonDivisor 0 = .ok (.iload_n 0, 1) := by decide +kernel
theorem dX8_commonDivisor_1 : decode cX8_commonDivisor 1 = .ok (.istore_n 2, 1) := by decide +kernel
theorem dX8_commonDivisor_2 : decode cX8_commonDivisor 2 = .ok (.iload_n 1, 1) := by decide +kernel
theorem dX8_commonDivisor_3 : decode cX8_commonDivisor 3 = .ok (.istore_n 3, 1) := by decide +kernel
theorem dX8_commonDivisor_4 : decode cX8_commonDivisor 4 = .ok (.iconst 0, 1) := by decide +kernel
theorem dX8_commonDivisor_5 : decode cX8_commonDivisor 5 = .ok (.istore 4, 2) := by decide +kernel
theorem dX8_commonDivisor_7 : decode cX8_commonDivisor 7 = .ok (.iload 4, 2) := by decide +kernel
theorem dX8_commonDivisor_9 : decode cX8_commonDivisor 9 = .ok (.bipush 64, 2) := by decide +kernel
theorem dX8_commonDivisor_11 : decode cX8_commonDivisor 11 = .ok (.if_icmp .ge 23, 3) := by decide +kernel
theorem dX8_commonDivisor_14 : decode cX8_commonDivisor 14 = .ok (.iload_n 3, 1) := by decide +kernel
theorem dX8_commonDivisor_15 : decode cX8_commonDivisor 15 = .ok (.ifCond .eq 19, 3) := by decide +kernel
theorem dX8_commonDivisor_18 : decode cX8_commonDivisor 18 = .ok (.iload_n 2, 1) := by decide +kernel
theorem dX8_commonDivisor_19 : decode cX8_commonDivisor 19 = .ok (.iload_n 3, 1) := by decide +kernel
theorem dX8_commonDivisor_20 : decode cX8_commonDivisor 20 = .ok (.irem, 1) := by decide +kernel
theorem dX8_commonDivisor_21 : decode cX8_commonDivisor 21 = .ok (.istore 5, 2) := by decide +kernel
theorem dX8_commonDivisor_23 : decode cX8_commonDivisor 23 = .ok (.iload_n 3, 1) := by decide +kernel
theorem dX8_commonDivisor_24 : decode cX8_commonDivisor 24 = .ok (.istore_n 2, 1) := by decide +kernel
theorem dX8_commonDivisor_25 : decode cX8_commonDivisor 25 = .ok (.iload 5, 2) := by decide +kernel
theorem dX8_commonDivisor_27 : decode cX8_commonDivisor 27 = .ok (.istore_n 3, 1) := by decide +kernel
theorem dX8_commonDivisor_28 : decode cX8_commonDivisor 28 = .ok (.iinc 4 1, 3) := by decide +kernel
theorem dX8_commonDivisor_31 : decode cX8_commonDivisor 31 = .ok (.goto (-24), 3) := by decide +kernel
theorem dX8_commonDivisor_34 : decode cX8_commonDivisor 34 = .ok (.iload_n 2, 1) := by decide +kernel
theorem dX8_commonDivisor_35 : decode cX8_commonDivisor 35 = .ok (.ireturn, 1) := by decide +kernel
set_option maxRecDepth 20000 in
theorem ggX8_letting_X0_current : GoodIn wsX8_letting wsX0_current := goodIn_r _ [11, 12, 13, 123, 124, 125, 126] rfl (by decide +kernel)
set_option maxRecDepth 20000 in
theorem gX8_letting_X0_current : GoodIn wsX8_letting (wsV RX8 115 RX0 yX0_current wsX0_current) := goodIn_app (goodIn_r _ [7, 8, 9, 10] rfl (by decide +kernel)) ggX8_letting_X0_current
set_option maxRecDepth 20000 in
theorem ggX8_letting_X3_solve : GoodIn wsX8_letting wsX3_solve := goodIn_r _ [18, 19, 20, 21, 22, 23, 24, 25, 26, 17, 27, 28, 29, 30, 31, 32, 33, 34, 35, 36, 37, 38, 39, 40, 41, 42, 43, 44, 45, 46, 47, 48, 49, 50, 51, 52, 53, 54, 55, 56, 57, 58, 59, 60, 61, 62, 63, 64, 65, 66, 67, 68, 69, 70, 71, 72, 73, 74, 75, 76, 77, 78, 79, 80, 81, 82, 83, 84, 85, 86, 87, 88, 89, 112, 113, 114, 115, 116, 117, 118, 119, 120, 121, 122, 127, 128, 129, 130, 131, 132, 133, 134, 135, 136, 137, 138, 139, 140, 141] rfl (by decide +kernel)
set_option maxRecDepth 20000 in
theorem gX8_letting_X3_solve : GoodIn wsX8_letting (wsV RX8 249 RX3 yX3_solve wsX3_solve) := goodIn_app (goodIn_r _ [14, 15, 16, 17] rfl (by decide +kernel)) ggX8_letting_X3_solve
set_option maxRecDepth 20000 in
theorem ggX8_letting_X3_tell : GoodIn wsX8_letting wsX3_tell := goodIn_r _ [93, 20, 22, 23, 85, 86, 87, 17, 88, 28, 89, 127, 128, 129, 130] rfl (by decide +kernel)
set_option maxRecDepth 20000 in
theorem gX8_letting_X3_tell : GoodIn wsX8_letting (wsV RX8 253 RX3 yX3_tell wsX3_tell) := goodIn_app (goodIn_r _ [90, 91, 92, 17] rfl (by decide +kernel)) ggX8_letting_X3_tell
set_option maxRecDepth 20000 in
theorem ggX8_letting_X3_count : GoodIn wsX8_letting wsX3_count := goodIn_r _ [97, 23, 89, 127, 128, 129, 130] rfl (by decide +kernel)
set_option maxRecDepth 20000 in
theorem gX8_letting_X3_count : GoodIn wsX8_letting (wsV RX8 257 RX3 yX3_count wsX3_count) := goodIn_app (goodIn_r _ [94, 95, 96, 17] rfl (by decide +kernel)) ggX8_letting_X3_count
theorem dX8_letting_0 : decode cX8_letting 0 = .ok (.aload_n 0, 1) := by decide +kernel
theorem dX8_letting_1 : decode cX8_letting 1 = .ok (.getfield 55, 3) := by decide +kernel
theorem dX8_letting_4 : decode cX8_letting 4 = .ok (.aload_n 0, 1) := by decide +kernel
theorem dX8_letting_5 : decode cX8_letting 5 = .ok (.getfield 27, 3) := by decide +kernel
theorem dX8_letting_8 : decode cX8_letting 8 = .ok (.aload_n 0, 1) := by decide +kernel
theorem dX8_letting_9 : decode cX8_letting 9 = .ok (.getfield 34, 3) := by decide +kernel
theorem dX8_letting_12 : decode cX8_letting 12 = .ok (.invokevirtual 115, 3) := by decide +kernel
theorem dX8_letting_15 : decode cX8_letting 15 = .ok (.invokevirtual 249, 3) := by decide +kernel
theorem dX8_letting_18 : decode cX8_letting 18 = .ok (.aload_n 0, 1) := by decide +kernel
theorem dX8_letting_19 : decode cX8_letting 19 = .ok (.aload_n 0, 1) := by decide +kernel
theorem dX8_letting_20 : decode cX8_letting 20 = .ok (.getfield 27, 3) := by decide +kernel
theorem dX8_letting_23 : decode cX8_letting 23 = .ok (.getfield 102, 3) := by decide +kernel
theorem dX8_letting_26 : decode cX8_letting 26 = .ok (.putfield 70, 3) := by decide +kernel
theorem dX8_letting_29 : decode cX8_letting 29 = .ok (.aload_n 0, 1) := by decide +kernel
theorem dX8_letting_30 : decode cX8_letting 30 = .ok (.getfield 55, 3) := by decide +kernel
theorem dX8_letting_33 : decode cX8_letting 33 = .ok (.aload_n 0, 1) := by decide +kernel
theorem dX8_letting_34 : decode cX8_letting 34 = .ok (.getfield 66, 3) := by decide +kernel
theorem dX8_letting_37 : decode cX8_letting 37 = .ok (.aload_n 0, 1) := by decide +kernel
theorem dX8_letting_38 : decode cX8_letting 38 = .ok (.getfield 70, 3) := by decide +kernel
theorem dX8_letting_41 : decode cX8_letting 41 = .ok (.invokevirtual 253, 3) := by decide +kernel
theorem dX8_letting_44 : decode cX8_letting 44 = .ok (.aload_n 0, 1) := by decide +kernel
theorem dX8_letting_45 : decode cX8_letting 45 = .ok (.getfield 55, 3) := by decide +kernel
theorem dX8_letting_48 : decode cX8_letting 48 = .ok (.invokevirtual 257, 3) := by decide +kernel
theorem dX8_letting_51 : decode cX8_letting 51 = .ok (.ireturn, 1) := by decide +kernel
set_option maxRecDepth 20000 in
theorem ggX8_pleasure_X0_current : GoodIn wsX8_pleasure wsX0_current := goodIn_r _ [8, 9, 10, 105, 106, 107, 108] rfl (by decide +kernel)
set_option maxRecDepth 20000 in
theorem gX8_pleasure_X0_current : GoodIn wsX8_pleasure (wsV RX8 115 RX0 yX0_current wsX0_current) := goodIn_app (goodIn_r _ [4, 5, 6, 7] rfl (by decide +kernel)) ggX8_pleasure_X0_current
set_option maxRecDepth 20000 in
theorem ggX8_pleasure_X3_solve : GoodIn wsX8_pleasure wsX3_solve := goodIn_r _ [15, 16, 17, 18, 19, 20, 21, 22, 23, 14, 24, 25, 26, 27, 28, 29, 30, 31, 32, 33, 34, 35, 36, 37, 38, 39, 40, 41, 42, 43, 44, 45, 46, 47, 48, 49, 50, 51, 52, 53, 54, 55, 56, 57, 58, 59, 60, 61, 62, 63, 64, 65, 66, 67, 68, 69, 70, 71, 72, 73, 74, 75, 76, 77, 78, 79, 80, 81, 82, 83, 84, 85, 86, 109, 110, 111, 112, 113, 114, 115, 116, 117, 118, 119, 120, 121, 122, 123, 124, 125, 126, 127, 128, 129, 130, 131, 132, 133, 134] rfl (by decide +kernel)
set_option maxRecDepth 20000 in
theorem gX8_pleasure_X3_solve : GoodIn wsX8_pleasure (wsV RX8 249 RX3 yX3_solve wsX3_solve) := goodIn_app (goodIn_r _ [11, 12, 13, 14] rfl (by decide +kernel)) ggX8_pleasure_X3_solve
set_option maxRecDepth 20000 in
theorem ggX8_pleasure_X3_together : GoodIn wsX8_pleasure wsX3_together := goodIn_r _ [90, 20, 86, 120, 121, 122, 123] rfl (by decide +kernel)
set_option maxRecDepth 20000 in
theorem gX8_pleasure_X3_together : GoodIn wsX8_pleasure (wsV RX8 261 RX3 yX3_together wsX3_together) := goodIn_app (goodIn_r _ [87, 88, 89, 14] rfl (by decide +kernel)) ggX8_pleasure_X3_together
theorem dX8_pleasure_0 : decode cX8_pleasure 0 = .ok (.aload_n 0, 1) := by decide +kernel
theorem dX8_pleasure_1 : decode cX8_pleasure 1 = .ok (.getfield 55, 3) := by decide +kernel
theorem dX8_pleasure_4 : decode cX8_pleasure 4 = .ok (.aload_n 0, 1) := by decide +kernel
theorem dX8_pleasure_5 : decode cX8_pleasure 5 = .ok (.getfield 27, 3) := by decide +kernel
theorem dX8_pleasure_8 : decode cX8_pleasure 8 = .ok (.aload_n 0, 1) := by decide +kernel
theorem dX8_pleasure_9 : decode cX8_pleasure 9 = .ok (.getfield 34, 3) := by decide +kernel
theorem dX8_pleasure_12 : decode cX8_pleasure 12 = .ok (.invokevirtual 115, 3) := by decide +kernel
theorem dX8_pleasure_15 : decode cX8_pleasure 15 = .ok (.invokevirtual 249, 3) := by decide +kernel
theorem dX8_pleasure_18 : decode cX8_pleasure 18 = .ok (.aload_n 0, 1) := by decide +kernel
theorem dX8_pleasure_19 : decode cX8_pleasure 19 = .ok (.getfield 55, 3) := by decide +kernel
theorem dX8_pleasure_22 : decode cX8_pleasure 22 = .ok (.invokevirtual 261, 3) := by decide +kernel
theorem dX8_pleasure_25 : decode cX8_pleasure 25 = .ok (.ireturn, 1) := by decide +kernel
set_option maxRecDepth 20000 in
theorem ggX8_swaps_X8_wouldBothGain : GoodIn wsX8_swaps wsX8_wouldBothGain := goodIn_r _ [7, 8, 9, 1, 10, 11, 12, 13, 14, 15, 16, 17, 18, 19, 20, 21, 22, 23, 24, 25, 26, 27, 28, 29, 30, 31, 32, 33, 34, 35, 36, 37, 38, 39, 40, 41, 42, 43, 44, 45, 46, 47, 48, 49, 50, 51, 52, 53, 54, 55, 56, 57, 58, 59, 60, 61, 62, 63, 64, 65, 66, 67, 68, 69, 70, 71, 72, 73, 74, 75, 87, 88, 89, 90, 91, 92, 93, 94, 95, 96, 97, 98, 76, 77, 78, 79, 80, 81, 82, 83, 84, 85, 86, 99, 100, 101] rfl (by decide +kernel)
set_option maxRecDepth 20000 in
theorem gX8_swaps_X8_wouldBothGain : GoodIn wsX8_swaps (wsV RX8 264 RX8 yX8_wouldBothGain wsX8_wouldBothGain) := goodIn_app (goodIn_r _ [3, 4, 5, 6] rfl (by decide +kernel)) ggX8_swaps_X8_wouldBothGain
theorem dX8_swaps_0 : decode cX8_swaps 0 = .ok (.iload_n 1, 1) := by decide +kernel
theorem dX8_swaps_1 : decode cX8_swaps 1 = .ok (.ifCond .lt 8, 3) := by decide +kernel
theorem dX8_swaps_4 : decode cX8_swaps 4 = .ok (.iload_n 1, 1) := by decide +kernel
theorem dX8_swaps_5 : decode cX8_swaps 5 = .ok (.iconst 2, 1) := by decide +kernel
theorem dX8_swaps_6 : decode cX8_swaps 6 = .ok (.if_icmp .le 5, 3) := by decide +kernel
theorem dX8_swaps_9 : decode cX8_swaps 9 = .ok (.iconst (-1), 1) := by decide +kernel
theorem dX8_swaps_10 : decode cX8_swaps 10 = .ok (.ireturn, 1) := by decide +kernel
theorem dX8_swaps_11 : decode cX8_swaps 11 = .ok (.iconst 0, 1) := by decide +kernel
theorem dX8_swaps_12 : decode cX8_swaps 12 = .ok (.istore_n 2, 1) := by decide +kernel
theorem dX8_swaps_13 : decode cX8_swaps 13 = .ok (.iconst 0, 1) := by decide +kernel
theorem dX8_swaps_14 : decode cX8_swaps 14 = .ok (.istore_n 3, 1) := by decide +kernel
theorem dX8_swaps_15 : decode cX8_swaps 15 = .ok (.iload_n 3, 1) := by decide +kernel
theorem dX8_swaps_16 : decode cX8_swaps 16 = .ok (.aload_n 0, 1) := by decide +kernel
theorem dX8_swaps_17 : decode cX8_swaps 17 = .ok (.getfield 27, 3) := by decide +kernel
theorem dX8_swaps_20 : decode cX8_swaps 20 = .ok (.getfield 102, 3) := by decide +kernel
theorem dX8_swaps_23 : decode cX8_swaps 23 = .ok (.if_icmp .ge 61, 3) := by decide +kernel
theorem dX8_swaps_26 : decode cX8_swaps 26 = .ok (.iload_n 3, 1) := by decide +kernel
theorem dX8_swaps_27 : decode cX8_swaps 27 = .ok (.iconst 1, 1) := by decide +kernel
theorem dX8_swaps_28 : decode cX8_swaps 28 = .ok (.iadd, 1) := by decide +kernel
theorem dX8_swaps_29 : decode cX8_swaps 29 = .ok (.istore 4, 2) := by decide +kernel
theorem dX8_swaps_31 : decode cX8_swaps 31 = .ok (.iload 4, 2) := by decide +kernel
theorem dX8_swaps_33 : decode cX8_swaps 33 = .ok (.aload_n 0, 1) := by decide +kernel
theorem dX8_swaps_34 : decode cX8_swaps 34 = .ok (.getfield 27, 3) := by decide +kernel
theorem dX8_swaps_37 : decode cX8_swaps 37 = .ok (.getfield 102, 3) := by decide +kernel
theorem dX8_swaps_40 : decode cX8_swaps 40 = .ok (.if_icmp .ge 38, 3) := by decide +kernel
theorem dX8_swaps_43 : decode cX8_swaps 43 = .ok (.aload_n 0, 1) := by decide +kernel
theorem dX8_swaps_44 : decode cX8_swaps 44 = .ok (.iload_n 3, 1) := by decide +kernel
theorem dX8_swaps_45 : decode cX8_swaps 45 = .ok (.iload 4, 2) := by decide +kernel
theorem dX8_swaps_47 : decode cX8_swaps 47 = .ok (.invokevirtual 264, 3) := by decide +kernel
theorem dX8_swaps_50 : decode cX8_swaps 50 = .ok (.ifCond .eq 22, 3) := by decide +kernel
theorem dX8_swaps_53 : decode cX8_swaps 53 = .ok (.iload_n 1, 1) := by decide +kernel
theorem dX8_swaps_54 : decode cX8_swaps 54 = .ok (.ifCond .eq 15, 3) := by decide +kernel
theorem dX8_swaps_57 : decode cX8_swaps 57 = .ok (.iload_n 1, 1) := by decide +kernel
theorem dX8_swaps_58 : decode cX8_swaps 58 = .ok (.iconst 1, 1) := by decide +kernel
theorem dX8_swaps_59 : decode cX8_swaps 59 = .ok (.if_icmp .ne 7, 3) := by decide +kernel
theorem dX8_swaps_62 : decode cX8_swaps 62 = .ok (.iload_n 3, 1) := by decide +kernel
theorem dX8_swaps_63 : decode cX8_swaps 63 = .ok (.goto 5, 3) := by decide +kernel
theorem dX8_swaps_66 : decode cX8_swaps 66 = .ok (.iload 4, 2) := by decide +kernel
theorem dX8_swaps_68 : decode cX8_swaps 68 = .ok (.ireturn, 1) := by decide +kernel
theorem dX8_swaps_69 : decode cX8_swaps 69 = .ok (.iinc 2 1, 3) := by decide +kernel
theorem dX8_swaps_72 : decode cX8_swaps 72 = .ok (.iinc 4 1, 3) := by decide +kernel
theorem dX8_swaps_75 : decode cX8_swaps 75 = .ok (.goto (-44), 3) := by decide +kernel
theorem dX8_swaps_78 : decode cX8_swaps 78 = .ok (.iinc 3 1, 3) := by decide +kernel
theorem dX8_swaps_81 : decode cX8_swaps 81 = .ok (.goto (-66), 3) := by decide +kernel
theorem dX8_swaps_84 : decode cX8_swaps 84 = .ok (.iload_n 1, 1) := by decide +kernel
theorem dX8_swaps_85 : decode cX8_swaps 85 = .ok (.ifCond .ne 7, 3) := by decide +kernel
theorem dX8_swaps_88 : decode cX8_swaps 88 = .ok (.iload_n 2, 1) := by decide +kernel
theorem dX8_swaps_89 : decode cX8_swaps 89 = .ok (.goto 4, 3) := by decide +kernel
theorem dX8_swaps_92 : decode cX8_swaps 92 = .ok (.iconst (-1), 1) := by decide +kernel
theorem dX8_swaps_93 : decode cX8_swaps 93 = .ok (.ireturn, 1) := by decide +kernel
set_option maxRecDepth 20000 in
theorem ggX8_pay_X8_isInKeptRoom : GoodIn wsX8_pay wsX8_isInKeptRoom := goodIn_r _ [8, 1, 3, 9, 10, 11, 12, 13, 14, 15, 16, 17, 18, 7, 19, 2, 20, 21, 22, 23, 24, 25, 26, 66, 67, 68, 69, 70, 71, 72, 73, 74, 75, 76, 77, 78, 79, 80, 81, 82, 83, 84, 85, 86, 87, 88, 89, 90, 91, 92, 93, 94, 95, 96, 97, 98, 99, 100, 101, 102] rfl (by decide +kernel)
set_option maxRecDepth 20000 in
theorem gX8_pay_X8_isInKeptRoom : GoodIn wsX8_pay (wsV RX8 268 RX8 yX8_isInKeptRoom wsX8_isInKeptRoom) := goodIn_app (goodIn_r _ [4, 5, 6, 7] rfl (by decide +kernel)) ggX8_pay_X8_isInKeptRoom
set_option maxRecDepth 20000 in
theorem ggX8_pay_X0_current : GoodIn wsX8_pay wsX0_current := goodIn_r _ [13, 14, 15, 88, 89, 90, 91] rfl (by decide +kernel)
set_option maxRecDepth 20000 in
theorem gX8_pay_X0_current : GoodIn wsX8_pay (wsV RX8 115 RX0 yX0_current wsX0_current) := goodIn_app (goodIn_r _ [9, 10, 11, 12] rfl (by decide +kernel)) ggX8_pay_X0_current
set_option maxRecDepth 20000 in
theorem ggX8_pay_X4_consider : GoodIn wsX8_pay wsX4_consider := goodIn_r _ [31, 32, 33, 34, 35, 36, 37, 38, 39, 40, 41, 42, 22, 23, 24, 25, 26, 43, 44, 45, 46, 92, 93, 94, 95, 96, 97, 98, 99, 100, 101, 102, 80, 81, 82, 83, 84, 85, 86, 87] rfl (by decide +kernel)
set_option maxRecDepth 20000 in
theorem gX8_pay_X4_consider : GoodIn wsX8_pay (wsV RX8 271 RX4 yX4_consider wsX4_consider) := goodIn_app (goodIn_r _ [27, 28, 29, 30] rfl (by decide +kernel)) ggX8_pay_X4_consider
set_option maxRecDepth 20000 in
theorem ggX8_pay_X4_likesBy : GoodIn wsX8_pay wsX4_likesBy := goodIn_r _ [50, 34, 51, 52, 53, 54, 55, 56, 57, 58, 59, 60, 61, 62, 63, 64, 65, 92, 93, 94, 95, 96, 97, 98, 99, 100, 101, 102, 103, 104, 105] rfl (by decide +kernel)
set_option maxRecDepth 20000 in
theorem gX8_pay_X4_likesBy : GoodIn wsX8_pay (wsV RX8 277 RX4 yX4_likesBy wsX4_likesBy) := goodIn_app (goodIn_r _ [47, 48, 49, 30] rfl (by decide +kernel)) ggX8_pay_X4_likesBy
theorem dX8_pay_0 : decode cX8_pay 0 = .ok (.aload_n 0, 1) := by decide +kernel
theorem dX8_pay_1 : decode cX8_pay 1 = .ok (.iload_n 1, 1) := by decide +kernel
theorem dX8_pay_2 : decode cX8_pay 2 = .ok (.invokevirtual 268, 3) := by decide +kernel
theorem dX8_pay_5 : decode cX8_pay 5 = .ok (.ifCond .ne 5, 3) := by decide +kernel
theorem dX8_pay_8 : decode cX8_pay 8 = .ok (.iconst (-1), 1) := by decide +kernel
theorem dX8_pay_9 : decode cX8_pay 9 = .ok (.ireturn, 1) := by decide +kernel
theorem dX8_pay_10 : decode cX8_pay 10 = .ok (.aload_n 0, 1) := by decide +kernel
theorem dX8_pay_11 : decode cX8_pay 11 = .ok (.getfield 34, 3) := by decide +kernel
theorem dX8_pay_14 : decode cX8_pay 14 = .ok (.invokevirtual 115, 3) := by decide +kernel
theorem dX8_pay_17 : decode cX8_pay 17 = .ok (.astore_n 2, 1) := by decide +kernel
theorem dX8_pay_18 : decode cX8_pay 18 = .ok (.aload_n 0, 1) := by decide +kernel
theorem dX8_pay_19 : decode cX8_pay 19 = .ok (.getfield 27, 3) := by decide +kernel
theorem dX8_pay_22 : decode cX8_pay 22 = .ok (.aload_n 2, 1) := by decide +kernel
theorem dX8_pay_23 : decode cX8_pay 23 = .ok (.iload_n 1, 1) := by decide +kernel
theorem dX8_pay_24 : decode cX8_pay 24 = .ok (.aload_n 2, 1) := by decide +kernel
theorem dX8_pay_25 : decode cX8_pay 25 = .ok (.getfield 147, 3) := by decide +kernel
theorem dX8_pay_28 : decode cX8_pay 28 = .ok (.iload_n 1, 1) := by decide +kernel
theorem dX8_pay_29 : decode cX8_pay 29 = .ok (.iaload, 1) := by decide +kernel
theorem dX8_pay_30 : decode cX8_pay 30 = .ok (.invokevirtual 271, 3) := by decide +kernel
theorem dX8_pay_33 : decode cX8_pay 33 = .ok (.iconst 0, 1) := by decide +kernel
theorem dX8_pay_34 : decode cX8_pay 34 = .ok (.istore_n 3, 1) := by decide +kernel
theorem dX8_pay_35 : decode cX8_pay 35 = .ok (.iload_n 3, 1) := by decide +kernel
theorem dX8_pay_36 : decode cX8_pay 36 = .ok (.bipush 99, 2) := by decide +kernel
theorem dX8_pay_38 : decode cX8_pay 38 = .ok (.if_icmp .gt 23, 3) := by decide +kernel
theorem dX8_pay_41 : decode cX8_pay 41 = .ok (.aload_n 0, 1) := by decide +kernel
theorem dX8_pay_42 : decode cX8_pay 42 = .ok (.getfield 27, 3) := by decide +kernel
theorem dX8_pay_45 : decode cX8_pay 45 = .ok (.iconst 0, 1) := by decide +kernel
theorem dX8_pay_46 : decode cX8_pay 46 = .ok (.iload_n 3, 1) := by decide +kernel
theorem dX8_pay_47 : decode cX8_pay 47 = .ok (.invokevirtual 277, 3) := by decide +kernel
theorem dX8_pay_50 : decode cX8_pay 50 = .ok (.ifCond .le 5, 3) := by decide +kernel
theorem dX8_pay_53 : decode cX8_pay 53 = .ok (.iload_n 3, 1) := by decide +kernel
theorem dX8_pay_54 : decode cX8_pay 54 = .ok (.ireturn, 1) := by decide +kernel
theorem dX8_pay_55 : decode cX8_pay 55 = .ok (.iinc 3 1, 3) := by decide +kernel
theorem dX8_pay_58 : decode cX8_pay 58 = .ok (.goto (-23), 3) := by decide +kernel
theorem dX8_pay_61 : decode cX8_pay 61 = .ok (.iconst (-1), 1) := by decide +kernel
theorem dX8_pay_62 : decode cX8_pay 62 = .ok (.ireturn, 1) := by decide +kernel
set_option maxRecDepth 20000 in
theorem ggX8_borne_X8_isInKeptRoom : GoodIn wsX8_borne wsX8_isInKeptRoom := goodIn_r _ [8, 1, 3, 9, 10, 11, 12, 13, 14, 15, 16, 17, 18, 7, 19, 2, 20, 21, 22, 23, 24, 25, 26, 66, 67, 68, 69, 70, 71, 72, 73, 74, 75, 76, 77, 78, 79, 80, 81, 82, 83, 84, 85, 86, 87, 88, 89, 90, 91, 92, 93, 94, 95, 96, 97, 98, 99, 100, 101, 102] rfl (by decide +kernel)
set_option maxRecDepth 20000 in
theorem gX8_borne_X8_isInKeptRoom : GoodIn wsX8_borne (wsV RX8 268 RX8 yX8_isInKeptRoom wsX8_isInKeptRoom) := goodIn_app (goodIn_r _ [4, 5, 6, 7] rfl (by decide +kernel)) ggX8_borne_X8_isInKeptRoom
set_option maxRecDepth 20000 in
theorem ggX8_borne_X0_current : GoodIn wsX8_borne wsX0_current := goodIn_r _ [13, 14, 15, 88, 89, 90, 91] rfl (by decide +kernel)
set_option maxRecDepth 20000 in
theorem gX8_borne_X0_current : GoodIn wsX8_borne (wsV RX8 115 RX0 yX0_current wsX0_current) := goodIn_app (goodIn_r _ [9, 10, 11, 12] rfl (by decide +kernel)) ggX8_borne_X0_current
set_option maxRecDepth 20000 in
theorem ggX8_borne_X4_consider : GoodIn wsX8_borne wsX4_consider := goodIn_r _ [31, 32, 33, 34, 35, 36, 37, 38, 39, 40, 41, 42, 22, 23, 24, 25, 26, 43, 44, 45, 46, 92, 93, 94, 95, 96, 97, 98, 99, 100, 101, 102, 80, 81, 82, 83, 84, 85, 86, 87] rfl (by decide +kernel)
set_option maxRecDepth 20000 in
theorem gX8_borne_X4_consider : GoodIn wsX8_borne (wsV RX8 271 RX4 yX4_consider wsX4_consider) := goodIn_app (goodIn_r _ [27, 28, 29, 30] rfl (by decide +kernel)) ggX8_borne_X4_consider
set_option maxRecDepth 20000 in
theorem ggX8_borne_X4_likesBy : GoodIn wsX8_borne wsX4_likesBy := goodIn_r _ [50, 34, 51, 52, 53, 54, 55, 56, 57, 58, 59, 60, 61, 62, 63, 64, 65, 92, 93, 94, 95, 96, 97, 98, 99, 100, 101, 102, 103, 104, 105] rfl (by decide +kernel)
set_option maxRecDepth 20000 in
theorem gX8_borne_X4_likesBy : GoodIn wsX8_borne (wsV RX8 277 RX4 yX4_likesBy wsX4_likesBy) := goodIn_app (goodIn_r _ [47, 48, 49, 30] rfl (by decide +kernel)) ggX8_borne_X4_likesBy
theorem dX8_borne_0 : decode cX8_borne 0 = .ok (.aload_n 0, 1) := by decide +kernel
theorem dX8_borne_1 : decode cX8_borne 1 = .ok (.iload_n 1, 1) := by decide +kernel
theorem dX8_borne_2 : decode cX8_borne 2 = .ok (.invokevirtual 268, 3) := by decide +kernel
theorem dX8_borne_5 : decode cX8_borne 5 = .ok (.ifCond .ne 5, 3) := by decide +kernel
theorem dX8_borne_8 : decode cX8_borne 8 = .ok (.iconst (-1), 1) := by decide +kernel
theorem dX8_borne_9 : decode cX8_borne 9 = .ok (.ireturn, 1) := by decide +kernel
theorem dX8_borne_10 : decode cX8_borne 10 = .ok (.aload_n 0, 1) := by decide +kernel
theorem dX8_borne_11 : decode cX8_borne 11 = .ok (.getfield 34, 3) := by decide +kernel
theorem dX8_borne_14 : decode cX8_borne 14 = .ok (.invokevirtual 115, 3) := by decide +kernel
theorem dX8_borne_17 : decode cX8_borne 17 = .ok (.astore_n 2, 1) := by decide +kernel
theorem dX8_borne_18 : decode cX8_borne 18 = .ok (.aload_n 0, 1) := by decide +kernel
theorem dX8_borne_19 : decode cX8_borne 19 = .ok (.getfield 27, 3) := by decide +kernel
theorem dX8_borne_22 : decode cX8_borne 22 = .ok (.aload_n 2, 1) := by decide +kernel
theorem dX8_borne_23 : decode cX8_borne 23 = .ok (.iload_n 1, 1) := by decide +kernel
theorem dX8_borne_24 : decode cX8_borne 24 = .ok (.aload_n 2, 1) := by decide +kernel
theorem dX8_borne_25 : decode cX8_borne 25 = .ok (.getfield 147, 3) := by decide +kernel
theorem dX8_borne_28 : decode cX8_borne 28 = .ok (.iload_n 1, 1) := by decide +kernel
theorem dX8_borne_29 : decode cX8_borne 29 = .ok (.iaload, 1) := by decide +kernel
theorem dX8_borne_30 : decode cX8_borne 30 = .ok (.invokevirtual 271, 3) := by decide +kernel
theorem dX8_borne_33 : decode cX8_borne 33 = .ok (.bipush 9, 2) := by decide +kernel
theorem dX8_borne_35 : decode cX8_borne 35 = .ok (.istore_n 3, 1) := by decide +kernel
theorem dX8_borne_36 : decode cX8_borne 36 = .ok (.iload_n 3, 1) := by decide +kernel
theorem dX8_borne_37 : decode cX8_borne 37 = .ok (.ifCond .lt 23, 3) := by decide +kernel
theorem dX8_borne_40 : decode cX8_borne 40 = .ok (.aload_n 0, 1) := by decide +kernel
theorem dX8_borne_41 : decode cX8_borne 41 = .ok (.getfield 27, 3) := by decide +kernel
theorem dX8_borne_44 : decode cX8_borne 44 = .ok (.iconst 3, 1) := by decide +kernel
theorem dX8_borne_45 : decode cX8_borne 45 = .ok (.iload_n 3, 1) := by decide +kernel
theorem dX8_borne_46 : decode cX8_borne 46 = .ok (.invokevirtual 277, 3) := by decide +kernel
theorem dX8_borne_49 : decode cX8_borne 49 = .ok (.ifCond .le 5, 3) := by decide +kernel
theorem dX8_borne_52 : decode cX8_borne 52 = .ok (.iload_n 3, 1) := by decide +kernel
theorem dX8_borne_53 : decode cX8_borne 53 = .ok (.ireturn, 1) := by decide +kernel
theorem dX8_borne_54 : decode cX8_borne 54 = .ok (.iinc 3 (-1), 3) := by decide +kernel
theorem dX8_borne_57 : decode cX8_borne 57 = .ok (.goto (-21), 3) := by decide +kernel
theorem dX8_borne_60 : decode cX8_borne 60 = .ok (.iconst (-1), 1) := by decide +kernel
theorem dX8_borne_61 : decode cX8_borne 61 = .ok (.ireturn, 1) := by decide +kernel
set_option maxRecDepth 20000 in
theorem ggX8_bid_X8_isOut : GoodIn wsX8_bid wsX8_isOut := goodIn_r _ [12, 2, 13, 14, 15, 16, 11, 17, 3, 18, 19, 20, 21, 22, 23, 24, 25, 118, 119, 120, 121, 122, 123, 124, 125, 126, 127, 128, 129, 130, 131, 138, 139, 140, 141, 142, 143, 144, 145, 146, 147, 148, 149, 150, 151, 152, 153, 154, 155, 156, 157, 158, 159, 160] rfl (by decide +kernel)
set_option maxRecDepth 20000 in
theorem gX8_bid_X8_isOut : GoodIn wsX8_bid (wsV RX8 280 RX8 yX8_isOut wsX8_isOut) := goodIn_app (goodIn_r _ [8, 9, 10, 11] rfl (by decide +kernel)) ggX8_bid_X8_isOut
set_option maxRecDepth 20000 in
theorem ggX8_bid_X8_isRoom : GoodIn wsX8_bid wsX8_isRoom := goodIn_r _ [29, 3, 30, 118, 119, 120, 121, 122, 123, 124, 125, 126, 127, 128, 129, 130, 131, 146, 147, 148, 149, 150, 151, 152, 153, 154, 155, 156] rfl (by decide +kernel)
set_option maxRecDepth 20000 in
theorem gX8_bid_X8_isRoom : GoodIn wsX8_bid (wsV RX8 135 RX8 yX8_isRoom wsX8_isRoom) := goodIn_app (goodIn_r _ [26, 27, 28, 11] rfl (by decide +kernel)) ggX8_bid_X8_isRoom
set_option maxRecDepth 20000 in
theorem ggX8_bid_X0_current : GoodIn wsX8_bid wsX0_current := goodIn_r _ [23, 24, 25, 157, 158, 159, 160] rfl (by decide +kernel)
set_option maxRecDepth 20000 in
theorem gX8_bid_X0_current : GoodIn wsX8_bid (wsV RX8 115 RX0 yX0_current wsX0_current) := goodIn_app (goodIn_r _ [19, 20, 21, 22] rfl (by decide +kernel)) ggX8_bid_X0_current
set_option maxRecDepth 20000 in
theorem ggX8_bid_X7_isKept : GoodIn wsX8_bid wsX7_isKept := goodIn_r _ [35, 36, 138, 139, 140, 141, 142, 143, 144, 145] rfl (by decide +kernel)
set_option maxRecDepth 20000 in
theorem gX8_bid_X7_isKept : GoodIn wsX8_bid (wsV RX8 162 RX7 yX7_isKept wsX7_isKept) := goodIn_app (goodIn_r _ [31, 32, 33, 34] rfl (by decide +kernel)) ggX8_bid_X7_isKept
set_option maxRecDepth 20000 in
theorem ggX8_bid_X4_whoIsIn : GoodIn wsX8_bid wsX4_whoIsIn := goodIn_r _ [41, 42, 43, 146, 147, 148, 149, 150, 151, 152, 153, 154, 155, 156, 138, 139, 140, 141, 142, 143, 144, 145] rfl (by decide +kernel)
set_option maxRecDepth 20000 in
theorem gX8_bid_X4_whoIsIn : GoodIn wsX8_bid (wsV RX8 141 RX4 yX4_whoIsIn wsX4_whoIsIn) := goodIn_app (goodIn_r _ [37, 38, 39, 40] rfl (by decide +kernel)) ggX8_bid_X4_whoIsIn
set_option maxRecDepth 20000 in
theorem ggX8_bid_X1_open : GoodIn wsX8_bid wsX1_open := goodIn_r _ [48, 49, 50, 51, 52, 53, 54, 47, 55, 56, 57, 58, 59, 60, 61, 62, 63, 40, 64, 42, 65, 66, 67, 68, 69, 70, 43, 71, 72, 73, 32, 33, 34, 35, 36, 74, 75, 76, 77, 78, 79, 80, 81, 82, 83, 84, 85, 86, 87, 88, 89, 90, 91, 92, 93, 94, 95, 96, 132, 133, 134, 135, 136, 137, 138, 139, 140, 141, 142, 143, 144, 145, 146, 147, 148, 149, 150, 151, 152, 153, 154, 155, 156, 161, 162, 163] rfl (by decide +kernel)
set_option maxRecDepth 20000 in
theorem gX8_bid_X1_open : GoodIn wsX8_bid (wsV RX8 283 RX1 yX1_open wsX1_open) := goodIn_app (goodIn_r _ [44, 45, 46, 47] rfl (by decide +kernel)) ggX8_bid_X1_open
set_option maxRecDepth 20000 in
theorem ggX8_bid_X1_countRests : GoodIn wsX8_bid wsX1_countRests := goodIn_r _ [100, 50, 52, 101, 102, 103, 104, 105, 47, 106, 107, 108, 109, 110, 49, 51, 111, 112, 113, 114, 115, 116, 117, 132, 133, 134, 135, 136, 137] rfl (by decide +kernel)
set_option maxRecDepth 20000 in
theorem gX8_bid_X1_countRests : GoodIn wsX8_bid (wsV RX8 287 RX1 yX1_countRests wsX1_countRests) := goodIn_app (goodIn_r _ [97, 98, 99, 47] rfl (by decide +kernel)) ggX8_bid_X1_countRests
theorem dX8_bid_0 : decode cX8_bid 0 = .ok (.aload_n 0, 1) := by decide +kernel
theorem dX8_bid_1 : decode cX8_bid 1 = .ok (.iconst 0, 1) := by decide +kernel
theorem dX8_bid_2 : decode cX8_bid 2 = .ok (.putfield 70, 3) := by decide +kernel
theorem dX8_bid_5 : decode cX8_bid 5 = .ok (.iload_n 1, 1) := by decide +kernel
theorem dX8_bid_6 : decode cX8_bid 6 = .ok (.iload_n 2, 1) := by decide +kernel
theorem dX8_bid_7 : decode cX8_bid 7 = .ok (.if_icmp .eq 27, 3) := by decide +kernel
theorem dX8_bid_10 : decode cX8_bid 10 = .ok (.aload_n 0, 1) := by decide +kernel
theorem dX8_bid_11 : decode cX8_bid 11 = .ok (.iload_n 1, 1) := by decide +kernel
theorem dX8_bid_12 : decode cX8_bid 12 = .ok (.invokevirtual 280, 3) := by decide +kernel
theorem dX8_bid_15 : decode cX8_bid 15 = .ok (.ifCond .eq 19, 3) := by decide +kernel
theorem dX8_bid_18 : decode cX8_bid 18 = .ok (.aload_n 0, 1) := by decide +kernel
theorem dX8_bid_19 : decode cX8_bid 19 = .ok (.iload_n 2, 1) := by decide +kernel
theorem dX8_bid_20 : decode cX8_bid 20 = .ok (.invokevirtual 280, 3) := by decide +kernel
theorem dX8_bid_23 : decode cX8_bid 23 = .ok (.ifCond .eq 11, 3) := by decide +kernel
theorem dX8_bid_26 : decode cX8_bid 26 = .ok (.aload_n 0, 1) := by decide +kernel
theorem dX8_bid_27 : decode cX8_bid 27 = .ok (.iload_n 3, 1) := by decide +kernel
theorem dX8_bid_28 : decode cX8_bid 28 = .ok (.invokevirtual 135, 3) := by decide +kernel
theorem dX8_bid_31 : decode cX8_bid 31 = .ok (.ifCond .ne 5, 3) := by decide +kernel
theorem dX8_bid_34 : decode cX8_bid 34 = .ok (.iconst (-1), 1) := by decide +kernel
theorem dX8_bid_35 : decode cX8_bid 35 = .ok (.ireturn, 1) := by decide +kernel
theorem dX8_bid_36 : decode cX8_bid 36 = .ok (.aload_n 0, 1) := by decide +kernel
theorem dX8_bid_37 : decode cX8_bid 37 = .ok (.getfield 34, 3) := by decide +kernel
theorem dX8_bid_40 : decode cX8_bid 40 = .ok (.invokevirtual 115, 3) := by decide +kernel
theorem dX8_bid_43 : decode cX8_bid 43 = .ok (.astore 4, 2) := by decide +kernel
theorem dX8_bid_45 : decode cX8_bid 45 = .ok (.aload 4, 2) := by decide +kernel
theorem dX8_bid_47 : decode cX8_bid 47 = .ok (.iload_n 3, 1) := by decide +kernel
theorem dX8_bid_48 : decode cX8_bid 48 = .ok (.invokevirtual 162, 3) := by decide +kernel
theorem dX8_bid_51 : decode cX8_bid 51 = .ok (.ifCond .eq 17, 3) := by decide +kernel
theorem dX8_bid_54 : decode cX8_bid 54 = .ok (.aload_n 0, 1) := by decide +kernel
theorem dX8_bid_55 : decode cX8_bid 55 = .ok (.getfield 27, 3) := by decide +kernel
theorem dX8_bid_58 : decode cX8_bid 58 = .ok (.aload 4, 2) := by decide +kernel
theorem dX8_bid_60 : decode cX8_bid 60 = .ok (.iload_n 3, 1) := by decide +kernel
theorem dX8_bid_61 : decode cX8_bid 61 = .ok (.invokevirtual 141, 3) := by decide +kernel
theorem dX8_bid_64 : decode cX8_bid 64 = .ok (.iconst (-1), 1) := by decide +kernel
theorem dX8_bid_65 : decode cX8_bid 65 = .ok (.if_icmp .eq 5, 3) := by decide +kernel
theorem dX8_bid_68 : decode cX8_bid 68 = .ok (.iconst (-1), 1) := by decide +kernel
theorem dX8_bid_69 : decode cX8_bid 69 = .ok (.ireturn, 1) := by decide +kernel
theorem dX8_bid_70 : decode cX8_bid 70 = .ok (.aload_n 0, 1) := by decide +kernel
theorem dX8_bid_71 : decode cX8_bid 71 = .ok (.getfield 62, 3) := by decide +kernel
theorem dX8_bid_74 : decode cX8_bid 74 = .ok (.aload_n 0, 1) := by decide +kernel
theorem dX8_bid_75 : decode cX8_bid 75 = .ok (.getfield 27, 3) := by decide +kernel
theorem dX8_bid_78 : decode cX8_bid 78 = .ok (.aload 4, 2) := by decide +kernel
theorem dX8_bid_80 : decode cX8_bid 80 = .ok (.iload_n 3, 1) := by decide +kernel
theorem dX8_bid_81 : decode cX8_bid 81 = .ok (.iload_n 1, 1) := by decide +kernel
theorem dX8_bid_82 : decode cX8_bid 82 = .ok (.iload_n 2, 1) := by decide +kernel
theorem dX8_bid_83 : decode cX8_bid 83 = .ok (.invokevirtual 283, 3) := by decide +kernel
theorem dX8_bid_86 : decode cX8_bid 86 = .ok (.aload_n 0, 1) := by decide +kernel
theorem dX8_bid_87 : decode cX8_bid 87 = .ok (.getfield 62, 3) := by decide +kernel
theorem dX8_bid_90 : decode cX8_bid 90 = .ok (.invokevirtual 287, 3) := by decide +kernel
theorem dX8_bid_93 : decode cX8_bid 93 = .ok (.istore 5, 2) := by decide +kernel
theorem dX8_bid_95 : decode cX8_bid 95 = .ok (.iload 5, 2) := by decide +kernel
theorem dX8_bid_97 : decode cX8_bid 97 = .ok (.ifCond .le 34, 3) := by decide +kernel
theorem dX8_bid_100 : decode cX8_bid 100 = .ok (.aload_n 0, 1) := by decide +kernel
theorem dX8_bid_101 : decode cX8_bid 101 = .ok (.getfield 66, 3) := by decide +kernel
theorem dX8_bid_104 : decode cX8_bid 104 = .ok (.iconst 0, 1) := by decide +kernel
theorem dX8_bid_105 : decode cX8_bid 105 = .ok (.aload_n 0, 1) := by decide +kernel
theorem dX8_bid_106 : decode cX8_bid 106 = .ok (.getfield 62, 3) := by decide +kernel
theorem dX8_bid_109 : decode cX8_bid 109 = .ok (.getfield 290, 3) := by decide +kernel
theorem dX8_bid_112 : decode cX8_bid 112 = .ok (.iastore, 1) := by decide +kernel
theorem dX8_bid_113 : decode cX8_bid 113 = .ok (.aload_n 0, 1) := by decide +kernel
theorem dX8_bid_114 : decode cX8_bid 114 = .ok (.getfield 66, 3) := by decide +kernel
theorem dX8_bid_117 : decode cX8_bid 117 = .ok (.iconst 1, 1) := by decide +kernel
theorem dX8_bid_118 : decode cX8_bid 118 = .ok (.aload_n 0, 1) := by decide +kernel
theorem dX8_bid_119 : decode cX8_bid 119 = .ok (.getfield 62, 3) := by decide +kernel
theorem dX8_bid_122 : decode cX8_bid 122 = .ok (.getfield 293, 3) := by decide +kernel
theorem dX8_bid_125 : decode cX8_bid 125 = .ok (.iastore, 1) := by decide +kernel
theorem dX8_bid_126 : decode cX8_bid 126 = .ok (.aload_n 0, 1) := by decide +kernel
theorem dX8_bid_127 : decode cX8_bid 127 = .ok (.iconst 2, 1) := by decide +kernel
theorem dX8_bid_128 : decode cX8_bid 128 = .ok (.putfield 70, 3) := by decide +kernel
theorem dX8_bid_131 : decode cX8_bid 131 = .ok (.iload 5, 2) := by decide +kernel
theorem dX8_bid_133 : decode cX8_bid 133 = .ok (.ireturn, 1) := by decide +kernel
theorem dX8_lies_0 : decode cX8_lies 0 = .ok (.iload_n 1, 1) := by decide +kernel
theorem dX8_lies_1 : decode cX8_lies 1 = .ok (.ifCond .lt 20, 3) := by decide +kernel
theorem dX8_lies_4 : decode cX8_lies 4 = .ok (.iload_n 1, 1) := by decide +kernel
theorem dX8_lies_5 : decode cX8_lies 5 = .ok (.aload_n 0, 1) := by decide +kernel
theorem dX8_lies_6 : decode cX8_lies 6 = .ok (.getfield 70, 3) := by decide +kernel
theorem dX8_lies_9 : decode cX8_lies 9 = .ok (.if_icmp .ge 12, 3) := by decide +kernel
theorem dX8_lies_12 : decode cX8_lies 12 = .ok (.aload_n 0, 1) := by decide +kernel
theorem dX8_lies_13 : decode cX8_lies 13 = .ok (.getfield 66, 3) := by decide +kernel
theorem dX8_lies_16 : decode cX8_lies 16 = .ok (.iload_n 1, 1) := by decide +kernel
theorem dX8_lies_17 : decode cX8_lies 17 = .ok (.iaload, 1) := by decide +kernel
theorem dX8_lies_18 : decode cX8_lies 18 = .ok (.goto 5, 3) := by decide +kernel
theorem dX8_lies_21 : decode cX8_lies 21 = .ok (.bipush (-2), 2) := by decide +kernel
theorem dX8_lies_23 : decode cX8_lies 23 = .ok (.ireturn, 1) := by decide +kernel
set_option maxRecDepth 20000 in
theorem ggX8_isOut_X8_isTenant : GoodIn wsX8_isOut wsX8_isTenant := goodIn_r _ [7, 8, 9, 17, 18, 19, 20, 21, 22, 23, 24, 25, 26, 27, 28, 29, 30, 39, 40, 41, 42, 43, 44, 45, 46, 47, 48, 49] rfl (by decide +kernel)
set_option maxRecDepth 20000 in
theorem gX8_isOut_X8_isTenant : GoodIn wsX8_isOut (wsV RX8 144 RX8 yX8_isTenant wsX8_isTenant) := goodIn_app (goodIn_r _ [3, 4, 5, 6] rfl (by decide +kernel)) ggX8_isOut_X8_isTenant
set_option maxRecDepth 20000 in
theorem ggX8_isOut_X0_current : GoodIn wsX8_isOut wsX0_current := goodIn_r _ [14, 15, 16, 50, 51, 52, 53] rfl (by decide +kernel)
set_option maxRecDepth 20000 in
theorem gX8_isOut_X0_current : GoodIn wsX8_isOut (wsV RX8 115 RX0 yX0_current wsX0_current) := goodIn_app (goodIn_r _ [10, 11, 12, 13] rfl (by decide +kernel)) ggX8_isOut_X0_current
theorem dX8_isOut_0 : decode cX8_isOut 0 = .ok (.aload_n 0, 1) := by decide +kernel
theorem dX8_isOut_1 : decode cX8_isOut 1 = .ok (.iload_n 1, 1) := by decide +kernel
theorem dX8_isOut_2 : decode cX8_isOut 2 = .ok (.invokevirtual 144, 3) := by decide +kernel
theorem dX8_isOut_5 : decode cX8_isOut 5 = .ok (.ifCond .eq 23, 3) := by decide +kernel
theorem dX8_isOut_8 : decode cX8_isOut 8 = .ok (.aload_n 0, 1) := by decide +kernel
theorem dX8_isOut_9 : decode cX8_isOut 9 = .ok (.getfield 34, 3) := by decide +kernel
theorem dX8_isOut_12 : decode cX8_isOut 12 = .ok (.invokevirtual 115, 3) := by decide +kernel
theorem dX8_isOut_15 : decode cX8_isOut 15 = .ok (.getfield 147, 3) := by decide +kernel
theorem dX8_isOut_18 : decode cX8_isOut 18 = .ok (.iload_n 1, 1) := by decide +kernel
theorem dX8_isOut_19 : decode cX8_isOut 19 = .ok (.iaload, 1) := by decide +kernel
theorem dX8_isOut_20 : decode cX8_isOut 20 = .ok (.iconst (-1), 1) := by decide +kernel
theorem dX8_isOut_21 : decode cX8_isOut 21 = .ok (.if_icmp .ne 7, 3) := by decide +kernel
theorem dX8_isOut_24 : decode cX8_isOut 24 = .ok (.iconst 1, 1) := by decide +kernel
theorem dX8_isOut_25 : decode cX8_isOut 25 = .ok (.goto 4, 3) := by decide +kernel
theorem dX8_isOut_28 : decode cX8_isOut 28 = .ok (.iconst 0, 1) := by decide +kernel
theorem dX8_isOut_29 : decode cX8_isOut 29 = .ok (.ireturn, 1) := by decide +kernel
set_option maxRecDepth 20000 in
theorem ggX8_wouldBothGain_X0_current : GoodIn wsX8_wouldBothGain wsX0_current := goodIn_r _ [8, 9, 10, 78, 79, 80, 81] rfl (by decide +kernel)
set_option maxRecDepth 20000 in
theorem gX8_wouldBothGain_X0_current : GoodIn wsX8_wouldBothGain (wsV RX8 115 RX0 yX0_current wsX0_current) := goodIn_app (goodIn_r _ [4, 5, 6, 7] rfl (by decide +kernel)) ggX8_wouldBothGain_X0_current
set_option maxRecDepth 20000 in
theorem ggX8_wouldBothGain_X7_isKept : GoodIn wsX8_wouldBothGain wsX7_isKept := goodIn_r _ [15, 16, 70, 71, 72, 73, 74, 75, 76, 77] rfl (by decide +kernel)
set_option maxRecDepth 20000 in
theorem gX8_wouldBothGain_X7_isKept : GoodIn wsX8_wouldBothGain (wsV RX8 162 RX7 yX7_isKept wsX7_isKept) := goodIn_app (goodIn_r _ [11, 12, 13, 14] rfl (by decide +kernel)) ggX8_wouldBothGain_X7_isKept
set_option maxRecDepth 20000 in
theorem ggX8_wouldBothGain_X4_likes : GoodIn wsX8_wouldBothGain wsX4_likes := goodIn_r _ [21, 22, 23, 24, 25, 26, 20, 27, 28, 29, 30, 31, 32, 33, 34, 35, 36, 37, 12, 13, 14, 15, 16, 38, 39, 40, 41, 42, 43, 44, 45, 46, 47, 48, 49, 50, 51, 52, 53, 54, 55, 82, 83, 84, 85, 86, 87, 88, 89, 90, 91, 92, 70, 71, 72, 73, 74, 75, 76, 77, 93, 94, 95] rfl (by decide +kernel)
set_option maxRecDepth 20000 in
theorem gX8_wouldBothGain_X4_likes : GoodIn wsX8_wouldBothGain (wsV RX8 166 RX4 yX4_likes wsX4_likes) := goodIn_app (goodIn_r _ [17, 18, 19, 20] rfl (by decide +kernel)) ggX8_wouldBothGain_X4_likes
theorem dX8_wouldBothGain_0 : decode cX8_wouldBothGain 0 = .ok (.aload_n 0, 1) := by decide +kernel
theorem dX8_wouldBothGain_1 : decode cX8_wouldBothGain 1 = .ok (.getfield 34, 3) := by decide +kernel
theorem dX8_wouldBothGain_4 : decode cX8_wouldBothGain 4 = .ok (.invokevirtual 115, 3) := by decide +kernel
theorem dX8_wouldBothGain_7 : decode cX8_wouldBothGain 7 = .ok (.astore_n 3, 1) := by decide +kernel
theorem dX8_wouldBothGain_8 : decode cX8_wouldBothGain 8 = .ok (.aload_n 3, 1) := by decide +kernel
theorem dX8_wouldBothGain_9 : decode cX8_wouldBothGain 9 = .ok (.getfield 147, 3) := by decide +kernel
theorem dX8_wouldBothGain_12 : decode cX8_wouldBothGain 12 = .ok (.iload_n 1, 1) := by decide +kernel
theorem dX8_wouldBothGain_13 : decode cX8_wouldBothGain 13 = .ok (.iaload, 1) := by decide +kernel
theorem dX8_wouldBothGain_14 : decode cX8_wouldBothGain 14 = .ok (.istore 4, 2) := by decide +kernel
theorem dX8_wouldBothGain_16 : decode cX8_wouldBothGain 16 = .ok (.aload_n 3, 1) := by decide +kernel
theorem dX8_wouldBothGain_17 : decode cX8_wouldBothGain 17 = .ok (.getfield 147, 3) := by decide +kernel
theorem dX8_wouldBothGain_20 : decode cX8_wouldBothGain 20 = .ok (.iload_n 2, 1) := by decide +kernel
theorem dX8_wouldBothGain_21 : decode cX8_wouldBothGain 21 = .ok (.iaload, 1) := by decide +kernel
theorem dX8_wouldBothGain_22 : decode cX8_wouldBothGain 22 = .ok (.istore 5, 2) := by decide +kernel
theorem dX8_wouldBothGain_24 : decode cX8_wouldBothGain 24 = .ok (.aload_n 3, 1) := by decide +kernel
theorem dX8_wouldBothGain_25 : decode cX8_wouldBothGain 25 = .ok (.iload 4, 2) := by decide +kernel
theorem dX8_wouldBothGain_27 : decode cX8_wouldBothGain 27 = .ok (.invokevirtual 162, 3) := by decide +kernel
theorem dX8_wouldBothGain_30 : decode cX8_wouldBothGain 30 = .ok (.ifCond .eq 12, 3) := by decide +kernel
theorem dX8_wouldBothGain_33 : decode cX8_wouldBothGain 33 = .ok (.aload_n 3, 1) := by decide +kernel
theorem dX8_wouldBothGain_34 : decode cX8_wouldBothGain 34 = .ok (.iload 5, 2) := by decide +kernel
theorem dX8_wouldBothGain_36 : decode cX8_wouldBothGain 36 = .ok (.invokevirtual 162, 3) := by decide +kernel
theorem dX8_wouldBothGain_39 : decode cX8_wouldBothGain 39 = .ok (.ifCond .ne 5, 3) := by decide +kernel
theorem dX8_wouldBothGain_42 : decode cX8_wouldBothGain 42 = .ok (.iconst 0, 1) := by decide +kernel
theorem dX8_wouldBothGain_43 : decode cX8_wouldBothGain 43 = .ok (.ireturn, 1) := by decide +kernel
theorem dX8_wouldBothGain_44 : decode cX8_wouldBothGain 44 = .ok (.aload_n 0, 1) := by decide +kernel
theorem dX8_wouldBothGain_45 : decode cX8_wouldBothGain 45 = .ok (.getfield 27, 3) := by decide +kernel
theorem dX8_wouldBothGain_48 : decode cX8_wouldBothGain 48 = .ok (.aload_n 3, 1) := by decide +kernel
