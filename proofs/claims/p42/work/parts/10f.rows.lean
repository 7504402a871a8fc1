theorem dX5_readKnownName_15 : decode cX5_readKnownName 15 = .ok (.iconst (-1), 1) := by decide +kernel
theorem dX5_readKnownName_16 : decode cX5_readKnownName 16 = .ok (.ireturn, 1) := by decide +kernel
theorem dX5_readKnownName_17 : decode cX5_readKnownName 17 = .ok (.aload_n 0, 1) := by decide +kernel
theorem dX5_readKnownName_18 : decode cX5_readKnownName 18 = .ok (.aload_n 1, 1) := by decide +kernel
theorem dX5_readKnownName_19 : decode cX5_readKnownName 19 = .ok (.iload_n 2, 1) := by decide +kernel
theorem dX5_readKnownName_20 : decode cX5_readKnownName 20 = .ok (.invokevirtual 208, 3) := by decide +kernel
theorem dX5_readKnownName_23 : decode cX5_readKnownName 23 = .ok (.istore_n 3, 1) := by decide +kernel
theorem dX5_readKnownName_24 : decode cX5_readKnownName 24 = .ok (.iload_n 3, 1) := by decide +kernel
theorem dX5_readKnownName_25 : decode cX5_readKnownName 25 = .ok (.iconst (-1), 1) := by decide +kernel
theorem dX5_readKnownName_26 : decode cX5_readKnownName 26 = .ok (.if_icmp .ne 15, 3) := by decide +kernel
theorem dX5_readKnownName_29 : decode cX5_readKnownName 29 = .ok (.aload_n 0, 1) := by decide +kernel
theorem dX5_readKnownName_30 : decode cX5_readKnownName 30 = .ok (.iconst 5, 1) := by decide +kernel
theorem dX5_readKnownName_31 : decode cX5_readKnownName 31 = .ok (.aload_n 0, 1) := by decide +kernel
theorem dX5_readKnownName_32 : decode cX5_readKnownName 32 = .ok (.getfield 51, 3) := by decide +kernel
theorem dX5_readKnownName_35 : decode cX5_readKnownName 35 = .ok (.invokevirtual 195, 3) := by decide +kernel
theorem dX5_readKnownName_38 : decode cX5_readKnownName 38 = .ok (.pop, 1) := by decide +kernel
theorem dX5_readKnownName_39 : decode cX5_readKnownName 39 = .ok (.iconst (-1), 1) := by decide +kernel
theorem dX5_readKnownName_40 : decode cX5_readKnownName 40 = .ok (.ireturn, 1) := by decide +kernel
theorem dX5_readKnownName_41 : decode cX5_readKnownName 41 = .ok (.aload_n 0, 1) := by decide +kernel
theorem dX5_readKnownName_42 : decode cX5_readKnownName 42 = .ok (.invokevirtual 90, 3) := by decide +kernel
theorem dX5_readKnownName_45 : decode cX5_readKnownName 45 = .ok (.iload_n 3, 1) := by decide +kernel
theorem dX5_readKnownName_46 : decode cX5_readKnownName 46 = .ok (.ireturn, 1) := by decide +kernel
theorem dX5_indexOfWord_0 : decode cX5_indexOfWord 0 = .ok (.iconst 0, 1) := by decide +kernel
theorem dX5_indexOfWord_1 : decode cX5_indexOfWord 1 = .ok (.istore_n 3, 1) := by decide +kernel
theorem dX5_indexOfWord_2 : decode cX5_indexOfWord 2 = .ok (.iload_n 3, 1) := by decide +kernel
theorem dX5_indexOfWord_3 : decode cX5_indexOfWord 3 = .ok (.iload_n 2, 1) := by decide +kernel
theorem dX5_indexOfWord_4 : decode cX5_indexOfWord 4 = .ok (.if_icmp .ge 28, 3) := by decide +kernel
theorem dX5_indexOfWord_7 : decode cX5_indexOfWord 7 = .ok (.iload_n 3, 1) := by decide +kernel
theorem dX5_indexOfWord_8 : decode cX5_indexOfWord 8 = .ok (.aload_n 1, 1) := by decide +kernel
theorem dX5_indexOfWord_9 : decode cX5_indexOfWord 9 = .ok (.arraylength, 1) := by decide +kernel
theorem dX5_indexOfWord_10 : decode cX5_indexOfWord 10 = .ok (.if_icmp .ge 22, 3) := by decide +kernel
theorem dX5_indexOfWord_13 : decode cX5_indexOfWord 13 = .ok (.aload_n 1, 1) := by decide +kernel
theorem dX5_indexOfWord_14 : decode cX5_indexOfWord 14 = .ok (.iload_n 3, 1) := by decide +kernel
theorem dX5_indexOfWord_15 : decode cX5_indexOfWord 15 = .ok (.laload, 1) := by decide +kernel
theorem dX5_indexOfWord_16 : decode cX5_indexOfWord 16 = .ok (.aload_n 0, 1) := by decide +kernel
theorem dX5_indexOfWord_17 : decode cX5_indexOfWord 17 = .ok (.getfield 60, 3) := by decide +kernel
theorem dX5_indexOfWord_20 : decode cX5_indexOfWord 20 = .ok (.lcmp, 1) := by decide +kernel
theorem dX5_indexOfWord_21 : decode cX5_indexOfWord 21 = .ok (.ifCond .ne 5, 3) := by decide +kernel
theorem dX5_indexOfWord_24 : decode cX5_indexOfWord 24 = .ok (.iload_n 3, 1) := by decide +kernel
theorem dX5_indexOfWord_25 : decode cX5_indexOfWord 25 = .ok (.ireturn, 1) := by decide +kernel
theorem dX5_indexOfWord_26 : decode cX5_indexOfWord 26 = .ok (.iinc 3 1, 3) := by decide +kernel
theorem dX5_indexOfWord_29 : decode cX5_indexOfWord 29 = .ok (.goto (-27), 3) := by decide +kernel
theorem dX5_indexOfWord_32 : decode cX5_indexOfWord 32 = .ok (.iconst (-1), 1) := by decide +kernel
theorem dX5_indexOfWord_33 : decode cX5_indexOfWord 33 = .ok (.ireturn, 1) := by decide +kernel
set_option maxRecDepth 20000 in
theorem ggX5_refuse_X5_fail : GoodIn wsX5_refuse wsX5_fail := goodIn_r _ [7, 8, 9, 10, 11, 12, 13, 14, 15, 16, 17, 18, 19, 20, 21, 22, 23, 24] rfl (by decide +kernel)
set_option maxRecDepth 20000 in
theorem gX5_refuse_X5_fail : GoodIn wsX5_refuse (wsV RX5 195 RX5 yX5_fail wsX5_fail) := goodIn_app (goodIn_r _ [3, 4, 5, 6] rfl (by decide +kernel)) ggX5_refuse_X5_fail
theorem dX5_refuse_0 : decode cX5_refuse 0 = .ok (.aload_n 0, 1) := by decide +kernel
theorem dX5_refuse_1 : decode cX5_refuse 1 = .ok (.aload_n 0, 1) := by decide +kernel
theorem dX5_refuse_2 : decode cX5_refuse 2 = .ok (.getfield 54, 3) := by decide +kernel
theorem dX5_refuse_5 : decode cX5_refuse 5 = .ok (.sipush 259, 3) := by decide +kernel
theorem dX5_refuse_8 : decode cX5_refuse 8 = .ok (.if_icmp .ne 7, 3) := by decide +kernel
theorem dX5_refuse_11 : decode cX5_refuse 11 = .ok (.iconst 1, 1) := by decide +kernel
theorem dX5_refuse_12 : decode cX5_refuse 12 = .ok (.goto 4, 3) := by decide +kernel
theorem dX5_refuse_15 : decode cX5_refuse 15 = .ok (.iconst 2, 1) := by decide +kernel
theorem dX5_refuse_16 : decode cX5_refuse 16 = .ok (.aload_n 0, 1) := by decide +kernel
theorem dX5_refuse_17 : decode cX5_refuse 17 = .ok (.getfield 51, 3) := by decide +kernel
theorem dX5_refuse_20 : decode cX5_refuse 20 = .ok (.invokevirtual 195, 3) := by decide +kernel
theorem dX5_refuse_23 : decode cX5_refuse 23 = .ok (.ireturn, 1) := by decide +kernel
theorem dX5_fail_0 : decode cX5_fail 0 = .ok (.aload_n 0, 1) := by decide +kernel
theorem dX5_fail_1 : decode cX5_fail 1 = .ok (.iload_n 1, 1) := by decide +kernel
theorem dX5_fail_2 : decode cX5_fail 2 = .ok (.putfield 18, 3) := by decide +kernel
theorem dX5_fail_5 : decode cX5_fail 5 = .ok (.aload_n 0, 1) := by decide +kernel
theorem dX5_fail_6 : decode cX5_fail 6 = .ok (.iload_n 2, 1) := by decide +kernel
theorem dX5_fail_7 : decode cX5_fail 7 = .ok (.putfield 22, 3) := by decide +kernel
theorem dX5_fail_10 : decode cX5_fail 10 = .ok (.iconst 0, 1) := by decide +kernel
theorem dX5_fail_11 : decode cX5_fail 11 = .ok (.ireturn, 1) := by decide +kernel
set_option maxRecDepth 20000 in
theorem ggX5_readEither_X5_readBoth : GoodIn wsX5_readEither wsX5_readBoth := goodIn_r _ [144, 1, 2, 3, 145, 146, 147, 7, 8, 9, 10, 11, 12, 13, 14, 15, 16, 17, 18, 19, 20, 21, 22, 23, 24, 25, 26, 27, 28, 29, 30, 31, 32, 33, 34, 35, 36, 37, 38, 39, 40, 41, 42, 43, 44, 45, 46, 47, 48, 49, 50, 51, 52, 53, 54, 55, 56, 57, 58, 59, 60, 61, 62, 63, 64, 65, 66, 67, 68, 69, 70, 71, 72, 73, 74, 75, 76, 77, 78, 79, 80, 81, 82, 83, 84, 85, 86, 87, 88, 89, 90, 91, 92, 93, 94, 95, 96, 97, 98, 99, 100, 101, 102, 103, 104, 105, 106, 107, 108, 109, 110, 111, 112, 113, 114, 115, 116, 117, 118, 119, 120, 121, 122, 123, 124, 125, 126, 127, 128, 129, 130, 131, 132, 133, 134, 135, 136, 137, 138, 139, 140, 141, 142, 143, 0, 4, 5, 6, 148, 149, 150, 151, 152, 153, 154, 155, 156, 157, 158, 159, 160, 161, 162, 163, 164, 165, 166, 167, 168, 169, 170, 171, 172, 173, 174, 175, 176, 177, 178, 179, 180, 181, 182, 183, 184, 185, 186, 187, 188, 189, 190, 191, 192, 193, 194, 195, 196, 197, 198, 199, 200, 201, 202, 203, 204, 205, 206, 207, 208, 209, 210, 211, 212, 213, 214, 215, 216, 217, 218, 219, 220, 221, 222, 223, 224, 225, 226, 227, 228, 229] rfl (by decide +kernel)
set_option maxRecDepth 20000 in
theorem gX5_readEither_X5_readBoth : GoodIn wsX5_readEither (wsV RX5 211 RX5 yX5_readBoth wsX5_readBoth) := goodIn_app (goodIn_r _ [4, 5, 6, 7] rfl (by decide +kernel)) ggX5_readEither_X5_readBoth
set_option maxRecDepth 20000 in
theorem ggX5_readEither_X5_advance : GoodIn wsX5_readEither wsX5_advance := goodIn_r _ [11, 12, 13, 1, 14, 15, 16, 7, 17, 18, 19, 20, 21, 22, 23, 24, 25, 26, 27, 28, 29, 30, 31, 32, 33, 34, 35, 36, 37, 38, 39, 40, 41, 42, 43, 44, 45, 46, 47, 48, 49, 50, 51, 52, 53, 54, 55, 56, 57, 58, 59, 60, 61, 62, 63, 64, 65, 66, 67, 68, 69, 70, 71, 72, 73, 74, 75, 76, 77, 78, 79, 80, 81, 82, 83, 84, 85, 86, 87, 88, 89, 90, 91, 92, 93, 94, 95, 96, 97, 98, 99, 100, 101, 102, 103, 104, 105, 106, 107, 108, 109, 110, 111, 112, 113, 114, 115, 116, 117, 118, 119, 120, 121, 122, 123, 124, 125, 126, 127, 128, 129, 130, 131, 132, 133, 134, 135, 136, 201, 202, 203, 204, 205, 206, 207, 208, 209, 210, 211, 212, 213, 214, 215] rfl (by decide +kernel)
set_option maxRecDepth 20000 in
theorem gX5_readEither_X5_advance : GoodIn wsX5_readEither (wsV RX5 90 RX5 yX5_advance wsX5_advance) := goodIn_app (goodIn_r _ [8, 9, 10, 7] rfl (by decide +kernel)) ggX5_readEither_X5_advance
set_option maxRecDepth 20000 in
theorem ggX5_readEither_X2_addStep : GoodIn wsX5_readEither wsX2_addStep := goodIn_r _ [141, 142, 143, 227, 228, 229] rfl (by decide +kernel)
set_option maxRecDepth 20000 in
theorem gX5_readEither_X2_addStep : GoodIn wsX5_readEither (wsV RX5 214 RX2 yX2_addStep wsX2_addStep) := goodIn_app (goodIn_r _ [137, 138, 139, 140] rfl (by decide +kernel)) ggX5_readEither_X2_addStep
theorem dX5_readEither_0 : decode cX5_readEither 0 = .ok (.aload_n 0, 1) := by decide +kernel
theorem dX5_readEither_1 : decode cX5_readEither 1 = .ok (.iload_n 1, 1) := by decide +kernel
theorem dX5_readEither_2 : decode cX5_readEither 2 = .ok (.invokevirtual 211, 3) := by decide +kernel
theorem dX5_readEither_5 : decode cX5_readEither 5 = .ok (.istore_n 2, 1) := by decide +kernel
theorem dX5_readEither_6 : decode cX5_readEither 6 = .ok (.iconst 0, 1) := by decide +kernel
theorem dX5_readEither_7 : decode cX5_readEither 7 = .ok (.istore_n 3, 1) := by decide +kernel
theorem dX5_readEither_8 : decode cX5_readEither 8 = .ok (.iload_n 3, 1) := by decide +kernel
theorem dX5_readEither_9 : decode cX5_readEither 9 = .ok (.bipush 30, 2) := by decide +kernel
theorem dX5_readEither_11 : decode cX5_readEither 11 = .ok (.if_icmp .ge 44, 3) := by decide +kernel
theorem dX5_readEither_14 : decode cX5_readEither 14 = .ok (.iload_n 2, 1) := by decide +kernel
theorem dX5_readEither_15 : decode cX5_readEither 15 = .ok (.ifCond .eq 40, 3) := by decide +kernel
theorem dX5_readEither_18 : decode cX5_readEither 18 = .ok (.aload_n 0, 1) := by decide +kernel
theorem dX5_readEither_19 : decode cX5_readEither 19 = .ok (.getfield 54, 3) := by decide +kernel
theorem dX5_readEither_22 : decode cX5_readEither 22 = .ok (.bipush 16, 2) := by decide +kernel
theorem dX5_readEither_24 : decode cX5_readEither 24 = .ok (.if_icmp .ne 31, 3) := by decide +kernel
theorem dX5_readEither_27 : decode cX5_readEither 27 = .ok (.aload_n 0, 1) := by decide +kernel
theorem dX5_readEither_28 : decode cX5_readEither 28 = .ok (.invokevirtual 90, 3) := by decide +kernel
theorem dX5_readEither_31 : decode cX5_readEither 31 = .ok (.aload_n 0, 1) := by decide +kernel
theorem dX5_readEither_32 : decode cX5_readEither 32 = .ok (.iload_n 1, 1) := by decide +kernel
theorem dX5_readEither_33 : decode cX5_readEither 33 = .ok (.invokevirtual 211, 3) := by decide +kernel
theorem dX5_readEither_36 : decode cX5_readEither 36 = .ok (.istore_n 2, 1) := by decide +kernel
theorem dX5_readEither_37 : decode cX5_readEither 37 = .ok (.aload_n 0, 1) := by decide +kernel
theorem dX5_readEither_38 : decode cX5_readEither 38 = .ok (.getfield 12, 3) := by decide +kernel
theorem dX5_readEither_41 : decode cX5_readEither 41 = .ok (.getfield 112, 3) := by decide +kernel
theorem dX5_readEither_44 : decode cX5_readEither 44 = .ok (.bipush (-21), 2) := by decide +kernel
theorem dX5_readEither_46 : decode cX5_readEither 46 = .ok (.invokevirtual 214, 3) := by decide +kernel
theorem dX5_readEither_49 : decode cX5_readEither 49 = .ok (.iinc 3 1, 3) := by decide +kernel
theorem dX5_readEither_52 : decode cX5_readEither 52 = .ok (.goto (-44), 3) := by decide +kernel
theorem dX5_readEither_55 : decode cX5_readEither 55 = .ok (.iload_n 2, 1) := by decide +kernel
theorem dX5_readEither_56 : decode cX5_readEither 56 = .ok (.ireturn, 1) := by decide +kernel
set_option maxRecDepth 20000 in
theorem ggX5_readBoth_X5_readOne : GoodIn wsX5_readBoth wsX5_readOne := goodIn_r _ [148, 1, 2, 3, 149, 150, 151, 7, 152, 13, 153, 154, 155, 156, 157, 158, 8, 9, 10, 11, 12, 14, 15, 16, 17, 18, 19, 20, 21, 22, 23, 24, 25, 26, 27, 28, 29, 30, 31, 32, 33, 34, 35, 36, 37, 38, 39, 40, 41, 42, 43, 44, 45, 46, 47, 48, 49, 50, 51, 52, 53, 54, 55, 56, 57, 58, 59, 60, 61, 62, 63, 64, 65, 66, 67, 68, 69, 70, 71, 72, 73, 74, 75, 76, 77, 78, 79, 80, 81, 82, 83, 84, 85, 86, 87, 88, 89, 90, 91, 92, 93, 94, 95, 96, 97, 98, 99, 100, 101, 102, 103, 104, 105, 106, 107, 108, 109, 110, 111, 112, 113, 114, 115, 116, 117, 118, 119, 120, 121, 122, 123, 124, 125, 126, 127, 128, 129, 130, 131, 132, 133, 134, 135, 136, 4, 5, 6, 137, 138, 139, 140, 141, 142, 143, 159, 160, 161, 162, 163, 164, 0, 144, 145, 146, 147, 165, 166, 167, 168, 169, 170, 171, 172, 173, 174, 175, 176, 177, 178, 179, 180, 181, 182, 183, 184, 185, 186, 187, 188, 189, 190, 191, 192, 193, 194, 195, 196, 197, 198, 199, 200, 201, 202, 203, 204, 205, 206, 207, 208, 209, 210, 211, 212, 213, 214, 215, 216, 217, 218, 219, 220, 221, 222, 223, 224, 225, 226, 227, 228, 229] rfl (by decide +kernel)
set_option maxRecDepth 20000 in
theorem gX5_readBoth_X5_readOne : GoodIn wsX5_readBoth (wsV RX5 218 RX5 yX5_readOne wsX5_readOne) := goodIn_app (goodIn_r _ [4, 5, 6, 7] rfl (by decide +kernel)) ggX5_readBoth_X5_readOne
set_option maxRecDepth 20000 in
theorem ggX5_readBoth_X5_advance : GoodIn wsX5_readBoth wsX5_advance := goodIn_r _ [11, 12, 13, 1, 14, 15, 16, 7, 17, 18, 19, 20, 21, 22, 23, 24, 25, 26, 27, 28, 29, 30, 31, 32, 33, 34, 35, 36, 37, 38, 39, 40, 41, 42, 43, 44, 45, 46, 47, 48, 49, 50, 51, 52, 53, 54, 55, 56, 57, 58, 59, 60, 61, 62, 63, 64, 65, 66, 67, 68, 69, 70, 71, 72, 73, 74, 75, 76, 77, 78, 79, 80, 81, 82, 83, 84, 85, 86, 87, 88, 89, 90, 91, 92, 93, 94, 95, 96, 97, 98, 99, 100, 101, 102, 103, 104, 105, 106, 107, 108, 109, 110, 111, 112, 113, 114, 115, 116, 117, 118, 119, 120, 121, 122, 123, 124, 125, 126, 127, 128, 129, 130, 131, 132, 133, 134, 135, 136, 201, 202, 203, 204, 205, 206, 207, 208, 209, 210, 211, 212, 213, 214, 215] rfl (by decide +kernel)
set_option maxRecDepth 20000 in
theorem gX5_readBoth_X5_advance : GoodIn wsX5_readBoth (wsV RX5 90 RX5 yX5_advance wsX5_advance) := goodIn_app (goodIn_r _ [8, 9, 10, 7] rfl (by decide +kernel)) ggX5_readBoth_X5_advance
set_option maxRecDepth 20000 in
theorem ggX5_readBoth_X2_addStep : GoodIn wsX5_readBoth wsX2_addStep := goodIn_r _ [141, 142, 143, 227, 228, 229] rfl (by decide +kernel)
set_option maxRecDepth 20000 in
theorem gX5_readBoth_X2_addStep : GoodIn wsX5_readBoth (wsV RX5 214 RX2 yX2_addStep wsX2_addStep) := goodIn_app (goodIn_r _ [137, 138, 139, 140] rfl (by decide +kernel)) ggX5_readBoth_X2_addStep
theorem dX5_readBoth_0 : decode cX5_readBoth 0 = .ok (.aload_n 0, 1) := by decide +kernel
theorem dX5_readBoth_1 : decode cX5_readBoth 1 = .ok (.iload_n 1, 1) := by decide +kernel
theorem dX5_readBoth_2 : decode cX5_readBoth 2 = .ok (.invokevirtual 218, 3) := by decide +kernel
theorem dX5_readBoth_5 : decode cX5_readBoth 5 = .ok (.istore_n 2, 1) := by decide +kernel
theorem dX5_readBoth_6 : decode cX5_readBoth 6 = .ok (.iconst 0, 1) := by decide +kernel
theorem dX5_readBoth_7 : decode cX5_readBoth 7 = .ok (.istore_n 3, 1) := by decide +kernel
theorem dX5_readBoth_8 : decode cX5_readBoth 8 = .ok (.iload_n 3, 1) := by decide +kernel
theorem dX5_readBoth_9 : decode cX5_readBoth 9 = .ok (.bipush 30, 2) := by decide +kernel
theorem dX5_readBoth_11 : decode cX5_readBoth 11 = .ok (.if_icmp .ge 44, 3) := by decide +kernel
theorem dX5_readBoth_14 : decode cX5_readBoth 14 = .ok (.iload_n 2, 1) := by decide +kernel
theorem dX5_readBoth_15 : decode cX5_readBoth 15 = .ok (.ifCond .eq 40, 3) := by decide +kernel
theorem dX5_readBoth_18 : decode cX5_readBoth 18 = .ok (.aload_n 0, 1) := by decide +kernel
theorem dX5_readBoth_19 : decode cX5_readBoth 19 = .ok (.getfield 54, 3) := by decide +kernel
theorem dX5_readBoth_22 : decode cX5_readBoth 22 = .ok (.bipush 17, 2) := by decide +kernel
theorem dX5_readBoth_24 : decode cX5_readBoth 24 = .ok (.if_icmp .ne 31, 3) := by decide +kernel
theorem dX5_readBoth_27 : decode cX5_readBoth 27 = .ok (.aload_n 0, 1) := by decide +kernel
theorem dX5_readBoth_28 : decode cX5_readBoth 28 = .ok (.invokevirtual 90, 3) := by decide +kernel
theorem dX5_readBoth_31 : decode cX5_readBoth 31 = .ok (.aload_n 0, 1) := by decide +kernel
theorem dX5_readBoth_32 : decode cX5_readBoth 32 = .ok (.iload_n 1, 1) := by decide +kernel
theorem dX5_readBoth_33 : decode cX5_readBoth 33 = .ok (.invokevirtual 218, 3) := by decide +kernel
theorem dX5_readBoth_36 : decode cX5_readBoth 36 = .ok (.istore_n 2, 1) := by decide +kernel
theorem dX5_readBoth_37 : decode cX5_readBoth 37 = .ok (.aload_n 0, 1) := by decide +kernel
theorem dX5_readBoth_38 : decode cX5_readBoth 38 = .ok (.getfield 12, 3) := by decide +kernel
theorem dX5_readBoth_41 : decode cX5_readBoth 41 = .ok (.getfield 112, 3) := by decide +kernel
theorem dX5_readBoth_44 : decode cX5_readBoth 44 = .ok (.bipush (-22), 2) := by decide +kernel
theorem dX5_readBoth_46 : decode cX5_readBoth 46 = .ok (.invokevirtual 214, 3) := by decide +kernel
theorem dX5_readBoth_49 : decode cX5_readBoth 49 = .ok (.iinc 3 1, 3) := by decide +kernel
theorem dX5_readBoth_52 : decode cX5_readBoth 52 = .ok (.goto (-44), 3) := by decide +kernel
theorem dX5_readBoth_55 : decode cX5_readBoth 55 = .ok (.iload_n 2, 1) := by decide +kernel
theorem dX5_readBoth_56 : decode cX5_readBoth 56 = .ok (.ireturn, 1) := by decide +kernel
set_option maxRecDepth 20000 in
theorem ggX5_readOne_X5_refuse : GoodIn wsX5_readOne wsX5_refuse := goodIn_r _ [8, 1, 9, 10, 11, 12, 7, 13, 14, 15, 201, 202, 203, 204, 205, 206, 207, 208, 209, 210, 211, 212, 213, 214, 215] rfl (by decide +kernel)
set_option maxRecDepth 20000 in
theorem gX5_readOne_X5_refuse : GoodIn wsX5_readOne (wsV RX5 146 RX5 yX5_refuse wsX5_refuse) := goodIn_app (goodIn_r _ [4, 5, 6, 7] rfl (by decide +kernel)) ggX5_readOne_X5_refuse
set_option maxRecDepth 20000 in
theorem ggX5_readOne_X5_advance : GoodIn wsX5_readOne wsX5_advance := goodIn_r _ [19, 20, 9, 1, 21, 22, 23, 7, 24, 25, 26, 27, 28, 29, 30, 31, 32, 33, 34, 35, 36, 37, 38, 39, 40, 41, 42, 43, 44, 45, 46, 47, 48, 49, 50, 51, 52, 53, 54, 55, 56, 57, 58, 59, 60, 61, 62, 63, 64, 65, 66, 67, 68, 69, 70, 71, 72, 73, 74, 75, 76, 77, 78, 79, 80, 81, 82, 83, 84, 85, 86, 87, 88, 89, 90, 91, 92, 93, 94, 95, 96, 97, 98, 99, 100, 101, 102, 103, 104, 105, 106, 107, 108, 109, 110, 111, 112, 113, 114, 115, 116, 117, 118, 119, 120, 121, 122, 123, 124, 125, 126, 127, 128, 129, 130, 131, 132, 133, 134, 135, 136, 137, 138, 139, 140, 141, 142, 143, 201, 202, 203, 204, 205, 206, 207, 208, 209, 210, 211, 212, 213, 214, 215] rfl (by decide +kernel)
set_option maxRecDepth 20000 in
theorem gX5_readOne_X5_advance : GoodIn wsX5_readOne (wsV RX5 90 RX5 yX5_advance wsX5_advance) := goodIn_app (goodIn_r _ [16, 17, 18, 7] rfl (by decide +kernel)) ggX5_readOne_X5_advance
set_option maxRecDepth 20000 in
theorem ggX5_readOne_X5_readOne : GoodIn wsX5_readOne wsX5_readOne := goodIn_r _ [0, 1, 2, 3, 4, 5, 6, 7, 8, 9, 10, 11, 12, 13, 14, 15, 16, 17, 18, 19, 20, 21, 22, 23, 24, 25, 26, 27, 28, 29, 30, 31, 32, 33, 34, 35, 36, 37, 38, 39, 40, 41, 42, 43, 44, 45, 46, 47, 48, 49, 50, 51, 52, 53, 54, 55, 56, 57, 58, 59, 60, 61, 62, 63, 64, 65, 66, 67, 68, 69, 70, 71, 72, 73, 74, 75, 76, 77, 78, 79, 80, 81, 82, 83, 84, 85, 86, 87, 88, 89, 90, 91, 92, 93, 94, 95, 96, 97, 98, 99, 100, 101, 102, 103, 104, 105, 106, 107, 108, 109, 110, 111, 112, 113, 114, 115, 116, 117, 118, 119, 120, 121, 122, 123, 124, 125, 126, 127, 128, 129, 130, 131, 132, 133, 134, 135, 136, 137, 138, 139, 140, 141, 142, 143, 144, 145, 146, 147, 148, 149, 150, 151, 152, 153, 154, 155, 156, 157, 158, 159, 160, 161, 162, 163, 164, 165, 166, 167, 168, 169, 170, 171, 172, 173, 174, 175, 176, 177, 178, 179, 180, 181, 182, 183, 184, 185, 186, 187, 188, 189, 190, 191, 192, 193, 194, 195, 196, 197, 198, 199, 200, 201, 202, 203, 204, 205, 206, 207, 208, 209, 210, 211, 212, 213, 214, 215, 216, 217, 218, 219, 220, 221, 222, 223, 224, 225, 226, 227, 228, 229] rfl (by decide +kernel)
set_option maxRecDepth 20000 in
theorem gX5_readOne_X5_readOne : GoodIn wsX5_readOne (wsV RX5 218 RX5 yX5_readOne wsX5_readOne) := goodIn_app (goodIn_r _ [144, 145, 146, 7] rfl (by decide +kernel)) ggX5_readOne_X5_readOne
set_option maxRecDepth 20000 in
theorem ggX5_readOne_X2_addStep : GoodIn wsX5_readOne wsX2_addStep := goodIn_r _ [151, 152, 153, 227, 228, 229] rfl (by decide +kernel)
set_option maxRecDepth 20000 in
theorem gX5_readOne_X2_addStep : GoodIn wsX5_readOne (wsV RX5 214 RX2 yX2_addStep wsX2_addStep) := goodIn_app (goodIn_r _ [147, 148, 149, 150] rfl (by decide +kernel)) ggX5_readOne_X2_addStep
set_option maxRecDepth 20000 in
theorem ggX5_readOne_X5_readSum : GoodIn wsX5_readOne wsX5_readSum := goodIn_r _ [174, 1, 2, 3, 175, 176, 177, 7, 16, 17, 18, 19, 20, 9, 21, 22, 23, 24, 25, 26, 27, 28, 29, 30, 31, 32, 33, 34, 35, 36, 37, 38, 39, 40, 41, 42, 43, 44, 45, 46, 47, 48, 49, 50, 51, 52, 53, 54, 55, 56, 57, 58, 59, 60, 61, 62, 63, 64, 65, 66, 67, 68, 69, 70, 71, 72, 73, 74, 75, 76, 77, 78, 79, 80, 81, 82, 83, 84, 85, 86, 87, 88, 89, 90, 91, 92, 93, 94, 95, 96, 97, 98, 99, 100, 101, 102, 103, 104, 105, 106, 107, 108, 109, 110, 111, 112, 113, 114, 115, 116, 117, 118, 119, 120, 121, 122, 123, 124, 125, 126, 127, 128, 129, 130, 131, 132, 133, 134, 135, 136, 137, 138, 139, 140, 141, 142, 143, 147, 148, 149, 150, 151, 152, 153, 160, 144, 145, 146, 161, 162, 163, 164, 0, 4, 5, 6, 8, 10, 11, 12, 13, 14, 15, 154, 155, 156, 157, 158, 159, 165, 166, 167, 168, 169, 170, 171, 172, 173, 178, 179, 180, 181, 182, 183, 184, 185, 186, 187, 188, 189, 190, 191, 192, 193, 194, 195, 196, 197, 198, 199, 200, 201, 202, 203, 204, 205, 206, 207, 208, 209, 210, 211, 212, 213, 214, 215, 216, 217, 218, 219, 220, 221, 222, 223, 224, 225, 226, 227, 228, 229] rfl (by decide +kernel)
set_option maxRecDepth 20000 in
theorem gX5_readOne_X5_readSum : GoodIn wsX5_readOne (wsV RX5 221 RX5 yX5_readSum wsX5_readSum) := goodIn_app (goodIn_r _ [154, 155, 156, 7] rfl (by decide +kernel)) ggX5_readOne_X5_readSum
set_option maxRecDepth 20000 in
theorem ggX5_readOne_X5_relation : GoodIn wsX5_readOne wsX5_relation := goodIn_r _ [159] rfl (by decide +kernel)
set_option maxRecDepth 20000 in
theorem gX5_readOne_X5_relation : GoodIn wsX5_readOne (va_wsS RX5 224 yX5_relation wsX5_relation) := goodIn_app (goodIn_r _ [157, 158, 7] rfl (by decide +kernel)) ggX5_readOne_X5_relation
theorem dX5_readOne_0 : decode cX5_readOne 0 = .ok (.aload_n 0, 1) := by decide +kernel
theorem dX5_readOne_1 : decode cX5_readOne 1 = .ok (.getfield 54, 3) := by decide +kernel
theorem dX5_readOne_4 : decode cX5_readOne 4 = .ok (.bipush 18, 2) := by decide +kernel
theorem dX5_readOne_6 : decode cX5_readOne 6 = .ok (.if_icmp .ne 40, 3) := by decide +kernel
theorem dX5_readOne_9 : decode cX5_readOne 9 = .ok (.iload_n 1, 1) := by decide +kernel
theorem dX5_readOne_10 : decode cX5_readOne 10 = .ok (.bipush 7, 2) := by decide +kernel
theorem dX5_readOne_12 : decode cX5_readOne 12 = .ok (.if_icmp .lt 8, 3) := by decide +kernel
theorem dX5_readOne_15 : decode cX5_readOne 15 = .ok (.aload_n 0, 1) := by decide +kernel
theorem dX5_readOne_16 : decode cX5_readOne 16 = .ok (.invokevirtual 146, 3) := by decide +kernel
theorem dX5_readOne_19 : decode cX5_readOne 19 = .ok (.ireturn, 1) := by decide +kernel
theorem dX5_readOne_20 : decode cX5_readOne 20 = .ok (.aload_n 0, 1) := by decide +kernel
theorem dX5_readOne_21 : decode cX5_readOne 21 = .ok (.invokevirtual 90, 3) := by decide +kernel
theorem dX5_readOne_24 : decode cX5_readOne 24 = .ok (.aload_n 0, 1) := by decide +kernel
theorem dX5_readOne_25 : decode cX5_readOne 25 = .ok (.iload_n 1, 1) := by decide +kernel
theorem dX5_readOne_26 : decode cX5_readOne 26 = .ok (.iconst 1, 1) := by decide +kernel
theorem dX5_readOne_27 : decode cX5_readOne 27 = .ok (.iadd, 1) := by decide +kernel
theorem dX5_readOne_28 : decode cX5_readOne 28 = .ok (.invokevirtual 218, 3) := by decide +kernel
theorem dX5_readOne_31 : decode cX5_readOne 31 = .ok (.istore_n 2, 1) := by decide +kernel
theorem dX5_readOne_32 : decode cX5_readOne 32 = .ok (.aload_n 0, 1) := by decide +kernel
theorem dX5_readOne_33 : decode cX5_readOne 33 = .ok (.getfield 12, 3) := by decide +kernel
theorem dX5_readOne_36 : decode cX5_readOne 36 = .ok (.getfield 112, 3) := by decide +kernel
theorem dX5_readOne_39 : decode cX5_readOne 39 = .ok (.bipush (-20), 2) := by decide +kernel
theorem dX5_readOne_41 : decode cX5_readOne 41 = .ok (.invokevirtual 214, 3) := by decide +kernel
theorem dX5_readOne_44 : decode cX5_readOne 44 = .ok (.iload_n 2, 1) := by decide +kernel
theorem dX5_readOne_45 : decode cX5_readOne 45 = .ok (.ireturn, 1) := by decide +kernel
theorem dX5_readOne_46 : decode cX5_readOne 46 = .ok (.aload_n 0, 1) := by decide +kernel
theorem dX5_readOne_47 : decode cX5_readOne 47 = .ok (.iload_n 1, 1) := by decide +kernel
theorem dX5_readOne_48 : decode cX5_readOne 48 = .ok (.invokevirtual 221, 3) := by decide +kernel
theorem dX5_readOne_51 : decode cX5_readOne 51 = .ok (.ifCond .ne 5, 3) := by decide +kernel
theorem dX5_readOne_54 : decode cX5_readOne 54 = .ok (.iconst 0, 1) := by decide +kernel
theorem dX5_readOne_55 : decode cX5_readOne 55 = .ok (.ireturn, 1) := by decide +kernel
theorem dX5_readOne_56 : decode cX5_readOne 56 = .ok (.aload_n 0, 1) := by decide +kernel
theorem dX5_readOne_57 : decode cX5_readOne 57 = .ok (.getfield 54, 3) := by decide +kernel
theorem dX5_readOne_60 : decode cX5_readOne 60 = .ok (.invokestatic 224, 3) := by decide +kernel
theorem dX5_readOne_63 : decode cX5_readOne 63 = .ok (.istore_n 2, 1) := by decide +kernel
theorem dX5_readOne_64 : decode cX5_readOne 64 = .ok (.iload_n 2, 1) := by decide +kernel
theorem dX5_readOne_65 : decode cX5_readOne 65 = .ok (.ifCond .ne 5, 3) := by decide +kernel
theorem dX5_readOne_68 : decode cX5_readOne 68 = .ok (.iconst 1, 1) := by decide +kernel
theorem dX5_readOne_69 : decode cX5_readOne 69 = .ok (.ireturn, 1) := by decide +kernel
theorem dX5_readOne_70 : decode cX5_readOne 70 = .ok (.aload_n 0, 1) := by decide +kernel
theorem dX5_readOne_71 : decode cX5_readOne 71 = .ok (.invokevirtual 90, 3) := by decide +kernel
theorem dX5_readOne_74 : decode cX5_readOne 74 = .ok (.aload_n 0, 1) := by decide +kernel
theorem dX5_readOne_75 : decode cX5_readOne 75 = .ok (.iload_n 1, 1) := by decide +kernel
theorem dX5_readOne_76 : decode cX5_readOne 76 = .ok (.invokevirtual 221, 3) := by decide +kernel
theorem dX5_readOne_79 : decode cX5_readOne 79 = .ok (.istore_n 3, 1) := by decide +kernel
theorem dX5_readOne_80 : decode cX5_readOne 80 = .ok (.aload_n 0, 1) := by decide +kernel
theorem dX5_readOne_81 : decode cX5_readOne 81 = .ok (.getfield 12, 3) := by decide +kernel
theorem dX5_readOne_84 : decode cX5_readOne 84 = .ok (.getfield 112, 3) := by decide +kernel
theorem dX5_readOne_87 : decode cX5_readOne 87 = .ok (.iload_n 2, 1) := by decide +kernel
theorem dX5_readOne_88 : decode cX5_readOne 88 = .ok (.invokevirtual 214, 3) := by decide +kernel
theorem dX5_readOne_91 : decode cX5_readOne 91 = .ok (.iload_n 3, 1) := by decide +kernel
theorem dX5_readOne_92 : decode cX5_readOne 92 = .ok (.ireturn, 1) := by decide +kernel
set_option maxRecDepth 20000 in
theorem ggX5_readSum_X5_readTerm : GoodIn wsX5_readSum wsX5_readTerm := goodIn_r _ [178, 1, 2, 3, 179, 180, 181, 7, 182, 183, 184, 8, 9, 10, 11, 12, 13, 14, 15, 16, 17, 18, 19, 20, 21, 22, 23, 24, 25, 26, 27, 28, 29, 30, 31, 32, 33, 34, 35, 36, 37, 38, 39, 40, 41, 42, 43, 44, 45, 46, 47, 48, 49, 50, 51, 52, 53, 54, 55, 56, 57, 58, 59, 60, 61, 62, 63, 64, 65, 66, 67, 68, 69, 70, 71, 72, 73, 74, 75, 76, 77, 78, 79, 80, 81, 82, 83, 84, 85, 86, 87, 88, 89, 90, 91, 92, 93, 94, 95, 96, 97, 98, 99, 100, 101, 102, 103, 104, 105, 106, 107, 108, 109, 110, 111, 112, 113, 114, 115, 116, 117, 118, 119, 120, 121, 122, 123, 124, 125, 126, 127, 128, 129, 130, 131, 132, 133, 134, 135, 136, 137, 138, 139, 140, 141, 142, 143, 144, 145, 146, 147, 148, 149, 150, 151, 152, 153, 154, 155, 156, 157, 158, 159, 160, 161, 162, 163, 164, 165, 166, 167, 168, 169, 170, 171, 172, 173, 174, 175, 176, 177, 0, 4, 5, 6, 185, 186, 187, 188, 189, 190, 191, 192, 193, 194, 195, 196, 197, 198, 199, 200, 201, 202, 203, 204, 205, 206, 207, 208, 209, 210, 211, 212, 213, 214, 215, 216, 217, 218, 219, 220, 221, 222, 223, 224, 225, 226, 227, 228, 229] rfl (by decide +kernel)
set_option maxRecDepth 20000 in
theorem gX5_readSum_X5_readTerm : GoodIn wsX5_readSum (wsV RX5 228 RX5 yX5_readTerm wsX5_readTerm) := goodIn_app (goodIn_r _ [4, 5, 6, 7] rfl (by decide +kernel)) ggX5_readSum_X5_readTerm
set_option maxRecDepth 20000 in
theorem ggX5_readSum_X5_advance : GoodIn wsX5_readSum wsX5_advance := goodIn_r _ [11, 12, 13, 1, 14, 15, 16, 7, 17, 18, 19, 20, 21, 22, 23, 24, 25, 26, 27, 28, 29, 30, 31, 32, 33, 34, 35, 36, 37, 38, 39, 40, 41, 42, 43, 44, 45, 46, 47, 48, 49, 50, 51, 52, 53, 54, 55, 56, 57, 58, 59, 60, 61, 62, 63, 64, 65, 66, 67, 68, 69, 70, 71, 72, 73, 74, 75, 76, 77, 78, 79, 80, 81, 82, 83, 84, 85, 86, 87, 88, 89, 90, 91, 92, 93, 94, 95, 96, 97, 98, 99, 100, 101, 102, 103, 104, 105, 106, 107, 108, 109, 110, 111, 112, 113, 114, 115, 116, 117, 118, 119, 120, 121, 122, 123, 124, 125, 126, 127, 128, 129, 130, 131, 132, 133, 134, 135, 136, 201, 202, 203, 204, 205, 206, 207, 208, 209, 210, 211, 212, 213, 214, 215] rfl (by decide +kernel)
set_option maxRecDepth 20000 in
theorem gX5_readSum_X5_advance : GoodIn wsX5_readSum (wsV RX5 90 RX5 yX5_advance wsX5_advance) := goodIn_app (goodIn_r _ [8, 9, 10, 7] rfl (by decide +kernel)) ggX5_readSum_X5_advance
set_option maxRecDepth 20000 in
theorem ggX5_readSum_X2_addStep : GoodIn wsX5_readSum wsX2_addStep := goodIn_r _ [141, 142, 143, 227, 228, 229] rfl (by decide +kernel)
set_option maxRecDepth 20000 in
theorem gX5_readSum_X2_addStep : GoodIn wsX5_readSum (wsV RX5 214 RX2 yX2_addStep wsX2_addStep) := goodIn_app (goodIn_r _ [137, 138, 139, 140] rfl (by decide +kernel)) ggX5_readSum_X2_addStep
theorem dX5_readSum_0 : decode cX5_readSum 0 = .ok (.aload_n 0, 1) := by decide +kernel
theorem dX5_readSum_1 : decode cX5_readSum 1 = .ok (.iload_n 1, 1) := by decide +kernel
theorem dX5_readSum_2 : decode cX5_readSum 2 = .ok (.invokevirtual 228, 3) := by decide +kernel
theorem dX5_readSum_5 : decode cX5_readSum 5 = .ok (.istore_n 2, 1) := by decide +kernel
theorem dX5_readSum_6 : decode cX5_readSum 6 = .ok (.iconst 0, 1) := by decide +kernel
theorem dX5_readSum_7 : decode cX5_readSum 7 = .ok (.istore_n 3, 1) := by decide +kernel
theorem dX5_readSum_8 : decode cX5_readSum 8 = .ok (.iload_n 3, 1) := by decide +kernel
theorem dX5_readSum_9 : decode cX5_readSum 9 = .ok (.bipush 30, 2) := by decide +kernel
theorem dX5_readSum_11 : decode cX5_readSum 11 = .ok (.if_icmp .ge 71, 3) := by decide +kernel
theorem dX5_readSum_14 : decode cX5_readSum 14 = .ok (.iload_n 2, 1) := by decide +kernel
theorem dX5_readSum_15 : decode cX5_readSum 15 = .ok (.ifCond .eq 67, 3) := by decide +kernel
theorem dX5_readSum_18 : decode cX5_readSum 18 = .ok (.aload_n 0, 1) := by decide +kernel
theorem dX5_readSum_19 : decode cX5_readSum 19 = .ok (.getfield 54, 3) := by decide +kernel
theorem dX5_readSum_22 : decode cX5_readSum 22 = .ok (.bipush 43, 2) := by decide +kernel
theorem dX5_readSum_24 : decode cX5_readSum 24 = .ok (.if_icmp .eq 12, 3) := by decide +kernel
theorem dX5_readSum_27 : decode cX5_readSum 27 = .ok (.aload_n 0, 1) := by decide +kernel
theorem dX5_readSum_28 : decode cX5_readSum 28 = .ok (.getfield 54, 3) := by decide +kernel
theorem dX5_readSum_31 : decode cX5_readSum 31 = .ok (.bipush 45, 2) := by decide +kernel
theorem dX5_readSum_33 : decode cX5_readSum 33 = .ok (.if_icmp .ne 49, 3) := by decide +kernel
theorem dX5_readSum_36 : decode cX5_readSum 36 = .ok (.aload_n 0, 1) := by decide +kernel
theorem dX5_readSum_37 : decode cX5_readSum 37 = .ok (.getfield 54, 3) := by decide +kernel
theorem dX5_readSum_40 : decode cX5_readSum 40 = .ok (.bipush 43, 2) := by decide +kernel
theorem dX5_readSum_42 : decode cX5_readSum 42 = .ok (.if_icmp .ne 8, 3) := by decide +kernel
theorem dX5_readSum_45 : decode cX5_readSum 45 = .ok (.bipush (-26), 2) := by decide +kernel
theorem dX5_readSum_47 : decode cX5_readSum 47 = .ok (.goto 5, 3) := by decide +kernel
theorem dX5_readSum_50 : decode cX5_readSum 50 = .ok (.bipush (-27), 2) := by decide +kernel
theorem dX5_readSum_52 : decode cX5_readSum 52 = .ok (.istore 4, 2) := by decide +kernel
theorem dX5_readSum_54 : decode cX5_readSum 54 = .ok (.aload_n 0, 1) := by decide +kernel
theorem dX5_readSum_55 : decode cX5_readSum 55 = .ok (.invokevirtual 90, 3) := by decide +kernel
theorem dX5_readSum_58 : decode cX5_readSum 58 = .ok (.aload_n 0, 1) := by decide +kernel
theorem dX5_readSum_59 : decode cX5_readSum 59 = .ok (.iload_n 1, 1) := by decide +kernel
theorem dX5_readSum_60 : decode cX5_readSum 60 = .ok (.invokevirtual 228, 3) := by decide +kernel
theorem dX5_readSum_63 : decode cX5_readSum 63 = .ok (.istore_n 2, 1) := by decide +kernel
theorem dX5_readSum_64 : decode cX5_readSum 64 = .ok (.aload_n 0, 1) := by decide +kernel
theorem dX5_readSum_65 : decode cX5_readSum 65 = .ok (.getfield 12, 3) := by decide +kernel
theorem dX5_readSum_68 : decode cX5_readSum 68 = .ok (.getfield 112, 3) := by decide +kernel
theorem dX5_readSum_71 : decode cX5_readSum 71 = .ok (.iload 4, 2) := by decide +kernel
theorem dX5_readSum_73 : decode cX5_readSum 73 = .ok (.invokevirtual 214, 3) := by decide +kernel
theorem dX5_readSum_76 : decode cX5_readSum 76 = .ok (.iinc 3 1, 3) := by decide +kernel
theorem dX5_readSum_79 : decode cX5_readSum 79 = .ok (.goto (-71), 3) := by decide +kernel
theorem dX5_readSum_82 : decode cX5_readSum 82 = .ok (.iload_n 2, 1) := by decide +kernel
theorem dX5_readSum_83 : decode cX5_readSum 83 = .ok (.ireturn, 1) := by decide +kernel
set_option maxRecDepth 20000 in
theorem ggX5_readTerm_X5_readUnit : GoodIn wsX5_readTerm wsX5_readUnit := goodIn_r _ [185, 2, 173, 1, 3, 50, 156, 157, 158, 7, 159, 16, 160, 161, 162, 163, 164, 165, 186, 187, 188, 189, 190, 191, 192, 193, 194, 143, 195, 196, 141, 142, 144, 145, 146, 197, 198, 199, 200, 11, 12, 13, 14, 15, 17, 18, 19, 20, 21, 22, 23, 24, 25, 26, 27, 28, 29, 30, 31, 32, 33, 34, 35, 36, 37, 38, 39, 40, 41, 42, 43, 44, 45, 46, 47, 48, 49, 51, 52, 53, 54, 55, 56, 57, 58, 59, 60, 61, 62, 63, 64, 65, 66, 67, 68, 69, 70, 71, 72, 73, 74, 75, 76, 77, 78, 79, 80, 81, 82, 83, 84, 85, 86, 87, 88, 89, 90, 91, 92, 93, 94, 95, 96, 97, 98, 99, 100, 101, 102, 103, 104, 105, 106, 107, 108, 109, 110, 111, 112, 113, 114, 115, 116, 117, 118, 119, 120, 121, 122, 123, 124, 125, 126, 127, 128, 129, 130, 131, 132, 133, 134, 135, 136, 137, 138, 139, 147, 148, 149, 150, 140, 151, 152, 153, 154, 155, 166, 167, 168, 169, 170, 171, 172, 174, 175, 176, 177, 178, 179, 180, 181, 182, 183, 184, 0, 4, 5, 6, 8, 9, 10, 201, 202, 203, 204, 205, 206, 207, 208, 209, 210, 211, 212, 213, 214, 215, 216, 217, 218, 219, 220, 221, 222, 223, 224, 225, 226, 227, 228, 229] rfl (by decide +kernel)
set_option maxRecDepth 20000 in
theorem gX5_readTerm_X5_readUnit : GoodIn wsX5_readTerm (wsV RX5 231 RX5 yX5_readUnit wsX5_readUnit) := goodIn_app (goodIn_r _ [4, 5, 6, 7] rfl (by decide +kernel)) ggX5_readTerm_X5_readUnit
set_option maxRecDepth 20000 in
theorem ggX5_readTerm_X5_multiplying : GoodIn wsX5_readTerm wsX5_multiplying := goodIn_r _ [10] rfl (by decide +kernel)
set_option maxRecDepth 20000 in
theorem gX5_readTerm_X5_multiplying : GoodIn wsX5_readTerm (va_wsS RX5 234 yX5_multiplying wsX5_multiplying) := goodIn_app (goodIn_r _ [8, 9, 7] rfl (by decide +kernel)) ggX5_readTerm_X5_multiplying
set_option maxRecDepth 20000 in
theorem ggX5_readTerm_X5_advance : GoodIn wsX5_readTerm wsX5_advance := goodIn_r _ [14, 15, 16, 1, 17, 18, 19, 7, 20, 21, 22, 23, 24, 25, 26, 27, 28, 29, 30, 31, 32, 33, 34, 35, 36, 37, 38, 39, 40, 41, 42, 43, 44, 45, 46, 47, 48, 49, 50, 51, 52, 53, 54, 55, 56, 57, 58, 59, 60, 61, 62, 63, 64, 65, 66, 67, 68, 69, 70, 71, 72, 73, 74, 75, 76, 77, 78, 79, 80, 81, 82, 83, 84, 85, 86, 87, 88, 89, 90, 91, 92, 93, 94, 95, 96, 97, 98, 99, 100, 101, 102, 103, 104, 105, 106, 107, 108, 109, 110, 111, 112, 113, 114, 115, 116, 117, 118, 119, 120, 121, 122, 123, 124, 125, 126, 127, 128, 129, 130, 131, 132, 133, 134, 135, 136, 137, 138, 139, 201, 202, 203, 204, 205, 206, 207, 208, 209, 210, 211, 212, 213, 214, 215] rfl (by decide +kernel)
set_option maxRecDepth 20000 in
theorem gX5_readTerm_X5_advance : GoodIn wsX5_readTerm (wsV RX5 90 RX5 yX5_advance wsX5_advance) := goodIn_app (goodIn_r _ [11, 12, 13, 7] rfl (by decide +kernel)) ggX5_readTerm_X5_advance
set_option maxRecDepth 20000 in
theorem ggX5_readTerm_X2_addStep : GoodIn wsX5_readTerm wsX2_addStep := goodIn_r _ [144, 145, 146, 227, 228, 229] rfl (by decide +kernel)
set_option maxRecDepth 20000 in
theorem gX5_readTerm_X2_addStep : GoodIn wsX5_readTerm (wsV RX5 214 RX2 yX2_addStep wsX2_addStep) := goodIn_app (goodIn_r _ [140, 141, 142, 143] rfl (by decide +kernel)) ggX5_readTerm_X2_addStep
theorem dX5_readTerm_0 : decode cX5_readTerm 0 = .ok (.aload_n 0, 1) := by decide +kernel
theorem dX5_readTerm_1 : decode cX5_readTerm 1 = .ok (.iload_n 1, 1) := by decide +kernel
theorem dX5_readTerm_2 : decode cX5_readTerm 2 = .ok (.invokevirtual 231, 3) := by decide +kernel
theorem dX5_readTerm_5 : decode cX5_readTerm 5 = .ok (.istore_n 2, 1) := by decide +kernel
theorem dX5_readTerm_6 : decode cX5_readTerm 6 = .ok (.iconst 0, 1) := by decide +kernel
theorem dX5_readTerm_7 : decode cX5_readTerm 7 = .ok (.istore_n 3, 1) := by decide +kernel
theorem dX5_readTerm_8 : decode cX5_readTerm 8 = .ok (.iload_n 3, 1) := by decide +kernel
theorem dX5_readTerm_9 : decode cX5_readTerm 9 = .ok (.bipush 30, 2) := by decide +kernel
theorem dX5_readTerm_11 : decode cX5_readTerm 11 = .ok (.if_icmp .ge 54, 3) := by decide +kernel
theorem dX5_readTerm_14 : decode cX5_readTerm 14 = .ok (.iload_n 2, 1) := by decide +kernel
theorem dX5_readTerm_15 : decode cX5_readTerm 15 = .ok (.ifCond .eq 50, 3) := by decide +kernel
theorem dX5_readTerm_18 : decode cX5_readTerm 18 = .ok (.aload_n 0, 1) := by decide +kernel
theorem dX5_readTerm_19 : decode cX5_readTerm 19 = .ok (.getfield 54, 3) := by decide +kernel
theorem dX5_readTerm_22 : decode cX5_readTerm 22 = .ok (.invokestatic 234, 3) := by decide +kernel
theorem dX5_readTerm_25 : decode cX5_readTerm 25 = .ok (.ifCond .eq 40, 3) := by decide +kernel
theorem dX5_readTerm_28 : decode cX5_readTerm 28 = .ok (.aload_n 0, 1) := by decide +kernel
theorem dX5_readTerm_29 : decode cX5_readTerm 29 = .ok (.getfield 54, 3) := by decide +kernel
theorem dX5_readTerm_32 : decode cX5_readTerm 32 = .ok (.invokestatic 234, 3) := by decide +kernel
theorem dX5_readTerm_35 : decode cX5_readTerm 35 = .ok (.istore 4, 2) := by decide +kernel
theorem dX5_readTerm_37 : decode cX5_readTerm 37 = .ok (.aload_n 0, 1) := by decide +kernel
theorem dX5_readTerm_38 : decode cX5_readTerm 38 = .ok (.invokevirtual 90, 3) := by decide +kernel
theorem dX5_readTerm_41 : decode cX5_readTerm 41 = .ok (.aload_n 0, 1) := by decide +kernel
theorem dX5_readTerm_42 : decode cX5_readTerm 42 = .ok (.iload_n 1, 1) := by decide +kernel
theorem dX5_readTerm_43 : decode cX5_readTerm 43 = .ok (.invokevirtual 231, 3) := by decide +kernel
theorem dX5_readTerm_46 : decode cX5_readTerm 46 = .ok (.istore_n 2, 1) := by decide +kernel
theorem dX5_readTerm_47 : decode cX5_readTerm 47 = .ok (.aload_n 0, 1) := by decide +kernel
theorem dX5_readTerm_48 : decode cX5_readTerm 48 = .ok (.getfield 12, 3) := by decide +kernel
theorem dX5_readTerm_51 : decode cX5_readTerm 51 = .ok (.getfield 112, 3) := by decide +kernel
theorem dX5_readTerm_54 : decode cX5_readTerm 54 = .ok (.iload 4, 2) := by decide +kernel
theorem dX5_readTerm_56 : decode cX5_readTerm 56 = .ok (.invokevirtual 214, 3) := by decide +kernel
theorem dX5_readTerm_59 : decode cX5_readTerm 59 = .ok (.iinc 3 1, 3) := by decide +kernel
theorem dX5_readTerm_62 : decode cX5_readTerm 62 = .ok (.goto (-54), 3) := by decide +kernel
theorem dX5_readTerm_65 : decode cX5_readTerm 65 = .ok (.iload_n 2, 1) := by decide +kernel
theorem dX5_readTerm_66 : decode cX5_readTerm 66 = .ok (.ireturn, 1) := by decide +kernel
set_option maxRecDepth 20000 in
theorem ggX5_readUnit_X5_refuse : GoodIn wsX5_readUnit wsX5_refuse := goodIn_r _ [10, 3, 11, 12, 13, 14, 9, 15, 16, 17, 201, 202, 203, 204, 205, 206, 207, 208, 209, 210, 211, 212, 213, 214, 215] rfl (by decide +kernel)
set_option maxRecDepth 20000 in
theorem gX5_readUnit_X5_refuse : GoodIn wsX5_readUnit (wsV RX5 146 RX5 yX5_refuse wsX5_refuse) := goodIn_app (goodIn_r _ [6, 7, 8, 9] rfl (by decide +kernel)) ggX5_readUnit_X5_refuse
set_option maxRecDepth 20000 in
theorem ggX5_readUnit_X5_readParentheses : GoodIn wsX5_readUnit wsX5_readParentheses := goodIn_r _ [182, 1, 2, 6, 7, 8, 9, 10, 3, 11, 12, 13, 14, 15, 16, 17, 39, 40, 41, 42, 43, 44, 45, 46, 47, 48, 49, 50, 51, 52, 53, 54, 55, 56, 57, 58, 59, 60, 61, 62, 63, 64, 65, 66, 67, 68, 69, 70, 71, 72, 73, 74, 75, 76, 5, 77, 78, 79, 80, 81, 82, 83, 84, 85, 86, 87, 88, 89, 90, 91, 92, 93, 94, 95, 96, 97, 98, 99, 100, 101, 102, 103, 104, 105, 106, 107, 108, 109, 110, 111, 112, 113, 114, 115, 116, 117, 118, 119, 120, 121, 122, 123, 124, 125, 126, 127, 128, 129, 130, 131, 132, 133, 134, 135, 136, 137, 138, 139, 140, 141, 142, 143, 144, 145, 146, 147, 148, 149, 150, 151, 152, 153, 154, 155, 156, 157, 158, 159, 160, 161, 162, 163, 164, 165, 183, 184, 185, 186, 187, 188, 189, 166, 4, 167, 168, 169, 170, 30, 31, 27, 32, 33, 34, 171, 172, 173, 174, 175, 176, 177, 178, 179, 180, 181, 190, 191, 192, 193, 194, 195, 196, 197, 198, 199, 200, 0, 18, 19, 20, 21, 22, 23, 24, 25, 26, 28, 29, 35, 36, 37, 38, 201, 202, 203, 204, 205, 206, 207, 208, 209, 210, 211, 212, 213, 214, 215, 216, 217, 218, 219, 220, 221, 222, 223, 224, 225, 226, 227, 228, 229] rfl (by decide +kernel)
set_option maxRecDepth 20000 in
theorem gX5_readUnit_X5_readParentheses : GoodIn wsX5_readUnit (wsV RX5 240 RX5 yX5_readParentheses wsX5_readParentheses) := goodIn_app (goodIn_r _ [18, 19, 20, 9] rfl (by decide +kernel)) ggX5_readUnit_X5_readParentheses
set_option maxRecDepth 20000 in
theorem ggX5_readUnit_X5_termOf : GoodIn wsX5_readUnit wsX5_termOf := goodIn_r _ [23] rfl (by decide +kernel)
set_option maxRecDepth 20000 in
theorem gX5_readUnit_X5_termOf : GoodIn wsX5_readUnit (va_wsS RX5 243 yX5_termOf wsX5_termOf) := goodIn_app (goodIn_r _ [21, 22, 9] rfl (by decide +kernel)) ggX5_readUnit_X5_termOf
set_option maxRecDepth 20000 in
theorem ggX5_readUnit_X2_addTerm : GoodIn wsX5_readUnit wsX2_addTerm := goodIn_r _ [28, 29, 30, 31, 27, 32, 33, 34, 227, 228, 229] rfl (by decide +kernel)
set_option maxRecDepth 20000 in
theorem gX5_readUnit_X2_addTerm : GoodIn wsX5_readUnit (wsV RX5 246 RX2 yX2_addTerm wsX2_addTerm) := goodIn_app (goodIn_r _ [24, 25, 26, 27] rfl (by decide +kernel)) ggX5_readUnit_X2_addTerm
set_option maxRecDepth 20000 in
theorem ggX5_readUnit_X2_addNumber : GoodIn wsX5_readUnit wsX2_addNumber := goodIn_r _ [38, 29, 30, 31, 27, 32, 33, 34, 227, 228, 229] rfl (by decide +kernel)
set_option maxRecDepth 20000 in
theorem gX5_readUnit_X2_addNumber : GoodIn wsX5_readUnit (wsV RX5 249 RX2 yX2_addNumber wsX2_addNumber) := goodIn_app (goodIn_r _ [35, 36, 37, 27] rfl (by decide +kernel)) ggX5_readUnit_X2_addNumber
set_option maxRecDepth 20000 in
theorem ggX5_readUnit_X5_advance : GoodIn wsX5_readUnit wsX5_advance := goodIn_r _ [42, 43, 11, 3, 44, 45, 46, 9, 47, 48, 49, 50, 51, 52, 53, 54, 55, 56, 57, 58, 59, 60, 61, 62, 63, 64, 65, 66, 67, 68, 69, 70, 71, 72, 73, 74, 75, 76, 5, 77, 78, 79, 80, 81, 82, 83, 84, 85, 86, 87, 88, 89, 90, 91, 92, 93, 94, 95, 96, 97, 98, 99, 100, 101, 102, 103, 104, 105, 106, 107, 108, 109, 110, 111, 112, 113, 114, 115, 116, 117, 118, 119, 120, 121, 122, 123, 124, 125, 126, 127, 128, 129, 130, 131, 132, 133, 134, 135, 136, 137, 138, 139, 140, 141, 142, 143, 144, 145, 146, 147, 148, 149, 150, 151, 152, 153, 154, 155, 156, 157, 158, 159, 160, 161, 162, 163, 164, 165, 201, 202, 203, 204, 205, 206, 207, 208, 209, 210, 211, 212, 213, 214, 215] rfl (by decide +kernel)
set_option maxRecDepth 20000 in
theorem gX5_readUnit_X5_advance : GoodIn wsX5_readUnit (wsV RX5 90 RX5 yX5_advance wsX5_advance) := goodIn_app (goodIn_r _ [39, 40, 41, 9] rfl (by decide +kernel)) ggX5_readUnit_X5_advance
theorem dX5_readUnit_0 : decode cX5_readUnit 0 = .ok (.aload_n 0, 1) := by decide +kernel
theorem dX5_readUnit_1 : decode cX5_readUnit 1 = .ok (.getfield 12, 3) := by decide +kernel
theorem dX5_readUnit_4 : decode cX5_readUnit 4 = .ok (.getfield 237, 3) := by decide +kernel
theorem dX5_readUnit_7 : decode cX5_readUnit 7 = .ok (.bipush 30, 2) := by decide +kernel
theorem dX5_readUnit_9 : decode cX5_readUnit 9 = .ok (.if_icmp .lt 8, 3) := by decide +kernel
theorem dX5_readUnit_12 : decode cX5_readUnit 12 = .ok (.aload_n 0, 1) := by decide +kernel
theorem dX5_readUnit_13 : decode cX5_readUnit 13 = .ok (.invokevirtual 146, 3) := by decide +kernel
theorem dX5_readUnit_16 : decode cX5_readUnit 16 = .ok (.ireturn, 1) := by decide +kernel
theorem dX5_readUnit_17 : decode cX5_readUnit 17 = .ok (.aload_n 0, 1) := by decide +kernel
theorem dX5_readUnit_18 : decode cX5_readUnit 18 = .ok (.getfield 54, 3) := by decide +kernel
theorem dX5_readUnit_21 : decode cX5_readUnit 21 = .ok (.bipush 40, 2) := by decide +kernel
theorem dX5_readUnit_23 : decode cX5_readUnit 23 = .ok (.if_icmp .ne 9, 3) := by decide +kernel
theorem dX5_readUnit_26 : decode cX5_readUnit 26 = .ok (.aload_n 0, 1) := by decide +kernel
theorem dX5_readUnit_27 : decode cX5_readUnit 27 = .ok (.iload_n 1, 1) := by decide +kernel
theorem dX5_readUnit_28 : decode cX5_readUnit 28 = .ok (.invokevirtual 240, 3) := by decide +kernel
theorem dX5_readUnit_31 : decode cX5_readUnit 31 = .ok (.ireturn, 1) := by decide +kernel
theorem dX5_readUnit_32 : decode cX5_readUnit 32 = .ok (.aload_n 0, 1) := by decide +kernel
theorem dX5_readUnit_33 : decode cX5_readUnit 33 = .ok (.getfield 54, 3) := by decide +kernel
theorem dX5_readUnit_36 : decode cX5_readUnit 36 = .ok (.invokestatic 243, 3) := by decide +kernel
theorem dX5_readUnit_39 : decode cX5_readUnit 39 = .ok (.istore_n 2, 1) := by decide +kernel
theorem dX5_readUnit_40 : decode cX5_readUnit 40 = .ok (.iload_n 2, 1) := by decide +kernel
theorem dX5_readUnit_41 : decode cX5_readUnit 41 = .ok (.iconst (-1), 1) := by decide +kernel
theorem dX5_readUnit_42 : decode cX5_readUnit 42 = .ok (.if_icmp .eq 17, 3) := by decide +kernel
theorem dX5_readUnit_45 : decode cX5_readUnit 45 = .ok (.aload_n 0, 1) := by decide +kernel
theorem dX5_readUnit_46 : decode cX5_readUnit 46 = .ok (.getfield 12, 3) := by decide +kernel
theorem dX5_readUnit_49 : decode cX5_readUnit 49 = .ok (.getfield 112, 3) := by decide +kernel
theorem dX5_readUnit_52 : decode cX5_readUnit 52 = .ok (.iload_n 2, 1) := by decide +kernel
theorem dX5_readUnit_53 : decode cX5_readUnit 53 = .ok (.invokevirtual 246, 3) := by decide +kernel
theorem dX5_readUnit_56 : decode cX5_readUnit 56 = .ok (.goto 35, 3) := by decide +kernel
theorem dX5_readUnit_59 : decode cX5_readUnit 59 = .ok (.aload_n 0, 1) := by decide +kernel
theorem dX5_readUnit_60 : decode cX5_readUnit 60 = .ok (.getfield 54, 3) := by decide +kernel
theorem dX5_readUnit_63 : decode cX5_readUnit 63 = .ok (.sipush 257, 3) := by decide +kernel
theorem dX5_readUnit_66 : decode cX5_readUnit 66 = .ok (.if_icmp .ne 20, 3) := by decide +kernel
theorem dX5_readUnit_69 : decode cX5_readUnit 69 = .ok (.aload_n 0, 1) := by decide +kernel
theorem dX5_readUnit_70 : decode cX5_readUnit 70 = .ok (.getfield 12, 3) := by decide +kernel
theorem dX5_readUnit_73 : decode cX5_readUnit 73 = .ok (.getfield 112, 3) := by decide +kernel
theorem dX5_readUnit_76 : decode cX5_readUnit 76 = .ok (.aload_n 0, 1) := by decide +kernel
theorem dX5_readUnit_77 : decode cX5_readUnit 77 = .ok (.getfield 57, 3) := by decide +kernel
theorem dX5_readUnit_80 : decode cX5_readUnit 80 = .ok (.invokevirtual 249, 3) := by decide +kernel
theorem dX5_readUnit_83 : decode cX5_readUnit 83 = .ok (.goto 8, 3) := by decide +kernel
theorem dX5_readUnit_86 : decode cX5_readUnit 86 = .ok (.aload_n 0, 1) := by decide +kernel
theorem dX5_readUnit_87 : decode cX5_readUnit 87 = .ok (.invokevirtual 146, 3) := by decide +kernel
theorem dX5_readUnit_90 : decode cX5_readUnit 90 = .ok (.ireturn, 1) := by decide +kernel
theorem dX5_readUnit_91 : decode cX5_readUnit 91 = .ok (.aload_n 0, 1) := by decide +kernel
theorem dX5_readUnit_92 : decode cX5_readUnit 92 = .ok (.getfield 12, 3) := by decide +kernel
theorem dX5_readUnit_95 : decode cX5_readUnit 95 = .ok (.dup, 1) := by decide +kernel
theorem dX5_readUnit_96 : decode cX5_readUnit 96 = .ok (.getfield 237, 3) := by decide +kernel
theorem dX5_readUnit_99 : decode cX5_readUnit 99 = .ok (.iconst 1, 1) := by decide +kernel
theorem dX5_readUnit_100 : decode cX5_readUnit 100 = .ok (.iadd, 1) := by decide +kernel
theorem dX5_readUnit_101 : decode cX5_readUnit 101 = .ok (.putfield 237, 3) := by decide +kernel
theorem dX5_readUnit_104 : decode cX5_readUnit 104 = .ok (.aload_n 0, 1) := by decide +kernel
theorem dX5_readUnit_105 : decode cX5_readUnit 105 = .ok (.invokevirtual 90, 3) := by decide +kernel
theorem dX5_readUnit_108 : decode cX5_readUnit 108 = .ok (.iconst 1, 1) := by decide +kernel
theorem dX5_readUnit_109 : decode cX5_readUnit 109 = .ok (.ireturn, 1) := by decide +kernel
set_option maxRecDepth 20000 in
theorem ggX5_readParentheses_X5_refuse : GoodIn wsX5_readParentheses wsX5_refuse := goodIn_r _ [7, 8, 9, 10, 11, 12, 6, 13, 14, 15, 201, 202, 203, 204, 205, 206, 207, 208, 209, 210, 211, 212, 213, 214, 215] rfl (by decide +kernel)
set_option maxRecDepth 20000 in
theorem gX5_readParentheses_X5_refuse : GoodIn wsX5_readParentheses (wsV RX5 146 RX5 yX5_refuse wsX5_refuse) := goodIn_app (goodIn_r _ [3, 4, 5, 6] rfl (by decide +kernel)) ggX5_readParentheses_X5_refuse
set_option maxRecDepth 20000 in
theorem ggX5_readParentheses_X5_advance : GoodIn wsX5_readParentheses wsX5_advance := goodIn_r _ [19, 20, 9, 8, 21, 22, 23, 6, 24, 25, 26, 27, 28, 29, 30, 31, 32, 33, 34, 35, 36, 37, 38, 39, 40, 41, 42, 43, 44, 45, 46, 47, 48, 49, 50, 51, 52, 53, 54, 55, 56, 57, 58, 59, 60, 61, 62, 63, 64, 65, 66, 67, 68, 69, 70, 71, 72, 73, 74, 75, 76, 77, 78, 79, 80, 81, 82, 83, 84, 85, 86, 87, 88, 89, 90, 91, 92, 93, 94, 95, 96, 97, 98, 99, 100, 101, 102, 103, 104, 105, 106, 107, 108, 109, 110, 111, 112, 113, 114, 115, 116, 117, 118, 119, 120, 121, 122, 123, 124, 125, 126, 127, 128, 129, 130, 131, 132, 133, 134, 135, 136, 137, 138, 139, 140, 141, 142, 143, 201, 202, 203, 204, 205, 206, 207, 208, 209, 210, 211, 212, 213, 214, 215] rfl (by decide +kernel)
set_option maxRecDepth 20000 in
theorem gX5_readParentheses_X5_advance : GoodIn wsX5_readParentheses (wsV RX5 90 RX5 yX5_advance wsX5_advance) := goodIn_app (goodIn_r _ [16, 17, 18, 6] rfl (by decide +kernel)) ggX5_readParentheses_X5_advance
set_option maxRecDepth 20000 in
theorem ggX5_readParentheses_X5_readEither : GoodIn wsX5_readParentheses wsX5_readEither := goodIn_r _ [163, 8, 1, 152, 164, 165, 166, 6, 16, 17, 18, 19, 20, 9, 21, 22, 23, 24, 25, 26, 27, 28, 29, 30, 31, 32, 33, 34, 35, 36, 37, 38, 39, 40, 41, 42, 43, 44, 45, 46, 47, 48, 49, 50, 51, 52, 53, 54, 55, 56, 57, 58, 59, 60, 61, 62, 63, 64, 65, 66, 67, 68, 69, 70, 71, 72, 73, 74, 75, 76, 77, 78, 79, 80, 81, 82, 83, 84, 85, 86, 87, 88, 89, 90, 91, 92, 93, 94, 95, 96, 97, 98, 99, 100, 101, 102, 103, 104, 105, 106, 107, 108, 109, 110, 111, 112, 113, 114, 115, 116, 117, 118, 119, 120, 121, 122, 123, 124, 125, 126, 127, 128, 129, 130, 131, 132, 133, 134, 135, 136, 137, 138, 139, 140, 141, 142, 143, 156, 157, 158, 159, 160, 161, 162, 151, 153, 154, 155, 167, 3, 4, 5, 7, 10, 11, 12, 13, 14, 15, 168, 169, 170, 171, 172, 173, 0, 2, 144, 145, 146, 147, 148, 149, 150, 174, 175, 176, 177, 178, 179, 180, 181, 182, 183, 184, 185, 186, 187, 188, 189, 190, 191, 192, 193, 194, 195, 196, 197, 198, 199, 200, 201, 202, 203, 204, 205, 206, 207, 208, 209, 210, 211, 212, 213, 214, 215, 216, 217, 218, 219, 220, 221, 222, 223, 224, 225, 226, 227, 228, 229] rfl (by decide +kernel)
set_option maxRecDepth 20000 in
theorem gX5_readParentheses_X5_readEither : GoodIn wsX5_readParentheses (wsV RX5 136 RX5 yX5_readEither wsX5_readEither) := goodIn_app (goodIn_r _ [144, 145, 146, 6] rfl (by decide +kernel)) ggX5_readParentheses_X5_readEither
set_option maxRecDepth 20000 in
theorem ggX5_readParentheses_X5_readWord : GoodIn wsX5_readParentheses wsX5_readWord := goodIn_r _ [150, 8, 3, 4, 5, 6, 7, 9, 10, 11, 12, 13, 14, 15, 16, 17, 18, 19, 20, 21, 22, 23, 24, 25, 26, 27, 28, 29, 30, 31, 32, 33, 34, 35, 36, 37, 38, 39, 40, 41, 42, 43, 44, 45, 46, 47, 48, 49, 50, 51, 52, 53, 54, 55, 56, 57, 58, 59, 60, 61, 62, 63, 64, 65, 66, 67, 68, 69, 70, 71, 72, 73, 74, 75, 76, 77, 78, 79, 80, 81, 82, 83, 84, 85, 86, 87, 88, 89, 90, 91, 92, 93, 94, 95, 96, 97, 98, 99, 100, 101, 102, 103, 104, 105, 106, 107, 108, 109, 110, 111, 112, 113, 114, 115, 116, 117, 118, 119, 120, 121, 122, 123, 124, 125, 126, 127, 128, 129, 130, 131, 132, 133, 134, 135, 136, 137, 138, 139, 140, 141, 142, 143, 201, 202, 203, 204, 205, 206, 207, 208, 209, 210, 211, 212, 213, 214, 215] rfl (by decide +kernel)
set_option maxRecDepth 20000 in
theorem gX5_readParentheses_X5_readWord : GoodIn wsX5_readParentheses (wsV RX5 153 RX5 yX5_readWord wsX5_readWord) := goodIn_app (goodIn_r _ [147, 148, 149, 6] rfl (by decide +kernel)) ggX5_readParentheses_X5_readWord
theorem dX5_readParentheses_0 : decode cX5_readParentheses 0 = .ok (.iload_n 1, 1) := by decide +kernel
theorem dX5_readParentheses_1 : decode cX5_readParentheses 1 = .ok (.bipush 7, 2) := by decide +kernel
theorem dX5_readParentheses_3 : decode cX5_readParentheses 3 = .ok (.if_icmp .lt 8, 3) := by decide +kernel
theorem dX5_readParentheses_6 : decode cX5_readParentheses 6 = .ok (.aload_n 0, 1) := by decide +kernel
theorem dX5_readParentheses_7 : decode cX5_readParentheses 7 = .ok (.invokevirtual 146, 3) := by decide +kernel
theorem dX5_readParentheses_10 : decode cX5_readParentheses 10 = .ok (.ireturn, 1) := by decide +kernel
theorem dX5_readParentheses_11 : decode cX5_readParentheses 11 = .ok (.aload_n 0, 1) := by decide +kernel
theorem dX5_readParentheses_12 : decode cX5_readParentheses 12 = .ok (.getfield 12, 3) := by decide +kernel
theorem dX5_readParentheses_15 : decode cX5_readParentheses 15 = .ok (.dup, 1) := by decide +kernel
theorem dX5_readParentheses_16 : decode cX5_readParentheses 16 = .ok (.getfield 237, 3) := by decide +kernel
theorem dX5_readParentheses_19 : decode cX5_readParentheses 19 = .ok (.iconst 1, 1) := by decide +kernel
theorem dX5_readParentheses_20 : decode cX5_readParentheses 20 = .ok (.iadd, 1) := by decide +kernel
theorem dX5_readParentheses_21 : decode cX5_readParentheses 21 = .ok (.putfield 237, 3) := by decide +kernel
theorem dX5_readParentheses_24 : decode cX5_readParentheses 24 = .ok (.aload_n 0, 1) := by decide +kernel
theorem dX5_readParentheses_25 : decode cX5_readParentheses 25 = .ok (.invokevirtual 90, 3) := by decide +kernel
theorem dX5_readParentheses_28 : decode cX5_readParentheses 28 = .ok (.aload_n 0, 1) := by decide +kernel
theorem dX5_readParentheses_29 : decode cX5_readParentheses 29 = .ok (.iload_n 1, 1) := by decide +kernel
theorem dX5_readParentheses_30 : decode cX5_readParentheses 30 = .ok (.iconst 1, 1) := by decide +kernel
theorem dX5_readParentheses_31 : decode cX5_readParentheses 31 = .ok (.iadd, 1) := by decide +kernel
theorem dX5_readParentheses_32 : decode cX5_readParentheses 32 = .ok (.invokevirtual 136, 3) := by decide +kernel
theorem dX5_readParentheses_35 : decode cX5_readParentheses 35 = .ok (.ifCond .eq 16, 3) := by decide +kernel
theorem dX5_readParentheses_38 : decode cX5_readParentheses 38 = .ok (.aload_n 0, 1) := by decide +kernel
theorem dX5_readParentheses_39 : decode cX5_readParentheses 39 = .ok (.bipush 41, 2) := by decide +kernel
theorem dX5_readParentheses_41 : decode cX5_readParentheses 41 = .ok (.invokevirtual 153, 3) := by decide +kernel
theorem dX5_readParentheses_44 : decode cX5_readParentheses 44 = .ok (.ifCond .eq 7, 3) := by decide +kernel
theorem dX5_readParentheses_47 : decode cX5_readParentheses 47 = .ok (.iconst 1, 1) := by decide +kernel
theorem dX5_readParentheses_48 : decode cX5_readParentheses 48 = .ok (.goto 4, 3) := by decide +kernel
theorem dX5_readParentheses_51 : decode cX5_readParentheses 51 = .ok (.iconst 0, 1) := by decide +kernel
theorem dX5_readParentheses_52 : decode cX5_readParentheses 52 = .ok (.ireturn, 1) := by decide +kernel
theorem dX5_relation_0 : decode cX5_relation 0 = .ok (.iload_n 0, 1) := by decide +kernel
theorem dX5_relation_1 : decode cX5_relation 1 = .ok (.tableswitch 36 60 62 #[27, 33, 30], 27) := by decide +kernel
theorem dX5_relation_28 : decode cX5_relation 28 = .ok (.bipush (-23), 2) := by decide +kernel
theorem dX5_relation_30 : decode cX5_relation 30 = .ok (.ireturn, 1) := by decide +kernel
theorem dX5_relation_31 : decode cX5_relation 31 = .ok (.bipush (-24), 2) := by decide +kernel
theorem dX5_relation_33 : decode cX5_relation 33 = .ok (.ireturn, 1) := by decide +kernel
theorem dX5_relation_34 : decode cX5_relation 34 = .ok (.bipush (-25), 2) := by decide +kernel
theorem dX5_relation_36 : decode cX5_relation 36 = .ok (.ireturn, 1) := by decide +kernel
theorem dX5_relation_37 : decode cX5_relation 37 = .ok (.iconst 0, 1) := by decide +kernel
theorem dX5_relation_38 : decode cX5_relation 38 = .ok (.ireturn, 1) := by decide +kernel
theorem dX5_multiplying_0 : decode cX5_multiplying 0 = .ok (.iload_n 0, 1) := by decide +kernel
theorem dX5_multiplying_1 : decode cX5_multiplying 1 = .ok (.lookupswitch 44 #[(37, 41), (42, 35), (47, 38)], 35) := by decide +kernel
theorem dX5_multiplying_36 : decode cX5_multiplying 36 = .ok (.bipush (-28), 2) := by decide +kernel
theorem dX5_multiplying_38 : decode cX5_multiplying 38 = .ok (.ireturn, 1) := by decide +kernel
theorem dX5_multiplying_39 : decode cX5_multiplying 39 = .ok (.bipush (-29), 2) := by decide +kernel
theorem dX5_multiplying_41 : decode cX5_multiplying 41 = .ok (.ireturn, 1) := by decide +kernel
theorem dX5_multiplying_42 : decode cX5_multiplying 42 = .ok (.bipush (-30), 2) := by decide +kernel
theorem dX5_multiplying_44 : decode cX5_multiplying 44 = .ok (.ireturn, 1) := by decide +kernel
theorem dX5_multiplying_45 : decode cX5_multiplying 45 = .ok (.iconst 0, 1) := by decide +kernel
theorem dX5_multiplying_46 : decode cX5_multiplying 46 = .ok (.ireturn, 1) := by decide +kernel
theorem dX5_termOf_0 : decode cX5_termOf 0 = .ok (.iload_n 0, 1) := by decide +kernel
theorem dX5_termOf_1 : decode cX5_termOf 1 = .ok (.tableswitch 70 6 15 #[57, 70, 70, 70, 55, 59, 61, 63, 65, 67], 55) := by decide +kernel
theorem dX5_termOf_56 : decode cX5_termOf 56 = .ok (.iconst 0, 1) := by decide +kernel
theorem dX5_termOf_57 : decode cX5_termOf 57 = .ok (.ireturn, 1) := by decide +kernel
theorem dX5_termOf_58 : decode cX5_termOf 58 = .ok (.iconst 1, 1) := by decide +kernel
