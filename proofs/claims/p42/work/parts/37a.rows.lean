set_option maxRecDepth 20000 in
theorem ggX9_isSignHere_X9_sign : GoodIn wsX9_isSignHere wsX9_sign := goodIn_r _ [7, 8, 9, 10, 11, 12, 13, 14, 15, 16, 17, 18, 19, 20, 21, 22, 23, 24, 25, 26, 27, 28, 29, 30, 31, 32, 33, 34, 35, 36, 37, 38, 39, 40, 41, 42, 43, 44, 45, 46, 47, 48, 49, 50, 51, 52, 53, 54, 55, 56, 57, 58, 59, 60, 61, 62, 63, 64, 65, 66, 67, 68, 69, 70, 71, 72, 73, 74, 75, 76] rfl (by decide +kernel)
set_option maxRecDepth 20000 in
theorem gX9_isSignHere_X9_sign : GoodIn wsX9_isSignHere (wsV RX9 202 RX9 yX9_sign wsX9_sign) := goodIn_app (goodIn_r _ [3, 4, 5, 6] rfl (by decide +kernel)) ggX9_isSignHere_X9_sign
theorem dX9_isSignHere_0 : decode cX9_isSignHere 0 = .ok (.aload_n 0, 1) := by decide +kernel
theorem dX9_isSignHere_1 : decode cX9_isSignHere 1 = .ok (.getfield 206, 3) := by decide +kernel
theorem dX9_isSignHere_4 : decode cX9_isSignHere 4 = .ok (.iconst 5, 1) := by decide +kernel
theorem dX9_isSignHere_5 : decode cX9_isSignHere 5 = .ok (.if_icmp .ne 19, 3) := by decide +kernel
theorem dX9_isSignHere_8 : decode cX9_isSignHere 8 = .ok (.aload_n 0, 1) := by decide +kernel
theorem dX9_isSignHere_9 : decode cX9_isSignHere 9 = .ok (.aload_n 0, 1) := by decide +kernel
theorem dX9_isSignHere_10 : decode cX9_isSignHere 10 = .ok (.getfield 199, 3) := by decide +kernel
theorem dX9_isSignHere_13 : decode cX9_isSignHere 13 = .ok (.invokevirtual 202, 3) := by decide +kernel
theorem dX9_isSignHere_16 : decode cX9_isSignHere 16 = .ok (.iload_n 1, 1) := by decide +kernel
theorem dX9_isSignHere_17 : decode cX9_isSignHere 17 = .ok (.if_icmp .ne 7, 3) := by decide +kernel
theorem dX9_isSignHere_20 : decode cX9_isSignHere 20 = .ok (.iconst 1, 1) := by decide +kernel
theorem dX9_isSignHere_21 : decode cX9_isSignHere 21 = .ok (.goto 4, 3) := by decide +kernel
theorem dX9_isSignHere_24 : decode cX9_isSignHere 24 = .ok (.iconst 0, 1) := by decide +kernel
theorem dX9_isSignHere_25 : decode cX9_isSignHere 25 = .ok (.ireturn, 1) := by decide +kernel
theorem dX9_isWord_0 : decode cX9_isWord 0 = .ok (.aload_n 0, 1) := by decide +kernel
theorem dX9_isWord_1 : decode cX9_isWord 1 = .ok (.getfield 206, 3) := by decide +kernel
theorem dX9_isWord_4 : decode cX9_isWord 4 = .ok (.iconst 3, 1) := by decide +kernel
theorem dX9_isWord_5 : decode cX9_isWord 5 = .ok (.if_icmp .ne 16, 3) := by decide +kernel
theorem dX9_isWord_8 : decode cX9_isWord 8 = .ok (.aload_n 0, 1) := by decide +kernel
theorem dX9_isWord_9 : decode cX9_isWord 9 = .ok (.getfield 213, 3) := by decide +kernel
theorem dX9_isWord_12 : decode cX9_isWord 12 = .ok (.lload_n 1, 1) := by decide +kernel
theorem dX9_isWord_13 : decode cX9_isWord 13 = .ok (.lcmp, 1) := by decide +kernel
theorem dX9_isWord_14 : decode cX9_isWord 14 = .ok (.ifCond .ne 7, 3) := by decide +kernel
theorem dX9_isWord_17 : decode cX9_isWord 17 = .ok (.iconst 1, 1) := by decide +kernel
theorem dX9_isWord_18 : decode cX9_isWord 18 = .ok (.goto 4, 3) := by decide +kernel
theorem dX9_isWord_21 : decode cX9_isWord 21 = .ok (.iconst 0, 1) := by decide +kernel
theorem dX9_isWord_22 : decode cX9_isWord 22 = .ok (.ireturn, 1) := by decide +kernel
set_option maxRecDepth 20000 in
theorem ggX9_misplaced_X9_fails : GoodIn wsX9_misplaced wsX9_fails := goodIn_r _ [7, 8, 9, 10, 11, 12, 13, 14, 15, 16, 17, 18, 19, 20, 21, 22, 23, 24, 25, 26, 27, 28, 29, 30, 31, 32, 33, 34, 35, 36, 37, 38, 39, 40, 41, 42, 43, 44, 45, 46, 47, 48, 49, 50, 51, 52, 53, 54, 55, 56, 57, 58, 59, 60, 61, 62, 63, 64, 65, 66, 67, 68, 69, 70, 71, 72, 73, 74, 75, 76] rfl (by decide +kernel)
set_option maxRecDepth 20000 in
theorem gX9_misplaced_X9_fails : GoodIn wsX9_misplaced (wsV RX9 230 RX9 yX9_fails wsX9_fails) := goodIn_app (goodIn_r _ [3, 4, 5, 6] rfl (by decide +kernel)) ggX9_misplaced_X9_fails
theorem dX9_misplaced_0 : decode cX9_misplaced 0 = .ok (.aload_n 0, 1) := by decide +kernel
theorem dX9_misplaced_1 : decode cX9_misplaced 1 = .ok (.aload_n 0, 1) := by decide +kernel
theorem dX9_misplaced_2 : decode cX9_misplaced 2 = .ok (.getfield 206, 3) := by decide +kernel
theorem dX9_misplaced_5 : decode cX9_misplaced 5 = .ok (.iconst 1, 1) := by decide +kernel
theorem dX9_misplaced_6 : decode cX9_misplaced 6 = .ok (.if_icmp .ne 7, 3) := by decide +kernel
theorem dX9_misplaced_9 : decode cX9_misplaced 9 = .ok (.iconst 1, 1) := by decide +kernel
theorem dX9_misplaced_10 : decode cX9_misplaced 10 = .ok (.goto 4, 3) := by decide +kernel
theorem dX9_misplaced_13 : decode cX9_misplaced 13 = .ok (.iconst 2, 1) := by decide +kernel
theorem dX9_misplaced_14 : decode cX9_misplaced 14 = .ok (.aload_n 0, 1) := by decide +kernel
theorem dX9_misplaced_15 : decode cX9_misplaced 15 = .ok (.getfield 199, 3) := by decide +kernel
theorem dX9_misplaced_18 : decode cX9_misplaced 18 = .ok (.invokevirtual 230, 3) := by decide +kernel
theorem dX9_misplaced_21 : decode cX9_misplaced 21 = .ok (.return_, 1) := by decide +kernel
set_option maxRecDepth 20000 in
theorem ggX9_must_X9_isGood : GoodIn wsX9_must wsX9_isGood := goodIn_r _ [5, 6, 62, 63, 64, 65, 66, 67, 68, 69, 70, 71, 72, 73, 74, 75, 76, 77, 78, 79, 80, 81, 82, 83, 84, 85, 86, 87, 88, 89, 90, 91, 92, 93, 94, 95, 96, 97, 98, 99, 100, 101, 102, 103, 104, 105, 106, 107, 108, 109, 110, 111, 112, 113, 114, 115, 116, 117, 118, 119, 120, 121, 122, 123, 124, 125, 126, 127, 128] rfl (by decide +kernel)
set_option maxRecDepth 20000 in
theorem gX9_must_X9_isGood : GoodIn wsX9_must (wsV RX9 234 RX9 yX9_isGood wsX9_isGood) := goodIn_app (goodIn_r _ [1, 2, 3, 4] rfl (by decide +kernel)) ggX9_must_X9_isGood
set_option maxRecDepth 20000 in
theorem ggX9_must_X9_goOn : GoodIn wsX9_must wsX9_goOn := goodIn_r _ [10, 11, 12, 13, 14, 15, 16, 17, 18, 19, 4, 20, 21, 22, 23, 24, 25, 26, 27, 28, 29, 30, 31, 32, 33, 34, 35, 36, 37, 38, 39, 40, 41, 42, 43, 44, 45, 46, 47, 48, 49, 50, 51, 52, 62, 63, 64, 65, 66, 67, 68, 69, 70, 71, 72, 73, 74, 75, 76, 77, 78, 79, 80, 81, 82, 83, 84, 85, 86, 87, 88, 89, 90, 91, 92, 93, 94, 95, 96, 97, 98, 99, 100, 101, 102, 103, 104, 105, 106, 107, 108, 109, 110, 111, 112, 113, 114, 115, 116, 117, 118, 119, 120, 121, 122, 123, 124, 125, 126, 127, 128] rfl (by decide +kernel)
set_option maxRecDepth 20000 in
theorem gX9_must_X9_goOn : GoodIn wsX9_must (wsV RX9 238 RX9 yX9_goOn wsX9_goOn) := goodIn_app (goodIn_r _ [7, 8, 9, 4] rfl (by decide +kernel)) ggX9_must_X9_goOn
set_option maxRecDepth 20000 in
theorem ggX9_must_X9_misplaced : GoodIn wsX9_must wsX9_misplaced := goodIn_r _ [56, 14, 12, 57, 58, 59, 4, 60, 6, 61, 62, 63, 64, 65, 66, 67, 68, 69, 70, 71, 72, 73, 74, 75, 76, 77, 78, 79, 80, 81, 82, 83, 84, 85, 86, 87, 88, 89, 90, 91, 92, 93, 94, 95, 96, 97, 98, 99, 100, 101, 102, 103, 104, 105, 106, 107, 108, 109, 110, 111, 112, 113, 114, 115, 116, 117, 118, 119, 120, 121, 122, 123, 124, 125, 126, 127, 128] rfl (by decide +kernel)
set_option maxRecDepth 20000 in
theorem gX9_must_X9_misplaced : GoodIn wsX9_must (wsV RX9 241 RX9 yX9_misplaced wsX9_misplaced) := goodIn_app (goodIn_r _ [53, 54, 55, 4] rfl (by decide +kernel)) ggX9_must_X9_misplaced
theorem dX9_must_0 : decode cX9_must 0 = .ok (.aload_n 0, 1) := by decide +kernel
theorem dX9_must_1 : decode cX9_must 1 = .ok (.invokevirtual 234, 3) := by decide +kernel
theorem dX9_must_4 : decode cX9_must 4 = .ok (.ifCond .ne 4, 3) := by decide +kernel
theorem dX9_must_7 : decode cX9_must 7 = .ok (.return_, 1) := by decide +kernel
theorem dX9_must_8 : decode cX9_must 8 = .ok (.iload_n 1, 1) := by decide +kernel
theorem dX9_must_9 : decode cX9_must 9 = .ok (.ifCond .eq 10, 3) := by decide +kernel
theorem dX9_must_12 : decode cX9_must 12 = .ok (.aload_n 0, 1) := by decide +kernel
theorem dX9_must_13 : decode cX9_must 13 = .ok (.invokevirtual 238, 3) := by decide +kernel
theorem dX9_must_16 : decode cX9_must 16 = .ok (.goto 7, 3) := by decide +kernel
theorem dX9_must_19 : decode cX9_must 19 = .ok (.aload_n 0, 1) := by decide +kernel
theorem dX9_must_20 : decode cX9_must 20 = .ok (.invokevirtual 241, 3) := by decide +kernel
theorem dX9_must_23 : decode cX9_must 23 = .ok (.return_, 1) := by decide +kernel
set_option maxRecDepth 20000 in
theorem ggX9_numeral_X9_isGood : GoodIn wsX9_numeral wsX9_isGood := goodIn_r _ [8, 9, 62, 63, 64, 65, 66, 67, 68, 69, 70, 71, 72, 73, 74, 75, 76, 77, 78, 79, 80, 81, 82, 83, 84, 85, 86, 87, 88, 89, 90, 91, 92, 93, 94, 95, 96, 97, 98, 99, 100, 101, 102, 103, 104, 105, 106, 107, 108, 109, 110, 111, 112, 113, 114, 115, 116, 117, 118, 119, 120, 121, 122, 123, 124, 125, 126, 127, 128] rfl (by decide +kernel)
set_option maxRecDepth 20000 in
theorem gX9_numeral_X9_isGood : GoodIn wsX9_numeral (wsV RX9 234 RX9 yX9_isGood wsX9_isGood) := goodIn_app (goodIn_r _ [4, 5, 6, 7] rfl (by decide +kernel)) ggX9_numeral_X9_isGood
set_option maxRecDepth 20000 in
theorem ggX9_numeral_X9_misplaced : GoodIn wsX9_numeral wsX9_misplaced := goodIn_r _ [13, 1, 3, 14, 15, 16, 7, 17, 9, 18, 62, 63, 64, 65, 66, 67, 68, 69, 70, 71, 72, 73, 74, 75, 76, 77, 78, 79, 80, 81, 82, 83, 84, 85, 86, 87, 88, 89, 90, 91, 92, 93, 94, 95, 96, 97, 98, 99, 100, 101, 102, 103, 104, 105, 106, 107, 108, 109, 110, 111, 112, 113, 114, 115, 116, 117, 118, 119, 120, 121, 122, 123, 124, 125, 126, 127, 128] rfl (by decide +kernel)
set_option maxRecDepth 20000 in
theorem gX9_numeral_X9_misplaced : GoodIn wsX9_numeral (wsV RX9 241 RX9 yX9_misplaced wsX9_misplaced) := goodIn_app (goodIn_r _ [10, 11, 12, 7] rfl (by decide +kernel)) ggX9_numeral_X9_misplaced
set_option maxRecDepth 20000 in
theorem ggX9_numeral_X9_fails : GoodIn wsX9_numeral wsX9_fails := goodIn_r _ [17, 9, 18, 62, 63, 64, 65, 66, 67, 68, 69, 70, 71, 72, 73, 74, 75, 76, 77, 78, 79, 80, 81, 82, 83, 84, 85, 86, 87, 88, 89, 90, 91, 92, 93, 94, 95, 96, 97, 98, 99, 100, 101, 102, 103, 104, 105, 106, 107, 108, 109, 110, 111, 112, 113, 114, 115, 116, 117, 118, 119, 120, 121, 122, 123, 124, 125, 126, 127, 128] rfl (by decide +kernel)
set_option maxRecDepth 20000 in
theorem gX9_numeral_X9_fails : GoodIn wsX9_numeral (wsV RX9 230 RX9 yX9_fails wsX9_fails) := goodIn_app (goodIn_r _ [14, 15, 16, 7] rfl (by decide +kernel)) ggX9_numeral_X9_fails
set_option maxRecDepth 20000 in
theorem ggX9_numeral_X9_goOn : GoodIn wsX9_numeral wsX9_goOn := goodIn_r _ [22, 23, 3, 24, 1, 25, 2, 26, 27, 28, 7, 29, 30, 31, 32, 33, 34, 35, 36, 37, 38, 39, 40, 41, 42, 43, 44, 45, 46, 47, 48, 49, 50, 51, 52, 53, 54, 55, 56, 57, 58, 59, 60, 61, 62, 63, 64, 65, 66, 67, 68, 69, 70, 71, 72, 73, 74, 75, 76, 77, 78, 79, 80, 81, 82, 83, 84, 85, 86, 87, 88, 89, 90, 91, 92, 93, 94, 95, 96, 97, 98, 99, 100, 101, 102, 103, 104, 105, 106, 107, 108, 109, 110, 111, 112, 113, 114, 115, 116, 117, 118, 119, 120, 121, 122, 123, 124, 125, 126, 127, 128] rfl (by decide +kernel)
set_option maxRecDepth 20000 in
theorem gX9_numeral_X9_goOn : GoodIn wsX9_numeral (wsV RX9 238 RX9 yX9_goOn wsX9_goOn) := goodIn_app (goodIn_r _ [19, 20, 21, 7] rfl (by decide +kernel)) ggX9_numeral_X9_goOn
theorem dX9_numeral_0 : decode cX9_numeral 0 = .ok (.aload_n 0, 1) := by decide +kernel
theorem dX9_numeral_1 : decode cX9_numeral 1 = .ok (.invokevirtual 234, 3) := by decide +kernel
theorem dX9_numeral_4 : decode cX9_numeral 4 = .ok (.ifCond .ne 5, 3) := by decide +kernel
theorem dX9_numeral_7 : decode cX9_numeral 7 = .ok (.iload_n 1, 1) := by decide +kernel
theorem dX9_numeral_8 : decode cX9_numeral 8 = .ok (.ireturn, 1) := by decide +kernel
theorem dX9_numeral_9 : decode cX9_numeral 9 = .ok (.aload_n 0, 1) := by decide +kernel
theorem dX9_numeral_10 : decode cX9_numeral 10 = .ok (.getfield 206, 3) := by decide +kernel
theorem dX9_numeral_13 : decode cX9_numeral 13 = .ok (.iconst 4, 1) := by decide +kernel
theorem dX9_numeral_14 : decode cX9_numeral 14 = .ok (.if_icmp .eq 7, 3) := by decide +kernel
theorem dX9_numeral_17 : decode cX9_numeral 17 = .ok (.aload_n 0, 1) := by decide +kernel
theorem dX9_numeral_18 : decode cX9_numeral 18 = .ok (.invokevirtual 241, 3) := by decide +kernel
theorem dX9_numeral_21 : decode cX9_numeral 21 = .ok (.aload_n 0, 1) := by decide +kernel
theorem dX9_numeral_22 : decode cX9_numeral 22 = .ok (.invokevirtual 234, 3) := by decide +kernel
theorem dX9_numeral_25 : decode cX9_numeral 25 = .ok (.ifCond .eq 28, 3) := by decide +kernel
theorem dX9_numeral_28 : decode cX9_numeral 28 = .ok (.aload_n 0, 1) := by decide +kernel
theorem dX9_numeral_29 : decode cX9_numeral 29 = .ok (.getfield 224, 3) := by decide +kernel
theorem dX9_numeral_32 : decode cX9_numeral 32 = .ok (.iload_n 1, 1) := by decide +kernel
theorem dX9_numeral_33 : decode cX9_numeral 33 = .ok (.if_icmp .lt 11, 3) := by decide +kernel
theorem dX9_numeral_36 : decode cX9_numeral 36 = .ok (.aload_n 0, 1) := by decide +kernel
theorem dX9_numeral_37 : decode cX9_numeral 37 = .ok (.getfield 224, 3) := by decide +kernel
theorem dX9_numeral_40 : decode cX9_numeral 40 = .ok (.iload_n 2, 1) := by decide +kernel
theorem dX9_numeral_41 : decode cX9_numeral 41 = .ok (.if_icmp .le 12, 3) := by decide +kernel
theorem dX9_numeral_44 : decode cX9_numeral 44 = .ok (.aload_n 0, 1) := by decide +kernel
theorem dX9_numeral_45 : decode cX9_numeral 45 = .ok (.iconst 4, 1) := by decide +kernel
theorem dX9_numeral_46 : decode cX9_numeral 46 = .ok (.aload_n 0, 1) := by decide +kernel
theorem dX9_numeral_47 : decode cX9_numeral 47 = .ok (.getfield 199, 3) := by decide +kernel
theorem dX9_numeral_50 : decode cX9_numeral 50 = .ok (.invokevirtual 230, 3) := by decide +kernel
theorem dX9_numeral_53 : decode cX9_numeral 53 = .ok (.aload_n 0, 1) := by decide +kernel
theorem dX9_numeral_54 : decode cX9_numeral 54 = .ok (.getfield 224, 3) := by decide +kernel
theorem dX9_numeral_57 : decode cX9_numeral 57 = .ok (.istore_n 3, 1) := by decide +kernel
theorem dX9_numeral_58 : decode cX9_numeral 58 = .ok (.aload_n 0, 1) := by decide +kernel
theorem dX9_numeral_59 : decode cX9_numeral 59 = .ok (.invokevirtual 234, 3) := by decide +kernel
theorem dX9_numeral_62 : decode cX9_numeral 62 = .ok (.ifCond .eq 7, 3) := by decide +kernel
theorem dX9_numeral_65 : decode cX9_numeral 65 = .ok (.aload_n 0, 1) := by decide +kernel
theorem dX9_numeral_66 : decode cX9_numeral 66 = .ok (.invokevirtual 238, 3) := by decide +kernel
theorem dX9_numeral_69 : decode cX9_numeral 69 = .ok (.aload_n 0, 1) := by decide +kernel
theorem dX9_numeral_70 : decode cX9_numeral 70 = .ok (.invokevirtual 234, 3) := by decide +kernel
theorem dX9_numeral_73 : decode cX9_numeral 73 = .ok (.ifCond .eq 7, 3) := by decide +kernel
theorem dX9_numeral_76 : decode cX9_numeral 76 = .ok (.iload_n 3, 1) := by decide +kernel
theorem dX9_numeral_77 : decode cX9_numeral 77 = .ok (.goto 4, 3) := by decide +kernel
theorem dX9_numeral_80 : decode cX9_numeral 80 = .ok (.iload_n 1, 1) := by decide +kernel
theorem dX9_numeral_81 : decode cX9_numeral 81 = .ok (.ireturn, 1) := by decide +kernel
set_option maxRecDepth 20000 in
theorem ggX9_after_X9_isWord : GoodIn wsX9_after wsX9_isWord := goodIn_r _ [5, 6, 7, 74, 75, 76, 77, 78, 79, 80, 81, 82, 83, 84, 85, 86, 87, 88, 89, 90, 91, 92, 93, 94, 95, 96, 97, 98, 99, 100, 101, 102, 103, 104, 105, 106, 107, 108, 109, 110, 111, 112, 113, 114, 115, 116, 117, 118, 119, 120, 121, 122, 123, 124, 125, 126, 127, 128, 129, 130, 131, 132, 133, 134, 135, 136, 137, 138, 139, 140] rfl (by decide +kernel)
set_option maxRecDepth 20000 in
theorem gX9_after_X9_isWord : GoodIn wsX9_after (wsV RX9 244 RX9 yX9_isWord wsX9_isWord) := goodIn_app (goodIn_r _ [1, 2, 3, 4] rfl (by decide +kernel)) ggX9_after_X9_isWord
set_option maxRecDepth 20000 in
theorem ggX9_after_X9_must : GoodIn wsX9_after wsX9_must := goodIn_r _ [11, 12, 13, 14, 4, 15, 16, 17, 18, 19, 20, 21, 22, 23, 6, 7, 24, 25, 26, 27, 28, 29, 30, 31, 32, 33, 34, 35, 36, 37, 38, 39, 40, 41, 42, 43, 44, 45, 46, 47, 48, 49, 50, 51, 52, 53, 54, 55, 56, 57, 58, 59, 60, 61, 62, 63, 64, 65, 66, 67, 68, 69, 74, 75, 76, 77, 78, 79, 80, 81, 82, 83, 84, 85, 86, 87, 88, 89, 90, 91, 92, 93, 94, 95, 96, 97, 98, 99, 100, 101, 102, 103, 104, 105, 106, 107, 108, 109, 110, 111, 112, 113, 114, 115, 116, 117, 118, 119, 120, 121, 122, 123, 124, 125, 126, 127, 128, 129, 130, 131, 132, 133, 134, 135, 136, 137, 138, 139, 140] rfl (by decide +kernel)
set_option maxRecDepth 20000 in
theorem gX9_after_X9_must : GoodIn wsX9_after (wsV RX9 247 RX9 yX9_must wsX9_must) := goodIn_app (goodIn_r _ [8, 9, 10, 4] rfl (by decide +kernel)) ggX9_after_X9_must
set_option maxRecDepth 20000 in
theorem ggX9_after_X9_numeral : GoodIn wsX9_after wsX9_numeral := goodIn_r _ [73, 6, 24, 22, 12, 13, 14, 4, 15, 16, 61, 62, 63, 64, 65, 66, 67, 68, 69, 17, 18, 19, 20, 21, 23, 7, 25, 26, 27, 28, 29, 30, 31, 32, 33, 34, 35, 36, 37, 38, 39, 40, 41, 42, 43, 44, 45, 46, 47, 48, 49, 50, 51, 52, 53, 54, 55, 56, 57, 58, 59, 60, 74, 75, 76, 77, 78, 79, 80, 81, 82, 83, 84, 85, 86, 87, 88, 89, 90, 91, 92, 93, 94, 95, 96, 97, 98, 99, 100, 101, 102, 103, 104, 105, 106, 107, 108, 109, 110, 111, 112, 113, 114, 115, 116, 117, 118, 119, 120, 121, 122, 123, 124, 125, 126, 127, 128, 129, 130, 131, 132, 133, 134, 135, 136, 137, 138, 139, 140] rfl (by decide +kernel)
set_option maxRecDepth 20000 in
theorem gX9_after_X9_numeral : GoodIn wsX9_after (wsV RX9 251 RX9 yX9_numeral wsX9_numeral) := goodIn_app (goodIn_r _ [70, 71, 72, 4] rfl (by decide +kernel)) ggX9_after_X9_numeral
theorem dX9_after_0 : decode cX9_after 0 = .ok (.aload_n 0, 1) := by decide +kernel
theorem dX9_after_1 : decode cX9_after 1 = .ok (.aload_n 0, 1) := by decide +kernel
theorem dX9_after_2 : decode cX9_after 2 = .ok (.lload_n 1, 1) := by decide +kernel
theorem dX9_after_3 : decode cX9_after 3 = .ok (.invokevirtual 244, 3) := by decide +kernel
theorem dX9_after_6 : decode cX9_after 6 = .ok (.invokevirtual 247, 3) := by decide +kernel
theorem dX9_after_9 : decode cX9_after 9 = .ok (.aload_n 0, 1) := by decide +kernel
theorem dX9_after_10 : decode cX9_after 10 = .ok (.iload_n 3, 1) := by decide +kernel
theorem dX9_after_11 : decode cX9_after 11 = .ok (.iload 4, 2) := by decide +kernel
theorem dX9_after_13 : decode cX9_after 13 = .ok (.invokevirtual 251, 3) := by decide +kernel
theorem dX9_after_16 : decode cX9_after 16 = .ok (.ireturn, 1) := by decide +kernel
set_option maxRecDepth 20000 in
theorem ggX9_perhaps_X9_isGood : GoodIn wsX9_perhaps wsX9_isGood := goodIn_r _ [5, 6, 78, 79, 80, 81, 82, 83, 84, 85, 86, 87, 88, 89, 90, 91, 92, 93, 94, 95, 96, 97, 98, 99, 100, 101, 102, 103, 104, 105, 106, 107, 108, 109, 110, 111, 112, 113, 114, 115, 116, 117, 118, 119, 120, 121, 122, 123, 124, 125, 126, 127, 128, 129, 130, 131, 132, 133, 134, 135, 136, 137, 138, 139, 140, 141, 142, 143, 144] rfl (by decide +kernel)
set_option maxRecDepth 20000 in
theorem gX9_perhaps_X9_isGood : GoodIn wsX9_perhaps (wsV RX9 234 RX9 yX9_isGood wsX9_isGood) := goodIn_app (goodIn_r _ [1, 2, 3, 4] rfl (by decide +kernel)) ggX9_perhaps_X9_isGood
set_option maxRecDepth 20000 in
theorem ggX9_perhaps_X9_isWord : GoodIn wsX9_perhaps wsX9_isWord := goodIn_r _ [10, 11, 12, 78, 79, 80, 81, 82, 83, 84, 85, 86, 87, 88, 89, 90, 91, 92, 93, 94, 95, 96, 97, 98, 99, 100, 101, 102, 103, 104, 105, 106, 107, 108, 109, 110, 111, 112, 113, 114, 115, 116, 117, 118, 119, 120, 121, 122, 123, 124, 125, 126, 127, 128, 129, 130, 131, 132, 133, 134, 135, 136, 137, 138, 139, 140, 141, 142, 143, 144] rfl (by decide +kernel)
set_option maxRecDepth 20000 in
theorem gX9_perhaps_X9_isWord : GoodIn wsX9_perhaps (wsV RX9 244 RX9 yX9_isWord wsX9_isWord) := goodIn_app (goodIn_r _ [7, 8, 9, 4] rfl (by decide +kernel)) ggX9_perhaps_X9_isWord
set_option maxRecDepth 20000 in
theorem ggX9_perhaps_X9_after : GoodIn wsX9_perhaps wsX9_after := goodIn_r _ [16, 7, 8, 9, 4, 10, 11, 12, 17, 18, 19, 20, 1, 2, 3, 5, 6, 21, 22, 23, 24, 25, 26, 27, 28, 29, 30, 31, 32, 33, 34, 35, 36, 37, 38, 39, 40, 41, 42, 43, 44, 45, 46, 47, 48, 49, 50, 51, 52, 53, 54, 55, 56, 57, 58, 59, 60, 61, 62, 63, 64, 65, 66, 67, 68, 69, 70, 71, 72, 73, 74, 75, 76, 77, 78, 79, 80, 81, 82, 83, 84, 85, 86, 87, 88, 89, 90, 91, 92, 93, 94, 95, 96, 97, 98, 99, 100, 101, 102, 103, 104, 105, 106, 107, 108, 109, 110, 111, 112, 113, 114, 115, 116, 117, 118, 119, 120, 121, 122, 123, 124, 125, 126, 127, 128, 129, 130, 131, 132, 133, 134, 135, 136, 137, 138, 139, 140, 141, 142, 143, 144] rfl (by decide +kernel)
set_option maxRecDepth 20000 in
theorem gX9_perhaps_X9_after : GoodIn wsX9_perhaps (wsV RX9 255 RX9 yX9_after wsX9_after) := goodIn_app (goodIn_r _ [13, 14, 15, 4] rfl (by decide +kernel)) ggX9_perhaps_X9_after
theorem dX9_perhaps_0 : decode cX9_perhaps 0 = .ok (.aload_n 0, 1) := by decide +kernel
theorem dX9_perhaps_1 : decode cX9_perhaps 1 = .ok (.invokevirtual 234, 3) := by decide +kernel
theorem dX9_perhaps_4 : decode cX9_perhaps 4 = .ok (.ifCond .eq 21, 3) := by decide +kernel
theorem dX9_perhaps_7 : decode cX9_perhaps 7 = .ok (.aload_n 0, 1) := by decide +kernel
theorem dX9_perhaps_8 : decode cX9_perhaps 8 = .ok (.lload_n 1, 1) := by decide +kernel
theorem dX9_perhaps_9 : decode cX9_perhaps 9 = .ok (.invokevirtual 244, 3) := by decide +kernel
theorem dX9_perhaps_12 : decode cX9_perhaps 12 = .ok (.ifCond .eq 13, 3) := by decide +kernel
theorem dX9_perhaps_15 : decode cX9_perhaps 15 = .ok (.aload_n 0, 1) := by decide +kernel
theorem dX9_perhaps_16 : decode cX9_perhaps 16 = .ok (.lload_n 1, 1) := by decide +kernel
theorem dX9_perhaps_17 : decode cX9_perhaps 17 = .ok (.iconst 0, 1) := by decide +kernel
theorem dX9_perhaps_18 : decode cX9_perhaps 18 = .ok (.iload_n 3, 1) := by decide +kernel
theorem dX9_perhaps_19 : decode cX9_perhaps 19 = .ok (.invokevirtual 255, 3) := by decide +kernel
theorem dX9_perhaps_22 : decode cX9_perhaps 22 = .ok (.goto 4, 3) := by decide +kernel
theorem dX9_perhaps_25 : decode cX9_perhaps 25 = .ok (.iconst 0, 1) := by decide +kernel
theorem dX9_perhaps_26 : decode cX9_perhaps 26 = .ok (.ireturn, 1) := by decide +kernel
set_option maxRecDepth 20000 in
theorem ggX9_passes_X9_isGood : GoodIn wsX9_passes wsX9_isGood := goodIn_r _ [5, 6, 57, 58, 59, 60, 61, 62, 63, 64, 65, 66, 67, 68, 69, 70, 71, 72, 73, 74, 75, 76, 77, 78, 79, 80, 81, 82, 83, 84, 85, 86, 87, 88, 89, 90, 91, 92, 93, 94, 95, 96, 97, 98, 99, 100, 101, 102, 103, 104, 105, 106, 107, 108, 109, 110, 111, 112, 113, 114, 115, 116, 117, 118, 119, 120, 121, 122, 123] rfl (by decide +kernel)
set_option maxRecDepth 20000 in
theorem gX9_passes_X9_isGood : GoodIn wsX9_passes (wsV RX9 234 RX9 yX9_isGood wsX9_isGood) := goodIn_app (goodIn_r _ [1, 2, 3, 4] rfl (by decide +kernel)) ggX9_passes_X9_isGood
set_option maxRecDepth 20000 in
theorem ggX9_passes_X9_isWord : GoodIn wsX9_passes wsX9_isWord := goodIn_r _ [10, 11, 12, 57, 58, 59, 60, 61, 62, 63, 64, 65, 66, 67, 68, 69, 70, 71, 72, 73, 74, 75, 76, 77, 78, 79, 80, 81, 82, 83, 84, 85, 86, 87, 88, 89, 90, 91, 92, 93, 94, 95, 96, 97, 98, 99, 100, 101, 102, 103, 104, 105, 106, 107, 108, 109, 110, 111, 112, 113, 114, 115, 116, 117, 118, 119, 120, 121, 122, 123] rfl (by decide +kernel)
set_option maxRecDepth 20000 in
theorem gX9_passes_X9_isWord : GoodIn wsX9_passes (wsV RX9 244 RX9 yX9_isWord wsX9_isWord) := goodIn_app (goodIn_r _ [7, 8, 9, 4] rfl (by decide +kernel)) ggX9_passes_X9_isWord
set_option maxRecDepth 20000 in
theorem ggX9_passes_X9_goOn : GoodIn wsX9_passes wsX9_goOn := goodIn_r _ [16, 17, 18, 19, 11, 12, 20, 21, 22, 23, 4, 24, 25, 26, 27, 28, 29, 30, 31, 32, 33, 34, 35, 36, 37, 38, 39, 40, 41, 42, 43, 44, 45, 46, 47, 48, 49, 50, 51, 52, 53, 54, 55, 56, 57, 58, 59, 60, 61, 62, 63, 64, 65, 66, 67, 68, 69, 70, 71, 72, 73, 74, 75, 76, 77, 78, 79, 80, 81, 82, 83, 84, 85, 86, 87, 88, 89, 90, 91, 92, 93, 94, 95, 96, 97, 98, 99, 100, 101, 102, 103, 104, 105, 106, 107, 108, 109, 110, 111, 112, 113, 114, 115, 116, 117, 118, 119, 120, 121, 122, 123] rfl (by decide +kernel)
set_option maxRecDepth 20000 in
theorem gX9_passes_X9_goOn : GoodIn wsX9_passes (wsV RX9 238 RX9 yX9_goOn wsX9_goOn) := goodIn_app (goodIn_r _ [13, 14, 15, 4] rfl (by decide +kernel)) ggX9_passes_X9_goOn
theorem dX9_passes_0 : decode cX9_passes 0 = .ok (.aload_n 0, 1) := by decide +kernel
theorem dX9_passes_1 : decode cX9_passes 1 = .ok (.invokevirtual 234, 3) := by decide +kernel
theorem dX9_passes_4 : decode cX9_passes 4 = .ok (.ifCond .eq 15, 3) := by decide +kernel
theorem dX9_passes_7 : decode cX9_passes 7 = .ok (.aload_n 0, 1) := by decide +kernel
theorem dX9_passes_8 : decode cX9_passes 8 = .ok (.lload_n 1, 1) := by decide +kernel
theorem dX9_passes_9 : decode cX9_passes 9 = .ok (.invokevirtual 244, 3) := by decide +kernel
theorem dX9_passes_12 : decode cX9_passes 12 = .ok (.ifCond .eq 7, 3) := by decide +kernel
theorem dX9_passes_15 : decode cX9_passes 15 = .ok (.iconst 1, 1) := by decide +kernel
theorem dX9_passes_16 : decode cX9_passes 16 = .ok (.goto 4, 3) := by decide +kernel
theorem dX9_passes_19 : decode cX9_passes 19 = .ok (.iconst 0, 1) := by decide +kernel
theorem dX9_passes_20 : decode cX9_passes 20 = .ok (.istore_n 3, 1) := by decide +kernel
theorem dX9_passes_21 : decode cX9_passes 21 = .ok (.iload_n 3, 1) := by decide +kernel
theorem dX9_passes_22 : decode cX9_passes 22 = .ok (.ifCond .eq 7, 3) := by decide +kernel
theorem dX9_passes_25 : decode cX9_passes 25 = .ok (.aload_n 0, 1) := by decide +kernel
theorem dX9_passes_26 : decode cX9_passes 26 = .ok (.invokevirtual 238, 3) := by decide +kernel
theorem dX9_passes_29 : decode cX9_passes 29 = .ok (.iload_n 3, 1) := by decide +kernel
theorem dX9_passes_30 : decode cX9_passes 30 = .ok (.ireturn, 1) := by decide +kernel
theorem dX9_here_0 : decode cX9_here 0 = .ok (.iconst 0, 1) := by decide +kernel
theorem dX9_here_1 : decode cX9_here 1 = .ok (.istore 4, 2) := by decide +kernel
theorem dX9_here_3 : decode cX9_here 3 = .ok (.iload 4, 2) := by decide +kernel
theorem dX9_here_5 : decode cX9_here 5 = .ok (.iload_n 3, 1) := by decide +kernel
theorem dX9_here_6 : decode cX9_here 6 = .ok (.if_icmp .ge 34, 3) := by decide +kernel
theorem dX9_here_9 : decode cX9_here 9 = .ok (.aload_n 0, 1) := by decide +kernel
theorem dX9_here_10 : decode cX9_here 10 = .ok (.getfield 206, 3) := by decide +kernel
theorem dX9_here_13 : decode cX9_here 13 = .ok (.iconst 2, 1) := by decide +kernel
theorem dX9_here_14 : decode cX9_here 14 = .ok (.if_icmp .ne 20, 3) := by decide +kernel
theorem dX9_here_17 : decode cX9_here 17 = .ok (.aload_n 1, 1) := by decide +kernel
theorem dX9_here_18 : decode cX9_here 18 = .ok (.iload_n 2, 1) := by decide +kernel
theorem dX9_here_19 : decode cX9_here 19 = .ok (.iload 4, 2) := by decide +kernel
theorem dX9_here_21 : decode cX9_here 21 = .ok (.iadd, 1) := by decide +kernel
theorem dX9_here_22 : decode cX9_here 22 = .ok (.laload, 1) := by decide +kernel
theorem dX9_here_23 : decode cX9_here 23 = .ok (.aload_n 0, 1) := by decide +kernel
theorem dX9_here_24 : decode cX9_here 24 = .ok (.getfield 213, 3) := by decide +kernel
theorem dX9_here_27 : decode cX9_here 27 = .ok (.lcmp, 1) := by decide +kernel
theorem dX9_here_28 : decode cX9_here 28 = .ok (.ifCond .ne 6, 3) := by decide +kernel
theorem dX9_here_31 : decode cX9_here 31 = .ok (.iload 4, 2) := by decide +kernel
theorem dX9_here_33 : decode cX9_here 33 = .ok (.ireturn, 1) := by decide +kernel
theorem dX9_here_34 : decode cX9_here 34 = .ok (.iinc 4 1, 3) := by decide +kernel
theorem dX9_here_37 : decode cX9_here 37 = .ok (.goto (-34), 3) := by decide +kernel
theorem dX9_here_40 : decode cX9_here 40 = .ok (.iconst (-1), 1) := by decide +kernel
theorem dX9_here_41 : decode cX9_here 41 = .ok (.ireturn, 1) := by decide +kernel
set_option maxRecDepth 20000 in
theorem ggX9_catHere_X9_here : GoodIn wsX9_catHere wsX9_here := goodIn_r _ [8, 9, 10, 11, 12, 13, 14, 15, 16, 17, 18, 19, 20, 21, 22, 23, 24, 25, 26, 27, 28, 29, 30, 31, 32, 33, 34, 35, 36, 37, 38, 39, 40, 41, 42, 43, 44, 45, 46, 47, 48, 49, 50, 51, 52, 53, 54, 55, 56, 57, 58, 59, 60, 61, 62, 63, 64, 65, 66, 67, 68, 69, 70, 71, 72, 73, 74, 75, 76, 77] rfl (by decide +kernel)
set_option maxRecDepth 20000 in
theorem gX9_catHere_X9_here : GoodIn wsX9_catHere (wsV RX9 296 RX9 yX9_here wsX9_here) := goodIn_app (goodIn_r _ [4, 5, 6, 7] rfl (by decide +kernel)) ggX9_catHere_X9_here
theorem dX9_catHere_0 : decode cX9_catHere 0 = .ok (.aload_n 0, 1) := by decide +kernel
theorem dX9_catHere_1 : decode cX9_catHere 1 = .ok (.aload_n 0, 1) := by decide +kernel
theorem dX9_catHere_2 : decode cX9_catHere 2 = .ok (.getfield 69, 3) := by decide +kernel
theorem dX9_catHere_5 : decode cX9_catHere 5 = .ok (.bipush 6, 2) := by decide +kernel
theorem dX9_catHere_7 : decode cX9_catHere 7 = .ok (.aload_n 0, 1) := by decide +kernel
theorem dX9_catHere_8 : decode cX9_catHere 8 = .ok (.getfield 259, 3) := by decide +kernel
theorem dX9_catHere_11 : decode cX9_catHere 11 = .ok (.imul, 1) := by decide +kernel
theorem dX9_catHere_12 : decode cX9_catHere 12 = .ok (.aload_n 0, 1) := by decide +kernel
theorem dX9_catHere_13 : decode cX9_catHere 13 = .ok (.getfield 20, 3) := by decide +kernel
theorem dX9_catHere_16 : decode cX9_catHere 16 = .ok (.aload_n 0, 1) := by decide +kernel
theorem dX9_catHere_17 : decode cX9_catHere 17 = .ok (.getfield 259, 3) := by decide +kernel
theorem dX9_catHere_20 : decode cX9_catHere 20 = .ok (.iaload, 1) := by decide +kernel
theorem dX9_catHere_21 : decode cX9_catHere 21 = .ok (.invokevirtual 296, 3) := by decide +kernel
theorem dX9_catHere_24 : decode cX9_catHere 24 = .ok (.ireturn, 1) := by decide +kernel
set_option maxRecDepth 20000 in
theorem ggX9_roomHere_X9_here : GoodIn wsX9_roomHere wsX9_here := goodIn_r _ [8, 9, 10, 11, 12, 13, 14, 15, 16, 17, 18, 19, 20, 21, 22, 23, 24, 25, 26, 27, 28, 29, 30, 31, 32, 33, 34, 35, 36, 37, 38, 39, 40, 41, 42, 43, 44, 45, 46, 47, 48, 49, 50, 51, 52, 53, 54, 55, 56, 57, 58, 59, 60, 61, 62, 63, 64, 65, 66, 67, 68, 69, 70, 71, 72, 73, 74, 75, 76, 77] rfl (by decide +kernel)
set_option maxRecDepth 20000 in
theorem gX9_roomHere_X9_here : GoodIn wsX9_roomHere (wsV RX9 296 RX9 yX9_here wsX9_here) := goodIn_app (goodIn_r _ [4, 5, 6, 7] rfl (by decide +kernel)) ggX9_roomHere_X9_here
theorem dX9_roomHere_0 : decode cX9_roomHere 0 = .ok (.aload_n 0, 1) := by decide +kernel
theorem dX9_roomHere_1 : decode cX9_roomHere 1 = .ok (.aload_n 0, 1) := by decide +kernel
theorem dX9_roomHere_2 : decode cX9_roomHere 2 = .ok (.getfield 73, 3) := by decide +kernel
theorem dX9_roomHere_5 : decode cX9_roomHere 5 = .ok (.bipush 8, 2) := by decide +kernel
theorem dX9_roomHere_7 : decode cX9_roomHere 7 = .ok (.aload_n 0, 1) := by decide +kernel
theorem dX9_roomHere_8 : decode cX9_roomHere 8 = .ok (.getfield 259, 3) := by decide +kernel
theorem dX9_roomHere_11 : decode cX9_roomHere 11 = .ok (.imul, 1) := by decide +kernel
theorem dX9_roomHere_12 : decode cX9_roomHere 12 = .ok (.aload_n 0, 1) := by decide +kernel
theorem dX9_roomHere_13 : decode cX9_roomHere 13 = .ok (.getfield 24, 3) := by decide +kernel
theorem dX9_roomHere_16 : decode cX9_roomHere 16 = .ok (.aload_n 0, 1) := by decide +kernel
theorem dX9_roomHere_17 : decode cX9_roomHere 17 = .ok (.getfield 259, 3) := by decide +kernel
theorem dX9_roomHere_20 : decode cX9_roomHere 20 = .ok (.iaload, 1) := by decide +kernel
theorem dX9_roomHere_21 : decode cX9_roomHere 21 = .ok (.invokevirtual 296, 3) := by decide +kernel
theorem dX9_roomHere_24 : decode cX9_roomHere 24 = .ok (.ireturn, 1) := by decide +kernel
set_option maxRecDepth 20000 in
theorem ggX9_fresh_X9_isGood : GoodIn wsX9_fresh wsX9_isGood := goodIn_r _ [8, 9, 62, 63, 64, 65, 66, 67, 68, 69, 70, 71, 72, 73, 74, 75, 76, 77, 78, 79, 80, 81, 82, 83, 84, 85, 86, 87, 88, 89, 90, 91, 92, 93, 94, 95, 96, 97, 98, 99, 100, 101, 102, 103, 104, 105, 106, 107, 108, 109, 110, 111, 112, 113, 114, 115, 116, 117, 118, 119, 120, 121, 122, 123, 124, 125, 126, 127, 128] rfl (by decide +kernel)
set_option maxRecDepth 20000 in
theorem gX9_fresh_X9_isGood : GoodIn wsX9_fresh (wsV RX9 234 RX9 yX9_isGood wsX9_isGood) := goodIn_app (goodIn_r _ [4, 5, 6, 7] rfl (by decide +kernel)) ggX9_fresh_X9_isGood
set_option maxRecDepth 20000 in
theorem ggX9_fresh_X9_misplaced : GoodIn wsX9_fresh wsX9_misplaced := goodIn_r _ [13, 1, 2, 14, 15, 16, 7, 17, 9, 18, 62, 63, 64, 65, 66, 67, 68, 69, 70, 71, 72, 73, 74, 75, 76, 77, 78, 79, 80, 81, 82, 83, 84, 85, 86, 87, 88, 89, 90, 91, 92, 93, 94, 95, 96, 97, 98, 99, 100, 101, 102, 103, 104, 105, 106, 107, 108, 109, 110, 111, 112, 113, 114, 115, 116, 117, 118, 119, 120, 121, 122, 123, 124, 125, 126, 127, 128] rfl (by decide +kernel)
set_option maxRecDepth 20000 in
theorem gX9_fresh_X9_misplaced : GoodIn wsX9_fresh (wsV RX9 241 RX9 yX9_misplaced wsX9_misplaced) := goodIn_app (goodIn_r _ [10, 11, 12, 7] rfl (by decide +kernel)) ggX9_fresh_X9_misplaced
set_option maxRecDepth 20000 in
theorem ggX9_fresh_X9_fails : GoodIn wsX9_fresh wsX9_fails := goodIn_r _ [17, 9, 18, 62, 63, 64, 65, 66, 67, 68, 69, 70, 71, 72, 73, 74, 75, 76, 77, 78, 79, 80, 81, 82, 83, 84, 85, 86, 87, 88, 89, 90, 91, 92, 93, 94, 95, 96, 97, 98, 99, 100, 101, 102, 103, 104, 105, 106, 107, 108, 109, 110, 111, 112, 113, 114, 115, 116, 117, 118, 119, 120, 121, 122, 123, 124, 125, 126, 127, 128] rfl (by decide +kernel)
set_option maxRecDepth 20000 in
theorem gX9_fresh_X9_fails : GoodIn wsX9_fresh (wsV RX9 230 RX9 yX9_fails wsX9_fails) := goodIn_app (goodIn_r _ [14, 15, 16, 7] rfl (by decide +kernel)) ggX9_fresh_X9_fails
set_option maxRecDepth 20000 in
theorem ggX9_fresh_X9_goOn : GoodIn wsX9_fresh wsX9_goOn := goodIn_r _ [22, 23, 2, 24, 1, 3, 25, 26, 27, 28, 7, 29, 30, 31, 32, 33, 34, 35, 36, 37, 38, 39, 40, 41, 42, 43, 44, 45, 46, 47, 48, 49, 50, 51, 52, 53, 54, 55, 56, 57, 58, 59, 60, 61, 62, 63, 64, 65, 66, 67, 68, 69, 70, 71, 72, 73, 74, 75, 76, 77, 78, 79, 80, 81, 82, 83, 84, 85, 86, 87, 88, 89, 90, 91, 92, 93, 94, 95, 96, 97, 98, 99, 100, 101, 102, 103, 104, 105, 106, 107, 108, 109, 110, 111, 112, 113, 114, 115, 116, 117, 118, 119, 120, 121, 122, 123, 124, 125, 126, 127, 128] rfl (by decide +kernel)
set_option maxRecDepth 20000 in
theorem gX9_fresh_X9_goOn : GoodIn wsX9_fresh (wsV RX9 238 RX9 yX9_goOn wsX9_goOn) := goodIn_app (goodIn_r _ [19, 20, 21, 7] rfl (by decide +kernel)) ggX9_fresh_X9_goOn
theorem dX9_fresh_0 : decode cX9_fresh 0 = .ok (.aload_n 0, 1) := by decide +kernel
theorem dX9_fresh_1 : decode cX9_fresh 1 = .ok (.invokevirtual 234, 3) := by decide +kernel
theorem dX9_fresh_4 : decode cX9_fresh 4 = .ok (.ifCond .ne 5, 3) := by decide +kernel
theorem dX9_fresh_7 : decode cX9_fresh 7 = .ok (.lconst 0, 1) := by decide +kernel
theorem dX9_fresh_8 : decode cX9_fresh 8 = .ok (.lreturn, 1) := by decide +kernel
theorem dX9_fresh_9 : decode cX9_fresh 9 = .ok (.aload_n 0, 1) := by decide +kernel
theorem dX9_fresh_10 : decode cX9_fresh 10 = .ok (.getfield 206, 3) := by decide +kernel
theorem dX9_fresh_13 : decode cX9_fresh 13 = .ok (.iconst 2, 1) := by decide +kernel
theorem dX9_fresh_14 : decode cX9_fresh 14 = .ok (.if_icmp .eq 10, 3) := by decide +kernel
theorem dX9_fresh_17 : decode cX9_fresh 17 = .ok (.aload_n 0, 1) := by decide +kernel
theorem dX9_fresh_18 : decode cX9_fresh 18 = .ok (.invokevirtual 241, 3) := by decide +kernel
theorem dX9_fresh_21 : decode cX9_fresh 21 = .ok (.goto 16, 3) := by decide +kernel
theorem dX9_fresh_24 : decode cX9_fresh 24 = .ok (.iload_n 1, 1) := by decide +kernel
theorem dX9_fresh_25 : decode cX9_fresh 25 = .ok (.ifCond .lt 12, 3) := by decide +kernel
theorem dX9_fresh_28 : decode cX9_fresh 28 = .ok (.aload_n 0, 1) := by decide +kernel
theorem dX9_fresh_29 : decode cX9_fresh 29 = .ok (.iconst 3, 1) := by decide +kernel
theorem dX9_fresh_30 : decode cX9_fresh 30 = .ok (.aload_n 0, 1) := by decide +kernel
theorem dX9_fresh_31 : decode cX9_fresh 31 = .ok (.getfield 199, 3) := by decide +kernel
theorem dX9_fresh_34 : decode cX9_fresh 34 = .ok (.invokevirtual 230, 3) := by decide +kernel
theorem dX9_fresh_37 : decode cX9_fresh 37 = .ok (.aload_n 0, 1) := by decide +kernel
theorem dX9_fresh_38 : decode cX9_fresh 38 = .ok (.getfield 213, 3) := by decide +kernel
theorem dX9_fresh_41 : decode cX9_fresh 41 = .ok (.lstore_n 2, 1) := by decide +kernel
theorem dX9_fresh_42 : decode cX9_fresh 42 = .ok (.aload_n 0, 1) := by decide +kernel
theorem dX9_fresh_43 : decode cX9_fresh 43 = .ok (.invokevirtual 234, 3) := by decide +kernel
theorem dX9_fresh_46 : decode cX9_fresh 46 = .ok (.ifCond .eq 7, 3) := by decide +kernel
theorem dX9_fresh_49 : decode cX9_fresh 49 = .ok (.aload_n 0, 1) := by decide +kernel
theorem dX9_fresh_50 : decode cX9_fresh 50 = .ok (.invokevirtual 238, 3) := by decide +kernel
theorem dX9_fresh_53 : decode cX9_fresh 53 = .ok (.lload_n 2, 1) := by decide +kernel
theorem dX9_fresh_54 : decode cX9_fresh 54 = .ok (.lreturn, 1) := by decide +kernel
set_option maxRecDepth 20000 in
theorem ggX9_known_X9_isGood : GoodIn wsX9_known wsX9_isGood := goodIn_r _ [7, 8, 62, 63, 64, 65, 66, 67, 68, 69, 70, 71, 72, 73, 74, 75, 76, 77, 78, 79, 80, 81, 82, 83, 84, 85, 86, 87, 88, 89, 90, 91, 92, 93, 94, 95, 96, 97, 98, 99, 100, 101, 102, 103, 104, 105, 106, 107, 108, 109, 110, 111, 112, 113, 114, 115, 116, 117, 118, 119, 120, 121, 122, 123, 124, 125, 126, 127, 128] rfl (by decide +kernel)
set_option maxRecDepth 20000 in
theorem gX9_known_X9_isGood : GoodIn wsX9_known (wsV RX9 234 RX9 yX9_isGood wsX9_isGood) := goodIn_app (goodIn_r _ [3, 4, 5, 6] rfl (by decide +kernel)) ggX9_known_X9_isGood
set_option maxRecDepth 20000 in
theorem ggX9_known_X9_misplaced : GoodIn wsX9_known wsX9_misplaced := goodIn_r _ [12, 1, 2, 13, 14, 15, 6, 16, 8, 17, 62, 63, 64, 65, 66, 67, 68, 69, 70, 71, 72, 73, 74, 75, 76, 77, 78, 79, 80, 81, 82, 83, 84, 85, 86, 87, 88, 89, 90, 91, 92, 93, 94, 95, 96, 97, 98, 99, 100, 101, 102, 103, 104, 105, 106, 107, 108, 109, 110, 111, 112, 113, 114, 115, 116, 117, 118, 119, 120, 121, 122, 123, 124, 125, 126, 127, 128] rfl (by decide +kernel)
set_option maxRecDepth 20000 in
theorem gX9_known_X9_misplaced : GoodIn wsX9_known (wsV RX9 241 RX9 yX9_misplaced wsX9_misplaced) := goodIn_app (goodIn_r _ [9, 10, 11, 6] rfl (by decide +kernel)) ggX9_known_X9_misplaced
set_option maxRecDepth 20000 in
theorem ggX9_known_X9_fails : GoodIn wsX9_known wsX9_fails := goodIn_r _ [16, 8, 17, 62, 63, 64, 65, 66, 67, 68, 69, 70, 71, 72, 73, 74, 75, 76, 77, 78, 79, 80, 81, 82, 83, 84, 85, 86, 87, 88, 89, 90, 91, 92, 93, 94, 95, 96, 97, 98, 99, 100, 101, 102, 103, 104, 105, 106, 107, 108, 109, 110, 111, 112, 113, 114, 115, 116, 117, 118, 119, 120, 121, 122, 123, 124, 125, 126, 127, 128] rfl (by decide +kernel)
set_option maxRecDepth 20000 in
theorem gX9_known_X9_fails : GoodIn wsX9_known (wsV RX9 230 RX9 yX9_fails wsX9_fails) := goodIn_app (goodIn_r _ [13, 14, 15, 6] rfl (by decide +kernel)) ggX9_known_X9_fails
set_option maxRecDepth 20000 in
theorem ggX9_known_X9_goOn : GoodIn wsX9_known wsX9_goOn := goodIn_r _ [21, 22, 2, 23, 1, 24, 25, 26, 27, 28, 6, 29, 30, 31, 32, 33, 34, 35, 36, 37, 38, 39, 40, 41, 42, 43, 44, 45, 46, 47, 48, 49, 50, 51, 52, 53, 54, 55, 56, 57, 58, 59, 60, 61, 62, 63, 64, 65, 66, 67, 68, 69, 70, 71, 72, 73, 74, 75, 76, 77, 78, 79, 80, 81, 82, 83, 84, 85, 86, 87, 88, 89, 90, 91, 92, 93, 94, 95, 96, 97, 98, 99, 100, 101, 102, 103, 104, 105, 106, 107, 108, 109, 110, 111, 112, 113, 114, 115, 116, 117, 118, 119, 120, 121, 122, 123, 124, 125, 126, 127, 128] rfl (by decide +kernel)
set_option maxRecDepth 20000 in
theorem gX9_known_X9_goOn : GoodIn wsX9_known (wsV RX9 238 RX9 yX9_goOn wsX9_goOn) := goodIn_app (goodIn_r _ [18, 19, 20, 6] rfl (by decide +kernel)) ggX9_known_X9_goOn
theorem dX9_known_0 : decode cX9_known 0 = .ok (.aload_n 0, 1) := by decide +kernel
theorem dX9_known_1 : decode cX9_known 1 = .ok (.invokevirtual 234, 3) := by decide +kernel
theorem dX9_known_4 : decode cX9_known 4 = .ok (.ifCond .ne 5, 3) := by decide +kernel
theorem dX9_known_7 : decode cX9_known 7 = .ok (.iconst 0, 1) := by decide +kernel
theorem dX9_known_8 : decode cX9_known 8 = .ok (.ireturn, 1) := by decide +kernel
theorem dX9_known_9 : decode cX9_known 9 = .ok (.aload_n 0, 1) := by decide +kernel
theorem dX9_known_10 : decode cX9_known 10 = .ok (.getfield 206, 3) := by decide +kernel
theorem dX9_known_13 : decode cX9_known 13 = .ok (.iconst 2, 1) := by decide +kernel
theorem dX9_known_14 : decode cX9_known 14 = .ok (.if_icmp .eq 10, 3) := by decide +kernel
theorem dX9_known_17 : decode cX9_known 17 = .ok (.aload_n 0, 1) := by decide +kernel
theorem dX9_known_18 : decode cX9_known 18 = .ok (.invokevirtual 241, 3) := by decide +kernel
theorem dX9_known_21 : decode cX9_known 21 = .ok (.goto 23, 3) := by decide +kernel
theorem dX9_known_24 : decode cX9_known 24 = .ok (.iload_n 1, 1) := by decide +kernel
theorem dX9_known_25 : decode cX9_known 25 = .ok (.ifCond .ge 15, 3) := by decide +kernel
theorem dX9_known_28 : decode cX9_known 28 = .ok (.aload_n 0, 1) := by decide +kernel
theorem dX9_known_29 : decode cX9_known 29 = .ok (.iconst 5, 1) := by decide +kernel
theorem dX9_known_30 : decode cX9_known 30 = .ok (.aload_n 0, 1) := by decide +kernel
theorem dX9_known_31 : decode cX9_known 31 = .ok (.getfield 199, 3) := by decide +kernel
theorem dX9_known_34 : decode cX9_known 34 = .ok (.invokevirtual 230, 3) := by decide +kernel
theorem dX9_known_37 : decode cX9_known 37 = .ok (.goto 7, 3) := by decide +kernel
theorem dX9_known_40 : decode cX9_known 40 = .ok (.aload_n 0, 1) := by decide +kernel
theorem dX9_known_41 : decode cX9_known 41 = .ok (.invokevirtual 238, 3) := by decide +kernel
theorem dX9_known_44 : decode cX9_known 44 = .ok (.iload_n 1, 1) := by decide +kernel
theorem dX9_known_45 : decode cX9_known 45 = .ok (.ifCond .ge 7, 3) := by decide +kernel
theorem dX9_known_48 : decode cX9_known 48 = .ok (.iconst 0, 1) := by decide +kernel
theorem dX9_known_49 : decode cX9_known 49 = .ok (.goto 4, 3) := by decide +kernel
theorem dX9_known_52 : decode cX9_known 52 = .ok (.iload_n 1, 1) := by decide +kernel
theorem dX9_known_53 : decode cX9_known 53 = .ok (.ireturn, 1) := by decide +kernel
theorem iX9_isWord_X9 : ∀ w ∈ wsX90, w ∈ wsX9_isWord := (fun _ h => List.mem_cons_of_mem _ (List.mem_append_right _ h))
theorem iX9_isSignHere_X9 : ∀ w ∈ wsX90, w ∈ wsX9_isSignHere := (fun _ h => List.mem_cons_of_mem _ (List.mem_append_right _ h))
theorem iX9_misplaced_X9 : ∀ w ∈ wsX90, w ∈ wsX9_misplaced := (fun _ h => List.mem_cons_of_mem _ (List.mem_append_right _ h))
theorem iX9_numeral_X9 : ∀ w ∈ wsX90, w ∈ wsX9_numeral := (fun _ h => List.mem_cons_of_mem _ (List.mem_append_right _ h))
theorem iX9_here_X9 : ∀ w ∈ wsX90, w ∈ wsX9_here := (fun _ h => List.mem_cons_of_mem _ (List.mem_append_right _ h))
theorem iX9_catHere_X9 : ∀ w ∈ wsX90, w ∈ wsX9_catHere := (fun _ h => List.mem_cons_of_mem _ (List.mem_append_right _ h))
theorem iX9_roomHere_X9 : ∀ w ∈ wsX90, w ∈ wsX9_roomHere := (fun _ h => List.mem_cons_of_mem _ (List.mem_append_right _ h))
theorem iX9_fresh_X9 : ∀ w ∈ wsX90, w ∈ wsX9_fresh := (fun _ h => List.mem_cons_of_mem _ (List.mem_append_right _ h))
theorem iX9_known_X9 : ∀ w ∈ wsX90, w ∈ wsX9_known := (fun _ h => List.mem_cons_of_mem _ (List.mem_append_right _ h))
