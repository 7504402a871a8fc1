theorem dX9_emit_0 : decode cX9_emit 0 = .ok (.aload_n 0, 1) := by decide +kernel
theorem dX9_emit_1 : decode cX9_emit 1 = .ok (.getfield 79, 3) := by decide +kernel
theorem dX9_emit_4 : decode cX9_emit 4 = .ok (.aload_n 0, 1) := by decide +kernel
theorem dX9_emit_5 : decode cX9_emit 5 = .ok (.getfield 262, 3) := by decide +kernel
theorem dX9_emit_8 : decode cX9_emit 8 = .ok (.iload_n 1, 1) := by decide +kernel
theorem dX9_emit_9 : decode cX9_emit 9 = .ok (.iastore, 1) := by decide +kernel
theorem dX9_emit_10 : decode cX9_emit 10 = .ok (.aload_n 0, 1) := by decide +kernel
theorem dX9_emit_11 : decode cX9_emit 11 = .ok (.getfield 82, 3) := by decide +kernel
theorem dX9_emit_14 : decode cX9_emit 14 = .ok (.aload_n 0, 1) := by decide +kernel
theorem dX9_emit_15 : decode cX9_emit 15 = .ok (.getfield 262, 3) := by decide +kernel
theorem dX9_emit_18 : decode cX9_emit 18 = .ok (.iload_n 2, 1) := by decide +kernel
theorem dX9_emit_19 : decode cX9_emit 19 = .ok (.iastore, 1) := by decide +kernel
theorem dX9_emit_20 : decode cX9_emit 20 = .ok (.aload_n 0, 1) := by decide +kernel
theorem dX9_emit_21 : decode cX9_emit 21 = .ok (.dup, 1) := by decide +kernel
theorem dX9_emit_22 : decode cX9_emit 22 = .ok (.getfield 262, 3) := by decide +kernel
theorem dX9_emit_25 : decode cX9_emit 25 = .ok (.iconst 1, 1) := by decide +kernel
theorem dX9_emit_26 : decode cX9_emit 26 = .ok (.iadd, 1) := by decide +kernel
theorem dX9_emit_27 : decode cX9_emit 27 = .ok (.putfield 262, 3) := by decide +kernel
theorem dX9_emit_30 : decode cX9_emit 30 = .ok (.return_, 1) := by decide +kernel
theorem dX9_pushE_0 : decode cX9_pushE 0 = .ok (.aload_n 0, 1) := by decide +kernel
theorem dX9_pushE_1 : decode cX9_pushE 1 = .ok (.getfield 85, 3) := by decide +kernel
theorem dX9_pushE_4 : decode cX9_pushE 4 = .ok (.aload_n 0, 1) := by decide +kernel
theorem dX9_pushE_5 : decode cX9_pushE 5 = .ok (.getfield 327, 3) := by decide +kernel
theorem dX9_pushE_8 : decode cX9_pushE 8 = .ok (.iload_n 1, 1) := by decide +kernel
theorem dX9_pushE_9 : decode cX9_pushE 9 = .ok (.iastore, 1) := by decide +kernel
theorem dX9_pushE_10 : decode cX9_pushE 10 = .ok (.aload_n 0, 1) := by decide +kernel
theorem dX9_pushE_11 : decode cX9_pushE 11 = .ok (.getfield 88, 3) := by decide +kernel
theorem dX9_pushE_14 : decode cX9_pushE 14 = .ok (.aload_n 0, 1) := by decide +kernel
theorem dX9_pushE_15 : decode cX9_pushE 15 = .ok (.getfield 327, 3) := by decide +kernel
theorem dX9_pushE_18 : decode cX9_pushE 18 = .ok (.iload_n 2, 1) := by decide +kernel
theorem dX9_pushE_19 : decode cX9_pushE 19 = .ok (.iastore, 1) := by decide +kernel
theorem dX9_pushE_20 : decode cX9_pushE 20 = .ok (.aload_n 0, 1) := by decide +kernel
theorem dX9_pushE_21 : decode cX9_pushE 21 = .ok (.dup, 1) := by decide +kernel
theorem dX9_pushE_22 : decode cX9_pushE 22 = .ok (.getfield 327, 3) := by decide +kernel
theorem dX9_pushE_25 : decode cX9_pushE 25 = .ok (.iconst 1, 1) := by decide +kernel
theorem dX9_pushE_26 : decode cX9_pushE 26 = .ok (.iadd, 1) := by decide +kernel
theorem dX9_pushE_27 : decode cX9_pushE 27 = .ok (.putfield 327, 3) := by decide +kernel
theorem dX9_pushE_30 : decode cX9_pushE 30 = .ok (.return_, 1) := by decide +kernel
set_option maxRecDepth 20000 in
theorem ggX9_wordHere_X9_isWord : GoodIn wsX9_wordHere wsX9_isWord := goodIn_r _ [12, 13, 14, 15, 16, 17, 18, 19, 20, 21, 22, 23, 24, 25, 26, 27, 28, 29, 30, 31, 32, 33, 34, 35, 36, 37, 38, 39, 40, 41, 42, 43, 44, 45, 46, 47, 48, 49, 50, 51, 52, 53, 54, 55, 56, 57, 58, 59, 60, 61, 62, 63, 64, 65, 66, 67, 68, 69, 70, 71, 72, 73, 74, 75, 76, 77, 78, 79, 80, 81] rfl (by decide +kernel)
set_option maxRecDepth 20000 in
theorem gX9_wordHere_X9_isWord : GoodIn wsX9_wordHere (wsV RX9 244 RX9 yX9_isWord wsX9_isWord) := goodIn_app (goodIn_r _ [8, 9, 10, 11] rfl (by decide +kernel)) ggX9_wordHere_X9_isWord
theorem dX9_wordHere_0 : decode cX9_wordHere 0 = .ok (.aload_n 0, 1) := by decide +kernel
theorem dX9_wordHere_1 : decode cX9_wordHere 1 = .ok (.ldc2_w 170, 3) := by decide +kernel
theorem dX9_wordHere_4 : decode cX9_wordHere 4 = .ok (.invokevirtual 244, 3) := by decide +kernel
theorem dX9_wordHere_7 : decode cX9_wordHere 7 = .ok (.ifCond .eq 6, 3) := by decide +kernel
theorem dX9_wordHere_10 : decode cX9_wordHere 10 = .ok (.bipush 104, 2) := by decide +kernel
theorem dX9_wordHere_12 : decode cX9_wordHere 12 = .ok (.ireturn, 1) := by decide +kernel
theorem dX9_wordHere_13 : decode cX9_wordHere 13 = .ok (.aload_n 0, 1) := by decide +kernel
theorem dX9_wordHere_14 : decode cX9_wordHere 14 = .ok (.ldc2_w 160, 3) := by decide +kernel
theorem dX9_wordHere_17 : decode cX9_wordHere 17 = .ok (.invokevirtual 244, 3) := by decide +kernel
theorem dX9_wordHere_20 : decode cX9_wordHere 20 = .ok (.ifCond .eq 6, 3) := by decide +kernel
theorem dX9_wordHere_23 : decode cX9_wordHere 23 = .ok (.bipush 119, 2) := by decide +kernel
theorem dX9_wordHere_25 : decode cX9_wordHere 25 = .ok (.ireturn, 1) := by decide +kernel
theorem dX9_wordHere_26 : decode cX9_wordHere 26 = .ok (.aload_n 0, 1) := by decide +kernel
theorem dX9_wordHere_27 : decode cX9_wordHere 27 = .ok (.ldc2_w 172, 3) := by decide +kernel
theorem dX9_wordHere_30 : decode cX9_wordHere 30 = .ok (.invokevirtual 244, 3) := by decide +kernel
theorem dX9_wordHere_33 : decode cX9_wordHere 33 = .ok (.ifCond .eq 6, 3) := by decide +kernel
theorem dX9_wordHere_36 : decode cX9_wordHere 36 = .ok (.bipush 109, 2) := by decide +kernel
theorem dX9_wordHere_38 : decode cX9_wordHere 38 = .ok (.ireturn, 1) := by decide +kernel
theorem dX9_wordHere_39 : decode cX9_wordHere 39 = .ok (.aload_n 0, 1) := by decide +kernel
theorem dX9_wordHere_40 : decode cX9_wordHere 40 = .ok (.ldc2_w 174, 3) := by decide +kernel
theorem dX9_wordHere_43 : decode cX9_wordHere 43 = .ok (.invokevirtual 244, 3) := by decide +kernel
theorem dX9_wordHere_46 : decode cX9_wordHere 46 = .ok (.ifCond .eq 6, 3) := by decide +kernel
theorem dX9_wordHere_49 : decode cX9_wordHere 49 = .ok (.bipush 102, 2) := by decide +kernel
theorem dX9_wordHere_51 : decode cX9_wordHere 51 = .ok (.ireturn, 1) := by decide +kernel
theorem dX9_wordHere_52 : decode cX9_wordHere 52 = .ok (.aload_n 0, 1) := by decide +kernel
theorem dX9_wordHere_53 : decode cX9_wordHere 53 = .ok (.ldc2_w 184, 3) := by decide +kernel
theorem dX9_wordHere_56 : decode cX9_wordHere 56 = .ok (.invokevirtual 244, 3) := by decide +kernel
theorem dX9_wordHere_59 : decode cX9_wordHere 59 = .ok (.ifCond .eq 6, 3) := by decide +kernel
theorem dX9_wordHere_62 : decode cX9_wordHere 62 = .ok (.bipush 115, 2) := by decide +kernel
theorem dX9_wordHere_64 : decode cX9_wordHere 64 = .ok (.ireturn, 1) := by decide +kernel
theorem dX9_wordHere_65 : decode cX9_wordHere 65 = .ok (.aload_n 0, 1) := by decide +kernel
theorem dX9_wordHere_66 : decode cX9_wordHere 66 = .ok (.ldc2_w 186, 3) := by decide +kernel
theorem dX9_wordHere_69 : decode cX9_wordHere 69 = .ok (.invokevirtual 244, 3) := by decide +kernel
theorem dX9_wordHere_72 : decode cX9_wordHere 72 = .ok (.ifCond .eq 6, 3) := by decide +kernel
theorem dX9_wordHere_75 : decode cX9_wordHere 75 = .ok (.bipush 114, 2) := by decide +kernel
theorem dX9_wordHere_77 : decode cX9_wordHere 77 = .ok (.ireturn, 1) := by decide +kernel
theorem dX9_wordHere_78 : decode cX9_wordHere 78 = .ok (.aload_n 0, 1) := by decide +kernel
theorem dX9_wordHere_79 : decode cX9_wordHere 79 = .ok (.ldc2_w 188, 3) := by decide +kernel
theorem dX9_wordHere_82 : decode cX9_wordHere 82 = .ok (.invokevirtual 244, 3) := by decide +kernel
theorem dX9_wordHere_85 : decode cX9_wordHere 85 = .ok (.ifCond .eq 8, 3) := by decide +kernel
theorem dX9_wordHere_88 : decode cX9_wordHere 88 = .ok (.bipush 113, 2) := by decide +kernel
theorem dX9_wordHere_90 : decode cX9_wordHere 90 = .ok (.goto 4, 3) := by decide +kernel
theorem dX9_wordHere_93 : decode cX9_wordHere 93 = .ok (.iconst 0, 1) := by decide +kernel
theorem dX9_wordHere_94 : decode cX9_wordHere 94 = .ok (.ireturn, 1) := by decide +kernel
set_option maxRecDepth 20000 in
theorem ggX9_unit_X9_isWord : GoodIn wsX9_unit wsX9_isWord := goodIn_r _ [14, 7, 15, 92, 93, 94, 95, 96, 97, 98, 99, 100, 101, 102, 103, 104, 105, 106, 107, 108, 109, 110, 111, 112, 113, 114, 115, 116, 117, 118, 119, 120, 121, 122, 123, 124, 125, 126, 127, 128, 129, 130, 131, 132, 133, 134, 135, 136, 137, 138, 139, 140, 141, 142, 143, 144, 145, 146, 147, 148, 149, 150, 151, 152, 153, 154, 155, 156, 157, 158] rfl (by decide +kernel)
set_option maxRecDepth 20000 in
theorem gX9_unit_X9_isWord : GoodIn wsX9_unit (wsV RX9 244 RX9 yX9_isWord wsX9_isWord) := goodIn_app (goodIn_r _ [10, 11, 12, 13] rfl (by decide +kernel)) ggX9_unit_X9_isWord
set_option maxRecDepth 20000 in
theorem ggX9_unit_X9_isSignHere : GoodIn wsX9_unit wsX9_isSignHere := goodIn_r _ [19, 7, 20, 21, 22, 23, 13, 24, 25, 26, 92, 93, 94, 95, 96, 97, 98, 99, 100, 101, 102, 103, 104, 105, 106, 107, 108, 109, 110, 111, 112, 113, 114, 115, 116, 117, 118, 119, 120, 121, 122, 123, 124, 125, 126, 127, 128, 129, 130, 131, 132, 133, 134, 135, 136, 137, 138, 139, 140, 141, 142, 143, 144, 145, 146, 147, 148, 149, 150, 151, 152, 153, 154, 155, 156, 157, 158] rfl (by decide +kernel)
set_option maxRecDepth 20000 in
theorem gX9_unit_X9_isSignHere : GoodIn wsX9_unit (wsV RX9 293 RX9 yX9_isSignHere wsX9_isSignHere) := goodIn_app (goodIn_r _ [16, 17, 18, 13] rfl (by decide +kernel)) ggX9_unit_X9_isSignHere
set_option maxRecDepth 20000 in
theorem ggX9_unit_X9_wordHere : GoodIn wsX9_unit wsX9_wordHere := goodIn_r _ [30, 31, 32, 33, 34, 35, 36, 37, 10, 11, 12, 13, 14, 7, 15, 92, 93, 94, 95, 96, 97, 98, 99, 100, 101, 102, 103, 104, 105, 106, 107, 108, 109, 110, 111, 112, 113, 114, 115, 116, 117, 118, 119, 120, 121, 122, 123, 124, 125, 126, 127, 128, 129, 130, 131, 132, 133, 134, 135, 136, 137, 138, 139, 140, 141, 142, 143, 144, 145, 146, 147, 148, 149, 150, 151, 152, 153, 154, 155, 156, 157, 158] rfl (by decide +kernel)
set_option maxRecDepth 20000 in
theorem gX9_unit_X9_wordHere : GoodIn wsX9_unit (wsV RX9 342 RX9 yX9_wordHere wsX9_wordHere) := goodIn_app (goodIn_r _ [27, 28, 29, 13] rfl (by decide +kernel)) ggX9_unit_X9_wordHere
set_option maxRecDepth 20000 in
theorem ggX9_unit_X9_misplaced : GoodIn wsX9_unit wsX9_misplaced := goodIn_r _ [41, 7, 20, 42, 43, 44, 13, 45, 46, 47, 92, 93, 94, 95, 96, 97, 98, 99, 100, 101, 102, 103, 104, 105, 106, 107, 108, 109, 110, 111, 112, 113, 114, 115, 116, 117, 118, 119, 120, 121, 122, 123, 124, 125, 126, 127, 128, 129, 130, 131, 132, 133, 134, 135, 136, 137, 138, 139, 140, 141, 142, 143, 144, 145, 146, 147, 148, 149, 150, 151, 152, 153, 154, 155, 156, 157, 158] rfl (by decide +kernel)
set_option maxRecDepth 20000 in
theorem gX9_unit_X9_misplaced : GoodIn wsX9_unit (wsV RX9 241 RX9 yX9_misplaced wsX9_misplaced) := goodIn_app (goodIn_r _ [38, 39, 40, 13] rfl (by decide +kernel)) ggX9_unit_X9_misplaced
set_option maxRecDepth 20000 in
theorem ggX9_unit_X9_isGood : GoodIn wsX9_unit wsX9_isGood := goodIn_r _ [51, 46, 92, 93, 94, 95, 96, 97, 98, 99, 100, 101, 102, 103, 104, 105, 106, 107, 108, 109, 110, 111, 112, 113, 114, 115, 116, 117, 118, 119, 120, 121, 122, 123, 124, 125, 126, 127, 128, 129, 130, 131, 132, 133, 134, 135, 136, 137, 138, 139, 140, 141, 142, 143, 144, 145, 146, 147, 148, 149, 150, 151, 152, 153, 154, 155, 156, 157, 158] rfl (by decide +kernel)
set_option maxRecDepth 20000 in
theorem gX9_unit_X9_isGood : GoodIn wsX9_unit (wsV RX9 234 RX9 yX9_isGood wsX9_isGood) := goodIn_app (goodIn_r _ [48, 49, 50, 13] rfl (by decide +kernel)) ggX9_unit_X9_isGood
set_option maxRecDepth 20000 in
theorem ggX9_unit_X9_goOn : GoodIn wsX9_unit wsX9_goOn := goodIn_r _ [55, 56, 20, 25, 7, 15, 9, 21, 22, 23, 13, 24, 26, 57, 58, 59, 60, 61, 62, 63, 32, 64, 65, 66, 67, 31, 33, 34, 68, 69, 70, 71, 35, 36, 37, 72, 73, 3, 74, 75, 76, 77, 78, 79, 92, 93, 94, 95, 96, 97, 98, 99, 100, 101, 102, 103, 104, 105, 106, 107, 108, 109, 110, 111, 112, 113, 114, 115, 116, 117, 118, 119, 120, 121, 122, 123, 124, 125, 126, 127, 128, 129, 130, 131, 132, 133, 134, 135, 136, 137, 138, 139, 140, 141, 142, 143, 144, 145, 146, 147, 148, 149, 150, 151, 152, 153, 154, 155, 156, 157, 158] rfl (by decide +kernel)
set_option maxRecDepth 20000 in
theorem gX9_unit_X9_goOn : GoodIn wsX9_unit (wsV RX9 238 RX9 yX9_goOn wsX9_goOn) := goodIn_app (goodIn_r _ [52, 53, 54, 13] rfl (by decide +kernel)) ggX9_unit_X9_goOn
set_option maxRecDepth 20000 in
theorem ggX9_unit_X9_pushE : GoodIn wsX9_unit wsX9_pushE := goodIn_r _ [83, 1, 2, 84, 92, 93, 94, 95, 96, 97, 98, 99, 100, 101, 102, 103, 104, 105, 106, 107, 108, 109, 110, 111, 112, 113, 114, 115, 116, 117, 118, 119, 120, 121, 122, 123, 124, 125, 126, 127, 128, 129, 130, 131, 132, 133, 134, 135, 136, 137, 138, 139, 140, 141, 142, 143, 144, 145, 146, 147, 148, 149, 150, 151, 152, 153, 154, 155, 156, 157, 158] rfl (by decide +kernel)
set_option maxRecDepth 20000 in
theorem gX9_unit_X9_pushE : GoodIn wsX9_unit (wsV RX9 333 RX9 yX9_pushE wsX9_pushE) := goodIn_app (goodIn_r _ [80, 81, 82, 13] rfl (by decide +kernel)) ggX9_unit_X9_pushE
set_option maxRecDepth 20000 in
theorem ggX9_unit_X9_emit : GoodIn wsX9_unit wsX9_emit := goodIn_r _ [88, 89, 90, 91, 92, 93, 94, 95, 96, 97, 98, 99, 100, 101, 102, 103, 104, 105, 106, 107, 108, 109, 110, 111, 112, 113, 114, 115, 116, 117, 118, 119, 120, 121, 122, 123, 124, 125, 126, 127, 128, 129, 130, 131, 132, 133, 134, 135, 136, 137, 138, 139, 140, 141, 142, 143, 144, 145, 146, 147, 148, 149, 150, 151, 152, 153, 154, 155, 156, 157, 158] rfl (by decide +kernel)
set_option maxRecDepth 20000 in
theorem gX9_unit_X9_emit : GoodIn wsX9_unit (wsV RX9 345 RX9 yX9_emit wsX9_emit) := goodIn_app (goodIn_r _ [85, 86, 87, 13] rfl (by decide +kernel)) ggX9_unit_X9_emit
theorem dX9_unit_0 : decode cX9_unit 0 = .ok (.aload_n 0, 1) := by decide +kernel
theorem dX9_unit_1 : decode cX9_unit 1 = .ok (.getfield 85, 3) := by decide +kernel
theorem dX9_unit_4 : decode cX9_unit 4 = .ok (.aload_n 0, 1) := by decide +kernel
theorem dX9_unit_5 : decode cX9_unit 5 = .ok (.getfield 327, 3) := by decide +kernel
theorem dX9_unit_8 : decode cX9_unit 8 = .ok (.iconst 1, 1) := by decide +kernel
theorem dX9_unit_9 : decode cX9_unit 9 = .ok (.isub, 1) := by decide +kernel
theorem dX9_unit_10 : decode cX9_unit 10 = .ok (.iaload, 1) := by decide +kernel
theorem dX9_unit_11 : decode cX9_unit 11 = .ok (.iconst 3, 1) := by decide +kernel
theorem dX9_unit_12 : decode cX9_unit 12 = .ok (.if_icmp .le 19, 3) := by decide +kernel
theorem dX9_unit_15 : decode cX9_unit 15 = .ok (.aload_n 0, 1) := by decide +kernel
theorem dX9_unit_16 : decode cX9_unit 16 = .ok (.getfield 85, 3) := by decide +kernel
theorem dX9_unit_19 : decode cX9_unit 19 = .ok (.aload_n 0, 1) := by decide +kernel
theorem dX9_unit_20 : decode cX9_unit 20 = .ok (.getfield 327, 3) := by decide +kernel
theorem dX9_unit_23 : decode cX9_unit 23 = .ok (.iconst 1, 1) := by decide +kernel
theorem dX9_unit_24 : decode cX9_unit 24 = .ok (.isub, 1) := by decide +kernel
theorem dX9_unit_25 : decode cX9_unit 25 = .ok (.iaload, 1) := by decide +kernel
theorem dX9_unit_26 : decode cX9_unit 26 = .ok (.bipush 7, 2) := by decide +kernel
theorem dX9_unit_28 : decode cX9_unit 28 = .ok (.if_icmp .lt 7, 3) := by decide +kernel
theorem dX9_unit_31 : decode cX9_unit 31 = .ok (.iconst 1, 1) := by decide +kernel
theorem dX9_unit_32 : decode cX9_unit 32 = .ok (.goto 4, 3) := by decide +kernel
theorem dX9_unit_35 : decode cX9_unit 35 = .ok (.iconst 0, 1) := by decide +kernel
theorem dX9_unit_36 : decode cX9_unit 36 = .ok (.istore_n 1, 1) := by decide +kernel
theorem dX9_unit_37 : decode cX9_unit 37 = .ok (.iload_n 1, 1) := by decide +kernel
theorem dX9_unit_38 : decode cX9_unit 38 = .ok (.ifCond .eq 17, 3) := by decide +kernel
theorem dX9_unit_41 : decode cX9_unit 41 = .ok (.aload_n 0, 1) := by decide +kernel
theorem dX9_unit_42 : decode cX9_unit 42 = .ok (.ldc2_w 194, 3) := by decide +kernel
theorem dX9_unit_45 : decode cX9_unit 45 = .ok (.invokevirtual 244, 3) := by decide +kernel
theorem dX9_unit_48 : decode cX9_unit 48 = .ok (.ifCond .eq 7, 3) := by decide +kernel
theorem dX9_unit_51 : decode cX9_unit 51 = .ok (.iconst 1, 1) := by decide +kernel
theorem dX9_unit_52 : decode cX9_unit 52 = .ok (.goto 4, 3) := by decide +kernel
theorem dX9_unit_55 : decode cX9_unit 55 = .ok (.iconst 0, 1) := by decide +kernel
theorem dX9_unit_56 : decode cX9_unit 56 = .ok (.istore_n 2, 1) := by decide +kernel
theorem dX9_unit_57 : decode cX9_unit 57 = .ok (.aload_n 0, 1) := by decide +kernel
theorem dX9_unit_58 : decode cX9_unit 58 = .ok (.bipush 40, 2) := by decide +kernel
theorem dX9_unit_60 : decode cX9_unit 60 = .ok (.invokevirtual 293, 3) := by decide +kernel
theorem dX9_unit_63 : decode cX9_unit 63 = .ok (.istore_n 3, 1) := by decide +kernel
theorem dX9_unit_64 : decode cX9_unit 64 = .ok (.aload_n 0, 1) := by decide +kernel
theorem dX9_unit_65 : decode cX9_unit 65 = .ok (.invokevirtual 342, 3) := by decide +kernel
theorem dX9_unit_68 : decode cX9_unit 68 = .ok (.istore 4, 2) := by decide +kernel
theorem dX9_unit_70 : decode cX9_unit 70 = .ok (.aload_n 0, 1) := by decide +kernel
theorem dX9_unit_71 : decode cX9_unit 71 = .ok (.getfield 30, 3) := by decide +kernel
theorem dX9_unit_74 : decode cX9_unit 74 = .ok (.aload_n 0, 1) := by decide +kernel
theorem dX9_unit_75 : decode cX9_unit 75 = .ok (.getfield 259, 3) := by decide +kernel
theorem dX9_unit_78 : decode cX9_unit 78 = .ok (.iaload, 1) := by decide +kernel
theorem dX9_unit_79 : decode cX9_unit 79 = .ok (.bipush 60, 2) := by decide +kernel
theorem dX9_unit_81 : decode cX9_unit 81 = .ok (.if_icmp .eq 12, 3) := by decide +kernel
theorem dX9_unit_84 : decode cX9_unit 84 = .ok (.aload_n 0, 1) := by decide +kernel
theorem dX9_unit_85 : decode cX9_unit 85 = .ok (.getfield 321, 3) := by decide +kernel
theorem dX9_unit_88 : decode cX9_unit 88 = .ok (.bipush 30, 2) := by decide +kernel
theorem dX9_unit_90 : decode cX9_unit 90 = .ok (.if_icmp .ne 7, 3) := by decide +kernel
theorem dX9_unit_93 : decode cX9_unit 93 = .ok (.iconst 1, 1) := by decide +kernel
theorem dX9_unit_94 : decode cX9_unit 94 = .ok (.goto 4, 3) := by decide +kernel
theorem dX9_unit_97 : decode cX9_unit 97 = .ok (.iconst 0, 1) := by decide +kernel
theorem dX9_unit_98 : decode cX9_unit 98 = .ok (.istore 5, 2) := by decide +kernel
theorem dX9_unit_100 : decode cX9_unit 100 = .ok (.iload_n 2, 1) := by decide +kernel
theorem dX9_unit_101 : decode cX9_unit 101 = .ok (.ifCond .ne 25, 3) := by decide +kernel
theorem dX9_unit_104 : decode cX9_unit 104 = .ok (.iload 4, 2) := by decide +kernel
theorem dX9_unit_106 : decode cX9_unit 106 = .ok (.ifCond .ne 15, 3) := by decide +kernel
theorem dX9_unit_109 : decode cX9_unit 109 = .ok (.aload_n 0, 1) := by decide +kernel
theorem dX9_unit_110 : decode cX9_unit 110 = .ok (.getfield 206, 3) := by decide +kernel
theorem dX9_unit_113 : decode cX9_unit 113 = .ok (.iconst 4, 1) := by decide +kernel
theorem dX9_unit_114 : decode cX9_unit 114 = .ok (.if_icmp .eq 7, 3) := by decide +kernel
theorem dX9_unit_117 : decode cX9_unit 117 = .ok (.iload_n 3, 1) := by decide +kernel
theorem dX9_unit_118 : decode cX9_unit 118 = .ok (.ifCond .eq 25, 3) := by decide +kernel
theorem dX9_unit_121 : decode cX9_unit 121 = .ok (.iload 5, 2) := by decide +kernel
theorem dX9_unit_123 : decode cX9_unit 123 = .ok (.ifCond .ne 20, 3) := by decide +kernel
theorem dX9_unit_126 : decode cX9_unit 126 = .ok (.iload_n 2, 1) := by decide +kernel
theorem dX9_unit_127 : decode cX9_unit 127 = .ok (.ifCond .ne 7, 3) := by decide +kernel
theorem dX9_unit_130 : decode cX9_unit 130 = .ok (.iload_n 3, 1) := by decide +kernel
theorem dX9_unit_131 : decode cX9_unit 131 = .ok (.ifCond .eq 16, 3) := by decide +kernel
theorem dX9_unit_134 : decode cX9_unit 134 = .ok (.aload_n 0, 1) := by decide +kernel
theorem dX9_unit_135 : decode cX9_unit 135 = .ok (.getfield 330, 3) := by decide +kernel
theorem dX9_unit_138 : decode cX9_unit 138 = .ok (.bipush 7, 2) := by decide +kernel
theorem dX9_unit_140 : decode cX9_unit 140 = .ok (.if_icmp .ne 7, 3) := by decide +kernel
theorem dX9_unit_143 : decode cX9_unit 143 = .ok (.aload_n 0, 1) := by decide +kernel
theorem dX9_unit_144 : decode cX9_unit 144 = .ok (.invokevirtual 241, 3) := by decide +kernel
theorem dX9_unit_147 : decode cX9_unit 147 = .ok (.aload_n 0, 1) := by decide +kernel
theorem dX9_unit_148 : decode cX9_unit 148 = .ok (.invokevirtual 234, 3) := by decide +kernel
theorem dX9_unit_151 : decode cX9_unit 151 = .ok (.ifCond .ne 5, 3) := by decide +kernel
theorem dX9_unit_154 : decode cX9_unit 154 = .ok (.iconst 1, 1) := by decide +kernel
theorem dX9_unit_155 : decode cX9_unit 155 = .ok (.ireturn, 1) := by decide +kernel
theorem dX9_unit_156 : decode cX9_unit 156 = .ok (.aload_n 0, 1) := by decide +kernel
theorem dX9_unit_157 : decode cX9_unit 157 = .ok (.getfield 30, 3) := by decide +kernel
theorem dX9_unit_160 : decode cX9_unit 160 = .ok (.aload_n 0, 1) := by decide +kernel
theorem dX9_unit_161 : decode cX9_unit 161 = .ok (.getfield 259, 3) := by decide +kernel
theorem dX9_unit_164 : decode cX9_unit 164 = .ok (.dup2, 1) := by decide +kernel
theorem dX9_unit_165 : decode cX9_unit 165 = .ok (.iaload, 1) := by decide +kernel
theorem dX9_unit_166 : decode cX9_unit 166 = .ok (.iload_n 2, 1) := by decide +kernel
theorem dX9_unit_167 : decode cX9_unit 167 = .ok (.ifCond .eq 7, 3) := by decide +kernel
theorem dX9_unit_170 : decode cX9_unit 170 = .ok (.iconst 0, 1) := by decide +kernel
theorem dX9_unit_171 : decode cX9_unit 171 = .ok (.goto 4, 3) := by decide +kernel
theorem dX9_unit_174 : decode cX9_unit 174 = .ok (.iconst 1, 1) := by decide +kernel
theorem dX9_unit_175 : decode cX9_unit 175 = .ok (.iadd, 1) := by decide +kernel
theorem dX9_unit_176 : decode cX9_unit 176 = .ok (.iastore, 1) := by decide +kernel
theorem dX9_unit_177 : decode cX9_unit 177 = .ok (.aload_n 0, 1) := by decide +kernel
theorem dX9_unit_178 : decode cX9_unit 178 = .ok (.dup, 1) := by decide +kernel
theorem dX9_unit_179 : decode cX9_unit 179 = .ok (.getfield 321, 3) := by decide +kernel
theorem dX9_unit_182 : decode cX9_unit 182 = .ok (.iload_n 2, 1) := by decide +kernel
theorem dX9_unit_183 : decode cX9_unit 183 = .ok (.ifCond .eq 7, 3) := by decide +kernel
theorem dX9_unit_186 : decode cX9_unit 186 = .ok (.iconst 0, 1) := by decide +kernel
theorem dX9_unit_187 : decode cX9_unit 187 = .ok (.goto 4, 3) := by decide +kernel
theorem dX9_unit_190 : decode cX9_unit 190 = .ok (.iconst 1, 1) := by decide +kernel
theorem dX9_unit_191 : decode cX9_unit 191 = .ok (.iadd, 1) := by decide +kernel
theorem dX9_unit_192 : decode cX9_unit 192 = .ok (.putfield 321, 3) := by decide +kernel
theorem dX9_unit_195 : decode cX9_unit 195 = .ok (.iload 4, 2) := by decide +kernel
theorem dX9_unit_197 : decode cX9_unit 197 = .ok (.ifCond .ne 10, 3) := by decide +kernel
theorem dX9_unit_200 : decode cX9_unit 200 = .ok (.aload_n 0, 1) := by decide +kernel
theorem dX9_unit_201 : decode cX9_unit 201 = .ok (.getfield 224, 3) := by decide +kernel
theorem dX9_unit_204 : decode cX9_unit 204 = .ok (.goto 4, 3) := by decide +kernel
theorem dX9_unit_207 : decode cX9_unit 207 = .ok (.iconst 0, 1) := by decide +kernel
theorem dX9_unit_208 : decode cX9_unit 208 = .ok (.istore 6, 2) := by decide +kernel
theorem dX9_unit_210 : decode cX9_unit 210 = .ok (.aload_n 0, 1) := by decide +kernel
theorem dX9_unit_211 : decode cX9_unit 211 = .ok (.invokevirtual 238, 3) := by decide +kernel
theorem dX9_unit_214 : decode cX9_unit 214 = .ok (.iload_n 2, 1) := by decide +kernel
theorem dX9_unit_215 : decode cX9_unit 215 = .ok (.ifCond .ne 7, 3) := by decide +kernel
theorem dX9_unit_218 : decode cX9_unit 218 = .ok (.iload_n 3, 1) := by decide +kernel
theorem dX9_unit_219 : decode cX9_unit 219 = .ok (.ifCond .eq 31, 3) := by decide +kernel
theorem dX9_unit_222 : decode cX9_unit 222 = .ok (.aload_n 0, 1) := by decide +kernel
theorem dX9_unit_223 : decode cX9_unit 223 = .ok (.iload_n 2, 1) := by decide +kernel
theorem dX9_unit_224 : decode cX9_unit 224 = .ok (.ifCond .eq 7, 3) := by decide +kernel
theorem dX9_unit_227 : decode cX9_unit 227 = .ok (.iconst 3, 1) := by decide +kernel
theorem dX9_unit_228 : decode cX9_unit 228 = .ok (.goto 5, 3) := by decide +kernel
theorem dX9_unit_231 : decode cX9_unit 231 = .ok (.bipush 7, 2) := by decide +kernel
theorem dX9_unit_233 : decode cX9_unit 233 = .ok (.bipush 126, 2) := by decide +kernel
theorem dX9_unit_235 : decode cX9_unit 235 = .ok (.invokevirtual 333, 3) := by decide +kernel
theorem dX9_unit_238 : decode cX9_unit 238 = .ok (.aload_n 0, 1) := by decide +kernel
theorem dX9_unit_239 : decode cX9_unit 239 = .ok (.dup, 1) := by decide +kernel
theorem dX9_unit_240 : decode cX9_unit 240 = .ok (.getfield 330, 3) := by decide +kernel
theorem dX9_unit_243 : decode cX9_unit 243 = .ok (.iconst 1, 1) := by decide +kernel
theorem dX9_unit_244 : decode cX9_unit 244 = .ok (.iadd, 1) := by decide +kernel
theorem dX9_unit_245 : decode cX9_unit 245 = .ok (.putfield 330, 3) := by decide +kernel
theorem dX9_unit_248 : decode cX9_unit 248 = .ok (.iconst 1, 1) := by decide +kernel
theorem dX9_unit_249 : decode cX9_unit 249 = .ok (.ireturn, 1) := by decide +kernel
theorem dX9_unit_250 : decode cX9_unit 250 = .ok (.aload_n 0, 1) := by decide +kernel
theorem dX9_unit_251 : decode cX9_unit 251 = .ok (.iload 4, 2) := by decide +kernel
theorem dX9_unit_253 : decode cX9_unit 253 = .ok (.ifCond .ne 8, 3) := by decide +kernel
theorem dX9_unit_256 : decode cX9_unit 256 = .ok (.bipush 110, 2) := by decide +kernel
theorem dX9_unit_258 : decode cX9_unit 258 = .ok (.goto 5, 3) := by decide +kernel
theorem dX9_unit_261 : decode cX9_unit 261 = .ok (.iload 4, 2) := by decide +kernel
theorem dX9_unit_263 : decode cX9_unit 263 = .ok (.iload 6, 2) := by decide +kernel
theorem dX9_unit_265 : decode cX9_unit 265 = .ok (.invokevirtual 345, 3) := by decide +kernel
theorem dX9_unit_268 : decode cX9_unit 268 = .ok (.iconst 0, 1) := by decide +kernel
theorem dX9_unit_269 : decode cX9_unit 269 = .ok (.ireturn, 1) := by decide +kernel
set_option maxRecDepth 20000 in
theorem ggX9_rankHere_X9_isWord : GoodIn wsX9_rankHere wsX9_isWord := goodIn_r _ [7, 8, 9, 21, 22, 23, 24, 25, 26, 27, 28, 29, 30, 31, 32, 33, 34, 35, 36, 37, 38, 39, 40, 41, 42, 43, 44, 45, 46, 47, 48, 49, 50, 51, 52, 53, 54, 55, 56, 57, 58, 59, 60, 61, 62, 63, 64, 65, 66, 67, 68, 69, 70, 71, 72, 73, 74, 75, 76, 77, 78, 79, 80, 81, 82, 83, 84, 85, 86, 87] rfl (by decide +kernel)
set_option maxRecDepth 20000 in
theorem gX9_rankHere_X9_isWord : GoodIn wsX9_rankHere (wsV RX9 244 RX9 yX9_isWord wsX9_isWord) := goodIn_app (goodIn_r _ [3, 4, 5, 6] rfl (by decide +kernel)) ggX9_rankHere_X9_isWord
set_option maxRecDepth 20000 in
theorem ggX9_rankHere_X9_isSignHere : GoodIn wsX9_rankHere wsX9_isSignHere := goodIn_r _ [13, 8, 14, 15, 16, 17, 6, 18, 19, 20, 21, 22, 23, 24, 25, 26, 27, 28, 29, 30, 31, 32, 33, 34, 35, 36, 37, 38, 39, 40, 41, 42, 43, 44, 45, 46, 47, 48, 49, 50, 51, 52, 53, 54, 55, 56, 57, 58, 59, 60, 61, 62, 63, 64, 65, 66, 67, 68, 69, 70, 71, 72, 73, 74, 75, 76, 77, 78, 79, 80, 81, 82, 83, 84, 85, 86, 87] rfl (by decide +kernel)
set_option maxRecDepth 20000 in
theorem gX9_rankHere_X9_isSignHere : GoodIn wsX9_rankHere (wsV RX9 293 RX9 yX9_isSignHere wsX9_isSignHere) := goodIn_app (goodIn_r _ [10, 11, 12, 6] rfl (by decide +kernel)) ggX9_rankHere_X9_isSignHere
theorem dX9_rankHere_0 : decode cX9_rankHere 0 = .ok (.aload_n 0, 1) := by decide +kernel
theorem dX9_rankHere_1 : decode cX9_rankHere 1 = .ok (.ldc2_w 192, 3) := by decide +kernel
theorem dX9_rankHere_4 : decode cX9_rankHere 4 = .ok (.invokevirtual 244, 3) := by decide +kernel
theorem dX9_rankHere_7 : decode cX9_rankHere 7 = .ok (.ifCond .eq 5, 3) := by decide +kernel
theorem dX9_rankHere_10 : decode cX9_rankHere 10 = .ok (.iconst 2, 1) := by decide +kernel
theorem dX9_rankHere_11 : decode cX9_rankHere 11 = .ok (.ireturn, 1) := by decide +kernel
theorem dX9_rankHere_12 : decode cX9_rankHere 12 = .ok (.aload_n 0, 1) := by decide +kernel
theorem dX9_rankHere_13 : decode cX9_rankHere 13 = .ok (.ldc2_w 190, 3) := by decide +kernel
theorem dX9_rankHere_16 : decode cX9_rankHere 16 = .ok (.invokevirtual 244, 3) := by decide +kernel
theorem dX9_rankHere_19 : decode cX9_rankHere 19 = .ok (.ifCond .eq 5, 3) := by decide +kernel
theorem dX9_rankHere_22 : decode cX9_rankHere 22 = .ok (.iconst 1, 1) := by decide +kernel
theorem dX9_rankHere_23 : decode cX9_rankHere 23 = .ok (.ireturn, 1) := by decide +kernel
theorem dX9_rankHere_24 : decode cX9_rankHere 24 = .ok (.aload_n 0, 1) := by decide +kernel
theorem dX9_rankHere_25 : decode cX9_rankHere 25 = .ok (.bipush 60, 2) := by decide +kernel
theorem dX9_rankHere_27 : decode cX9_rankHere 27 = .ok (.invokevirtual 293, 3) := by decide +kernel
theorem dX9_rankHere_30 : decode cX9_rankHere 30 = .ok (.ifCond .ne 21, 3) := by decide +kernel
theorem dX9_rankHere_33 : decode cX9_rankHere 33 = .ok (.aload_n 0, 1) := by decide +kernel
theorem dX9_rankHere_34 : decode cX9_rankHere 34 = .ok (.bipush 62, 2) := by decide +kernel
theorem dX9_rankHere_36 : decode cX9_rankHere 36 = .ok (.invokevirtual 293, 3) := by decide +kernel
theorem dX9_rankHere_39 : decode cX9_rankHere 39 = .ok (.ifCond .ne 12, 3) := by decide +kernel
theorem dX9_rankHere_42 : decode cX9_rankHere 42 = .ok (.aload_n 0, 1) := by decide +kernel
theorem dX9_rankHere_43 : decode cX9_rankHere 43 = .ok (.bipush 61, 2) := by decide +kernel
theorem dX9_rankHere_45 : decode cX9_rankHere 45 = .ok (.invokevirtual 293, 3) := by decide +kernel
theorem dX9_rankHere_48 : decode cX9_rankHere 48 = .ok (.ifCond .eq 5, 3) := by decide +kernel
theorem dX9_rankHere_51 : decode cX9_rankHere 51 = .ok (.iconst 4, 1) := by decide +kernel
theorem dX9_rankHere_52 : decode cX9_rankHere 52 = .ok (.ireturn, 1) := by decide +kernel
theorem dX9_rankHere_53 : decode cX9_rankHere 53 = .ok (.aload_n 0, 1) := by decide +kernel
theorem dX9_rankHere_54 : decode cX9_rankHere 54 = .ok (.bipush 43, 2) := by decide +kernel
theorem dX9_rankHere_56 : decode cX9_rankHere 56 = .ok (.invokevirtual 293, 3) := by decide +kernel
theorem dX9_rankHere_59 : decode cX9_rankHere 59 = .ok (.ifCond .ne 12, 3) := by decide +kernel
theorem dX9_rankHere_62 : decode cX9_rankHere 62 = .ok (.aload_n 0, 1) := by decide +kernel
theorem dX9_rankHere_63 : decode cX9_rankHere 63 = .ok (.bipush 45, 2) := by decide +kernel
theorem dX9_rankHere_65 : decode cX9_rankHere 65 = .ok (.invokevirtual 293, 3) := by decide +kernel
theorem dX9_rankHere_68 : decode cX9_rankHere 68 = .ok (.ifCond .eq 5, 3) := by decide +kernel
theorem dX9_rankHere_71 : decode cX9_rankHere 71 = .ok (.iconst 5, 1) := by decide +kernel
theorem dX9_rankHere_72 : decode cX9_rankHere 72 = .ok (.ireturn, 1) := by decide +kernel
theorem dX9_rankHere_73 : decode cX9_rankHere 73 = .ok (.aload_n 0, 1) := by decide +kernel
theorem dX9_rankHere_74 : decode cX9_rankHere 74 = .ok (.bipush 42, 2) := by decide +kernel
theorem dX9_rankHere_76 : decode cX9_rankHere 76 = .ok (.invokevirtual 293, 3) := by decide +kernel
theorem dX9_rankHere_79 : decode cX9_rankHere 79 = .ok (.ifCond .ne 21, 3) := by decide +kernel
theorem dX9_rankHere_82 : decode cX9_rankHere 82 = .ok (.aload_n 0, 1) := by decide +kernel
theorem dX9_rankHere_83 : decode cX9_rankHere 83 = .ok (.bipush 47, 2) := by decide +kernel
theorem dX9_rankHere_85 : decode cX9_rankHere 85 = .ok (.invokevirtual 293, 3) := by decide +kernel
theorem dX9_rankHere_88 : decode cX9_rankHere 88 = .ok (.ifCond .ne 12, 3) := by decide +kernel
theorem dX9_rankHere_91 : decode cX9_rankHere 91 = .ok (.aload_n 0, 1) := by decide +kernel
theorem dX9_rankHere_92 : decode cX9_rankHere 92 = .ok (.bipush 37, 2) := by decide +kernel
theorem dX9_rankHere_94 : decode cX9_rankHere 94 = .ok (.invokevirtual 293, 3) := by decide +kernel
theorem dX9_rankHere_97 : decode cX9_rankHere 97 = .ok (.ifCond .eq 8, 3) := by decide +kernel
theorem dX9_rankHere_100 : decode cX9_rankHere 100 = .ok (.bipush 6, 2) := by decide +kernel
theorem dX9_rankHere_102 : decode cX9_rankHere 102 = .ok (.goto 4, 3) := by decide +kernel
theorem dX9_rankHere_105 : decode cX9_rankHere 105 = .ok (.iconst 0, 1) := by decide +kernel
theorem dX9_rankHere_106 : decode cX9_rankHere 106 = .ok (.ireturn, 1) := by decide +kernel
theorem iX9_emit_X9 : ∀ w ∈ wsX90, w ∈ wsX9_emit := (fun _ h => List.mem_cons_of_mem _ (List.mem_append_right _ h))
theorem iX9_pushE_X9 : ∀ w ∈ wsX90, w ∈ wsX9_pushE := (fun _ h => List.mem_cons_of_mem _ (List.mem_append_right _ h))
theorem iX9_unit_X9 : ∀ w ∈ wsX90, w ∈ wsX9_unit := (fun _ h => List.mem_cons_of_mem _ (List.mem_append_right _ h))
