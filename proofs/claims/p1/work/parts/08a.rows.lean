set_option maxRecDepth 20000 in
theorem ggX9_goDie_X9_chambers : GoodIn wsX9_goDie wsX9_chambers := goodIn_r _ [6, 7, 8, 29, 30, 31, 32, 33, 34, 35, 36, 37, 38, 39, 40, 41, 42, 43, 44, 45, 46, 47, 48, 49, 50, 51, 52, 53, 54, 55, 56, 57, 58, 59, 60, 61, 62, 63, 64, 65, 66, 67, 68, 69, 70, 71, 72, 73, 74, 75, 76, 77, 78, 79, 80, 81, 82, 83, 84, 85, 86, 87, 88, 89, 90, 91, 92, 93, 94, 95] (by decide +kernel) (by decide +kernel)
set_option maxRecDepth 20000 in
theorem gX9_goDie_X9_chambers : GoodIn wsX9_goDie (wsV RX9 383 RX9 yX9_chambers wsX9_chambers) := goodIn_app (goodIn_of _ (by decide +kernel)) ggX9_goDie_X9_chambers
theorem dX9_goDie_0 : decode cX9_goDie 0 = .ok (.iconst 0, 1) := by decide +kernel
theorem dX9_goDie_1 : decode cX9_goDie 1 = .ok (.istore_n 2, 1) := by decide +kernel
theorem dX9_goDie_2 : decode cX9_goDie 2 = .ok (.iload_n 2, 1) := by decide +kernel
theorem dX9_goDie_3 : decode cX9_goDie 3 = .ok (.aload_n 0, 1) := by decide +kernel
theorem dX9_goDie_4 : decode cX9_goDie 4 = .ok (.invokevirtual 383, 3) := by decide +kernel
theorem dX9_goDie_7 : decode cX9_goDie 7 = .ok (.if_icmp .ge 24, 3) := by decide +kernel
theorem dX9_goDie_31 : decode cX9_goDie 31 = .ok (.aload_n 0, 1) := by decide +kernel
theorem dX9_goDie_32 : decode cX9_goDie 32 = .ok (.getfield 94, 3) := by decide +kernel
theorem dX9_goDie_35 : decode cX9_goDie 35 = .ok (.bipush 36, 2) := by decide +kernel
theorem dX9_goDie_37 : decode cX9_goDie 37 = .ok (.dup2, 1) := by decide +kernel
theorem dX9_goDie_38 : decode cX9_goDie 38 = .ok (.iaload, 1) := by decide +kernel
theorem dX9_goDie_39 : decode cX9_goDie 39 = .ok (.iload_n 1, 1) := by decide +kernel
theorem dX9_goDie_40 : decode cX9_goDie 40 = .ok (.iconst (-1), 1) := by decide +kernel
theorem dX9_goDie_41 : decode cX9_goDie 41 = .ok (.ixor, 1) := by decide +kernel
theorem dX9_goDie_42 : decode cX9_goDie 42 = .ok (.iand, 1) := by decide +kernel
theorem dX9_goDie_43 : decode cX9_goDie 43 = .ok (.iastore, 1) := by decide +kernel
theorem dX9_goDie_44 : decode cX9_goDie 44 = .ok (.return_, 1) := by decide +kernel
set_option maxRecDepth 20000 in
theorem ggX9_goQuarter_X9_thrown : GoodIn wsX9_goQuarter wsX9_thrown := goodIn_r _ [6, 7, 8, 9, 5, 10, 11, 12, 13, 14, 15, 16, 1, 17, 18, 19, 20, 21, 22, 23, 24, 25, 26, 27, 28, 29, 30, 31, 32, 33, 34, 35, 36, 37, 38, 39, 40, 41, 42, 43, 44, 45, 46, 47, 48, 49, 50, 51, 52, 53, 54, 55, 56, 57, 58, 59, 60, 61, 62, 63, 64, 65, 66, 67, 68, 69, 70, 71, 72, 73, 74, 75, 76, 77, 78, 79, 80, 81, 82, 83, 84, 85, 86, 87, 88, 89, 90, 91, 92, 93, 94, 95, 96, 101, 102, 103, 104, 105, 106, 107, 108, 109, 110, 111, 112, 113, 114, 115, 116, 117, 118, 119, 120, 121, 122, 123, 124, 125, 126, 127, 128, 129, 130, 131, 132, 133, 134, 135, 136, 137, 138, 139, 140, 141, 142, 143, 144, 145, 146, 147, 148, 149, 150, 151, 152, 153, 154, 155, 156, 157, 158, 159, 160, 161, 162, 163, 164, 165, 166, 167] (by decide +kernel) (by decide +kernel)
set_option maxRecDepth 20000 in
theorem gX9_goQuarter_X9_thrown : GoodIn wsX9_goQuarter (wsV RX9 443 RX9 yX9_thrown wsX9_thrown) := goodIn_app (goodIn_of _ (by decide +kernel)) ggX9_goQuarter_X9_thrown
set_option maxRecDepth 20000 in
theorem ggX9_goQuarter_X9_many : GoodIn wsX9_goQuarter wsX9_many := goodIn_r _ [10, 11, 12, 101, 102, 103, 104, 105, 106, 107, 108, 109, 110, 111, 112, 113, 114, 115, 116, 117, 118, 119, 120, 121, 122, 123, 124, 125, 126, 127, 128, 129, 130, 131, 132, 133, 134, 135, 136, 137, 138, 139, 140, 141, 142, 143, 144, 145, 146, 147, 148, 149, 150, 151, 152, 153, 154, 155, 156, 157, 158, 159, 160, 161, 162, 163, 164, 165, 166, 167] (by decide +kernel) (by decide +kernel)
set_option maxRecDepth 20000 in
theorem gX9_goQuarter_X9_many : GoodIn wsX9_goQuarter (wsV RX9 373 RX9 yX9_many wsX9_many) := goodIn_app (goodIn_of _ (by decide +kernel)) ggX9_goQuarter_X9_many
theorem dX9_goQuarter_0 : decode cX9_goQuarter 0 = .ok (.aload_n 0, 1) := by decide +kernel
theorem dX9_goQuarter_1 : decode cX9_goQuarter 1 = .ok (.invokevirtual 443, 3) := by decide +kernel
theorem dX9_goQuarter_4 : decode cX9_goQuarter 4 = .ok (.istore_n 1, 1) := by decide +kernel
theorem dX9_goQuarter_5 : decode cX9_goQuarter 5 = .ok (.iconst 0, 1) := by decide +kernel
theorem dX9_goQuarter_6 : decode cX9_goQuarter 6 = .ok (.istore_n 2, 1) := by decide +kernel
theorem dX9_goQuarter_7 : decode cX9_goQuarter 7 = .ok (.iload_n 2, 1) := by decide +kernel
theorem dX9_goQuarter_8 : decode cX9_goQuarter 8 = .ok (.aload_n 0, 1) := by decide +kernel
theorem dX9_goQuarter_9 : decode cX9_goQuarter 9 = .ok (.invokevirtual 373, 3) := by decide +kernel
theorem dX9_goQuarter_12 : decode cX9_goQuarter 12 = .ok (.if_icmp .ge 61, 3) := by decide +kernel
theorem dX9_goQuarter_73 : decode cX9_goQuarter 73 = .ok (.aload_n 0, 1) := by decide +kernel
theorem dX9_goQuarter_74 : decode cX9_goQuarter 74 = .ok (.getfield 94, 3) := by decide +kernel
theorem dX9_goQuarter_77 : decode cX9_goQuarter 77 = .ok (.bipush 37, 2) := by decide +kernel
theorem dX9_goQuarter_79 : decode cX9_goQuarter 79 = .ok (.dup2, 1) := by decide +kernel
theorem dX9_goQuarter_80 : decode cX9_goQuarter 80 = .ok (.iaload, 1) := by decide +kernel
theorem dX9_goQuarter_81 : decode cX9_goQuarter 81 = .ok (.iconst 1, 1) := by decide +kernel
theorem dX9_goQuarter_82 : decode cX9_goQuarter 82 = .ok (.iadd, 1) := by decide +kernel
theorem dX9_goQuarter_83 : decode cX9_goQuarter 83 = .ok (.iastore, 1) := by decide +kernel
theorem dX9_goQuarter_84 : decode cX9_goQuarter 84 = .ok (.iload_n 1, 1) := by decide +kernel
theorem dX9_goQuarter_85 : decode cX9_goQuarter 85 = .ok (.ireturn, 1) := by decide +kernel
set_option maxRecDepth 20000 in
theorem ggX9_goInEarnest_X9_goQuarter : GoodIn wsX9_goInEarnest wsX9_goQuarter := goodIn_r _ [8, 1, 9, 10, 11, 7, 12, 13, 14, 15, 16, 17, 3, 18, 19, 20, 21, 22, 23, 24, 25, 26, 27, 28, 29, 30, 31, 32, 33, 34, 35, 36, 37, 38, 39, 40, 41, 42, 43, 44, 45, 46, 47, 48, 49, 50, 51, 52, 53, 54, 55, 56, 57, 58, 59, 60, 61, 62, 63, 64, 65, 66, 67, 68, 69, 70, 71, 72, 73, 74, 75, 76, 77, 78, 79, 80, 81, 82, 83, 84, 85, 86, 87, 88, 89, 90, 91, 92, 93, 94, 95, 96, 97, 98, 99, 100, 101, 102, 103, 104, 105, 123, 124, 125, 126, 127, 128, 129, 130, 131, 132, 133, 134, 135, 136, 137, 138, 139, 140, 141, 142, 143, 144, 145, 146, 147, 148, 149, 150, 151, 152, 153, 154, 155, 156, 157, 158, 159, 160, 161, 162, 163, 164, 165, 166, 167, 168, 169, 170, 171, 172, 173, 174, 175, 176, 177, 178, 179, 180, 181, 182, 183, 184, 185, 186, 187, 188, 189] (by decide +kernel) (by decide +kernel)
set_option maxRecDepth 20000 in
theorem gX9_goInEarnest_X9_goQuarter : GoodIn wsX9_goInEarnest (wsV RX9 450 RX9 yX9_goQuarter wsX9_goQuarter) := goodIn_app (goodIn_of _ (by decide +kernel)) ggX9_goInEarnest_X9_goQuarter
set_option maxRecDepth 20000 in
theorem ggX9_goInEarnest_X9_cattery : GoodIn wsX9_goInEarnest wsX9_cattery := goodIn_r _ [66, 67, 3, 123, 124, 125, 126, 127, 128, 129, 130, 131, 132, 133, 134, 135, 136, 137, 138, 139, 140, 141, 142, 143, 144, 145, 146, 147, 148, 149, 150, 151, 152, 153, 154, 155, 156, 157, 158, 159, 160, 161, 162, 163, 164, 165, 166, 167, 168, 169, 170, 171, 172, 173, 174, 175, 176, 177, 178, 179, 180, 181, 182, 183, 184, 185, 186, 187, 188, 189] (by decide +kernel) (by decide +kernel)
set_option maxRecDepth 20000 in
theorem gX9_goInEarnest_X9_cattery : GoodIn wsX9_goInEarnest (wsV RX9 380 RX9 yX9_cattery wsX9_cattery) := goodIn_app (goodIn_of _ (by decide +kernel)) ggX9_goInEarnest_X9_cattery
set_option maxRecDepth 20000 in
theorem ggX9_goInEarnest_X9_goDie : GoodIn wsX9_goInEarnest wsX9_goDie := goodIn_r _ [113, 1, 72, 73, 74, 7, 75, 76, 3, 114, 115, 116, 117, 33, 34, 35, 36, 80, 81, 82, 118, 119, 120, 121, 122, 106, 107, 108, 109, 123, 124, 125, 126, 127, 128, 129, 130, 131, 132, 133, 134, 135, 136, 137, 138, 139, 140, 141, 142, 143, 144, 145, 146, 147, 148, 149, 150, 151, 152, 153, 154, 155, 156, 157, 158, 159, 160, 161, 162, 163, 164, 165, 166, 167, 168, 169, 170, 171, 172, 173, 174, 175, 176, 177, 178, 179, 180, 181, 182, 183, 184, 185, 186, 187, 188, 189] (by decide +kernel) (by decide +kernel)
set_option maxRecDepth 20000 in
theorem gX9_goInEarnest_X9_goDie : GoodIn wsX9_goInEarnest (wsV RX9 453 RX9 yX9_goDie wsX9_goDie) := goodIn_app (goodIn_of _ (by decide +kernel)) ggX9_goInEarnest_X9_goDie
theorem dX9_goInEarnest_0 : decode cX9_goInEarnest 0 = .ok (.aload_n 0, 1) := by decide +kernel
theorem dX9_goInEarnest_1 : decode cX9_goInEarnest 1 = .ok (.invokevirtual 450, 3) := by decide +kernel
theorem dX9_goInEarnest_4 : decode cX9_goInEarnest 4 = .ok (.istore_n 1, 1) := by decide +kernel
theorem dX9_goInEarnest_5 : decode cX9_goInEarnest 5 = .ok (.iconst 0, 1) := by decide +kernel
theorem dX9_goInEarnest_6 : decode cX9_goInEarnest 6 = .ok (.istore_n 2, 1) := by decide +kernel
theorem dX9_goInEarnest_7 : decode cX9_goInEarnest 7 = .ok (.iconst 0, 1) := by decide +kernel
theorem dX9_goInEarnest_8 : decode cX9_goInEarnest 8 = .ok (.istore_n 3, 1) := by decide +kernel
theorem dX9_goInEarnest_9 : decode cX9_goInEarnest 9 = .ok (.iload_n 3, 1) := by decide +kernel
theorem dX9_goInEarnest_10 : decode cX9_goInEarnest 10 = .ok (.aload_n 0, 1) := by decide +kernel
theorem dX9_goInEarnest_11 : decode cX9_goInEarnest 11 = .ok (.invokevirtual 380, 3) := by decide +kernel
theorem dX9_goInEarnest_14 : decode cX9_goInEarnest 14 = .ok (.if_icmp .ge 73, 3) := by decide +kernel
theorem dX9_goInEarnest_87 : decode cX9_goInEarnest 87 = .ok (.aload_n 0, 1) := by decide +kernel
theorem dX9_goInEarnest_88 : decode cX9_goInEarnest 88 = .ok (.iload_n 2, 1) := by decide +kernel
theorem dX9_goInEarnest_89 : decode cX9_goInEarnest 89 = .ok (.invokevirtual 453, 3) := by decide +kernel
theorem dX9_goInEarnest_92 : decode cX9_goInEarnest 92 = .ok (.iload_n 1, 1) := by decide +kernel
theorem dX9_goInEarnest_93 : decode cX9_goInEarnest 93 = .ok (.ireturn, 1) := by decide +kernel
theorem dX9_keepAct_0 : decode cX9_keepAct 0 = .ok (.aload_n 0, 1) := by decide +kernel
theorem dX9_keepAct_1 : decode cX9_keepAct 1 = .ok (.getfield 398, 3) := by decide +kernel
theorem dX9_keepAct_4 : decode cX9_keepAct 4 = .ok (.bipush 40, 2) := by decide +kernel
theorem dX9_keepAct_6 : decode cX9_keepAct 6 = .ok (.if_icmp .ne 43, 3) := by decide +kernel
theorem dX9_keepAct_49 : decode cX9_keepAct 49 = .ok (.iconst 0, 1) := by decide +kernel
theorem dX9_keepAct_50 : decode cX9_keepAct 50 = .ok (.istore_n 1, 1) := by decide +kernel
theorem dX9_keepAct_51 : decode cX9_keepAct 51 = .ok (.iload_n 1, 1) := by decide +kernel
theorem dX9_keepAct_52 : decode cX9_keepAct 52 = .ok (.bipush 39, 2) := by decide +kernel
theorem dX9_keepAct_54 : decode cX9_keepAct 54 = .ok (.if_icmp .ge 29, 3) := by decide +kernel
theorem dX9_keepAct_57 : decode cX9_keepAct 57 = .ok (.aload_n 0, 1) := by decide +kernel
theorem dX9_keepAct_58 : decode cX9_keepAct 58 = .ok (.getfield 106, 3) := by decide +kernel
theorem dX9_keepAct_61 : decode cX9_keepAct 61 = .ok (.bipush 39, 2) := by decide +kernel
theorem dX9_keepAct_63 : decode cX9_keepAct 63 = .ok (.aload_n 0, 1) := by decide +kernel
theorem dX9_keepAct_64 : decode cX9_keepAct 64 = .ok (.getfield 398, 3) := by decide +kernel
theorem dX9_keepAct_67 : decode cX9_keepAct 67 = .ok (.imul, 1) := by decide +kernel
theorem dX9_keepAct_68 : decode cX9_keepAct 68 = .ok (.iload_n 1, 1) := by decide +kernel
theorem dX9_keepAct_69 : decode cX9_keepAct 69 = .ok (.iadd, 1) := by decide +kernel
theorem dX9_keepAct_70 : decode cX9_keepAct 70 = .ok (.aload_n 0, 1) := by decide +kernel
theorem dX9_keepAct_71 : decode cX9_keepAct 71 = .ok (.getfield 94, 3) := by decide +kernel
theorem dX9_keepAct_74 : decode cX9_keepAct 74 = .ok (.iload_n 1, 1) := by decide +kernel
theorem dX9_keepAct_75 : decode cX9_keepAct 75 = .ok (.iaload, 1) := by decide +kernel
theorem dX9_keepAct_76 : decode cX9_keepAct 76 = .ok (.iastore, 1) := by decide +kernel
theorem dX9_keepAct_77 : decode cX9_keepAct 77 = .ok (.iinc 1 1, 3) := by decide +kernel
theorem dX9_keepAct_80 : decode cX9_keepAct 80 = .ok (.goto (-29), 3) := by decide +kernel
theorem dX9_keepAct_83 : decode cX9_keepAct 83 = .ok (.aload_n 0, 1) := by decide +kernel
theorem dX9_keepAct_84 : decode cX9_keepAct 84 = .ok (.dup, 1) := by decide +kernel
theorem dX9_keepAct_85 : decode cX9_keepAct 85 = .ok (.getfield 398, 3) := by decide +kernel
theorem dX9_keepAct_88 : decode cX9_keepAct 88 = .ok (.iconst 1, 1) := by decide +kernel
theorem dX9_keepAct_89 : decode cX9_keepAct 89 = .ok (.iadd, 1) := by decide +kernel
theorem dX9_keepAct_90 : decode cX9_keepAct 90 = .ok (.putfield 398, 3) := by decide +kernel
theorem dX9_keepAct_93 : decode cX9_keepAct 93 = .ok (.aload_n 0, 1) := by decide +kernel
theorem dX9_keepAct_94 : decode cX9_keepAct 94 = .ok (.iconst 0, 1) := by decide +kernel
theorem dX9_keepAct_95 : decode cX9_keepAct 95 = .ok (.putfield 401, 3) := by decide +kernel
theorem dX9_keepAct_98 : decode cX9_keepAct 98 = .ok (.return_, 1) := by decide +kernel
set_option maxRecDepth 20000 in
theorem ggX9_quarter_X9_keepAct : GoodIn wsX9_quarter wsX9_keepAct := goodIn_r _ [6, 7, 8, 1, 9, 134, 135, 136, 137, 138, 139, 140, 141, 142, 143, 144, 145, 146, 147, 148, 149, 150, 151, 152, 153, 154, 155, 156, 157, 158, 159, 160, 161, 162, 163, 164, 165, 166, 167, 168, 169, 170, 171, 172, 173, 174, 175, 176, 177, 178, 179, 180, 181, 182, 183, 184, 185, 186, 187, 188, 189, 190, 191, 192, 193, 194, 195, 196, 197, 198, 199, 200] (by decide +kernel) (by decide +kernel)
set_option maxRecDepth 20000 in
theorem gX9_quarter_X9_keepAct : GoodIn wsX9_quarter (wsV RX9 473 RX9 yX9_keepAct wsX9_keepAct) := goodIn_app (goodIn_of _ (by decide +kernel)) ggX9_quarter_X9_keepAct
set_option maxRecDepth 20000 in
theorem ggX9_quarter_X9_goInEarnest : GoodIn wsX9_quarter wsX9_goInEarnest := goodIn_r _ [13, 1, 14, 15, 16, 17, 18, 5, 19, 20, 21, 22, 23, 24, 25, 26, 27, 28, 29, 30, 31, 32, 33, 34, 35, 36, 37, 38, 39, 40, 41, 42, 43, 44, 45, 46, 47, 48, 49, 50, 51, 52, 53, 54, 55, 56, 57, 58, 59, 60, 61, 62, 63, 64, 65, 66, 67, 68, 69, 70, 71, 72, 73, 74, 75, 76, 77, 78, 79, 80, 81, 82, 83, 84, 85, 86, 87, 88, 89, 90, 91, 92, 93, 94, 95, 96, 97, 98, 99, 100, 101, 102, 103, 104, 105, 106, 107, 108, 109, 110, 111, 112, 113, 114, 115, 116, 117, 118, 119, 120, 121, 122, 123, 124, 125, 126, 127, 128, 129, 130, 131, 132, 133, 134, 135, 136, 137, 138, 139, 140, 141, 142, 143, 144, 145, 146, 147, 148, 149, 150, 151, 152, 153, 154, 155, 156, 157, 158, 159, 160, 161, 162, 163, 164, 165, 166, 167, 168, 169, 170, 171, 172, 173, 174, 175, 176, 177, 178, 179, 180, 181, 182, 183, 184, 185, 186, 187, 188, 189, 190, 191, 192, 193, 194, 195, 196, 197, 198, 199, 200] (by decide +kernel) (by decide +kernel)
set_option maxRecDepth 20000 in
theorem gX9_quarter_X9_goInEarnest : GoodIn wsX9_quarter (wsV RX9 476 RX9 yX9_goInEarnest wsX9_goInEarnest) := goodIn_app (goodIn_of _ (by decide +kernel)) ggX9_quarter_X9_goInEarnest
theorem dX9_quarter_0 : decode cX9_quarter 0 = .ok (.aload_n 0, 1) := by decide +kernel
theorem dX9_quarter_1 : decode cX9_quarter 1 = .ok (.getfield 94, 3) := by decide +kernel
theorem dX9_quarter_4 : decode cX9_quarter 4 = .ok (.bipush 37, 2) := by decide +kernel
theorem dX9_quarter_6 : decode cX9_quarter 6 = .ok (.iaload, 1) := by decide +kernel
theorem dX9_quarter_7 : decode cX9_quarter 7 = .ok (.sipush 999, 3) := by decide +kernel
theorem dX9_quarter_10 : decode cX9_quarter 10 = .ok (.if_icmp .ne 5, 3) := by decide +kernel
theorem dX9_quarter_15 : decode cX9_quarter 15 = .ok (.aload_n 0, 1) := by decide +kernel
theorem dX9_quarter_16 : decode cX9_quarter 16 = .ok (.invokevirtual 473, 3) := by decide +kernel
theorem dX9_quarter_19 : decode cX9_quarter 19 = .ok (.aload_n 0, 1) := by decide +kernel
theorem dX9_quarter_20 : decode cX9_quarter 20 = .ok (.invokevirtual 476, 3) := by decide +kernel
theorem dX9_quarter_23 : decode cX9_quarter 23 = .ok (.ireturn, 1) := by decide +kernel
theorem dX9_isAhead_0 : decode cX9_isAhead 0 = .ok (.iload_n 0, 1) := by decide +kernel
theorem dX9_isAhead_1 : decode cX9_isAhead 1 = .ok (.ifCond .lt 13, 3) := by decide +kernel
theorem dX9_isAhead_4 : decode cX9_isAhead 4 = .ok (.iload_n 0, 1) := by decide +kernel
theorem dX9_isAhead_5 : decode cX9_isAhead 5 = .ok (.bipush 60, 2) := by decide +kernel
theorem dX9_isAhead_7 : decode cX9_isAhead 7 = .ok (.if_icmp .gt 7, 3) := by decide +kernel
theorem dX9_isAhead_10 : decode cX9_isAhead 10 = .ok (.iconst 1, 1) := by decide +kernel
theorem dX9_isAhead_11 : decode cX9_isAhead 11 = .ok (.goto 4, 3) := by decide +kernel
theorem dX9_isAhead_14 : decode cX9_isAhead 14 = .ok (.iconst 0, 1) := by decide +kernel
theorem dX9_isAhead_15 : decode cX9_isAhead 15 = .ok (.ireturn, 1) := by decide +kernel
theorem dX9_keepNow_0 : decode cX9_keepNow 0 = .ok (.iconst 0, 1) := by decide +kernel
theorem dX9_keepNow_1 : decode cX9_keepNow 1 = .ok (.istore_n 1, 1) := by decide +kernel
theorem dX9_keepNow_2 : decode cX9_keepNow 2 = .ok (.iload_n 1, 1) := by decide +kernel
theorem dX9_keepNow_3 : decode cX9_keepNow 3 = .ok (.bipush 39, 2) := by decide +kernel
theorem dX9_keepNow_5 : decode cX9_keepNow 5 = .ok (.if_icmp .ge 21, 3) := by decide +kernel
theorem dX9_keepNow_8 : decode cX9_keepNow 8 = .ok (.aload_n 0, 1) := by decide +kernel
theorem dX9_keepNow_9 : decode cX9_keepNow 9 = .ok (.getfield 109, 3) := by decide +kernel
theorem dX9_keepNow_12 : decode cX9_keepNow 12 = .ok (.iload_n 1, 1) := by decide +kernel
theorem dX9_keepNow_13 : decode cX9_keepNow 13 = .ok (.aload_n 0, 1) := by decide +kernel
theorem dX9_keepNow_14 : decode cX9_keepNow 14 = .ok (.getfield 94, 3) := by decide +kernel
theorem dX9_keepNow_17 : decode cX9_keepNow 17 = .ok (.iload_n 1, 1) := by decide +kernel
theorem dX9_keepNow_18 : decode cX9_keepNow 18 = .ok (.iaload, 1) := by decide +kernel
theorem dX9_keepNow_19 : decode cX9_keepNow 19 = .ok (.iastore, 1) := by decide +kernel
theorem dX9_keepNow_20 : decode cX9_keepNow 20 = .ok (.iinc 1 1, 3) := by decide +kernel
theorem dX9_keepNow_23 : decode cX9_keepNow 23 = .ok (.goto (-21), 3) := by decide +kernel
theorem dX9_keepNow_26 : decode cX9_keepNow 26 = .ok (.return_, 1) := by decide +kernel
theorem dX9_bringBack_0 : decode cX9_bringBack 0 = .ok (.iconst 0, 1) := by decide +kernel
theorem dX9_bringBack_1 : decode cX9_bringBack 1 = .ok (.istore_n 1, 1) := by decide +kernel
theorem dX9_bringBack_2 : decode cX9_bringBack 2 = .ok (.iload_n 1, 1) := by decide +kernel
theorem dX9_bringBack_3 : decode cX9_bringBack 3 = .ok (.bipush 39, 2) := by decide +kernel
theorem dX9_bringBack_5 : decode cX9_bringBack 5 = .ok (.if_icmp .ge 21, 3) := by decide +kernel
theorem dX9_bringBack_8 : decode cX9_bringBack 8 = .ok (.aload_n 0, 1) := by decide +kernel
theorem dX9_bringBack_9 : decode cX9_bringBack 9 = .ok (.getfield 94, 3) := by decide +kernel
theorem dX9_bringBack_12 : decode cX9_bringBack 12 = .ok (.iload_n 1, 1) := by decide +kernel
theorem dX9_bringBack_13 : decode cX9_bringBack 13 = .ok (.aload_n 0, 1) := by decide +kernel
theorem dX9_bringBack_14 : decode cX9_bringBack 14 = .ok (.getfield 109, 3) := by decide +kernel
theorem dX9_bringBack_17 : decode cX9_bringBack 17 = .ok (.iload_n 1, 1) := by decide +kernel
theorem dX9_bringBack_18 : decode cX9_bringBack 18 = .ok (.iaload, 1) := by decide +kernel
theorem dX9_bringBack_19 : decode cX9_bringBack 19 = .ok (.iastore, 1) := by decide +kernel
theorem dX9_bringBack_20 : decode cX9_bringBack 20 = .ok (.iinc 1 1, 3) := by decide +kernel
theorem dX9_bringBack_23 : decode cX9_bringBack 23 = .ok (.goto (-21), 3) := by decide +kernel
theorem dX9_bringBack_26 : decode cX9_bringBack 26 = .ok (.return_, 1) := by decide +kernel
theorem iX9_keepAct_X9 : ∀ w ∈ wsX90, w ∈ wsX9_keepAct := (fun _ h => List.mem_cons_of_mem _ (List.mem_append_right _ h))
theorem iX9_goQuarter_X9 : ∀ w ∈ wsX90, w ∈ wsX9_goQuarter := (fun _ h => List.mem_cons_of_mem _ (List.mem_append_right _ h))
theorem iX9_goDie_X9 : ∀ w ∈ wsX90, w ∈ wsX9_goDie := (fun _ h => List.mem_cons_of_mem _ (List.mem_append_right _ h))
theorem iX9_quarter_X9 : ∀ w ∈ wsX90, w ∈ wsX9_quarter := (fun _ h => List.mem_cons_of_mem _ (List.mem_append_right _ h))
theorem iX9_keepNow_X9 : ∀ w ∈ wsX90, w ∈ wsX9_keepNow := (fun _ h => List.mem_cons_of_mem _ (List.mem_append_right _ h))
theorem iX9_bringBack_X9 : ∀ w ∈ wsX90, w ∈ wsX9_bringBack := (fun _ h => List.mem_cons_of_mem _ (List.mem_append_right _ h))
