theorem dX9_seen_95 : decode cX9_seen 95 = .ok (.iconst (-1), 1) := by decide +kernel
theorem dX9_seen_96 : decode cX9_seen 96 = .ok (.iastore, 1) := by decide +kernel
theorem dX9_seen_97 : decode cX9_seen 97 = .ok (.aload_n 0, 1) := by decide +kernel
theorem dX9_seen_98 : decode cX9_seen 98 = .ok (.dup, 1) := by decide +kernel
theorem dX9_seen_99 : decode cX9_seen 99 = .ok (.getfield 404, 3) := by decide +kernel
theorem dX9_seen_102 : decode cX9_seen 102 = .ok (.iconst 1, 1) := by decide +kernel
theorem dX9_seen_103 : decode cX9_seen 103 = .ok (.iadd, 1) := by decide +kernel
theorem dX9_seen_104 : decode cX9_seen 104 = .ok (.putfield 404, 3) := by decide +kernel
theorem dX9_seen_107 : decode cX9_seen 107 = .ok (.aload_n 0, 1) := by decide +kernel
theorem dX9_seen_108 : decode cX9_seen 108 = .ok (.getfield 404, 3) := by decide +kernel
theorem dX9_seen_111 : decode cX9_seen 111 = .ok (.iconst 1, 1) := by decide +kernel
theorem dX9_seen_112 : decode cX9_seen 112 = .ok (.isub, 1) := by decide +kernel
theorem dX9_seen_113 : decode cX9_seen 113 = .ok (.ireturn, 1) := by decide +kernel
set_option maxRecDepth 20000 in
theorem ggX9_untell_X9_isIn : GoodIn wsX9_untell wsX9_isIn := goodIn_r _ [7] rfl (by decide +kernel)
set_option maxRecDepth 20000 in
theorem gX9_untell_X9_isIn : GoodIn wsX9_untell (va_wsS RX9 376 yX9_isIn wsX9_isIn) := goodIn_app (goodIn_r _ [4, 5, 6] rfl (by decide +kernel)) ggX9_untell_X9_isIn
theorem dX9_untell_0 : decode cX9_untell 0 = .ok (.iload_n 1, 1) := by decide +kernel
theorem dX9_untell_1 : decode cX9_untell 1 = .ok (.iconst 0, 1) := by decide +kernel
theorem dX9_untell_2 : decode cX9_untell 2 = .ok (.aload_n 0, 1) := by decide +kernel
theorem dX9_untell_3 : decode cX9_untell 3 = .ok (.getfield 404, 3) := by decide +kernel
theorem dX9_untell_6 : decode cX9_untell 6 = .ok (.iconst 1, 1) := by decide +kernel
theorem dX9_untell_7 : decode cX9_untell 7 = .ok (.isub, 1) := by decide +kernel
theorem dX9_untell_8 : decode cX9_untell 8 = .ok (.invokestatic 376, 3) := by decide +kernel
theorem dX9_untell_11 : decode cX9_untell 11 = .ok (.ifCond .eq 12, 3) := by decide +kernel
theorem dX9_untell_14 : decode cX9_untell 14 = .ok (.aload_n 0, 1) := by decide +kernel
theorem dX9_untell_15 : decode cX9_untell 15 = .ok (.getfield 136, 3) := by decide +kernel
theorem dX9_untell_18 : decode cX9_untell 18 = .ok (.iload_n 1, 1) := by decide +kernel
theorem dX9_untell_19 : decode cX9_untell 19 = .ok (.iaload, 1) := by decide +kernel
theorem dX9_untell_20 : decode cX9_untell 20 = .ok (.ifCond .lt 5, 3) := by decide +kernel
theorem dX9_untell_23 : decode cX9_untell 23 = .ok (.iconst 0, 1) := by decide +kernel
theorem dX9_untell_24 : decode cX9_untell 24 = .ok (.ireturn, 1) := by decide +kernel
theorem dX9_untell_25 : decode cX9_untell 25 = .ok (.aload_n 0, 1) := by decide +kernel
theorem dX9_untell_26 : decode cX9_untell 26 = .ok (.getfield 136, 3) := by decide +kernel
theorem dX9_untell_29 : decode cX9_untell 29 = .ok (.iload_n 1, 1) := by decide +kernel
theorem dX9_untell_30 : decode cX9_untell 30 = .ok (.aload_n 0, 1) := by decide +kernel
theorem dX9_untell_31 : decode cX9_untell 31 = .ok (.getfield 532, 3) := by decide +kernel
theorem dX9_untell_34 : decode cX9_untell 34 = .ok (.iastore, 1) := by decide +kernel
theorem dX9_untell_35 : decode cX9_untell 35 = .ok (.iconst 1, 1) := by decide +kernel
theorem dX9_untell_36 : decode cX9_untell 36 = .ok (.ireturn, 1) := by decide +kernel
set_option maxRecDepth 20000 in
theorem ggX9_later_X9_isIn : GoodIn wsX9_later wsX9_isIn := goodIn_r _ [6] rfl (by decide +kernel)
set_option maxRecDepth 20000 in
theorem gX9_later_X9_isIn : GoodIn wsX9_later (va_wsS RX9 376 yX9_isIn wsX9_isIn) := goodIn_app (goodIn_r _ [3, 4, 5] rfl (by decide +kernel)) ggX9_later_X9_isIn
theorem dX9_later_0 : decode cX9_later 0 = .ok (.iload_n 1, 1) := by decide +kernel
theorem dX9_later_1 : decode cX9_later 1 = .ok (.iconst 0, 1) := by decide +kernel
theorem dX9_later_2 : decode cX9_later 2 = .ok (.sipush 1000, 3) := by decide +kernel
theorem dX9_later_5 : decode cX9_later 5 = .ok (.invokestatic 376, 3) := by decide +kernel
theorem dX9_later_8 : decode cX9_later 8 = .ok (.ifCond .eq 15, 3) := by decide +kernel
theorem dX9_later_11 : decode cX9_later 11 = .ok (.aload_n 0, 1) := by decide +kernel
theorem dX9_later_12 : decode cX9_later 12 = .ok (.getfield 532, 3) := by decide +kernel
theorem dX9_later_15 : decode cX9_later 15 = .ok (.iload_n 1, 1) := by decide +kernel
theorem dX9_later_16 : decode cX9_later 16 = .ok (.iadd, 1) := by decide +kernel
theorem dX9_later_17 : decode cX9_later 17 = .ok (.ldc_w 512, 3) := by decide +kernel
theorem dX9_later_20 : decode cX9_later 20 = .ok (.if_icmp .le 5, 3) := by decide +kernel
theorem dX9_later_23 : decode cX9_later 23 = .ok (.iconst (-1), 1) := by decide +kernel
theorem dX9_later_24 : decode cX9_later 24 = .ok (.ireturn, 1) := by decide +kernel
theorem dX9_later_25 : decode cX9_later 25 = .ok (.aload_n 0, 1) := by decide +kernel
theorem dX9_later_26 : decode cX9_later 26 = .ok (.dup, 1) := by decide +kernel
theorem dX9_later_27 : decode cX9_later 27 = .ok (.getfield 532, 3) := by decide +kernel
theorem dX9_later_30 : decode cX9_later 30 = .ok (.iload_n 1, 1) := by decide +kernel
theorem dX9_later_31 : decode cX9_later 31 = .ok (.iadd, 1) := by decide +kernel
theorem dX9_later_32 : decode cX9_later 32 = .ok (.putfield 532, 3) := by decide +kernel
theorem dX9_later_35 : decode cX9_later 35 = .ok (.aload_n 0, 1) := by decide +kernel
theorem dX9_later_36 : decode cX9_later 36 = .ok (.getfield 532, 3) := by decide +kernel
theorem dX9_later_39 : decode cX9_later 39 = .ok (.ireturn, 1) := by decide +kernel
set_option maxRecDepth 20000 in
theorem ggX9_layIns_X9_keepNow : GoodIn wsX9_layIns wsX9_keepNow := goodIn_r _ [7, 8, 9, 124, 125, 126, 127, 128, 129, 130, 131, 132, 133, 134, 135, 136, 137, 138, 139, 140, 141, 142, 143, 144, 145, 146, 147, 148, 149, 150, 151, 152, 153, 154, 155, 156, 157, 158, 159, 160, 161, 162, 163, 164, 165, 166, 167, 168, 169, 170, 171, 172, 173, 174, 175, 176, 177, 178, 179, 180, 181, 182, 183, 184, 185, 186, 187, 188, 189, 190] rfl (by decide +kernel)
set_option maxRecDepth 20000 in
theorem gX9_layIns_X9_keepNow : GoodIn wsX9_layIns (wsV RX9 491 RX9 yX9_keepNow wsX9_keepNow) := goodIn_app (goodIn_r _ [3, 4, 5, 6] rfl (by decide +kernel)) ggX9_layIns_X9_keepNow
set_option maxRecDepth 20000 in
theorem ggX9_layIns_X9_layTold : GoodIn wsX9_layIns wsX9_layTold := goodIn_r _ [13, 9, 14, 15, 16, 17, 18, 19, 20, 21, 22, 6, 23, 24, 25, 26, 27, 28, 29, 30, 31, 32, 33, 34, 124, 125, 126, 127, 128, 129, 130, 131, 132, 133, 134, 135, 136, 137, 138, 139, 140, 141, 142, 143, 144, 145, 146, 147, 148, 149, 150, 151, 152, 153, 154, 155, 156, 157, 158, 159, 160, 161, 162, 163, 164, 165, 166, 167, 168, 169, 170, 171, 172, 173, 174, 175, 176, 177, 178, 179, 180, 181, 182, 183, 184, 185, 186, 187, 188, 189, 190] rfl (by decide +kernel)
set_option maxRecDepth 20000 in
theorem gX9_layIns_X9_layTold : GoodIn wsX9_layIns (wsV RX9 395 RX9 yX9_layTold wsX9_layTold) := goodIn_app (goodIn_r _ [10, 11, 12, 6] rfl (by decide +kernel)) ggX9_layIns_X9_layTold
set_option maxRecDepth 20000 in
theorem ggX9_layIns_X9_many : GoodIn wsX9_layIns wsX9_many := goodIn_r _ [23, 24, 15, 124, 125, 126, 127, 128, 129, 130, 131, 132, 133, 134, 135, 136, 137, 138, 139, 140, 141, 142, 143, 144, 145, 146, 147, 148, 149, 150, 151, 152, 153, 154, 155, 156, 157, 158, 159, 160, 161, 162, 163, 164, 165, 166, 167, 168, 169, 170, 171, 172, 173, 174, 175, 176, 177, 178, 179, 180, 181, 182, 183, 184, 185, 186, 187, 188, 189, 190] rfl (by decide +kernel)
set_option maxRecDepth 20000 in
theorem gX9_layIns_X9_many : GoodIn wsX9_layIns (wsV RX9 373 RX9 yX9_many wsX9_many) := goodIn_app (goodIn_r _ [20, 21, 22, 6] rfl (by decide +kernel)) ggX9_layIns_X9_many
set_option maxRecDepth 20000 in
theorem ggX9_layIns_X9_isOut : GoodIn wsX9_layIns wsX9_isOut := goodIn_r _ [38, 9, 124, 125, 126, 127, 128, 129, 130, 131, 132, 133, 134, 135, 136, 137, 138, 139, 140, 141, 142, 143, 144, 145, 146, 147, 148, 149, 150, 151, 152, 153, 154, 155, 156, 157, 158, 159, 160, 161, 162, 163, 164, 165, 166, 167, 168, 169, 170, 171, 172, 173, 174, 175, 176, 177, 178, 179, 180, 181, 182, 183, 184, 185, 186, 187, 188, 189, 190] rfl (by decide +kernel)
set_option maxRecDepth 20000 in
theorem gX9_layIns_X9_isOut : GoodIn wsX9_layIns (wsV RX9 389 RX9 yX9_isOut wsX9_isOut) := goodIn_app (goodIn_r _ [35, 36, 37, 6] rfl (by decide +kernel)) ggX9_layIns_X9_isOut
set_option maxRecDepth 20000 in
theorem ggX9_layIns_X9_goQuarter : GoodIn wsX9_layIns wsX9_goQuarter := goodIn_r _ [42, 9, 43, 44, 45, 6, 46, 20, 21, 22, 23, 24, 15, 47, 48, 49, 50, 51, 52, 53, 54, 55, 56, 57, 35, 36, 37, 38, 58, 59, 60, 61, 62, 63, 64, 65, 66, 67, 68, 69, 70, 71, 72, 73, 74, 75, 76, 77, 78, 79, 80, 81, 82, 83, 84, 85, 1, 86, 30, 31, 32, 33, 34, 87, 88, 89, 90, 25, 26, 27, 28, 29, 91, 92, 93, 94, 95, 96, 97, 98, 99, 100, 101, 102, 103, 104, 105, 106, 107, 108, 109, 110, 111, 112, 113, 114, 115, 116, 117, 118, 119, 124, 125, 126, 127, 128, 129, 130, 131, 132, 133, 134, 135, 136, 137, 138, 139, 140, 141, 142, 143, 144, 145, 146, 147, 148, 149, 150, 151, 152, 153, 154, 155, 156, 157, 158, 159, 160, 161, 162, 163, 164, 165, 166, 167, 168, 169, 170, 171, 172, 173, 174, 175, 176, 177, 178, 179, 180, 181, 182, 183, 184, 185, 186, 187, 188, 189, 190] rfl (by decide +kernel)
set_option maxRecDepth 20000 in
theorem gX9_layIns_X9_goQuarter : GoodIn wsX9_layIns (wsV RX9 450 RX9 yX9_goQuarter wsX9_goQuarter) := goodIn_app (goodIn_r _ [39, 40, 41, 6] rfl (by decide +kernel)) ggX9_layIns_X9_goQuarter
set_option maxRecDepth 20000 in
theorem ggX9_layIns_X9_bringBack : GoodIn wsX9_layIns wsX9_bringBack := goodIn_r _ [123, 9, 8, 124, 125, 126, 127, 128, 129, 130, 131, 132, 133, 134, 135, 136, 137, 138, 139, 140, 141, 142, 143, 144, 145, 146, 147, 148, 149, 150, 151, 152, 153, 154, 155, 156, 157, 158, 159, 160, 161, 162, 163, 164, 165, 166, 167, 168, 169, 170, 171, 172, 173, 174, 175, 176, 177, 178, 179, 180, 181, 182, 183, 184, 185, 186, 187, 188, 189, 190] rfl (by decide +kernel)
set_option maxRecDepth 20000 in
theorem gX9_layIns_X9_bringBack : GoodIn wsX9_layIns (wsV RX9 494 RX9 yX9_bringBack wsX9_bringBack) := goodIn_app (goodIn_r _ [120, 121, 122, 6] rfl (by decide +kernel)) ggX9_layIns_X9_bringBack
theorem dX9_layIns_0 : decode cX9_layIns 0 = .ok (.aload_n 0, 1) := by decide +kernel
theorem dX9_layIns_1 : decode cX9_layIns 1 = .ok (.invokevirtual 491, 3) := by decide +kernel
theorem dX9_layIns_4 : decode cX9_layIns 4 = .ok (.iconst 0, 1) := by decide +kernel
theorem dX9_layIns_5 : decode cX9_layIns 5 = .ok (.istore_n 1, 1) := by decide +kernel
theorem dX9_layIns_6 : decode cX9_layIns 6 = .ok (.iload_n 1, 1) := by decide +kernel
theorem dX9_layIns_7 : decode cX9_layIns 7 = .ok (.bipush 99, 2) := by decide +kernel
theorem dX9_layIns_9 : decode cX9_layIns 9 = .ok (.if_icmp .gt 85, 3) := by decide +kernel
theorem dX9_layIns_12 : decode cX9_layIns 12 = .ok (.aload_n 0, 1) := by decide +kernel
theorem dX9_layIns_13 : decode cX9_layIns 13 = .ok (.iload_n 1, 1) := by decide +kernel
theorem dX9_layIns_14 : decode cX9_layIns 14 = .ok (.putfield 97, 3) := by decide +kernel
theorem dX9_layIns_17 : decode cX9_layIns 17 = .ok (.aload_n 0, 1) := by decide +kernel
theorem dX9_layIns_18 : decode cX9_layIns 18 = .ok (.invokevirtual 395, 3) := by decide +kernel
theorem dX9_layIns_21 : decode cX9_layIns 21 = .ok (.iconst 0, 1) := by decide +kernel
theorem dX9_layIns_22 : decode cX9_layIns 22 = .ok (.istore_n 2, 1) := by decide +kernel
theorem dX9_layIns_23 : decode cX9_layIns 23 = .ok (.iload_n 2, 1) := by decide +kernel
theorem dX9_layIns_24 : decode cX9_layIns 24 = .ok (.bipush 9, 2) := by decide +kernel
theorem dX9_layIns_26 : decode cX9_layIns 26 = .ok (.if_icmp .gt 62, 3) := by decide +kernel
theorem dX9_layIns_29 : decode cX9_layIns 29 = .ok (.iconst 0, 1) := by decide +kernel
theorem dX9_layIns_30 : decode cX9_layIns 30 = .ok (.istore_n 3, 1) := by decide +kernel
theorem dX9_layIns_31 : decode cX9_layIns 31 = .ok (.iconst 0, 1) := by decide +kernel
theorem dX9_layIns_32 : decode cX9_layIns 32 = .ok (.istore 4, 2) := by decide +kernel
theorem dX9_layIns_34 : decode cX9_layIns 34 = .ok (.iload 4, 2) := by decide +kernel
theorem dX9_layIns_36 : decode cX9_layIns 36 = .ok (.aload_n 0, 1) := by decide +kernel
theorem dX9_layIns_37 : decode cX9_layIns 37 = .ok (.invokevirtual 373, 3) := by decide +kernel
theorem dX9_layIns_40 : decode cX9_layIns 40 = .ok (.if_icmp .ge 25, 3) := by decide +kernel
theorem dX9_layIns_43 : decode cX9_layIns 43 = .ok (.aload_n 0, 1) := by decide +kernel
theorem dX9_layIns_44 : decode cX9_layIns 44 = .ok (.iload 4, 2) := by decide +kernel
theorem dX9_layIns_46 : decode cX9_layIns 46 = .ok (.invokevirtual 389, 3) := by decide +kernel
theorem dX9_layIns_49 : decode cX9_layIns 49 = .ok (.ifCond .ne 10, 3) := by decide +kernel
theorem dX9_layIns_52 : decode cX9_layIns 52 = .ok (.iload_n 3, 1) := by decide +kernel
theorem dX9_layIns_53 : decode cX9_layIns 53 = .ok (.iconst 1, 1) := by decide +kernel
theorem dX9_layIns_54 : decode cX9_layIns 54 = .ok (.iload 4, 2) := by decide +kernel
theorem dX9_layIns_56 : decode cX9_layIns 56 = .ok (.ishl, 1) := by decide +kernel
theorem dX9_layIns_57 : decode cX9_layIns 57 = .ok (.ior, 1) := by decide +kernel
theorem dX9_layIns_58 : decode cX9_layIns 58 = .ok (.istore_n 3, 1) := by decide +kernel
theorem dX9_layIns_59 : decode cX9_layIns 59 = .ok (.iinc 4 1, 3) := by decide +kernel
theorem dX9_layIns_62 : decode cX9_layIns 62 = .ok (.goto (-28), 3) := by decide +kernel
theorem dX9_layIns_65 : decode cX9_layIns 65 = .ok (.aload_n 0, 1) := by decide +kernel
theorem dX9_layIns_66 : decode cX9_layIns 66 = .ok (.getfield 121, 3) := by decide +kernel
theorem dX9_layIns_69 : decode cX9_layIns 69 = .ok (.bipush 10, 2) := by decide +kernel
theorem dX9_layIns_71 : decode cX9_layIns 71 = .ok (.iload_n 1, 1) := by decide +kernel
theorem dX9_layIns_72 : decode cX9_layIns 72 = .ok (.imul, 1) := by decide +kernel
theorem dX9_layIns_73 : decode cX9_layIns 73 = .ok (.iload_n 2, 1) := by decide +kernel
theorem dX9_layIns_74 : decode cX9_layIns 74 = .ok (.iadd, 1) := by decide +kernel
theorem dX9_layIns_75 : decode cX9_layIns 75 = .ok (.iload_n 3, 1) := by decide +kernel
theorem dX9_layIns_76 : decode cX9_layIns 76 = .ok (.iastore, 1) := by decide +kernel
theorem dX9_layIns_77 : decode cX9_layIns 77 = .ok (.aload_n 0, 1) := by decide +kernel
theorem dX9_layIns_78 : decode cX9_layIns 78 = .ok (.invokevirtual 450, 3) := by decide +kernel
theorem dX9_layIns_81 : decode cX9_layIns 81 = .ok (.istore_n 3, 1) := by decide +kernel
theorem dX9_layIns_82 : decode cX9_layIns 82 = .ok (.iinc 2 1, 3) := by decide +kernel
theorem dX9_layIns_85 : decode cX9_layIns 85 = .ok (.goto (-62), 3) := by decide +kernel
theorem dX9_layIns_88 : decode cX9_layIns 88 = .ok (.iinc 1 1, 3) := by decide +kernel
theorem dX9_layIns_91 : decode cX9_layIns 91 = .ok (.goto (-85), 3) := by decide +kernel
theorem dX9_layIns_94 : decode cX9_layIns 94 = .ok (.aload_n 0, 1) := by decide +kernel
theorem dX9_layIns_95 : decode cX9_layIns 95 = .ok (.iconst (-1), 1) := by decide +kernel
theorem dX9_layIns_96 : decode cX9_layIns 96 = .ok (.putfield 97, 3) := by decide +kernel
theorem dX9_layIns_99 : decode cX9_layIns 99 = .ok (.aload_n 0, 1) := by decide +kernel
theorem dX9_layIns_100 : decode cX9_layIns 100 = .ok (.invokevirtual 494, 3) := by decide +kernel
theorem dX9_layIns_103 : decode cX9_layIns 103 = .ok (.return_, 1) := by decide +kernel
theorem dX9_doesFit_0 : decode cX9_doesFit 0 = .ok (.iconst 0, 1) := by decide +kernel
theorem dX9_doesFit_1 : decode cX9_doesFit 1 = .ok (.istore_n 3, 1) := by decide +kernel
theorem dX9_doesFit_2 : decode cX9_doesFit 2 = .ok (.iload_n 3, 1) := by decide +kernel
theorem dX9_doesFit_3 : decode cX9_doesFit 3 = .ok (.aload_n 0, 1) := by decide +kernel
theorem dX9_doesFit_4 : decode cX9_doesFit 4 = .ok (.getfield 404, 3) := by decide +kernel
theorem dX9_doesFit_7 : decode cX9_doesFit 7 = .ok (.if_icmp .ge 77, 3) := by decide +kernel
theorem dX9_doesFit_10 : decode cX9_doesFit 10 = .ok (.aload_n 0, 1) := by decide +kernel
theorem dX9_doesFit_11 : decode cX9_doesFit 11 = .ok (.getfield 133, 3) := by decide +kernel
theorem dX9_doesFit_14 : decode cX9_doesFit 14 = .ok (.iload_n 3, 1) := by decide +kernel
theorem dX9_doesFit_15 : decode cX9_doesFit 15 = .ok (.iaload, 1) := by decide +kernel
theorem dX9_doesFit_16 : decode cX9_doesFit 16 = .ok (.iload_n 2, 1) := by decide +kernel
theorem dX9_doesFit_17 : decode cX9_doesFit 17 = .ok (.if_icmp .gt 61, 3) := by decide +kernel
theorem dX9_doesFit_20 : decode cX9_doesFit 20 = .ok (.aload_n 0, 1) := by decide +kernel
theorem dX9_doesFit_21 : decode cX9_doesFit 21 = .ok (.getfield 136, 3) := by decide +kernel
theorem dX9_doesFit_24 : decode cX9_doesFit 24 = .ok (.iload_n 3, 1) := by decide +kernel
theorem dX9_doesFit_25 : decode cX9_doesFit 25 = .ok (.iaload, 1) := by decide +kernel
theorem dX9_doesFit_26 : decode cX9_doesFit 26 = .ok (.ifCond .lt 16, 3) := by decide +kernel
theorem dX9_doesFit_29 : decode cX9_doesFit 29 = .ok (.aload_n 0, 1) := by decide +kernel
theorem dX9_doesFit_30 : decode cX9_doesFit 30 = .ok (.getfield 136, 3) := by decide +kernel
theorem dX9_doesFit_33 : decode cX9_doesFit 33 = .ok (.iload_n 3, 1) := by decide +kernel
theorem dX9_doesFit_34 : decode cX9_doesFit 34 = .ok (.iaload, 1) := by decide +kernel
theorem dX9_doesFit_35 : decode cX9_doesFit 35 = .ok (.iload_n 2, 1) := by decide +kernel
theorem dX9_doesFit_36 : decode cX9_doesFit 36 = .ok (.if_icmp .gt 6, 3) := by decide +kernel
theorem dX9_doesFit_39 : decode cX9_doesFit 39 = .ok (.goto 39, 3) := by decide +kernel
theorem dX9_doesFit_42 : decode cX9_doesFit 42 = .ok (.aload_n 0, 1) := by decide +kernel
theorem dX9_doesFit_43 : decode cX9_doesFit 43 = .ok (.getfield 121, 3) := by decide +kernel
theorem dX9_doesFit_46 : decode cX9_doesFit 46 = .ok (.bipush 10, 2) := by decide +kernel
theorem dX9_doesFit_48 : decode cX9_doesFit 48 = .ok (.iload_n 1, 1) := by decide +kernel
theorem dX9_doesFit_49 : decode cX9_doesFit 49 = .ok (.imul, 1) := by decide +kernel
theorem dX9_doesFit_50 : decode cX9_doesFit 50 = .ok (.aload_n 0, 1) := by decide +kernel
theorem dX9_doesFit_51 : decode cX9_doesFit 51 = .ok (.getfield 124, 3) := by decide +kernel
theorem dX9_doesFit_54 : decode cX9_doesFit 54 = .ok (.iload_n 3, 1) := by decide +kernel
theorem dX9_doesFit_55 : decode cX9_doesFit 55 = .ok (.iaload, 1) := by decide +kernel
theorem dX9_doesFit_56 : decode cX9_doesFit 56 = .ok (.iadd, 1) := by decide +kernel
theorem dX9_doesFit_57 : decode cX9_doesFit 57 = .ok (.iaload, 1) := by decide +kernel
theorem dX9_doesFit_58 : decode cX9_doesFit 58 = .ok (.aload_n 0, 1) := by decide +kernel
theorem dX9_doesFit_59 : decode cX9_doesFit 59 = .ok (.getfield 127, 3) := by decide +kernel
theorem dX9_doesFit_62 : decode cX9_doesFit 62 = .ok (.iload_n 3, 1) := by decide +kernel
theorem dX9_doesFit_63 : decode cX9_doesFit 63 = .ok (.iaload, 1) := by decide +kernel
theorem dX9_doesFit_64 : decode cX9_doesFit 64 = .ok (.ishr, 1) := by decide +kernel
theorem dX9_doesFit_65 : decode cX9_doesFit 65 = .ok (.iconst 1, 1) := by decide +kernel
theorem dX9_doesFit_66 : decode cX9_doesFit 66 = .ok (.iand, 1) := by decide +kernel
theorem dX9_doesFit_67 : decode cX9_doesFit 67 = .ok (.aload_n 0, 1) := by decide +kernel
theorem dX9_doesFit_68 : decode cX9_doesFit 68 = .ok (.getfield 130, 3) := by decide +kernel
theorem dX9_doesFit_71 : decode cX9_doesFit 71 = .ok (.iload_n 3, 1) := by decide +kernel
theorem dX9_doesFit_72 : decode cX9_doesFit 72 = .ok (.iaload, 1) := by decide +kernel
theorem dX9_doesFit_73 : decode cX9_doesFit 73 = .ok (.if_icmp .eq 5, 3) := by decide +kernel
theorem dX9_doesFit_76 : decode cX9_doesFit 76 = .ok (.iconst 0, 1) := by decide +kernel
theorem dX9_doesFit_77 : decode cX9_doesFit 77 = .ok (.ireturn, 1) := by decide +kernel
theorem dX9_doesFit_78 : decode cX9_doesFit 78 = .ok (.iinc 3 1, 3) := by decide +kernel
theorem dX9_doesFit_81 : decode cX9_doesFit 81 = .ok (.goto (-79), 3) := by decide +kernel
theorem dX9_doesFit_84 : decode cX9_doesFit 84 = .ok (.iconst 1, 1) := by decide +kernel
theorem dX9_doesFit_85 : decode cX9_doesFit 85 = .ok (.ireturn, 1) := by decide +kernel
set_option maxRecDepth 20000 in
theorem ggX9_fits_X9_cattery : GoodIn wsX9_fits wsX9_cattery := goodIn_r _ [5, 6, 7, 138, 139, 140, 141, 142, 143, 144, 145, 146, 147, 148, 149, 150, 151, 152, 153, 154, 155, 156, 157, 158, 159, 160, 161, 162, 163, 164, 165, 166, 167, 168, 169, 170, 171, 172, 173, 174, 175, 176, 177, 178, 179, 180, 181, 182, 183, 184, 185, 186, 187, 188, 189, 190, 191, 192, 193, 194, 195, 196, 197, 198, 199, 200, 201, 202, 203, 204] rfl (by decide +kernel)
set_option maxRecDepth 20000 in
theorem gX9_fits_X9_cattery : GoodIn wsX9_fits (wsV RX9 380 RX9 yX9_cattery wsX9_cattery) := goodIn_app (goodIn_r _ [1, 2, 3, 4] rfl (by decide +kernel)) ggX9_fits_X9_cattery
set_option maxRecDepth 20000 in
theorem ggX9_fits_X9_layIns : GoodIn wsX9_fits wsX9_layIns := goodIn_r _ [11, 12, 13, 14, 15, 16, 4, 17, 18, 19, 20, 21, 22, 23, 24, 7, 25, 26, 27, 28, 29, 30, 31, 32, 33, 34, 35, 36, 37, 38, 1, 2, 3, 5, 6, 39, 40, 41, 42, 43, 44, 45, 46, 47, 48, 49, 50, 51, 52, 53, 54, 55, 56, 57, 58, 59, 60, 61, 62, 63, 64, 65, 66, 67, 68, 69, 70, 71, 72, 73, 74, 75, 76, 77, 78, 79, 80, 81, 82, 83, 84, 85, 86, 87, 88, 89, 90, 91, 92, 93, 94, 95, 96, 97, 98, 99, 100, 101, 102, 103, 104, 105, 106, 107, 108, 109, 110, 111, 112, 113, 114, 115, 116, 117, 118, 119, 120, 121, 122, 123, 124, 125, 126, 127, 138, 139, 140, 141, 142, 143, 144, 145, 146, 147, 148, 149, 150, 151, 152, 153, 154, 155, 156, 157, 158, 159, 160, 161, 162, 163, 164, 165, 166, 167, 168, 169, 170, 171, 172, 173, 174, 175, 176, 177, 178, 179, 180, 181, 182, 183, 184, 185, 186, 187, 188, 189, 190, 191, 192, 193, 194, 195, 196, 197, 198, 199, 200, 201, 202, 203, 204] rfl (by decide +kernel)
set_option maxRecDepth 20000 in
theorem gX9_fits_X9_layIns : GoodIn wsX9_fits (wsV RX9 535 RX9 yX9_layIns wsX9_layIns) := goodIn_app (goodIn_r _ [8, 9, 10, 4] rfl (by decide +kernel)) ggX9_fits_X9_layIns
set_option maxRecDepth 20000 in
theorem ggX9_fits_X9_doesFit : GoodIn wsX9_fits wsX9_doesFit := goodIn_r _ [131, 132, 133, 134, 13, 135, 136, 137, 138, 139, 140, 141, 142, 143, 144, 145, 146, 147, 148, 149, 150, 151, 152, 153, 154, 155, 156, 157, 158, 159, 160, 161, 162, 163, 164, 165, 166, 167, 168, 169, 170, 171, 172, 173, 174, 175, 176, 177, 178, 179, 180, 181, 182, 183, 184, 185, 186, 187, 188, 189, 190, 191, 192, 193, 194, 195, 196, 197, 198, 199, 200, 201, 202, 203, 204] rfl (by decide +kernel)
set_option maxRecDepth 20000 in
theorem gX9_fits_X9_doesFit : GoodIn wsX9_fits (wsV RX9 538 RX9 yX9_doesFit wsX9_doesFit) := goodIn_app (goodIn_r _ [128, 129, 130, 4] rfl (by decide +kernel)) ggX9_fits_X9_doesFit
theorem dX9_fits_0 : decode cX9_fits 0 = .ok (.aload_n 0, 1) := by decide +kernel
theorem dX9_fits_1 : decode cX9_fits 1 = .ok (.invokevirtual 380, 3) := by decide +kernel
theorem dX9_fits_4 : decode cX9_fits 4 = .ok (.ifCond .ne 5, 3) := by decide +kernel
theorem dX9_fits_7 : decode cX9_fits 7 = .ok (.iconst 0, 1) := by decide +kernel
theorem dX9_fits_8 : decode cX9_fits 8 = .ok (.ireturn, 1) := by decide +kernel
theorem dX9_fits_9 : decode cX9_fits 9 = .ok (.aload_n 0, 1) := by decide +kernel
theorem dX9_fits_10 : decode cX9_fits 10 = .ok (.invokevirtual 535, 3) := by decide +kernel
theorem dX9_fits_13 : decode cX9_fits 13 = .ok (.iconst 0, 1) := by decide +kernel
theorem dX9_fits_14 : decode cX9_fits 14 = .ok (.istore_n 2, 1) := by decide +kernel
theorem dX9_fits_15 : decode cX9_fits 15 = .ok (.iconst 0, 1) := by decide +kernel
theorem dX9_fits_16 : decode cX9_fits 16 = .ok (.istore_n 3, 1) := by decide +kernel
theorem dX9_fits_17 : decode cX9_fits 17 = .ok (.iload_n 3, 1) := by decide +kernel
theorem dX9_fits_18 : decode cX9_fits 18 = .ok (.bipush 99, 2) := by decide +kernel
theorem dX9_fits_20 : decode cX9_fits 20 = .ok (.if_icmp .gt 26, 3) := by decide +kernel
theorem dX9_fits_23 : decode cX9_fits 23 = .ok (.iload_n 2, 1) := by decide +kernel
theorem dX9_fits_24 : decode cX9_fits 24 = .ok (.aload_n 0, 1) := by decide +kernel
theorem dX9_fits_25 : decode cX9_fits 25 = .ok (.iload_n 3, 1) := by decide +kernel
theorem dX9_fits_26 : decode cX9_fits 26 = .ok (.iload_n 1, 1) := by decide +kernel
theorem dX9_fits_27 : decode cX9_fits 27 = .ok (.invokevirtual 538, 3) := by decide +kernel
theorem dX9_fits_30 : decode cX9_fits 30 = .ok (.ifCond .eq 7, 3) := by decide +kernel
theorem dX9_fits_33 : decode cX9_fits 33 = .ok (.iconst 1, 1) := by decide +kernel
theorem dX9_fits_34 : decode cX9_fits 34 = .ok (.goto 4, 3) := by decide +kernel
theorem dX9_fits_37 : decode cX9_fits 37 = .ok (.iconst 0, 1) := by decide +kernel
theorem dX9_fits_38 : decode cX9_fits 38 = .ok (.iadd, 1) := by decide +kernel
theorem dX9_fits_39 : decode cX9_fits 39 = .ok (.istore_n 2, 1) := by decide +kernel
theorem dX9_fits_40 : decode cX9_fits 40 = .ok (.iinc 3 1, 3) := by decide +kernel
theorem dX9_fits_43 : decode cX9_fits 43 = .ok (.goto (-26), 3) := by decide +kernel
theorem dX9_fits_46 : decode cX9_fits 46 = .ok (.iload_n 2, 1) := by decide +kernel
theorem dX9_fits_47 : decode cX9_fits 47 = .ok (.ireturn, 1) := by decide +kernel
set_option maxRecDepth 20000 in
theorem ggX9_sure_X9_isIn : GoodIn wsX9_sure wsX9_isIn := goodIn_r _ [4] rfl (by decide +kernel)
set_option maxRecDepth 20000 in
theorem gX9_sure_X9_isIn : GoodIn wsX9_sure (va_wsS RX9 376 yX9_isIn wsX9_isIn) := goodIn_app (goodIn_r _ [1, 2, 3] rfl (by decide +kernel)) ggX9_sure_X9_isIn
set_option maxRecDepth 20000 in
theorem ggX9_sure_X9_fits : GoodIn wsX9_sure wsX9_fits := goodIn_r _ [8, 9, 10, 11, 3, 12, 13, 14, 15, 16, 17, 18, 19, 20, 21, 22, 23, 24, 25, 26, 27, 28, 29, 30, 31, 32, 33, 34, 35, 36, 37, 38, 39, 40, 41, 42, 43, 44, 45, 46, 47, 48, 49, 50, 51, 52, 53, 54, 55, 56, 57, 58, 59, 60, 61, 62, 63, 64, 65, 1, 2, 4, 66, 67, 68, 69, 70, 71, 72, 73, 74, 75, 76, 77, 78, 79, 80, 81, 82, 83, 84, 85, 86, 87, 88, 89, 90, 91, 92, 93, 94, 95, 96, 97, 98, 99, 100, 101, 102, 103, 104, 105, 106, 107, 108, 109, 110, 111, 112, 113, 114, 115, 116, 117, 118, 119, 120, 121, 122, 123, 124, 125, 126, 127, 128, 129, 130, 131, 132, 133, 134, 135, 136, 137, 138, 139, 140, 141, 142, 143, 144, 145, 146, 147, 148, 149, 150, 151, 152, 153, 154, 155, 156, 157, 158, 159, 160, 161, 162, 163, 164, 165, 166, 167, 168, 169, 170, 171, 172, 173, 174, 175, 176, 177, 178, 179, 180, 181, 182, 183, 184, 185, 186, 187, 188, 189, 190, 191, 192, 193, 194, 195, 196, 197, 198, 199, 200, 201, 202, 203, 204, 205, 206, 207, 208] rfl (by decide +kernel)
set_option maxRecDepth 20000 in
theorem gX9_sure_X9_fits : GoodIn wsX9_sure (wsV RX9 541 RX9 yX9_fits wsX9_fits) := goodIn_app (goodIn_r _ [5, 6, 7, 3] rfl (by decide +kernel)) ggX9_sure_X9_fits
set_option maxRecDepth 20000 in
theorem ggX9_sure_X9_doesFit : GoodIn wsX9_sure wsX9_doesFit := goodIn_r _ [135, 136, 137, 138, 20, 139, 140, 141, 142, 143, 144, 145, 146, 147, 148, 149, 150, 151, 152, 153, 154, 155, 156, 157, 158, 159, 160, 161, 162, 163, 164, 165, 166, 167, 168, 169, 170, 171, 172, 173, 174, 175, 176, 177, 178, 179, 180, 181, 182, 183, 184, 185, 186, 187, 188, 189, 190, 191, 192, 193, 194, 195, 196, 197, 198, 199, 200, 201, 202, 203, 204, 205, 206, 207, 208] rfl (by decide +kernel)
set_option maxRecDepth 20000 in
theorem gX9_sure_X9_doesFit : GoodIn wsX9_sure (wsV RX9 538 RX9 yX9_doesFit wsX9_doesFit) := goodIn_app (goodIn_r _ [132, 133, 134, 3] rfl (by decide +kernel)) ggX9_sure_X9_doesFit
theorem dX9_sure_0 : decode cX9_sure 0 = .ok (.iload_n 1, 1) := by decide +kernel
theorem dX9_sure_1 : decode cX9_sure 1 = .ok (.iconst 0, 1) := by decide +kernel
theorem dX9_sure_2 : decode cX9_sure 2 = .ok (.iconst 1, 1) := by decide +kernel
theorem dX9_sure_3 : decode cX9_sure 3 = .ok (.invokestatic 376, 3) := by decide +kernel
theorem dX9_sure_6 : decode cX9_sure 6 = .ok (.ifCond .eq 11, 3) := by decide +kernel
theorem dX9_sure_9 : decode cX9_sure 9 = .ok (.aload_n 0, 1) := by decide +kernel
theorem dX9_sure_10 : decode cX9_sure 10 = .ok (.iload_n 2, 1) := by decide +kernel
theorem dX9_sure_11 : decode cX9_sure 11 = .ok (.invokevirtual 541, 3) := by decide +kernel
theorem dX9_sure_14 : decode cX9_sure 14 = .ok (.ifCond .ne 5, 3) := by decide +kernel
theorem dX9_sure_17 : decode cX9_sure 17 = .ok (.iconst (-1), 1) := by decide +kernel
theorem dX9_sure_18 : decode cX9_sure 18 = .ok (.ireturn, 1) := by decide +kernel
theorem dX9_sure_19 : decode cX9_sure 19 = .ok (.iload_n 1, 1) := by decide +kernel
theorem dX9_sure_20 : decode cX9_sure 20 = .ok (.ifCond .ne 7, 3) := by decide +kernel
theorem dX9_sure_23 : decode cX9_sure 23 = .ok (.iconst 0, 1) := by decide +kernel
theorem dX9_sure_24 : decode cX9_sure 24 = .ok (.goto 5, 3) := by decide +kernel
theorem dX9_sure_27 : decode cX9_sure 27 = .ok (.bipush 99, 2) := by decide +kernel
theorem dX9_sure_29 : decode cX9_sure 29 = .ok (.istore_n 3, 1) := by decide +kernel
theorem dX9_sure_30 : decode cX9_sure 30 = .ok (.aload_n 0, 1) := by decide +kernel
theorem dX9_sure_31 : decode cX9_sure 31 = .ok (.iload_n 3, 1) := by decide +kernel
theorem dX9_sure_32 : decode cX9_sure 32 = .ok (.iload_n 2, 1) := by decide +kernel
theorem dX9_sure_33 : decode cX9_sure 33 = .ok (.invokevirtual 538, 3) := by decide +kernel
theorem dX9_sure_36 : decode cX9_sure 36 = .ok (.ifCond .ne 18, 3) := by decide +kernel
theorem dX9_sure_39 : decode cX9_sure 39 = .ok (.iload_n 3, 1) := by decide +kernel
theorem dX9_sure_40 : decode cX9_sure 40 = .ok (.iload_n 1, 1) := by decide +kernel
theorem dX9_sure_41 : decode cX9_sure 41 = .ok (.ifCond .ne 7, 3) := by decide +kernel
theorem dX9_sure_44 : decode cX9_sure 44 = .ok (.iconst 1, 1) := by decide +kernel
theorem dX9_sure_45 : decode cX9_sure 45 = .ok (.goto 4, 3) := by decide +kernel
theorem dX9_sure_48 : decode cX9_sure 48 = .ok (.iconst (-1), 1) := by decide +kernel
theorem dX9_sure_49 : decode cX9_sure 49 = .ok (.iadd, 1) := by decide +kernel
theorem dX9_sure_50 : decode cX9_sure 50 = .ok (.istore_n 3, 1) := by decide +kernel
theorem dX9_sure_51 : decode cX9_sure 51 = .ok (.goto (-21), 3) := by decide +kernel
theorem dX9_sure_54 : decode cX9_sure 54 = .ok (.iload_n 3, 1) := by decide +kernel
theorem dX9_sure_55 : decode cX9_sure 55 = .ok (.ireturn, 1) := by decide +kernel
set_option maxRecDepth 20000 in
theorem ggX9_ask_X9_isIn : GoodIn wsX9_ask wsX9_isIn := goodIn_r _ [5] rfl (by decide +kernel)
set_option maxRecDepth 20000 in
theorem gX9_ask_X9_isIn : GoodIn wsX9_ask (va_wsS RX9 376 yX9_isIn wsX9_isIn) := goodIn_app (goodIn_r _ [2, 3, 4] rfl (by decide +kernel)) ggX9_ask_X9_isIn
set_option maxRecDepth 20000 in
theorem ggX9_ask_X9_fits : GoodIn wsX9_ask wsX9_fits := goodIn_r _ [9, 10, 11, 12, 4, 13, 14, 15, 16, 17, 18, 19, 20, 1, 21, 22, 23, 24, 25, 26, 27, 28, 29, 30, 31, 32, 33, 34, 35, 36, 37, 38, 39, 40, 41, 42, 43, 44, 45, 46, 47, 48, 49, 50, 51, 52, 53, 54, 55, 56, 57, 58, 59, 60, 61, 62, 63, 64, 65, 2, 3, 5, 66, 67, 68, 69, 70, 71, 72, 73, 74, 75, 76, 77, 78, 79, 80, 81, 82, 83, 84, 85, 86, 87, 88, 89, 90, 91, 92, 93, 94, 95, 96, 97, 98, 99, 100, 101, 102, 103, 104, 105, 106, 107, 108, 109, 110, 111, 112, 113, 114, 115, 116, 117, 118, 119, 120, 121, 122, 123, 124, 125, 126, 127, 128, 129, 130, 131, 132, 133, 134, 135, 136, 137, 138, 139, 140, 141, 142, 143, 144, 145, 146, 147, 148, 149, 150, 151, 152, 153, 154, 155, 156, 157, 158, 159, 160, 161, 162, 163, 164, 165, 166, 167, 168, 169, 170, 171, 172, 173, 174, 175, 176, 177, 178, 179, 180, 181, 182, 183, 184, 185, 186, 187, 188, 189, 190, 191, 192, 193, 194, 195, 196, 197, 198, 199, 200, 201, 202, 203, 204, 205, 206, 207, 208] rfl (by decide +kernel)
set_option maxRecDepth 20000 in
theorem gX9_ask_X9_fits : GoodIn wsX9_ask (wsV RX9 541 RX9 yX9_fits wsX9_fits) := goodIn_app (goodIn_r _ [6, 7, 8, 4] rfl (by decide +kernel)) ggX9_ask_X9_fits
set_option maxRecDepth 20000 in
theorem ggX9_ask_X9_many : GoodIn wsX9_ask wsX9_many := goodIn_r _ [39, 40, 15, 142, 143, 144, 145, 146, 147, 148, 149, 150, 151, 152, 153, 154, 155, 156, 157, 158, 159, 160, 161, 162, 163, 164, 165, 166, 167, 168, 169, 170, 171, 172, 173, 174, 175, 176, 177, 178, 179, 180, 181, 182, 183, 184, 185, 186, 187, 188, 189, 190, 191, 192, 193, 194, 195, 196, 197, 198, 199, 200, 201, 202, 203, 204, 205, 206, 207, 208] rfl (by decide +kernel)
set_option maxRecDepth 20000 in
theorem gX9_ask_X9_many : GoodIn wsX9_ask (wsV RX9 373 RX9 yX9_many wsX9_many) := goodIn_app (goodIn_r _ [36, 37, 38, 4] rfl (by decide +kernel)) ggX9_ask_X9_many
set_option maxRecDepth 20000 in
theorem ggX9_ask_X9_doesFit : GoodIn wsX9_ask wsX9_doesFit := goodIn_r _ [135, 136, 137, 138, 1, 139, 140, 141, 142, 143, 144, 145, 146, 147, 148, 149, 150, 151, 152, 153, 154, 155, 156, 157, 158, 159, 160, 161, 162, 163, 164, 165, 166, 167, 168, 169, 170, 171, 172, 173, 174, 175, 176, 177, 178, 179, 180, 181, 182, 183, 184, 185, 186, 187, 188, 189, 190, 191, 192, 193, 194, 195, 196, 197, 198, 199, 200, 201, 202, 203, 204, 205, 206, 207, 208] rfl (by decide +kernel)
set_option maxRecDepth 20000 in
theorem gX9_ask_X9_doesFit : GoodIn wsX9_ask (wsV RX9 538 RX9 yX9_doesFit wsX9_doesFit) := goodIn_app (goodIn_r _ [132, 133, 134, 4] rfl (by decide +kernel)) ggX9_ask_X9_doesFit
theorem dX9_ask_0 : decode cX9_ask 0 = .ok (.iload_n 1, 1) := by decide +kernel
theorem dX9_ask_1 : decode cX9_ask 1 = .ok (.iconst 0, 1) := by decide +kernel
theorem dX9_ask_2 : decode cX9_ask 2 = .ok (.bipush 9, 2) := by decide +kernel
theorem dX9_ask_4 : decode cX9_ask 4 = .ok (.invokestatic 376, 3) := by decide +kernel
theorem dX9_ask_7 : decode cX9_ask 7 = .ok (.ifCond .eq 12, 3) := by decide +kernel
theorem dX9_ask_10 : decode cX9_ask 10 = .ok (.iload_n 2, 1) := by decide +kernel
theorem dX9_ask_11 : decode cX9_ask 11 = .ok (.iconst 0, 1) := by decide +kernel
theorem dX9_ask_12 : decode cX9_ask 12 = .ok (.iconst 1, 1) := by decide +kernel
theorem dX9_ask_13 : decode cX9_ask 13 = .ok (.invokestatic 376, 3) := by decide +kernel
theorem dX9_ask_16 : decode cX9_ask 16 = .ok (.ifCond .ne 5, 3) := by decide +kernel
theorem dX9_ask_19 : decode cX9_ask 19 = .ok (.iconst (-1), 1) := by decide +kernel
theorem dX9_ask_20 : decode cX9_ask 20 = .ok (.ireturn, 1) := by decide +kernel
theorem dX9_ask_21 : decode cX9_ask 21 = .ok (.aload_n 0, 1) := by decide +kernel
theorem dX9_ask_22 : decode cX9_ask 22 = .ok (.iload_n 3, 1) := by decide +kernel
theorem dX9_ask_23 : decode cX9_ask 23 = .ok (.invokevirtual 541, 3) := by decide +kernel
theorem dX9_ask_26 : decode cX9_ask 26 = .ok (.istore 4, 2) := by decide +kernel
theorem dX9_ask_28 : decode cX9_ask 28 = .ok (.iload 4, 2) := by decide +kernel
theorem dX9_ask_30 : decode cX9_ask 30 = .ok (.ifCond .ne 5, 3) := by decide +kernel
theorem dX9_ask_33 : decode cX9_ask 33 = .ok (.iconst (-1), 1) := by decide +kernel
theorem dX9_ask_34 : decode cX9_ask 34 = .ok (.ireturn, 1) := by decide +kernel
theorem dX9_ask_35 : decode cX9_ask 35 = .ok (.iconst (-1), 1) := by decide +kernel
theorem dX9_ask_36 : decode cX9_ask 36 = .ok (.istore 5, 2) := by decide +kernel
theorem dX9_ask_38 : decode cX9_ask 38 = .ok (.iconst 0, 1) := by decide +kernel
theorem dX9_ask_39 : decode cX9_ask 39 = .ok (.istore 6, 2) := by decide +kernel
theorem dX9_ask_41 : decode cX9_ask 41 = .ok (.iconst 0, 1) := by decide +kernel
theorem dX9_ask_42 : decode cX9_ask 42 = .ok (.istore 7, 2) := by decide +kernel
theorem dX9_ask_44 : decode cX9_ask 44 = .ok (.iload 7, 2) := by decide +kernel
theorem dX9_ask_46 : decode cX9_ask 46 = .ok (.aload_n 0, 1) := by decide +kernel
theorem dX9_ask_47 : decode cX9_ask 47 = .ok (.invokevirtual 373, 3) := by decide +kernel
theorem dX9_ask_50 : decode cX9_ask 50 = .ok (.if_icmp .ge 109, 3) := by decide +kernel
theorem dX9_ask_53 : decode cX9_ask 53 = .ok (.iconst 0, 1) := by decide +kernel
theorem dX9_ask_54 : decode cX9_ask 54 = .ok (.istore 8, 2) := by decide +kernel
theorem dX9_ask_56 : decode cX9_ask 56 = .ok (.iconst 0, 1) := by decide +kernel
theorem dX9_ask_57 : decode cX9_ask 57 = .ok (.istore 9, 2) := by decide +kernel
theorem dX9_ask_59 : decode cX9_ask 59 = .ok (.iload 9, 2) := by decide +kernel
theorem dX9_ask_61 : decode cX9_ask 61 = .ok (.bipush 99, 2) := by decide +kernel
theorem dX9_ask_63 : decode cX9_ask 63 = .ok (.if_icmp .gt 45, 3) := by decide +kernel
theorem dX9_ask_66 : decode cX9_ask 66 = .ok (.iload 8, 2) := by decide +kernel
theorem dX9_ask_68 : decode cX9_ask 68 = .ok (.aload_n 0, 1) := by decide +kernel
theorem dX9_ask_69 : decode cX9_ask 69 = .ok (.iload 9, 2) := by decide +kernel
theorem dX9_ask_71 : decode cX9_ask 71 = .ok (.iload_n 3, 1) := by decide +kernel
theorem dX9_ask_72 : decode cX9_ask 72 = .ok (.invokevirtual 538, 3) := by decide +kernel
theorem dX9_ask_75 : decode cX9_ask 75 = .ok (.ifCond .eq 23, 3) := by decide +kernel
theorem dX9_ask_78 : decode cX9_ask 78 = .ok (.aload_n 0, 1) := by decide +kernel
theorem dX9_ask_79 : decode cX9_ask 79 = .ok (.getfield 121, 3) := by decide +kernel
theorem dX9_ask_82 : decode cX9_ask 82 = .ok (.bipush 10, 2) := by decide +kernel
theorem dX9_ask_84 : decode cX9_ask 84 = .ok (.iload 9, 2) := by decide +kernel
theorem dX9_ask_86 : decode cX9_ask 86 = .ok (.imul, 1) := by decide +kernel
theorem dX9_ask_87 : decode cX9_ask 87 = .ok (.iload_n 1, 1) := by decide +kernel
theorem dX9_ask_88 : decode cX9_ask 88 = .ok (.iadd, 1) := by decide +kernel
theorem dX9_ask_89 : decode cX9_ask 89 = .ok (.iaload, 1) := by decide +kernel
theorem dX9_ask_90 : decode cX9_ask 90 = .ok (.iload 7, 2) := by decide +kernel
theorem dX9_ask_92 : decode cX9_ask 92 = .ok (.ishr, 1) := by decide +kernel
theorem dX9_ask_93 : decode cX9_ask 93 = .ok (.iconst 1, 1) := by decide +kernel
theorem dX9_ask_94 : decode cX9_ask 94 = .ok (.iand, 1) := by decide +kernel
theorem dX9_ask_95 : decode cX9_ask 95 = .ok (.goto 4, 3) := by decide +kernel
theorem dX9_ask_98 : decode cX9_ask 98 = .ok (.iconst 0, 1) := by decide +kernel
theorem dX9_ask_99 : decode cX9_ask 99 = .ok (.iadd, 1) := by decide +kernel
theorem dX9_ask_100 : decode cX9_ask 100 = .ok (.istore 8, 2) := by decide +kernel
theorem dX9_ask_102 : decode cX9_ask 102 = .ok (.iinc 9 1, 3) := by decide +kernel
theorem dX9_ask_105 : decode cX9_ask 105 = .ok (.goto (-46), 3) := by decide +kernel
theorem dX9_ask_108 : decode cX9_ask 108 = .ok (.iload 8, 2) := by decide +kernel
theorem dX9_ask_110 : decode cX9_ask 110 = .ok (.iload 4, 2) := by decide +kernel
theorem dX9_ask_112 : decode cX9_ask 112 = .ok (.iload 8, 2) := by decide +kernel
theorem dX9_ask_114 : decode cX9_ask 114 = .ok (.isub, 1) := by decide +kernel
theorem dX9_ask_115 : decode cX9_ask 115 = .ok (.if_icmp .le 8, 3) := by decide +kernel
theorem dX9_ask_118 : decode cX9_ask 118 = .ok (.iload 8, 2) := by decide +kernel
theorem dX9_ask_120 : decode cX9_ask 120 = .ok (.goto 8, 3) := by decide +kernel
theorem dX9_ask_123 : decode cX9_ask 123 = .ok (.iload 4, 2) := by decide +kernel
theorem dX9_ask_125 : decode cX9_ask 125 = .ok (.iload 8, 2) := by decide +kernel
theorem dX9_ask_127 : decode cX9_ask 127 = .ok (.isub, 1) := by decide +kernel
theorem dX9_ask_128 : decode cX9_ask 128 = .ok (.istore 9, 2) := by decide +kernel
theorem dX9_ask_130 : decode cX9_ask 130 = .ok (.iload 5, 2) := by decide +kernel
theorem dX9_ask_132 : decode cX9_ask 132 = .ok (.ifCond .lt 13, 3) := by decide +kernel
theorem dX9_ask_135 : decode cX9_ask 135 = .ok (.iload 9, 2) := by decide +kernel
theorem dX9_ask_137 : decode cX9_ask 137 = .ok (.iload 6, 2) := by decide +kernel
theorem dX9_ask_139 : decode cX9_ask 139 = .ok (.if_icmp .lt 6, 3) := by decide +kernel
theorem dX9_ask_142 : decode cX9_ask 142 = .ok (.goto 11, 3) := by decide +kernel
theorem dX9_ask_145 : decode cX9_ask 145 = .ok (.iload 7, 2) := by decide +kernel
theorem dX9_ask_147 : decode cX9_ask 147 = .ok (.istore 5, 2) := by decide +kernel
theorem dX9_ask_149 : decode cX9_ask 149 = .ok (.iload 9, 2) := by decide +kernel
theorem dX9_ask_151 : decode cX9_ask 151 = .ok (.istore 6, 2) := by decide +kernel
theorem dX9_ask_153 : decode cX9_ask 153 = .ok (.iinc 7 1, 3) := by decide +kernel
theorem dX9_ask_156 : decode cX9_ask 156 = .ok (.goto (-112), 3) := by decide +kernel
theorem dX9_ask_159 : decode cX9_ask 159 = .ok (.iload 5, 2) := by decide +kernel
theorem dX9_ask_161 : decode cX9_ask 161 = .ok (.ifCond .ge 7, 3) := by decide +kernel
theorem dX9_ask_164 : decode cX9_ask 164 = .ok (.iconst (-1), 1) := by decide +kernel
theorem dX9_ask_165 : decode cX9_ask 165 = .ok (.goto 14, 3) := by decide +kernel
theorem dX9_ask_168 : decode cX9_ask 168 = .ok (.iload_n 2, 1) := by decide +kernel
theorem dX9_ask_169 : decode cX9_ask 169 = .ok (.ifCond .ne 8, 3) := by decide +kernel
theorem dX9_ask_172 : decode cX9_ask 172 = .ok (.iload 5, 2) := by decide +kernel
theorem dX9_ask_174 : decode cX9_ask 174 = .ok (.goto 5, 3) := by decide +kernel
theorem dX9_ask_177 : decode cX9_ask 177 = .ok (.iload 6, 2) := by decide +kernel
theorem dX9_ask_179 : decode cX9_ask 179 = .ok (.ireturn, 1) := by decide +kernel
set_option maxRecDepth 20000 in
theorem ggX9_image_X9_isIn : GoodIn wsX9_image wsX9_isIn := goodIn_r _ [7] rfl (by decide +kernel)
set_option maxRecDepth 20000 in
theorem gX9_image_X9_isIn : GoodIn wsX9_image (va_wsS RX9 376 yX9_isIn wsX9_isIn) := goodIn_app (goodIn_r _ [4, 5, 6] rfl (by decide +kernel)) ggX9_image_X9_isIn
theorem dX9_image_0 : decode cX9_image 0 = .ok (.iload_n 1, 1) := by decide +kernel
theorem dX9_image_1 : decode cX9_image 1 = .ok (.iconst 0, 1) := by decide +kernel
theorem dX9_image_2 : decode cX9_image 2 = .ok (.iconst 2, 1) := by decide +kernel
theorem dX9_image_3 : decode cX9_image 3 = .ok (.invokestatic 376, 3) := by decide +kernel
theorem dX9_image_6 : decode cX9_image 6 = .ok (.ifCond .ne 5, 3) := by decide +kernel
theorem dX9_image_9 : decode cX9_image 9 = .ok (.iconst (-1), 1) := by decide +kernel
theorem dX9_image_10 : decode cX9_image 10 = .ok (.ireturn, 1) := by decide +kernel
theorem dX9_image_11 : decode cX9_image 11 = .ok (.iconst 0, 1) := by decide +kernel
theorem dX9_image_12 : decode cX9_image 12 = .ok (.istore_n 2, 1) := by decide +kernel
theorem dX9_image_13 : decode cX9_image 13 = .ok (.iload_n 2, 1) := by decide +kernel
theorem dX9_image_14 : decode cX9_image 14 = .ok (.bipush 39, 2) := by decide +kernel
theorem dX9_image_16 : decode cX9_image 16 = .ok (.if_icmp .ge 26, 3) := by decide +kernel
theorem dX9_image_19 : decode cX9_image 19 = .ok (.aload_n 0, 1) := by decide +kernel
theorem dX9_image_20 : decode cX9_image 20 = .ok (.getfield 139, 3) := by decide +kernel
theorem dX9_image_23 : decode cX9_image 23 = .ok (.bipush 39, 2) := by decide +kernel
theorem dX9_image_25 : decode cX9_image 25 = .ok (.iload_n 1, 1) := by decide +kernel
theorem dX9_image_26 : decode cX9_image 26 = .ok (.imul, 1) := by decide +kernel
theorem dX9_image_27 : decode cX9_image 27 = .ok (.iload_n 2, 1) := by decide +kernel
theorem dX9_image_28 : decode cX9_image 28 = .ok (.iadd, 1) := by decide +kernel
theorem dX9_image_29 : decode cX9_image 29 = .ok (.aload_n 0, 1) := by decide +kernel
theorem dX9_image_30 : decode cX9_image 30 = .ok (.getfield 94, 3) := by decide +kernel
theorem dX9_image_33 : decode cX9_image 33 = .ok (.iload_n 2, 1) := by decide +kernel
theorem dX9_image_34 : decode cX9_image 34 = .ok (.iaload, 1) := by decide +kernel
theorem dX9_image_35 : decode cX9_image 35 = .ok (.iastore, 1) := by decide +kernel
theorem dX9_image_36 : decode cX9_image 36 = .ok (.iinc 2 1, 3) := by decide +kernel
theorem dX9_image_39 : decode cX9_image 39 = .ok (.goto (-26), 3) := by decide +kernel
theorem dX9_image_42 : decode cX9_image 42 = .ok (.aload_n 0, 1) := by decide +kernel
theorem dX9_image_43 : decode cX9_image 43 = .ok (.getfield 142, 3) := by decide +kernel
theorem dX9_image_46 : decode cX9_image 46 = .ok (.iload_n 1, 1) := by decide +kernel
theorem dX9_image_47 : decode cX9_image 47 = .ok (.iconst 1, 1) := by decide +kernel
theorem dX9_image_48 : decode cX9_image 48 = .ok (.bastore, 1) := by decide +kernel
theorem dX9_image_49 : decode cX9_image 49 = .ok (.aload_n 0, 1) := by decide +kernel
theorem dX9_image_50 : decode cX9_image 50 = .ok (.getfield 94, 3) := by decide +kernel
theorem dX9_image_53 : decode cX9_image 53 = .ok (.bipush 37, 2) := by decide +kernel
theorem dX9_image_55 : decode cX9_image 55 = .ok (.iaload, 1) := by decide +kernel
theorem dX9_image_56 : decode cX9_image 56 = .ok (.ireturn, 1) := by decide +kernel
set_option maxRecDepth 20000 in
theorem ggX9_back_X9_isIn : GoodIn wsX9_back wsX9_isIn := goodIn_r _ [9] rfl (by decide +kernel)
set_option maxRecDepth 20000 in
theorem gX9_back_X9_isIn : GoodIn wsX9_back (va_wsS RX9 376 yX9_isIn wsX9_isIn) := goodIn_app (goodIn_r _ [6, 7, 8] rfl (by decide +kernel)) ggX9_back_X9_isIn
theorem dX9_back_0 : decode cX9_back 0 = .ok (.iload_n 1, 1) := by decide +kernel
theorem dX9_back_1 : decode cX9_back 1 = .ok (.iconst 0, 1) := by decide +kernel
theorem dX9_back_2 : decode cX9_back 2 = .ok (.iconst 2, 1) := by decide +kernel
theorem dX9_back_3 : decode cX9_back 3 = .ok (.invokestatic 376, 3) := by decide +kernel
theorem dX9_back_6 : decode cX9_back 6 = .ok (.ifCond .eq 12, 3) := by decide +kernel
theorem dX9_back_9 : decode cX9_back 9 = .ok (.aload_n 0, 1) := by decide +kernel
theorem dX9_back_10 : decode cX9_back 10 = .ok (.getfield 142, 3) := by decide +kernel
theorem dX9_back_13 : decode cX9_back 13 = .ok (.iload_n 1, 1) := by decide +kernel
theorem dX9_back_14 : decode cX9_back 14 = .ok (.baload, 1) := by decide +kernel
theorem dX9_back_15 : decode cX9_back 15 = .ok (.ifCond .ne 5, 3) := by decide +kernel
theorem dX9_back_18 : decode cX9_back 18 = .ok (.iconst (-1), 1) := by decide +kernel
theorem dX9_back_19 : decode cX9_back 19 = .ok (.ireturn, 1) := by decide +kernel
theorem dX9_back_20 : decode cX9_back 20 = .ok (.iconst 0, 1) := by decide +kernel
theorem dX9_back_21 : decode cX9_back 21 = .ok (.istore_n 2, 1) := by decide +kernel
theorem dX9_back_22 : decode cX9_back 22 = .ok (.iload_n 2, 1) := by decide +kernel
theorem dX9_back_23 : decode cX9_back 23 = .ok (.bipush 39, 2) := by decide +kernel
theorem dX9_back_25 : decode cX9_back 25 = .ok (.if_icmp .ge 26, 3) := by decide +kernel
theorem dX9_back_28 : decode cX9_back 28 = .ok (.aload_n 0, 1) := by decide +kernel
