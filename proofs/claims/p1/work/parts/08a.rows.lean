theorem dX9_sign_0 : decode cX9_sign 0 = .ok (.iload_n 1, 1) := by decide +kernel
theorem dX9_sign_1 : decode cX9_sign 1 = .ok (.aload_n 0, 1) := by decide +kernel
theorem dX9_sign_2 : decode cX9_sign 2 = .ok (.getfield 152, 3) := by decide +kernel
theorem dX9_sign_5 : decode cX9_sign 5 = .ok (.if_icmp .ge 16, 3) := by decide +kernel
theorem dX9_sign_21 : decode cX9_sign 21 = .ok (.iconst 0, 1) := by decide +kernel
theorem dX9_sign_22 : decode cX9_sign 22 = .ok (.ireturn, 1) := by decide +kernel
theorem dX9_isGood_0 : decode cX9_isGood 0 = .ok (.aload_n 0, 1) := by decide +kernel
theorem dX9_isGood_1 : decode cX9_isGood 1 = .ok (.getfield 155, 3) := by decide +kernel
theorem dX9_isGood_4 : decode cX9_isGood 4 = .ok (.ifCond .ne 7, 3) := by decide +kernel
theorem dX9_isGood_7 : decode cX9_isGood 7 = .ok (.iconst 1, 1) := by decide +kernel
theorem dX9_isGood_8 : decode cX9_isGood 8 = .ok (.goto 4, 3) := by decide +kernel
theorem dX9_isGood_12 : decode cX9_isGood 12 = .ok (.ireturn, 1) := by decide +kernel
set_option maxRecDepth 20000 in
theorem ggX9_goOn_X9_sign : GoodIn wsX9_goOn wsX9_sign := goodIn_r _ [11, 3, 12, 44, 45, 46, 47, 48, 49, 50, 51, 52, 53, 54, 55, 56, 57, 58, 59, 60, 61, 62, 63, 64, 65, 66, 67, 68, 69, 70, 71, 72, 73, 74, 75, 76, 77, 78, 79, 80, 81, 82, 83, 84, 85, 86, 87, 88, 89, 90, 91, 92, 93, 94, 95, 96, 97, 98, 99, 100, 101, 102, 103, 104, 105, 106, 107, 108, 109, 110] (by decide +kernel) (by decide +kernel)
set_option maxRecDepth 20000 in
theorem gX9_goOn_X9_sign : GoodIn wsX9_goOn (wsV RX9 202 RX9 yX9_sign wsX9_sign) := goodIn_app (goodIn_of _ (by decide +kernel)) ggX9_goOn_X9_sign
theorem dX9_goOn_0 : decode cX9_goOn 0 = .ok (.aload_n 0, 1) := by decide +kernel
theorem dX9_goOn_1 : decode cX9_goOn 1 = .ok (.aload_n 0, 1) := by decide +kernel
theorem dX9_goOn_2 : decode cX9_goOn 2 = .ok (.getfield 196, 3) := by decide +kernel
theorem dX9_goOn_5 : decode cX9_goOn 5 = .ok (.putfield 199, 3) := by decide +kernel
theorem dX9_goOn_8 : decode cX9_goOn 8 = .ok (.aload_n 0, 1) := by decide +kernel
theorem dX9_goOn_9 : decode cX9_goOn 9 = .ok (.getfield 199, 3) := by decide +kernel
theorem dX9_goOn_12 : decode cX9_goOn 12 = .ok (.aload_n 0, 1) := by decide +kernel
theorem dX9_goOn_13 : decode cX9_goOn 13 = .ok (.getfield 152, 3) := by decide +kernel
theorem dX9_goOn_16 : decode cX9_goOn 16 = .ok (.if_icmp .ge 42, 3) := by decide +kernel
theorem dX9_goOn_58 : decode cX9_goOn 58 = .ok (.aload_n 0, 1) := by decide +kernel
theorem dX9_goOn_59 : decode cX9_goOn 59 = .ok (.aload_n 0, 1) := by decide +kernel
theorem dX9_goOn_60 : decode cX9_goOn 60 = .ok (.getfield 199, 3) := by decide +kernel
theorem dX9_goOn_63 : decode cX9_goOn 63 = .ok (.invokevirtual 202, 3) := by decide +kernel
theorem dX9_goOn_66 : decode cX9_goOn 66 = .ok (.istore_n 1, 1) := by decide +kernel
theorem dX9_goOn_67 : decode cX9_goOn 67 = .ok (.aload_n 0, 1) := by decide +kernel
theorem dX9_goOn_68 : decode cX9_goOn 68 = .ok (.aload_n 0, 1) := by decide +kernel
theorem dX9_goOn_69 : decode cX9_goOn 69 = .ok (.getfield 199, 3) := by decide +kernel
theorem dX9_goOn_72 : decode cX9_goOn 72 = .ok (.iconst 1, 1) := by decide +kernel
theorem dX9_goOn_73 : decode cX9_goOn 73 = .ok (.iadd, 1) := by decide +kernel
theorem dX9_goOn_74 : decode cX9_goOn 74 = .ok (.putfield 196, 3) := by decide +kernel
theorem dX9_goOn_77 : decode cX9_goOn 77 = .ok (.aload_n 0, 1) := by decide +kernel
theorem dX9_goOn_78 : decode cX9_goOn 78 = .ok (.getfield 199, 3) := by decide +kernel
theorem dX9_goOn_81 : decode cX9_goOn 81 = .ok (.aload_n 0, 1) := by decide +kernel
theorem dX9_goOn_82 : decode cX9_goOn 82 = .ok (.getfield 152, 3) := by decide +kernel
theorem dX9_goOn_85 : decode cX9_goOn 85 = .ok (.if_icmp .lt 27, 3) := by decide +kernel
theorem dX9_goOn_88 : decode cX9_goOn 88 = .ok (.aload_n 0, 1) := by decide +kernel
theorem dX9_goOn_89 : decode cX9_goOn 89 = .ok (.iconst 0, 1) := by decide +kernel
theorem dX9_goOn_90 : decode cX9_goOn 90 = .ok (.putfield 206, 3) := by decide +kernel
theorem dX9_goOn_93 : decode cX9_goOn 93 = .ok (.aload_n 0, 1) := by decide +kernel
theorem dX9_goOn_94 : decode cX9_goOn 94 = .ok (.aload_n 0, 1) := by decide +kernel
theorem dX9_goOn_95 : decode cX9_goOn 95 = .ok (.getfield 152, 3) := by decide +kernel
theorem dX9_goOn_98 : decode cX9_goOn 98 = .ok (.putfield 199, 3) := by decide +kernel
theorem dX9_goOn_101 : decode cX9_goOn 101 = .ok (.aload_n 0, 1) := by decide +kernel
theorem dX9_goOn_102 : decode cX9_goOn 102 = .ok (.aload_n 0, 1) := by decide +kernel
theorem dX9_goOn_103 : decode cX9_goOn 103 = .ok (.getfield 152, 3) := by decide +kernel
theorem dX9_goOn_106 : decode cX9_goOn 106 = .ok (.putfield 196, 3) := by decide +kernel
theorem dX9_goOn_109 : decode cX9_goOn 109 = .ok (.goto 268, 3) := by decide +kernel
theorem dX9_goOn_377 : decode cX9_goOn 377 = .ok (.return_, 1) := by decide +kernel
set_option maxRecDepth 20000 in
theorem ggX9_mews_X9_clearBank : GoodIn wsX9_mews wsX9_clearBank := goodIn_r _ [16, 17, 9, 18, 11, 19, 20, 21, 22, 23, 230, 231, 232, 233, 234, 235, 236, 237, 238, 239, 240, 241, 242, 243, 244, 245, 246, 247, 248, 249, 250, 251, 252, 253, 254, 255, 256, 257, 258, 259, 260, 261, 262, 263, 264, 265, 266, 267, 268, 269, 270, 271, 272, 273, 274, 275, 276, 277, 278, 279, 280, 281, 282, 283, 284, 285, 286, 287, 288, 289, 290, 291, 292, 293, 294, 295, 296] (by decide +kernel) (by decide +kernel)
set_option maxRecDepth 20000 in
theorem gX9_mews_X9_clearBank : GoodIn wsX9_mews (wsV RX9 146 RX9 yX9_clearBank wsX9_clearBank) := goodIn_app (goodIn_of _ (by decide +kernel)) ggX9_mews_X9_clearBank
set_option maxRecDepth 20000 in
theorem ggX9_mews_X9_goOn : GoodIn wsX9_mews wsX9_goOn := goodIn_r _ [27, 7, 28, 4, 10, 29, 30, 31, 32, 33, 15, 34, 5, 35, 36, 37, 38, 39, 40, 41, 42, 43, 44, 45, 46, 47, 48, 49, 50, 51, 52, 53, 54, 55, 56, 57, 58, 59, 60, 61, 62, 63, 64, 65, 230, 231, 232, 233, 234, 235, 236, 237, 238, 239, 240, 241, 242, 243, 244, 245, 246, 247, 248, 249, 250, 251, 252, 253, 254, 255, 256, 257, 258, 259, 260, 261, 262, 263, 264, 265, 266, 267, 268, 269, 270, 271, 272, 273, 274, 275, 276, 277, 278, 279, 280, 281, 282, 283, 284, 285, 286, 287, 288, 289, 290, 291, 292, 293, 294, 295, 296] (by decide +kernel) (by decide +kernel)
set_option maxRecDepth 20000 in
theorem gX9_mews_X9_goOn : GoodIn wsX9_mews (wsV RX9 238 RX9 yX9_goOn wsX9_goOn) := goodIn_app (goodIn_of _ (by decide +kernel)) ggX9_mews_X9_goOn
set_option maxRecDepth 20000 in
theorem ggX9_mews_X9_isGood : GoodIn wsX9_mews wsX9_isGood := goodIn_r _ [69, 1, 230, 231, 232, 233, 234, 235, 236, 237, 238, 239, 240, 241, 242, 243, 244, 245, 246, 247, 248, 249, 250, 251, 252, 253, 254, 255, 256, 257, 258, 259, 260, 261, 262, 263, 264, 265, 266, 267, 268, 269, 270, 271, 272, 273, 274, 275, 276, 277, 278, 279, 280, 281, 282, 283, 284, 285, 286, 287, 288, 289, 290, 291, 292, 293, 294, 295, 296] (by decide +kernel) (by decide +kernel)
set_option maxRecDepth 20000 in
theorem gX9_mews_X9_isGood : GoodIn wsX9_mews (wsV RX9 234 RX9 yX9_isGood wsX9_isGood) := goodIn_app (goodIn_of _ (by decide +kernel)) ggX9_mews_X9_isGood
set_option maxRecDepth 20000 in
theorem ggX9_mews_X9_startAnew : GoodIn wsX9_mews wsX9_startAnew := goodIn_r _ [207, 208, 209, 210, 211, 212, 213, 214, 215, 15, 216, 217, 150, 8, 147, 149, 137, 21, 218, 219, 220, 221, 11, 222, 223, 224, 225, 18, 226, 227, 228, 229, 17, 230, 231, 232, 233, 234, 235, 236, 237, 238, 239, 240, 241, 242, 243, 244, 245, 246, 247, 248, 249, 250, 251, 252, 253, 254, 255, 256, 257, 258, 259, 260, 261, 262, 263, 264, 265, 266, 267, 268, 269, 270, 271, 272, 273, 274, 275, 276, 277, 278, 279, 280, 281, 282, 283, 284, 285, 286, 287, 288, 289, 290, 291, 292, 293, 294, 295, 296] (by decide +kernel) (by decide +kernel)
set_option maxRecDepth 20000 in
theorem gX9_mews_X9_startAnew : GoodIn wsX9_mews (wsV RX9 149 RX9 yX9_startAnew wsX9_startAnew) := goodIn_app (goodIn_of _ (by decide +kernel)) ggX9_mews_X9_startAnew
theorem dX9_mews_0 : decode cX9_mews 0 = .ok (.aload_n 0, 1) := by decide +kernel
theorem dX9_mews_1 : decode cX9_mews 1 = .ok (.iconst 0, 1) := by decide +kernel
theorem dX9_mews_2 : decode cX9_mews 2 = .ok (.putfield 155, 3) := by decide +kernel
theorem dX9_mews_5 : decode cX9_mews 5 = .ok (.aload_n 0, 1) := by decide +kernel
theorem dX9_mews_6 : decode cX9_mews 6 = .ok (.iconst (-1), 1) := by decide +kernel
theorem dX9_mews_7 : decode cX9_mews 7 = .ok (.putfield 16, 3) := by decide +kernel
theorem dX9_mews_10 : decode cX9_mews 10 = .ok (.aload_n 0, 1) := by decide +kernel
theorem dX9_mews_11 : decode cX9_mews 11 = .ok (.aload_n 0, 1) := by decide +kernel
theorem dX9_mews_12 : decode cX9_mews 12 = .ok (.getfield 265, 3) := by decide +kernel
theorem dX9_mews_15 : decode cX9_mews 15 = .ok (.putfield 152, 3) := by decide +kernel
theorem dX9_mews_18 : decode cX9_mews 18 = .ok (.iconst 0, 1) := by decide +kernel
theorem dX9_mews_19 : decode cX9_mews 19 = .ok (.istore_n 1, 1) := by decide +kernel
theorem dX9_mews_20 : decode cX9_mews 20 = .ok (.iload_n 1, 1) := by decide +kernel
theorem dX9_mews_21 : decode cX9_mews 21 = .ok (.aload_n 0, 1) := by decide +kernel
theorem dX9_mews_22 : decode cX9_mews 22 = .ok (.getfield 152, 3) := by decide +kernel
theorem dX9_mews_25 : decode cX9_mews 25 = .ok (.if_icmp .ge 21, 3) := by decide +kernel
theorem dX9_mews_46 : decode cX9_mews 46 = .ok (.aload_n 0, 1) := by decide +kernel
theorem dX9_mews_47 : decode cX9_mews 47 = .ok (.iconst 0, 1) := by decide +kernel
theorem dX9_mews_48 : decode cX9_mews 48 = .ok (.putfield 265, 3) := by decide +kernel
theorem dX9_mews_51 : decode cX9_mews 51 = .ok (.aload_n 0, 1) := by decide +kernel
theorem dX9_mews_52 : decode cX9_mews 52 = .ok (.iconst 0, 1) := by decide +kernel
theorem dX9_mews_53 : decode cX9_mews 53 = .ok (.putfield 196, 3) := by decide +kernel
theorem dX9_mews_56 : decode cX9_mews 56 = .ok (.aload_n 0, 1) := by decide +kernel
theorem dX9_mews_57 : decode cX9_mews 57 = .ok (.iconst 1, 1) := by decide +kernel
theorem dX9_mews_58 : decode cX9_mews 58 = .ok (.aload_n 0, 1) := by decide +kernel
theorem dX9_mews_59 : decode cX9_mews 59 = .ok (.getfield 268, 3) := by decide +kernel
theorem dX9_mews_62 : decode cX9_mews 62 = .ok (.isub, 1) := by decide +kernel
theorem dX9_mews_63 : decode cX9_mews 63 = .ok (.putfield 259, 3) := by decide +kernel
theorem dX9_mews_66 : decode cX9_mews 66 = .ok (.aload_n 0, 1) := by decide +kernel
theorem dX9_mews_67 : decode cX9_mews 67 = .ok (.invokevirtual 146, 3) := by decide +kernel
theorem dX9_mews_70 : decode cX9_mews 70 = .ok (.aload_n 0, 1) := by decide +kernel
theorem dX9_mews_71 : decode cX9_mews 71 = .ok (.invokevirtual 238, 3) := by decide +kernel
theorem dX9_mews_74 : decode cX9_mews 74 = .ok (.aload_n 0, 1) := by decide +kernel
theorem dX9_mews_75 : decode cX9_mews 75 = .ok (.invokevirtual 234, 3) := by decide +kernel
theorem dX9_mews_78 : decode cX9_mews 78 = .ok (.ifCond .eq 17, 3) := by decide +kernel
theorem dX9_mews_81 : decode cX9_mews 81 = .ok (.aload_n 0, 1) := by decide +kernel
theorem dX9_mews_82 : decode cX9_mews 82 = .ok (.getfield 206, 3) := by decide +kernel
theorem dX9_mews_85 : decode cX9_mews 85 = .ok (.ifCond .eq 10, 3) := by decide +kernel
theorem dX9_mews_95 : decode cX9_mews 95 = .ok (.aload_n 0, 1) := by decide +kernel
theorem dX9_mews_96 : decode cX9_mews 96 = .ok (.invokevirtual 234, 3) := by decide +kernel
theorem dX9_mews_99 : decode cX9_mews 99 = .ok (.ifCond .ne 5, 3) := by decide +kernel
theorem dX9_mews_104 : decode cX9_mews 104 = .ok (.aload_n 0, 1) := by decide +kernel
theorem dX9_mews_105 : decode cX9_mews 105 = .ok (.aload_n 0, 1) := by decide +kernel
theorem dX9_mews_106 : decode cX9_mews 106 = .ok (.getfield 259, 3) := by decide +kernel
theorem dX9_mews_109 : decode cX9_mews 109 = .ok (.putfield 268, 3) := by decide +kernel
theorem dX9_mews_112 : decode cX9_mews 112 = .ok (.aload_n 0, 1) := by decide +kernel
theorem dX9_mews_113 : decode cX9_mews 113 = .ok (.invokevirtual 149, 3) := by decide +kernel
theorem dX9_mews_116 : decode cX9_mews 116 = .ok (.aload_n 0, 1) := by decide +kernel
theorem dX9_mews_117 : decode cX9_mews 117 = .ok (.getfield 27, 3) := by decide +kernel
theorem dX9_mews_120 : decode cX9_mews 120 = .ok (.aload_n 0, 1) := by decide +kernel
theorem dX9_mews_121 : decode cX9_mews 121 = .ok (.getfield 268, 3) := by decide +kernel
theorem dX9_mews_124 : decode cX9_mews 124 = .ok (.iaload, 1) := by decide +kernel
theorem dX9_mews_125 : decode cX9_mews 125 = .ok (.ireturn, 1) := by decide +kernel
set_option maxRecDepth 20000 in
theorem ggX9_goDie_X9_chambers : GoodIn wsX9_goDie wsX9_chambers := goodIn_r _ [6, 7, 8, 29, 30, 31, 32, 33, 34, 35, 36, 37, 38, 39, 40, 41, 42, 43, 44, 45, 46, 47, 48, 49, 50, 51, 52, 53, 54, 55, 56, 57, 58, 59, 60, 61, 62, 63, 64, 65, 66, 67, 68, 69, 70, 71, 72, 73, 74, 75, 76, 77, 78, 79, 80, 81, 82, 83, 84, 85, 86, 87, 88, 89, 90, 91, 92, 93, 94, 95] (by decide +kernel) (by decide +kernel)
set_option maxRecDepth 20000 in
theorem gX9_goDie_X9_chambers : GoodIn wsX9_goDie (wsV RX9 383 RX9 yX9_chambers wsX9_chambers) := goodIn_app (goodIn_of _ (by decide +kernel)) ggX9_goDie_X9_chambers
theorem dX9_goDie_0 : decode cX9_goDie 0 = .ok (.iconst 0, 1) := by decide +kernel
theorem dX9_goDie_1 : decode cX9_goDie 1 = .ok (.istore_n 2, 1) := by decide +kernel
theorem dX9_goDie_2 : decode cX9_goDie 2 = .ok (.iload_n 2, 1) := by decide +kernel
theorem dX9_goDie_3 : decode cX9_goDie 3 = .ok (.aload_n 0, 1) := by decide +kernel
theorem dX9_goDie_4 : decode cX9_goDie 4 = .ok (.invokevirtual 383, 3) := by decide +kernel
theorem dX9_goDie_7 : decode cX9_goDie 7 = .ok (.if_icmp .ge 24, 3) := by decide +kernel
theorem dX9_goDie_31 : decode cX9_goDie 31 = .ok (.aload_n 0, 1) := by decide +kernel
theorem dX9_goDie_32 : decode cX9_goDie 32 = .ok (.getfield 94, 3) := by decide +kernel
theorem dX9_goDie_35 : decode cX9_goDie 35 = .ok (.bipush 36, 2) := by decide +kernel
theorem dX9_goDie_37 : decode cX9_goDie 37 = .ok (.dup2, 1) := by decide +kernel
theorem dX9_goDie_38 : decode cX9_goDie 38 = .ok (.iaload, 1) := by decide +kernel
theorem dX9_goDie_39 : decode cX9_goDie 39 = .ok (.iload_n 1, 1) := by decide +kernel
theorem dX9_goDie_40 : decode cX9_goDie 40 = .ok (.iconst (-1), 1) := by decide +kernel
theorem dX9_goDie_41 : decode cX9_goDie 41 = .ok (.ixor, 1) := by decide +kernel
theorem dX9_goDie_42 : decode cX9_goDie 42 = .ok (.iand, 1) := by decide +kernel
theorem dX9_goDie_43 : decode cX9_goDie 43 = .ok (.iastore, 1) := by decide +kernel
theorem dX9_goDie_44 : decode cX9_goDie 44 = .ok (.return_, 1) := by decide +kernel
set_option maxRecDepth 20000 in
theorem ggX9_goQuarter_X9_thrown : GoodIn wsX9_goQuarter wsX9_thrown := goodIn_r _ [6, 7, 8, 9, 5, 10, 11, 12, 13, 14, 15, 16, 1, 17, 18, 19, 20, 21, 22, 23, 24, 25, 26, 27, 28, 29, 30, 31, 32, 33, 34, 35, 36, 37, 38, 39, 40, 41, 42, 43, 44, 45, 46, 47, 48, 49, 50, 51, 52, 53, 54, 55, 56, 57, 58, 59, 60, 61, 62, 63, 64, 65, 66, 67, 68, 69, 70, 71, 72, 73, 74, 75, 76, 77, 78, 79, 80, 81, 82, 83, 84, 85, 86, 87, 88, 89, 90, 91, 92, 93, 94, 95, 96, 101, 102, 103, 104, 105, 106, 107, 108, 109, 110, 111, 112, 113, 114, 115, 116, 117, 118, 119, 120, 121, 122, 123, 124, 125, 126, 127, 128, 129, 130, 131, 132, 133, 134, 135, 136, 137, 138, 139, 140, 141, 142, 143, 144, 145, 146, 147, 148, 149, 150, 151, 152, 153, 154, 155, 156, 157, 158, 159, 160, 161, 162, 163, 164, 165, 166, 167] (by decide +kernel) (by decide +kernel)
set_option maxRecDepth 20000 in
theorem gX9_goQuarter_X9_thrown : GoodIn wsX9_goQuarter (wsV RX9 443 RX9 yX9_thrown wsX9_thrown) := goodIn_app (goodIn_of _ (by decide +kernel)) ggX9_goQuarter_X9_thrown
set_option maxRecDepth 20000 in
theorem ggX9_goQuarter_X9_many : GoodIn wsX9_goQuarter wsX9_many := goodIn_r _ [10, 11, 12, 101, 102, 103, 104, 105, 106, 107, 108, 109, 110, 111, 112, 113, 114, 115, 116, 117, 118, 119, 120, 121, 122, 123, 124, 125, 126, 127, 128, 129, 130, 131, 132, 133, 134, 135, 136, 137, 138, 139, 140, 141, 142, 143, 144, 145, 146, 147, 148, 149, 150, 151, 152, 153, 154, 155, 156, 157, 158, 159, 160, 161, 162, 163, 164, 165, 166, 167] (by decide +kernel) (by decide +kernel)
set_option maxRecDepth 20000 in
theorem gX9_goQuarter_X9_many : GoodIn wsX9_goQuarter (wsV RX9 373 RX9 yX9_many wsX9_many) := goodIn_app (goodIn_of _ (by decide +kernel)) ggX9_goQuarter_X9_many
theorem dX9_goQuarter_0 : decode cX9_goQuarter 0 = .ok (.aload_n 0, 1) := by decide +kernel
theorem dX9_goQuarter_1 : decode cX9_goQuarter 1 = .ok (.invokevirtual 443, 3) := by decide +kernel
theorem dX9_goQuarter_4 : decode cX9_goQuarter 4 = .ok (.istore_n 1, 1) := by decide +kernel
theorem dX9_goQuarter_5 : decode cX9_goQuarter 5 = .ok (.iconst 0, 1) := by decide +kernel
theorem dX9_goQuarter_6 : decode cX9_goQuarter 6 = .ok (.istore_n 2, 1) := by decide +kernel
theorem dX9_goQuarter_7 : decode cX9_goQuarter 7 = .ok (.iload_n 2, 1) := by decide +kernel
theorem dX9_goQuarter_8 : decode cX9_goQuarter 8 = .ok (.aload_n 0, 1) := by decide +kernel
theorem dX9_goQuarter_9 : decode cX9_goQuarter 9 = .ok (.invokevirtual 373, 3) := by decide +kernel
theorem dX9_goQuarter_12 : decode cX9_goQuarter 12 = .ok (.if_icmp .ge 61, 3) := by decide +kernel
theorem dX9_goQuarter_73 : decode cX9_goQuarter 73 = .ok (.aload_n 0, 1) := by decide +kernel
theorem dX9_goQuarter_74 : decode cX9_goQuarter 74 = .ok (.getfield 94, 3) := by decide +kernel
theorem dX9_goQuarter_77 : decode cX9_goQuarter 77 = .ok (.bipush 37, 2) := by decide +kernel
theorem dX9_goQuarter_79 : decode cX9_goQuarter 79 = .ok (.dup2, 1) := by decide +kernel
theorem dX9_goQuarter_80 : decode cX9_goQuarter 80 = .ok (.iaload, 1) := by decide +kernel
theorem dX9_goQuarter_81 : decode cX9_goQuarter 81 = .ok (.iconst 1, 1) := by decide +kernel
theorem dX9_goQuarter_82 : decode cX9_goQuarter 82 = .ok (.iadd, 1) := by decide +kernel
theorem dX9_goQuarter_83 : decode cX9_goQuarter 83 = .ok (.iastore, 1) := by decide +kernel
theorem dX9_goQuarter_84 : decode cX9_goQuarter 84 = .ok (.iload_n 1, 1) := by decide +kernel
theorem dX9_goQuarter_85 : decode cX9_goQuarter 85 = .ok (.ireturn, 1) := by decide +kernel
set_option maxRecDepth 20000 in
theorem ggX9_goInEarnest_X9_goQuarter : GoodIn wsX9_goInEarnest wsX9_goQuarter := goodIn_r _ [8, 1, 9, 10, 11, 7, 12, 13, 14, 15, 16, 17, 3, 18, 19, 20, 21, 22, 23, 24, 25, 26, 27, 28, 29, 30, 31, 32, 33, 34, 35, 36, 37, 38, 39, 40, 41, 42, 43, 44, 45, 46, 47, 48, 49, 50, 51, 52, 53, 54, 55, 56, 57, 58, 59, 60, 61, 62, 63, 64, 65, 66, 67, 68, 69, 70, 71, 72, 73, 74, 75, 76, 77, 78, 79, 80, 81, 82, 83, 84, 85, 86, 87, 88, 89, 90, 91, 92, 93, 94, 95, 96, 97, 98, 99, 100, 101, 102, 103, 104, 105, 123, 124, 125, 126, 127, 128, 129, 130, 131, 132, 133, 134, 135, 136, 137, 138, 139, 140, 141, 142, 143, 144, 145, 146, 147, 148, 149, 150, 151, 152, 153, 154, 155, 156, 157, 158, 159, 160, 161, 162, 163, 164, 165, 166, 167, 168, 169, 170, 171, 172, 173, 174, 175, 176, 177, 178, 179, 180, 181, 182, 183, 184, 185, 186, 187, 188, 189] (by decide +kernel) (by decide +kernel)
set_option maxRecDepth 20000 in
theorem gX9_goInEarnest_X9_goQuarter : GoodIn wsX9_goInEarnest (wsV RX9 450 RX9 yX9_goQuarter wsX9_goQuarter) := goodIn_app (goodIn_of _ (by decide +kernel)) ggX9_goInEarnest_X9_goQuarter
set_option maxRecDepth 20000 in
theorem ggX9_goInEarnest_X9_cattery : GoodIn wsX9_goInEarnest wsX9_cattery := goodIn_r _ [66, 67, 3, 123, 124, 125, 126, 127, 128, 129, 130, 131, 132, 133, 134, 135, 136, 137, 138, 139, 140, 141, 142, 143, 144, 145, 146, 147, 148, 149, 150, 151, 152, 153, 154, 155, 156, 157, 158, 159, 160, 161, 162, 163, 164, 165, 166, 167, 168, 169, 170, 171, 172, 173, 174, 175, 176, 177, 178, 179, 180, 181, 182, 183, 184, 185, 186, 187, 188, 189] (by decide +kernel) (by decide +kernel)
set_option maxRecDepth 20000 in
theorem gX9_goInEarnest_X9_cattery : GoodIn wsX9_goInEarnest (wsV RX9 380 RX9 yX9_cattery wsX9_cattery) := goodIn_app (goodIn_of _ (by decide +kernel)) ggX9_goInEarnest_X9_cattery
set_option maxRecDepth 20000 in
theorem ggX9_goInEarnest_X9_goDie : GoodIn wsX9_goInEarnest wsX9_goDie := goodIn_r _ [113, 1, 72, 73, 74, 7, 75, 76, 3, 114, 115, 116, 117, 33, 34, 35, 36, 80, 81, 82, 118, 119, 120, 121, 122, 106, 107, 108, 109, 123, 124, 125, 126, 127, 128, 129, 130, 131, 132, 133, 134, 135, 136, 137, 138, 139, 140, 141, 142, 143, 144, 145, 146, 147, 148, 149, 150, 151, 152, 153, 154, 155, 156, 157, 158, 159, 160, 161, 162, 163, 164, 165, 166, 167, 168, 169, 170, 171, 172, 173, 174, 175, 176, 177, 178, 179, 180, 181, 182, 183, 184, 185, 186, 187, 188, 189] (by decide +kernel) (by decide +kernel)
set_option maxRecDepth 20000 in
theorem gX9_goInEarnest_X9_goDie : GoodIn wsX9_goInEarnest (wsV RX9 453 RX9 yX9_goDie wsX9_goDie) := goodIn_app (goodIn_of _ (by decide +kernel)) ggX9_goInEarnest_X9_goDie
theorem dX9_goInEarnest_0 : decode cX9_goInEarnest 0 = .ok (.aload_n 0, 1) := by decide +kernel
theorem dX9_goInEarnest_1 : decode cX9_goInEarnest 1 = .ok (.invokevirtual 450, 3) := by decide +kernel
theorem dX9_goInEarnest_4 : decode cX9_goInEarnest 4 = .ok (.istore_n 1, 1) := by decide +kernel
theorem dX9_goInEarnest_5 : decode cX9_goInEarnest 5 = .ok (.iconst 0, 1) := by decide +kernel
theorem dX9_goInEarnest_6 : decode cX9_goInEarnest 6 = .ok (.istore_n 2, 1) := by decide +kernel
theorem dX9_goInEarnest_7 : decode cX9_goInEarnest 7 = .ok (.iconst 0, 1) := by decide +kernel
theorem dX9_goInEarnest_8 : decode cX9_goInEarnest 8 = .ok (.istore_n 3, 1) := by decide +kernel
theorem dX9_goInEarnest_9 : decode cX9_goInEarnest 9 = .ok (.iload_n 3, 1) := by decide +kernel
theorem dX9_goInEarnest_10 : decode cX9_goInEarnest 10 = .ok (.aload_n 0, 1) := by decide +kernel
theorem dX9_goInEarnest_11 : decode cX9_goInEarnest 11 = .ok (.invokevirtual 380, 3) := by decide +kernel
theorem dX9_goInEarnest_14 : decode cX9_goInEarnest 14 = .ok (.if_icmp .ge 73, 3) := by decide +kernel
theorem dX9_goInEarnest_87 : decode cX9_goInEarnest 87 = .ok (.aload_n 0, 1) := by decide +kernel
theorem dX9_goInEarnest_88 : decode cX9_goInEarnest 88 = .ok (.iload_n 2, 1) := by decide +kernel
theorem dX9_goInEarnest_89 : decode cX9_goInEarnest 89 = .ok (.invokevirtual 453, 3) := by decide +kernel
theorem dX9_goInEarnest_92 : decode cX9_goInEarnest 92 = .ok (.iload_n 1, 1) := by decide +kernel
theorem dX9_goInEarnest_93 : decode cX9_goInEarnest 93 = .ok (.ireturn, 1) := by decide +kernel
theorem dX9_keepAct_0 : decode cX9_keepAct 0 = .ok (.aload_n 0, 1) := by decide +kernel
theorem dX9_keepAct_1 : decode cX9_keepAct 1 = .ok (.getfield 398, 3) := by decide +kernel
theorem dX9_keepAct_4 : decode cX9_keepAct 4 = .ok (.bipush 40, 2) := by decide +kernel
theorem dX9_keepAct_6 : decode cX9_keepAct 6 = .ok (.if_icmp .ne 43, 3) := by decide +kernel
theorem dX9_keepAct_49 : decode cX9_keepAct 49 = .ok (.iconst 0, 1) := by decide +kernel
theorem dX9_keepAct_50 : decode cX9_keepAct 50 = .ok (.istore_n 1, 1) := by decide +kernel
theorem dX9_keepAct_51 : decode cX9_keepAct 51 = .ok (.iload_n 1, 1) := by decide +kernel
theorem dX9_keepAct_52 : decode cX9_keepAct 52 = .ok (.bipush 39, 2) := by decide +kernel
theorem dX9_keepAct_54 : decode cX9_keepAct 54 = .ok (.if_icmp .ge 29, 3) := by decide +kernel
theorem dX9_keepAct_57 : decode cX9_keepAct 57 = .ok (.aload_n 0, 1) := by decide +kernel
theorem dX9_keepAct_58 : decode cX9_keepAct 58 = .ok (.getfield 106, 3) := by decide +kernel
theorem dX9_keepAct_61 : decode cX9_keepAct 61 = .ok (.bipush 39, 2) := by decide +kernel
theorem dX9_keepAct_63 : decode cX9_keepAct 63 = .ok (.aload_n 0, 1) := by decide +kernel
theorem dX9_keepAct_64 : decode cX9_keepAct 64 = .ok (.getfield 398, 3) := by decide +kernel
theorem dX9_keepAct_67 : decode cX9_keepAct 67 = .ok (.imul, 1) := by decide +kernel
theorem dX9_keepAct_68 : decode cX9_keepAct 68 = .ok (.iload_n 1, 1) := by decide +kernel
theorem dX9_keepAct_69 : decode cX9_keepAct 69 = .ok (.iadd, 1) := by decide +kernel
theorem dX9_keepAct_70 : decode cX9_keepAct 70 = .ok (.aload_n 0, 1) := by decide +kernel
theorem dX9_keepAct_71 : decode cX9_keepAct 71 = .ok (.getfield 94, 3) := by decide +kernel
theorem dX9_keepAct_74 : decode cX9_keepAct 74 = .ok (.iload_n 1, 1) := by decide +kernel
theorem dX9_keepAct_75 : decode cX9_keepAct 75 = .ok (.iaload, 1) := by decide +kernel
theorem dX9_keepAct_76 : decode cX9_keepAct 76 = .ok (.iastore, 1) := by decide +kernel
theorem dX9_keepAct_77 : decode cX9_keepAct 77 = .ok (.iinc 1 1, 3) := by decide +kernel
theorem dX9_keepAct_80 : decode cX9_keepAct 80 = .ok (.goto (-29), 3) := by decide +kernel
theorem dX9_keepAct_83 : decode cX9_keepAct 83 = .ok (.aload_n 0, 1) := by decide +kernel
theorem dX9_keepAct_84 : decode cX9_keepAct 84 = .ok (.dup, 1) := by decide +kernel
theorem dX9_keepAct_85 : decode cX9_keepAct 85 = .ok (.getfield 398, 3) := by decide +kernel
theorem dX9_keepAct_88 : decode cX9_keepAct 88 = .ok (.iconst 1, 1) := by decide +kernel
theorem dX9_keepAct_89 : decode cX9_keepAct 89 = .ok (.iadd, 1) := by decide +kernel
theorem dX9_keepAct_90 : decode cX9_keepAct 90 = .ok (.putfield 398, 3) := by decide +kernel
theorem dX9_keepAct_93 : decode cX9_keepAct 93 = .ok (.aload_n 0, 1) := by decide +kernel
theorem dX9_keepAct_94 : decode cX9_keepAct 94 = .ok (.iconst 0, 1) := by decide +kernel
theorem dX9_keepAct_95 : decode cX9_keepAct 95 = .ok (.putfield 401, 3) := by decide +kernel
theorem dX9_keepAct_98 : decode cX9_keepAct 98 = .ok (.return_, 1) := by decide +kernel
set_option maxRecDepth 20000 in
theorem ggX9_quarter_X9_keepAct : GoodIn wsX9_quarter wsX9_keepAct := goodIn_r _ [6, 7, 8, 1, 9, 134, 135, 136, 137, 138, 139, 140, 141, 142, 143, 144, 145, 146, 147, 148, 149, 150, 151, 152, 153, 154, 155, 156, 157, 158, 159, 160, 161, 162, 163, 164, 165, 166, 167, 168, 169, 170, 171, 172, 173, 174, 175, 176, 177, 178, 179, 180, 181, 182, 183, 184, 185, 186, 187, 188, 189, 190, 191, 192, 193, 194, 195, 196, 197, 198, 199, 200] (by decide +kernel) (by decide +kernel)
set_option maxRecDepth 20000 in
theorem gX9_quarter_X9_keepAct : GoodIn wsX9_quarter (wsV RX9 473 RX9 yX9_keepAct wsX9_keepAct) := goodIn_app (goodIn_of _ (by decide +kernel)) ggX9_quarter_X9_keepAct
set_option maxRecDepth 20000 in
theorem ggX9_quarter_X9_goInEarnest : GoodIn wsX9_quarter wsX9_goInEarnest := goodIn_r _ [13, 1, 14, 15, 16, 17, 18, 5, 19, 20, 21, 22, 23, 24, 25, 26, 27, 28, 29, 30, 31, 32, 33, 34, 35, 36, 37, 38, 39, 40, 41, 42, 43, 44, 45, 46, 47, 48, 49, 50, 51, 52, 53, 54, 55, 56, 57, 58, 59, 60, 61, 62, 63, 64, 65, 66, 67, 68, 69, 70, 71, 72, 73, 74, 75, 76, 77, 78, 79, 80, 81, 82, 83, 84, 85, 86, 87, 88, 89, 90, 91, 92, 93, 94, 95, 96, 97, 98, 99, 100, 101, 102, 103, 104, 105, 106, 107, 108, 109, 110, 111, 112, 113, 114, 115, 116, 117, 118, 119, 120, 121, 122, 123, 124, 125, 126, 127, 128, 129, 130, 131, 132, 133, 134, 135, 136, 137, 138, 139, 140, 141, 142, 143, 144, 145, 146, 147, 148, 149, 150, 151, 152, 153, 154, 155, 156, 157, 158, 159, 160, 161, 162, 163, 164, 165, 166, 167, 168, 169, 170, 171, 172, 173, 174, 175, 176, 177, 178, 179, 180, 181, 182, 183, 184, 185, 186, 187, 188, 189, 190, 191, 192, 193, 194, 195, 196, 197, 198, 199, 200] (by decide +kernel) (by decide +kernel)
set_option maxRecDepth 20000 in
theorem gX9_quarter_X9_goInEarnest : GoodIn wsX9_quarter (wsV RX9 476 RX9 yX9_goInEarnest wsX9_goInEarnest) := goodIn_app (goodIn_of _ (by decide +kernel)) ggX9_quarter_X9_goInEarnest
theorem dX9_quarter_0 : decode cX9_quarter 0 = .ok (.aload_n 0, 1) := by decide +kernel
theorem dX9_quarter_1 : decode cX9_quarter 1 = .ok (.getfield 94, 3) := by decide +kernel
theorem dX9_quarter_4 : decode cX9_quarter 4 = .ok (.bipush 37, 2) := by decide +kernel
theorem dX9_quarter_6 : decode cX9_quarter 6 = .ok (.iaload, 1) := by decide +kernel
theorem dX9_quarter_7 : decode cX9_quarter 7 = .ok (.sipush 999, 3) := by decide +kernel
theorem dX9_quarter_10 : decode cX9_quarter 10 = .ok (.if_icmp .ne 5, 3) := by decide +kernel
theorem dX9_quarter_15 : decode cX9_quarter 15 = .ok (.aload_n 0, 1) := by decide +kernel
theorem dX9_quarter_16 : decode cX9_quarter 16 = .ok (.invokevirtual 473, 3) := by decide +kernel
theorem dX9_quarter_19 : decode cX9_quarter 19 = .ok (.aload_n 0, 1) := by decide +kernel
theorem dX9_quarter_20 : decode cX9_quarter 20 = .ok (.invokevirtual 476, 3) := by decide +kernel
theorem dX9_quarter_23 : decode cX9_quarter 23 = .ok (.ireturn, 1) := by decide +kernel
theorem dX9_isAhead_0 : decode cX9_isAhead 0 = .ok (.iload_n 0, 1) := by decide +kernel
theorem dX9_isAhead_1 : decode cX9_isAhead 1 = .ok (.ifCond .lt 13, 3) := by decide +kernel
theorem dX9_isAhead_4 : decode cX9_isAhead 4 = .ok (.iload_n 0, 1) := by decide +kernel
theorem dX9_isAhead_5 : decode cX9_isAhead 5 = .ok (.bipush 60, 2) := by decide +kernel
theorem dX9_isAhead_7 : decode cX9_isAhead 7 = .ok (.if_icmp .gt 7, 3) := by decide +kernel
theorem dX9_isAhead_10 : decode cX9_isAhead 10 = .ok (.iconst 1, 1) := by decide +kernel
theorem dX9_isAhead_11 : decode cX9_isAhead 11 = .ok (.goto 4, 3) := by decide +kernel
theorem dX9_isAhead_14 : decode cX9_isAhead 14 = .ok (.iconst 0, 1) := by decide +kernel
theorem dX9_isAhead_15 : decode cX9_isAhead 15 = .ok (.ireturn, 1) := by decide +kernel
theorem dX9_keepNow_0 : decode cX9_keepNow 0 = .ok (.iconst 0, 1) := by decide +kernel
theorem dX9_keepNow_1 : decode cX9_keepNow 1 = .ok (.istore_n 1, 1) := by decide +kernel
theorem dX9_keepNow_2 : decode cX9_keepNow 2 = .ok (.iload_n 1, 1) := by decide +kernel
theorem dX9_keepNow_3 : decode cX9_keepNow 3 = .ok (.bipush 39, 2) := by decide +kernel
theorem dX9_keepNow_5 : decode cX9_keepNow 5 = .ok (.if_icmp .ge 21, 3) := by decide +kernel
theorem dX9_keepNow_8 : decode cX9_keepNow 8 = .ok (.aload_n 0, 1) := by decide +kernel
theorem dX9_keepNow_9 : decode cX9_keepNow 9 = .ok (.getfield 109, 3) := by decide +kernel
theorem dX9_keepNow_12 : decode cX9_keepNow 12 = .ok (.iload_n 1, 1) := by decide +kernel
theorem dX9_keepNow_13 : decode cX9_keepNow 13 = .ok (.aload_n 0, 1) := by decide +kernel
theorem dX9_keepNow_14 : decode cX9_keepNow 14 = .ok (.getfield 94, 3) := by decide +kernel
theorem dX9_keepNow_17 : decode cX9_keepNow 17 = .ok (.iload_n 1, 1) := by decide +kernel
theorem dX9_keepNow_18 : decode cX9_keepNow 18 = .ok (.iaload, 1) := by decide +kernel
theorem dX9_keepNow_19 : decode cX9_keepNow 19 = .ok (.iastore, 1) := by decide +kernel
theorem dX9_keepNow_20 : decode cX9_keepNow 20 = .ok (.iinc 1 1, 3) := by decide +kernel
theorem dX9_keepNow_23 : decode cX9_keepNow 23 = .ok (.goto (-21), 3) := by decide +kernel
theorem dX9_keepNow_26 : decode cX9_keepNow 26 = .ok (.return_, 1) := by decide +kernel
theorem dX9_bringBack_0 : decode cX9_bringBack 0 = .ok (.iconst 0, 1) := by decide +kernel
theorem dX9_bringBack_1 : decode cX9_bringBack 1 = .ok (.istore_n 1, 1) := by decide +kernel
theorem dX9_bringBack_2 : decode cX9_bringBack 2 = .ok (.iload_n 1, 1) := by decide +kernel
theorem dX9_bringBack_3 : decode cX9_bringBack 3 = .ok (.bipush 39, 2) := by decide +kernel
theorem dX9_bringBack_5 : decode cX9_bringBack 5 = .ok (.if_icmp .ge 21, 3) := by decide +kernel
theorem dX9_bringBack_8 : decode cX9_bringBack 8 = .ok (.aload_n 0, 1) := by decide +kernel
theorem dX9_bringBack_9 : decode cX9_bringBack 9 = .ok (.getfield 94, 3) := by decide +kernel
theorem dX9_bringBack_12 : decode cX9_bringBack 12 = .ok (.iload_n 1, 1) := by decide +kernel
theorem dX9_bringBack_13 : decode cX9_bringBack 13 = .ok (.aload_n 0, 1) := by decide +kernel
theorem dX9_bringBack_14 : decode cX9_bringBack 14 = .ok (.getfield 109, 3) := by decide +kernel
theorem dX9_bringBack_17 : decode cX9_bringBack 17 = .ok (.iload_n 1, 1) := by decide +kernel
theorem dX9_bringBack_18 : decode cX9_bringBack 18 = .ok (.iaload, 1) := by decide +kernel
theorem dX9_bringBack_19 : decode cX9_bringBack 19 = .ok (.iastore, 1) := by decide +kernel
theorem dX9_bringBack_20 : decode cX9_bringBack 20 = .ok (.iinc 1 1, 3) := by decide +kernel
theorem dX9_bringBack_23 : decode cX9_bringBack 23 = .ok (.goto (-21), 3) := by decide +kernel
theorem dX9_bringBack_26 : decode cX9_bringBack 26 = .ok (.return_, 1) := by decide +kernel
set_option maxRecDepth 20000 in
theorem ggX9_outAfter_X9_goQuarter : GoodIn wsX9_outAfter wsX9_goQuarter := goodIn_r _ [5, 6, 7, 8, 9, 4, 10, 11, 12, 13, 14, 15, 16, 17, 18, 19, 20, 21, 22, 23, 24, 25, 26, 27, 28, 29, 30, 31, 32, 33, 34, 35, 36, 37, 38, 39, 40, 41, 42, 43, 44, 45, 46, 47, 48, 49, 50, 51, 52, 53, 54, 55, 56, 57, 58, 59, 60, 61, 62, 63, 64, 65, 66, 67, 68, 69, 70, 71, 72, 73, 74, 75, 76, 77, 78, 79, 80, 81, 82, 83, 84, 85, 86, 87, 88, 89, 90, 91, 92, 93, 94, 95, 96, 97, 98, 99, 100, 101, 102, 103, 104, 110, 111, 112, 113, 114, 115, 116, 117, 118, 119, 120, 121, 122, 123, 124, 125, 126, 127, 128, 129, 130, 131, 132, 133, 134, 135, 136, 137, 138, 139, 140, 141, 142, 143, 144, 145, 146, 147, 148, 149, 150, 151, 152, 153, 154, 155, 156, 157, 158, 159, 160, 161, 162, 163, 164, 165, 166, 167, 168, 169, 170, 171, 172, 173, 174, 175, 176] (by decide +kernel) (by decide +kernel)
set_option maxRecDepth 20000 in
theorem gX9_outAfter_X9_goQuarter : GoodIn wsX9_outAfter (wsV RX9 450 RX9 yX9_goQuarter wsX9_goQuarter) := goodIn_app (goodIn_of _ (by decide +kernel)) ggX9_outAfter_X9_goQuarter
set_option maxRecDepth 20000 in
theorem ggX9_outAfter_X9_many : GoodIn wsX9_outAfter wsX9_many := goodIn_r _ [14, 15, 16, 110, 111, 112, 113, 114, 115, 116, 117, 118, 119, 120, 121, 122, 123, 124, 125, 126, 127, 128, 129, 130, 131, 132, 133, 134, 135, 136, 137, 138, 139, 140, 141, 142, 143, 144, 145, 146, 147, 148, 149, 150, 151, 152, 153, 154, 155, 156, 157, 158, 159, 160, 161, 162, 163, 164, 165, 166, 167, 168, 169, 170, 171, 172, 173, 174, 175, 176] (by decide +kernel) (by decide +kernel)
set_option maxRecDepth 20000 in
theorem gX9_outAfter_X9_many : GoodIn wsX9_outAfter (wsV RX9 373 RX9 yX9_many wsX9_many) := goodIn_app (goodIn_of _ (by decide +kernel)) ggX9_outAfter_X9_many
set_option maxRecDepth 20000 in
theorem ggX9_outAfter_X9_bringBack : GoodIn wsX9_outAfter wsX9_bringBack := goodIn_r _ [108, 6, 109, 110, 111, 112, 113, 114, 115, 116, 117, 118, 119, 120, 121, 122, 123, 124, 125, 126, 127, 128, 129, 130, 131, 132, 133, 134, 135, 136, 137, 138, 139, 140, 141, 142, 143, 144, 145, 146, 147, 148, 149, 150, 151, 152, 153, 154, 155, 156, 157, 158, 159, 160, 161, 162, 163, 164, 165, 166, 167, 168, 169, 170, 171, 172, 173, 174, 175, 176] (by decide +kernel) (by decide +kernel)
set_option maxRecDepth 20000 in
theorem gX9_outAfter_X9_bringBack : GoodIn wsX9_outAfter (wsV RX9 494 RX9 yX9_bringBack wsX9_bringBack) := goodIn_app (goodIn_of _ (by decide +kernel)) ggX9_outAfter_X9_bringBack
theorem dX9_outAfter_0 : decode cX9_outAfter 0 = .ok (.iconst 0, 1) := by decide +kernel
theorem dX9_outAfter_1 : decode cX9_outAfter 1 = .ok (.istore_n 2, 1) := by decide +kernel
theorem dX9_outAfter_2 : decode cX9_outAfter 2 = .ok (.iload_n 2, 1) := by decide +kernel
theorem dX9_outAfter_3 : decode cX9_outAfter 3 = .ok (.iload_n 1, 1) := by decide +kernel
theorem dX9_outAfter_4 : decode cX9_outAfter 4 = .ok (.if_icmp .ge 14, 3) := by decide +kernel
theorem dX9_outAfter_7 : decode cX9_outAfter 7 = .ok (.aload_n 0, 1) := by decide +kernel
theorem dX9_outAfter_8 : decode cX9_outAfter 8 = .ok (.invokevirtual 450, 3) := by decide +kernel
theorem dX9_outAfter_11 : decode cX9_outAfter 11 = .ok (.istore_n 3, 1) := by decide +kernel
theorem dX9_outAfter_12 : decode cX9_outAfter 12 = .ok (.iinc 2 1, 3) := by decide +kernel
theorem dX9_outAfter_15 : decode cX9_outAfter 15 = .ok (.goto (-13), 3) := by decide +kernel
theorem dX9_outAfter_18 : decode cX9_outAfter 18 = .ok (.iconst 0, 1) := by decide +kernel
theorem dX9_outAfter_19 : decode cX9_outAfter 19 = .ok (.istore_n 2, 1) := by decide +kernel
theorem dX9_outAfter_20 : decode cX9_outAfter 20 = .ok (.iconst 0, 1) := by decide +kernel
theorem dX9_outAfter_21 : decode cX9_outAfter 21 = .ok (.istore_n 3, 1) := by decide +kernel
theorem dX9_outAfter_22 : decode cX9_outAfter 22 = .ok (.iload_n 3, 1) := by decide +kernel
theorem dX9_outAfter_23 : decode cX9_outAfter 23 = .ok (.aload_n 0, 1) := by decide +kernel
theorem dX9_outAfter_24 : decode cX9_outAfter 24 = .ok (.invokevirtual 373, 3) := by decide +kernel
theorem dX9_outAfter_27 : decode cX9_outAfter 27 = .ok (.if_icmp .ge 25, 3) := by decide +kernel
theorem dX9_outAfter_52 : decode cX9_outAfter 52 = .ok (.aload_n 0, 1) := by decide +kernel
theorem dX9_outAfter_53 : decode cX9_outAfter 53 = .ok (.invokevirtual 494, 3) := by decide +kernel
theorem dX9_outAfter_56 : decode cX9_outAfter 56 = .ok (.iload_n 2, 1) := by decide +kernel
theorem dX9_outAfter_57 : decode cX9_outAfter 57 = .ok (.ireturn, 1) := by decide +kernel
set_option maxRecDepth 20000 in
theorem ggX9_housed_X9_isAhead : GoodIn wsX9_housed wsX9_isAhead := goodIn_r _ [4] (by decide +kernel) (by decide +kernel)
set_option maxRecDepth 20000 in
theorem gX9_housed_X9_isAhead : GoodIn wsX9_housed (va_wsS RX9 488 yX9_isAhead wsX9_isAhead) := goodIn_app (goodIn_of _ (by decide +kernel)) ggX9_housed_X9_isAhead
set_option maxRecDepth 20000 in
theorem ggX9_housed_X9_keepNow : GoodIn wsX9_housed wsX9_keepNow := goodIn_r _ [8, 9, 10, 121, 122, 123, 124, 125, 126, 127, 128, 129, 130, 131, 132, 133, 134, 135, 136, 137, 138, 139, 140, 141, 142, 143, 144, 145, 146, 147, 148, 149, 150, 151, 152, 153, 154, 155, 156, 157, 158, 159, 160, 161, 162, 163, 164, 165, 166, 167, 168, 169, 170, 171, 172, 173, 174, 175, 176, 177, 178, 179, 180, 181, 182, 183, 184, 185, 186, 187] (by decide +kernel) (by decide +kernel)
set_option maxRecDepth 20000 in
theorem gX9_housed_X9_keepNow : GoodIn wsX9_housed (wsV RX9 491 RX9 yX9_keepNow wsX9_keepNow) := goodIn_app (goodIn_of _ (by decide +kernel)) ggX9_housed_X9_keepNow
set_option maxRecDepth 20000 in
theorem ggX9_housed_X9_many : GoodIn wsX9_housed wsX9_many := goodIn_r _ [14, 15, 16, 121, 122, 123, 124, 125, 126, 127, 128, 129, 130, 131, 132, 133, 134, 135, 136, 137, 138, 139, 140, 141, 142, 143, 144, 145, 146, 147, 148, 149, 150, 151, 152, 153, 154, 155, 156, 157, 158, 159, 160, 161, 162, 163, 164, 165, 166, 167, 168, 169, 170, 171, 172, 173, 174, 175, 176, 177, 178, 179, 180, 181, 182, 183, 184, 185, 186, 187] (by decide +kernel) (by decide +kernel)
set_option maxRecDepth 20000 in
theorem gX9_housed_X9_many : GoodIn wsX9_housed (wsV RX9 373 RX9 yX9_many wsX9_many) := goodIn_app (goodIn_of _ (by decide +kernel)) ggX9_housed_X9_many
set_option maxRecDepth 20000 in
theorem ggX9_housed_X9_outAfter : GoodIn wsX9_housed wsX9_outAfter := goodIn_r _ [20, 21, 22, 23, 3, 24, 10, 25, 26, 27, 28, 11, 12, 13, 14, 15, 16, 29, 30, 31, 32, 33, 34, 35, 36, 37, 38, 39, 40, 41, 42, 43, 44, 45, 46, 47, 48, 49, 50, 51, 52, 53, 54, 55, 56, 57, 58, 59, 60, 61, 62, 63, 64, 65, 66, 67, 68, 69, 70, 71, 72, 73, 74, 75, 76, 77, 78, 79, 80, 81, 82, 83, 84, 85, 86, 87, 88, 89, 90, 91, 92, 93, 94, 95, 96, 97, 98, 99, 100, 101, 102, 103, 104, 105, 106, 107, 108, 109, 110, 111, 112, 113, 114, 115, 116, 117, 118, 119, 120, 9, 121, 122, 123, 124, 125, 126, 127, 128, 129, 130, 131, 132, 133, 134, 135, 136, 137, 138, 139, 140, 141, 142, 143, 144, 145, 146, 147, 148, 149, 150, 151, 152, 153, 154, 155, 156, 157, 158, 159, 160, 161, 162, 163, 164, 165, 166, 167, 168, 169, 170, 171, 172, 173, 174, 175, 176, 177, 178, 179, 180, 181, 182, 183, 184, 185, 186, 187] (by decide +kernel) (by decide +kernel)
set_option maxRecDepth 20000 in
theorem gX9_housed_X9_outAfter : GoodIn wsX9_housed (wsV RX9 500 RX9 yX9_outAfter wsX9_outAfter) := goodIn_app (goodIn_of _ (by decide +kernel)) ggX9_housed_X9_outAfter
theorem dX9_housed_0 : decode cX9_housed 0 = .ok (.iload_n 1, 1) := by decide +kernel
theorem dX9_housed_1 : decode cX9_housed 1 = .ok (.invokestatic 488, 3) := by decide +kernel
theorem dX9_housed_4 : decode cX9_housed 4 = .ok (.ifCond .ne 5, 3) := by decide +kernel
theorem dX9_housed_7 : decode cX9_housed 7 = .ok (.iconst (-1), 1) := by decide +kernel
theorem dX9_housed_8 : decode cX9_housed 8 = .ok (.ireturn, 1) := by decide +kernel
theorem dX9_housed_9 : decode cX9_housed 9 = .ok (.aload_n 0, 1) := by decide +kernel
theorem dX9_housed_10 : decode cX9_housed 10 = .ok (.invokevirtual 491, 3) := by decide +kernel
theorem dX9_housed_13 : decode cX9_housed 13 = .ok (.aload_n 0, 1) := by decide +kernel
theorem dX9_housed_14 : decode cX9_housed 14 = .ok (.invokevirtual 373, 3) := by decide +kernel
theorem dX9_housed_17 : decode cX9_housed 17 = .ok (.aload_n 0, 1) := by decide +kernel
theorem dX9_housed_18 : decode cX9_housed 18 = .ok (.iload_n 1, 1) := by decide +kernel
theorem dX9_housed_19 : decode cX9_housed 19 = .ok (.invokevirtual 500, 3) := by decide +kernel
theorem dX9_housed_22 : decode cX9_housed 22 = .ok (.isub, 1) := by decide +kernel
theorem dX9_housed_23 : decode cX9_housed 23 = .ok (.ireturn, 1) := by decide +kernel
set_option maxRecDepth 20000 in
theorem ggX9_image_X9_isIn : GoodIn wsX9_image wsX9_isIn := goodIn_r _ [7] (by decide +kernel) (by decide +kernel)
set_option maxRecDepth 20000 in
theorem gX9_image_X9_isIn : GoodIn wsX9_image (va_wsS RX9 376 yX9_isIn wsX9_isIn) := goodIn_app (goodIn_of _ (by decide +kernel)) ggX9_image_X9_isIn
theorem dX9_image_0 : decode cX9_image 0 = .ok (.iload_n 1, 1) := by decide +kernel
theorem dX9_image_1 : decode cX9_image 1 = .ok (.iconst 0, 1) := by decide +kernel
theorem dX9_image_2 : decode cX9_image 2 = .ok (.iconst 2, 1) := by decide +kernel
theorem dX9_image_3 : decode cX9_image 3 = .ok (.invokestatic 376, 3) := by decide +kernel
theorem dX9_image_6 : decode cX9_image 6 = .ok (.ifCond .ne 5, 3) := by decide +kernel
theorem dX9_image_9 : decode cX9_image 9 = .ok (.iconst (-1), 1) := by decide +kernel
theorem dX9_image_10 : decode cX9_image 10 = .ok (.ireturn, 1) := by decide +kernel
theorem dX9_image_11 : decode cX9_image 11 = .ok (.iconst 0, 1) := by decide +kernel
theorem dX9_image_12 : decode cX9_image 12 = .ok (.istore_n 2, 1) := by decide +kernel
theorem dX9_image_13 : decode cX9_image 13 = .ok (.iload_n 2, 1) := by decide +kernel
theorem dX9_image_14 : decode cX9_image 14 = .ok (.bipush 39, 2) := by decide +kernel
theorem dX9_image_16 : decode cX9_image 16 = .ok (.if_icmp .ge 26, 3) := by decide +kernel
theorem dX9_image_19 : decode cX9_image 19 = .ok (.aload_n 0, 1) := by decide +kernel
theorem dX9_image_20 : decode cX9_image 20 = .ok (.getfield 139, 3) := by decide +kernel
theorem dX9_image_23 : decode cX9_image 23 = .ok (.bipush 39, 2) := by decide +kernel
theorem dX9_image_25 : decode cX9_image 25 = .ok (.iload_n 1, 1) := by decide +kernel
theorem dX9_image_26 : decode cX9_image 26 = .ok (.imul, 1) := by decide +kernel
theorem dX9_image_27 : decode cX9_image 27 = .ok (.iload_n 2, 1) := by decide +kernel
theorem dX9_image_28 : decode cX9_image 28 = .ok (.iadd, 1) := by decide +kernel
theorem dX9_image_29 : decode cX9_image 29 = .ok (.aload_n 0, 1) := by decide +kernel
theorem dX9_image_30 : decode cX9_image 30 = .ok (.getfield 94, 3) := by decide +kernel
theorem dX9_image_33 : decode cX9_image 33 = .ok (.iload_n 2, 1) := by decide +kernel
theorem dX9_image_34 : decode cX9_image 34 = .ok (.iaload, 1) := by decide +kernel
theorem dX9_image_35 : decode cX9_image 35 = .ok (.iastore, 1) := by decide +kernel
theorem dX9_image_36 : decode cX9_image 36 = .ok (.iinc 2 1, 3) := by decide +kernel
theorem dX9_image_39 : decode cX9_image 39 = .ok (.goto (-26), 3) := by decide +kernel
theorem dX9_image_42 : decode cX9_image 42 = .ok (.aload_n 0, 1) := by decide +kernel
theorem dX9_image_43 : decode cX9_image 43 = .ok (.getfield 142, 3) := by decide +kernel
theorem dX9_image_46 : decode cX9_image 46 = .ok (.iload_n 1, 1) := by decide +kernel
theorem dX9_image_47 : decode cX9_image 47 = .ok (.iconst 1, 1) := by decide +kernel
theorem dX9_image_48 : decode cX9_image 48 = .ok (.bastore, 1) := by decide +kernel
theorem dX9_image_49 : decode cX9_image 49 = .ok (.aload_n 0, 1) := by decide +kernel
theorem dX9_image_50 : decode cX9_image 50 = .ok (.getfield 94, 3) := by decide +kernel
theorem dX9_image_53 : decode cX9_image 53 = .ok (.bipush 37, 2) := by decide +kernel
theorem dX9_image_55 : decode cX9_image 55 = .ok (.iaload, 1) := by decide +kernel
theorem dX9_image_56 : decode cX9_image 56 = .ok (.ireturn, 1) := by decide +kernel
set_option maxRecDepth 20000 in
theorem ggX9_back_X9_isIn : GoodIn wsX9_back wsX9_isIn := goodIn_r _ [9] (by decide +kernel) (by decide +kernel)
set_option maxRecDepth 20000 in
theorem gX9_back_X9_isIn : GoodIn wsX9_back (va_wsS RX9 376 yX9_isIn wsX9_isIn) := goodIn_app (goodIn_of _ (by decide +kernel)) ggX9_back_X9_isIn
theorem dX9_back_0 : decode cX9_back 0 = .ok (.iload_n 1, 1) := by decide +kernel
theorem dX9_back_1 : decode cX9_back 1 = .ok (.iconst 0, 1) := by decide +kernel
theorem dX9_back_2 : decode cX9_back 2 = .ok (.iconst 2, 1) := by decide +kernel
theorem dX9_back_3 : decode cX9_back 3 = .ok (.invokestatic 376, 3) := by decide +kernel
theorem dX9_back_6 : decode cX9_back 6 = .ok (.ifCond .eq 12, 3) := by decide +kernel
theorem dX9_back_9 : decode cX9_back 9 = .ok (.aload_n 0, 1) := by decide +kernel
theorem dX9_back_10 : decode cX9_back 10 = .ok (.getfield 142, 3) := by decide +kernel
theorem dX9_back_13 : decode cX9_back 13 = .ok (.iload_n 1, 1) := by decide +kernel
theorem dX9_back_14 : decode cX9_back 14 = .ok (.baload, 1) := by decide +kernel
theorem dX9_back_15 : decode cX9_back 15 = .ok (.ifCond .ne 5, 3) := by decide +kernel
theorem dX9_back_18 : decode cX9_back 18 = .ok (.iconst (-1), 1) := by decide +kernel
theorem dX9_back_19 : decode cX9_back 19 = .ok (.ireturn, 1) := by decide +kernel
theorem dX9_feed_0 : decode cX9_feed 0 = .ok (.aload_n 0, 1) := by decide +kernel
theorem dX9_feed_1 : decode cX9_feed 1 = .ok (.getfield 265, 3) := by decide +kernel
theorem dX9_feed_4 : decode cX9_feed 4 = .ok (.bipush 20, 2) := by decide +kernel
theorem dX9_feed_6 : decode cX9_feed 6 = .ok (.iadd, 1) := by decide +kernel
theorem dX9_feed_7 : decode cX9_feed 7 = .ok (.sipush 1600, 3) := by decide +kernel
theorem dX9_feed_10 : decode cX9_feed 10 = .ok (.if_icmp .le 5, 3) := by decide +kernel
theorem dX9_feed_15 : decode cX9_feed 15 = .ok (.iconst 0, 1) := by decide +kernel
theorem dX9_feed_16 : decode cX9_feed 16 = .ok (.istore 6, 2) := by decide +kernel
theorem dX9_feed_18 : decode cX9_feed 18 = .ok (.iload 6, 2) := by decide +kernel
theorem dX9_feed_20 : decode cX9_feed 20 = .ok (.bipush 20, 2) := by decide +kernel
theorem dX9_feed_22 : decode cX9_feed 22 = .ok (.if_icmp .ge 83, 3) := by decide +kernel
theorem dX9_feed_25 : decode cX9_feed 25 = .ok (.iload 6, 2) := by decide +kernel
theorem dX9_feed_27 : decode cX9_feed 27 = .ok (.iconst 4, 1) := by decide +kernel
theorem dX9_feed_28 : decode cX9_feed 28 = .ok (.if_icmp .ge 7, 3) := by decide +kernel
theorem dX9_feed_31 : decode cX9_feed 31 = .ok (.iload_n 1, 1) := by decide +kernel
theorem dX9_feed_32 : decode cX9_feed 32 = .ok (.goto 39, 3) := by decide +kernel
theorem dX9_feed_35 : decode cX9_feed 35 = .ok (.iload 6, 2) := by decide +kernel
theorem dX9_feed_37 : decode cX9_feed 37 = .ok (.bipush 8, 2) := by decide +kernel
theorem dX9_feed_39 : decode cX9_feed 39 = .ok (.if_icmp .ge 7, 3) := by decide +kernel
theorem dX9_feed_42 : decode cX9_feed 42 = .ok (.iload_n 2, 1) := by decide +kernel
theorem dX9_feed_43 : decode cX9_feed 43 = .ok (.goto 28, 3) := by decide +kernel
theorem dX9_feed_46 : decode cX9_feed 46 = .ok (.iload 6, 2) := by decide +kernel
theorem dX9_feed_48 : decode cX9_feed 48 = .ok (.bipush 12, 2) := by decide +kernel
theorem dX9_feed_50 : decode cX9_feed 50 = .ok (.if_icmp .ge 7, 3) := by decide +kernel
theorem dX9_feed_53 : decode cX9_feed 53 = .ok (.iload_n 3, 1) := by decide +kernel
theorem dX9_feed_54 : decode cX9_feed 54 = .ok (.goto 17, 3) := by decide +kernel
theorem dX9_feed_57 : decode cX9_feed 57 = .ok (.iload 6, 2) := by decide +kernel
theorem dX9_feed_59 : decode cX9_feed 59 = .ok (.bipush 16, 2) := by decide +kernel
theorem dX9_feed_61 : decode cX9_feed 61 = .ok (.if_icmp .ge 8, 3) := by decide +kernel
theorem dX9_feed_64 : decode cX9_feed 64 = .ok (.iload 4, 2) := by decide +kernel
theorem dX9_feed_66 : decode cX9_feed 66 = .ok (.goto 5, 3) := by decide +kernel
theorem dX9_feed_69 : decode cX9_feed 69 = .ok (.iload 5, 2) := by decide +kernel
theorem dX9_feed_71 : decode cX9_feed 71 = .ok (.istore 7, 2) := by decide +kernel
theorem dX9_feed_73 : decode cX9_feed 73 = .ok (.aload_n 0, 1) := by decide +kernel
theorem dX9_feed_74 : decode cX9_feed 74 = .ok (.getfield 7, 3) := by decide +kernel
theorem dX9_feed_77 : decode cX9_feed 77 = .ok (.aload_n 0, 1) := by decide +kernel
theorem dX9_feed_78 : decode cX9_feed 78 = .ok (.getfield 265, 3) := by decide +kernel
theorem dX9_feed_81 : decode cX9_feed 81 = .ok (.iload 6, 2) := by decide +kernel
theorem dX9_feed_83 : decode cX9_feed 83 = .ok (.iadd, 1) := by decide +kernel
theorem dX9_feed_84 : decode cX9_feed 84 = .ok (.iload 7, 2) := by decide +kernel
theorem dX9_feed_86 : decode cX9_feed 86 = .ok (.bipush 24, 2) := by decide +kernel
theorem dX9_feed_88 : decode cX9_feed 88 = .ok (.bipush 8, 2) := by decide +kernel
theorem dX9_feed_90 : decode cX9_feed 90 = .ok (.iload 6, 2) := by decide +kernel
theorem dX9_feed_92 : decode cX9_feed 92 = .ok (.iconst 3, 1) := by decide +kernel
theorem dX9_feed_93 : decode cX9_feed 93 = .ok (.iand, 1) := by decide +kernel
theorem dX9_feed_94 : decode cX9_feed 94 = .ok (.imul, 1) := by decide +kernel
theorem dX9_feed_95 : decode cX9_feed 95 = .ok (.isub, 1) := by decide +kernel
theorem dX9_feed_96 : decode cX9_feed 96 = .ok (.ishr, 1) := by decide +kernel
theorem dX9_feed_97 : decode cX9_feed 97 = .ok (.i2b, 1) := by decide +kernel
theorem dX9_feed_98 : decode cX9_feed 98 = .ok (.bastore, 1) := by decide +kernel
theorem dX9_feed_99 : decode cX9_feed 99 = .ok (.iinc 6 1, 3) := by decide +kernel
theorem dX9_feed_102 : decode cX9_feed 102 = .ok (.goto (-84), 3) := by decide +kernel
theorem dX9_feed_105 : decode cX9_feed 105 = .ok (.aload_n 0, 1) := by decide +kernel
theorem dX9_feed_106 : decode cX9_feed 106 = .ok (.dup, 1) := by decide +kernel
theorem dX9_feed_107 : decode cX9_feed 107 = .ok (.getfield 265, 3) := by decide +kernel
theorem dX9_feed_110 : decode cX9_feed 110 = .ok (.bipush 20, 2) := by decide +kernel
theorem dX9_feed_112 : decode cX9_feed 112 = .ok (.iadd, 1) := by decide +kernel
theorem dX9_feed_113 : decode cX9_feed 113 = .ok (.putfield 265, 3) := by decide +kernel
theorem dX9_feed_116 : decode cX9_feed 116 = .ok (.aload_n 0, 1) := by decide +kernel
theorem dX9_feed_117 : decode cX9_feed 117 = .ok (.getfield 265, 3) := by decide +kernel
theorem dX9_feed_120 : decode cX9_feed 120 = .ok (.ireturn, 1) := by decide +kernel
theorem iX9_keepAct_X9 : ∀ w ∈ wsX90, w ∈ wsX9_keepAct := (fun _ h => List.mem_cons_of_mem _ (List.mem_append_right _ h))
theorem iX9_goQuarter_X9 : ∀ w ∈ wsX90, w ∈ wsX9_goQuarter := (fun _ h => List.mem_cons_of_mem _ (List.mem_append_right _ h))
theorem iX9_goDie_X9 : ∀ w ∈ wsX90, w ∈ wsX9_goDie := (fun _ h => List.mem_cons_of_mem _ (List.mem_append_right _ h))
theorem iX9_quarter_X9 : ∀ w ∈ wsX90, w ∈ wsX9_quarter := (fun _ h => List.mem_cons_of_mem _ (List.mem_append_right _ h))
theorem iX9_keepNow_X9 : ∀ w ∈ wsX90, w ∈ wsX9_keepNow := (fun _ h => List.mem_cons_of_mem _ (List.mem_append_right _ h))
theorem iX9_bringBack_X9 : ∀ w ∈ wsX90, w ∈ wsX9_bringBack := (fun _ h => List.mem_cons_of_mem _ (List.mem_append_right _ h))
theorem iX9_image_X9 : ∀ w ∈ wsX90, w ∈ wsX9_image := (fun _ h => List.mem_cons_of_mem _ (List.mem_append_right _ h))
theorem iX9_back_X9 : ∀ w ∈ wsX90, w ∈ wsX9_back := (fun _ h => List.mem_cons_of_mem _ (List.mem_append_right _ h))
theorem iX9_feed_X9 : ∀ w ∈ wsX90, w ∈ wsX9_feed := (fun _ h => List.mem_cons_of_mem _ (List.mem_append_right _ h))
theorem iX9_sign_X9 : ∀ w ∈ wsX90, w ∈ wsX9_sign := (fun _ h => List.mem_cons_of_mem _ (List.mem_append_right _ h))
theorem iX9_goOn_X9 : ∀ w ∈ wsX90, w ∈ wsX9_goOn := (fun _ h => List.mem_cons_of_mem _ (List.mem_append_right _ h))
theorem iX9_isGood_X9 : ∀ w ∈ wsX90, w ∈ wsX9_isGood := (fun _ h => List.mem_cons_of_mem _ (List.mem_append_right _ h))
theorem iX9_mews_X9 : ∀ w ∈ wsX90, w ∈ wsX9_mews := (fun _ h => List.mem_cons_of_mem _ (List.mem_append_right _ h))
