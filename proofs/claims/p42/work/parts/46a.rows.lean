set_option maxRecDepth 20000 in
theorem ggX9_mews_X9_clearBank : GoodIn wsX9_mews wsX9_clearBank := goodIn_r _ [16, 17, 9, 18, 11, 19, 20, 21, 22, 23, 230, 231, 232, 233, 234, 235, 236, 237, 238, 239, 240, 241, 242, 243, 244, 245, 246, 247, 248, 249, 250, 251, 252, 253, 254, 255, 256, 257, 258, 259, 260, 261, 262, 263, 264, 265, 266, 267, 268, 269, 270, 271, 272, 273, 274, 275, 276, 277, 278, 279, 280, 281, 282, 283, 284, 285, 286, 287, 288, 289, 290, 291, 292, 293, 294, 295, 296] rfl (by decide +kernel)
set_option maxRecDepth 20000 in
theorem gX9_mews_X9_clearBank : GoodIn wsX9_mews (wsV RX9 146 RX9 yX9_clearBank wsX9_clearBank) := goodIn_app (goodIn_r _ [12, 13, 14, 15] rfl (by decide +kernel)) ggX9_mews_X9_clearBank
set_option maxRecDepth 20000 in
theorem ggX9_mews_X9_goOn : GoodIn wsX9_mews wsX9_goOn := goodIn_r _ [27, 7, 28, 4, 10, 29, 30, 31, 32, 33, 15, 34, 5, 35, 36, 37, 38, 39, 40, 41, 42, 43, 44, 45, 46, 47, 48, 49, 50, 51, 52, 53, 54, 55, 56, 57, 58, 59, 60, 61, 62, 63, 64, 65, 230, 231, 232, 233, 234, 235, 236, 237, 238, 239, 240, 241, 242, 243, 244, 245, 246, 247, 248, 249, 250, 251, 252, 253, 254, 255, 256, 257, 258, 259, 260, 261, 262, 263, 264, 265, 266, 267, 268, 269, 270, 271, 272, 273, 274, 275, 276, 277, 278, 279, 280, 281, 282, 283, 284, 285, 286, 287, 288, 289, 290, 291, 292, 293, 294, 295, 296] rfl (by decide +kernel)
set_option maxRecDepth 20000 in
theorem gX9_mews_X9_goOn : GoodIn wsX9_mews (wsV RX9 238 RX9 yX9_goOn wsX9_goOn) := goodIn_app (goodIn_r _ [24, 25, 26, 15] rfl (by decide +kernel)) ggX9_mews_X9_goOn
set_option maxRecDepth 20000 in
theorem ggX9_mews_X9_isGood : GoodIn wsX9_mews wsX9_isGood := goodIn_r _ [69, 1, 230, 231, 232, 233, 234, 235, 236, 237, 238, 239, 240, 241, 242, 243, 244, 245, 246, 247, 248, 249, 250, 251, 252, 253, 254, 255, 256, 257, 258, 259, 260, 261, 262, 263, 264, 265, 266, 267, 268, 269, 270, 271, 272, 273, 274, 275, 276, 277, 278, 279, 280, 281, 282, 283, 284, 285, 286, 287, 288, 289, 290, 291, 292, 293, 294, 295, 296] rfl (by decide +kernel)
set_option maxRecDepth 20000 in
theorem gX9_mews_X9_isGood : GoodIn wsX9_mews (wsV RX9 234 RX9 yX9_isGood wsX9_isGood) := goodIn_app (goodIn_r _ [66, 67, 68, 15] rfl (by decide +kernel)) ggX9_mews_X9_isGood
set_option maxRecDepth 20000 in
theorem ggX9_mews_X9_readLine : GoodIn wsX9_mews wsX9_readLine := goodIn_r _ [73, 29, 10, 41, 44, 46, 51, 52, 22, 9, 20, 53, 21, 74, 75, 76, 15, 77, 17, 18, 11, 78, 79, 80, 81, 82, 83, 84, 85, 86, 87, 88, 28, 89, 90, 91, 92, 1, 2, 66, 67, 68, 69, 24, 25, 26, 27, 7, 4, 30, 31, 32, 33, 34, 5, 35, 36, 37, 38, 39, 40, 42, 43, 45, 47, 48, 49, 50, 54, 55, 56, 57, 58, 59, 60, 61, 62, 63, 64, 65, 93, 94, 95, 96, 97, 98, 99, 100, 101, 102, 103, 104, 105, 106, 107, 108, 109, 110, 111, 112, 113, 114, 115, 116, 117, 118, 119, 120, 121, 122, 123, 124, 125, 126, 127, 128, 129, 130, 131, 132, 133, 134, 135, 136, 137, 138, 139, 140, 141, 142, 143, 144, 145, 146, 147, 148, 149, 150, 151, 152, 153, 154, 155, 156, 157, 158, 159, 160, 23, 161, 162, 163, 164, 165, 166, 167, 168, 169, 170, 171, 172, 173, 174, 175, 176, 177, 19, 178, 179, 180, 181, 182, 183, 184, 185, 186, 187, 188, 189, 190, 191, 192, 193, 194, 195, 196, 197, 198, 199, 200, 201, 202, 203, 230, 231, 232, 233, 234, 235, 236, 237, 238, 239, 240, 241, 242, 243, 244, 245, 246, 247, 248, 249, 250, 251, 252, 253, 254, 255, 256, 257, 258, 259, 260, 261, 262, 263, 264, 265, 266, 267, 268, 269, 270, 271, 272, 273, 274, 275, 276, 277, 278, 279, 280, 281, 282, 283, 284, 285, 286, 287, 288, 289, 290, 291, 292, 293, 294, 295, 296] rfl (by decide +kernel)
set_option maxRecDepth 20000 in
theorem gX9_mews_X9_readLine : GoodIn wsX9_mews (wsV RX9 271 RX9 yX9_readLine wsX9_readLine) := goodIn_app (goodIn_r _ [70, 71, 72, 15] rfl (by decide +kernel)) ggX9_mews_X9_readLine
set_option maxRecDepth 20000 in
theorem ggX9_mews_X9_startAnew : GoodIn wsX9_mews wsX9_startAnew := goodIn_r _ [207, 208, 209, 210, 211, 212, 213, 214, 215, 15, 216, 217, 150, 8, 147, 149, 137, 21, 218, 219, 220, 221, 11, 222, 223, 224, 225, 18, 226, 227, 228, 229, 17, 230, 231, 232, 233, 234, 235, 236, 237, 238, 239, 240, 241, 242, 243, 244, 245, 246, 247, 248, 249, 250, 251, 252, 253, 254, 255, 256, 257, 258, 259, 260, 261, 262, 263, 264, 265, 266, 267, 268, 269, 270, 271, 272, 273, 274, 275, 276, 277, 278, 279, 280, 281, 282, 283, 284, 285, 286, 287, 288, 289, 290, 291, 292, 293, 294, 295, 296] rfl (by decide +kernel)
set_option maxRecDepth 20000 in
theorem gX9_mews_X9_startAnew : GoodIn wsX9_mews (wsV RX9 149 RX9 yX9_startAnew wsX9_startAnew) := goodIn_app (goodIn_r _ [204, 205, 206, 15] rfl (by decide +kernel)) ggX9_mews_X9_startAnew
theorem dX9_mews_0 : decode cX9_mews 0 = .ok (.aload_n 0, 1) := by decide +kernel
theorem dX9_mews_1 : decode cX9_mews 1 = .ok (.iconst 0, 1) := by decide +kernel
theorem dX9_mews_2 : decode cX9_mews 2 = .ok (.putfield 155, 3) := by decide +kernel
theorem dX9_mews_5 : decode cX9_mews 5 = .ok (.aload_n 0, 1) := by decide +kernel
theorem dX9_mews_6 : decode cX9_mews 6 = .ok (.iconst (-1), 1) := by decide +kernel
theorem dX9_mews_7 : decode cX9_mews 7 = .ok (.putfield 16, 3) := by decide +kernel
theorem dX9_mews_10 : decode cX9_mews 10 = .ok (.aload_n 0, 1) := by decide +kernel
theorem dX9_mews_11 : decode cX9_mews 11 = .ok (.aload_n 0, 1) := by decide +kernel
theorem dX9_mews_12 : decode cX9_mews 12 = .ok (.getfield 265, 3) := by decide +kernel
theorem dX9_mews_15 : decode cX9_mews 15 = .ok (.putfield 152, 3) := by decide +kernel
theorem dX9_mews_18 : decode cX9_mews 18 = .ok (.iconst 0, 1) := by decide +kernel
theorem dX9_mews_19 : decode cX9_mews 19 = .ok (.istore_n 1, 1) := by decide +kernel
theorem dX9_mews_20 : decode cX9_mews 20 = .ok (.iload_n 1, 1) := by decide +kernel
theorem dX9_mews_21 : decode cX9_mews 21 = .ok (.aload_n 0, 1) := by decide +kernel
theorem dX9_mews_22 : decode cX9_mews 22 = .ok (.getfield 152, 3) := by decide +kernel
theorem dX9_mews_25 : decode cX9_mews 25 = .ok (.if_icmp .ge 21, 3) := by decide +kernel
theorem dX9_mews_28 : decode cX9_mews 28 = .ok (.aload_n 0, 1) := by decide +kernel
theorem dX9_mews_29 : decode cX9_mews 29 = .ok (.getfield 13, 3) := by decide +kernel
theorem dX9_mews_32 : decode cX9_mews 32 = .ok (.iload_n 1, 1) := by decide +kernel
theorem dX9_mews_33 : decode cX9_mews 33 = .ok (.aload_n 0, 1) := by decide +kernel
theorem dX9_mews_34 : decode cX9_mews 34 = .ok (.getfield 7, 3) := by decide +kernel
theorem dX9_mews_37 : decode cX9_mews 37 = .ok (.iload_n 1, 1) := by decide +kernel
theorem dX9_mews_38 : decode cX9_mews 38 = .ok (.baload, 1) := by decide +kernel
theorem dX9_mews_39 : decode cX9_mews 39 = .ok (.bastore, 1) := by decide +kernel
theorem dX9_mews_40 : decode cX9_mews 40 = .ok (.iinc 1 1, 3) := by decide +kernel
theorem dX9_mews_43 : decode cX9_mews 43 = .ok (.goto (-23), 3) := by decide +kernel
theorem dX9_mews_46 : decode cX9_mews 46 = .ok (.aload_n 0, 1) := by decide +kernel
theorem dX9_mews_47 : decode cX9_mews 47 = .ok (.iconst 0, 1) := by decide +kernel
theorem dX9_mews_48 : decode cX9_mews 48 = .ok (.putfield 265, 3) := by decide +kernel
theorem dX9_mews_51 : decode cX9_mews 51 = .ok (.aload_n 0, 1) := by decide +kernel
theorem dX9_mews_52 : decode cX9_mews 52 = .ok (.iconst 0, 1) := by decide +kernel
theorem dX9_mews_53 : decode cX9_mews 53 = .ok (.putfield 196, 3) := by decide +kernel
theorem dX9_mews_56 : decode cX9_mews 56 = .ok (.aload_n 0, 1) := by decide +kernel
theorem dX9_mews_57 : decode cX9_mews 57 = .ok (.iconst 1, 1) := by decide +kernel
theorem dX9_mews_58 : decode cX9_mews 58 = .ok (.aload_n 0, 1) := by decide +kernel
theorem dX9_mews_59 : decode cX9_mews 59 = .ok (.getfield 268, 3) := by decide +kernel
theorem dX9_mews_62 : decode cX9_mews 62 = .ok (.isub, 1) := by decide +kernel
theorem dX9_mews_63 : decode cX9_mews 63 = .ok (.putfield 259, 3) := by decide +kernel
theorem dX9_mews_66 : decode cX9_mews 66 = .ok (.aload_n 0, 1) := by decide +kernel
theorem dX9_mews_67 : decode cX9_mews 67 = .ok (.invokevirtual 146, 3) := by decide +kernel
theorem dX9_mews_70 : decode cX9_mews 70 = .ok (.aload_n 0, 1) := by decide +kernel
theorem dX9_mews_71 : decode cX9_mews 71 = .ok (.invokevirtual 238, 3) := by decide +kernel
theorem dX9_mews_74 : decode cX9_mews 74 = .ok (.aload_n 0, 1) := by decide +kernel
theorem dX9_mews_75 : decode cX9_mews 75 = .ok (.invokevirtual 234, 3) := by decide +kernel
theorem dX9_mews_78 : decode cX9_mews 78 = .ok (.ifCond .eq 17, 3) := by decide +kernel
theorem dX9_mews_81 : decode cX9_mews 81 = .ok (.aload_n 0, 1) := by decide +kernel
theorem dX9_mews_82 : decode cX9_mews 82 = .ok (.getfield 206, 3) := by decide +kernel
theorem dX9_mews_85 : decode cX9_mews 85 = .ok (.ifCond .eq 10, 3) := by decide +kernel
theorem dX9_mews_88 : decode cX9_mews 88 = .ok (.aload_n 0, 1) := by decide +kernel
theorem dX9_mews_89 : decode cX9_mews 89 = .ok (.invokevirtual 271, 3) := by decide +kernel
theorem dX9_mews_92 : decode cX9_mews 92 = .ok (.goto (-18), 3) := by decide +kernel
theorem dX9_mews_95 : decode cX9_mews 95 = .ok (.aload_n 0, 1) := by decide +kernel
theorem dX9_mews_96 : decode cX9_mews 96 = .ok (.invokevirtual 234, 3) := by decide +kernel
theorem dX9_mews_99 : decode cX9_mews 99 = .ok (.ifCond .ne 5, 3) := by decide +kernel
theorem dX9_mews_102 : decode cX9_mews 102 = .ok (.iconst (-1), 1) := by decide +kernel
theorem dX9_mews_103 : decode cX9_mews 103 = .ok (.ireturn, 1) := by decide +kernel
theorem dX9_mews_104 : decode cX9_mews 104 = .ok (.aload_n 0, 1) := by decide +kernel
theorem dX9_mews_105 : decode cX9_mews 105 = .ok (.aload_n 0, 1) := by decide +kernel
theorem dX9_mews_106 : decode cX9_mews 106 = .ok (.getfield 259, 3) := by decide +kernel
theorem dX9_mews_109 : decode cX9_mews 109 = .ok (.putfield 268, 3) := by decide +kernel
theorem dX9_mews_112 : decode cX9_mews 112 = .ok (.aload_n 0, 1) := by decide +kernel
theorem dX9_mews_113 : decode cX9_mews 113 = .ok (.invokevirtual 149, 3) := by decide +kernel
theorem dX9_mews_116 : decode cX9_mews 116 = .ok (.aload_n 0, 1) := by decide +kernel
theorem dX9_mews_117 : decode cX9_mews 117 = .ok (.getfield 27, 3) := by decide +kernel
theorem dX9_mews_120 : decode cX9_mews 120 = .ok (.aload_n 0, 1) := by decide +kernel
theorem dX9_mews_121 : decode cX9_mews 121 = .ok (.getfield 268, 3) := by decide +kernel
theorem dX9_mews_124 : decode cX9_mews 124 = .ok (.iaload, 1) := by decide +kernel
theorem dX9_mews_125 : decode cX9_mews 125 = .ok (.ireturn, 1) := by decide +kernel
set_option maxRecDepth 20000 in
theorem ggX9_isFull_X9_isWord : GoodIn wsX9_isFull wsX9_isWord := goodIn_r _ [16, 17, 18, 22, 23, 24, 25, 26, 27, 28, 29, 30, 31, 32, 33, 34, 35, 36, 37, 38, 39, 40, 41, 42, 43, 44, 45, 46, 47, 48, 49, 50, 51, 52, 53, 54, 55, 56, 57, 58, 59, 60, 61, 62, 63, 64, 65, 66, 67, 68, 69, 70, 71, 72, 73, 74, 75, 76, 77, 78, 79, 80, 81, 82, 83, 84, 85, 86, 87, 88] rfl (by decide +kernel)
set_option maxRecDepth 20000 in
theorem gX9_isFull_X9_isWord : GoodIn wsX9_isFull (wsV RX9 244 RX9 yX9_isWord wsX9_isWord) := goodIn_app (goodIn_r _ [12, 13, 14, 15] rfl (by decide +kernel)) ggX9_isFull_X9_isWord
set_option maxRecDepth 20000 in
theorem ggX9_isFull_X9_bit : GoodIn wsX9_isFull wsX9_bit := goodIn_r _ [21] rfl (by decide +kernel)
set_option maxRecDepth 20000 in
theorem gX9_isFull_X9_bit : GoodIn wsX9_isFull (va_wsS RX9 274 yX9_bit wsX9_bit) := goodIn_app (goodIn_r _ [19, 20, 15] rfl (by decide +kernel)) ggX9_isFull_X9_bit
theorem dX9_isFull_0 : decode cX9_isFull 0 = .ok (.aload_n 0, 1) := by decide +kernel
theorem dX9_isFull_1 : decode cX9_isFull 1 = .ok (.ldc2_w 158, 3) := by decide +kernel
theorem dX9_isFull_4 : decode cX9_isFull 4 = .ok (.invokevirtual 244, 3) := by decide +kernel
theorem dX9_isFull_7 : decode cX9_isFull 7 = .ok (.ifCond .eq 23, 3) := by decide +kernel
theorem dX9_isFull_10 : decode cX9_isFull 10 = .ok (.aload_n 0, 1) := by decide +kernel
theorem dX9_isFull_11 : decode cX9_isFull 11 = .ok (.getfield 20, 3) := by decide +kernel
theorem dX9_isFull_14 : decode cX9_isFull 14 = .ok (.aload_n 0, 1) := by decide +kernel
theorem dX9_isFull_15 : decode cX9_isFull 15 = .ok (.getfield 259, 3) := by decide +kernel
theorem dX9_isFull_18 : decode cX9_isFull 18 = .ok (.iaload, 1) := by decide +kernel
theorem dX9_isFull_19 : decode cX9_isFull 19 = .ok (.bipush 6, 2) := by decide +kernel
theorem dX9_isFull_21 : decode cX9_isFull 21 = .ok (.if_icmp .ne 7, 3) := by decide +kernel
theorem dX9_isFull_24 : decode cX9_isFull 24 = .ok (.iconst 1, 1) := by decide +kernel
theorem dX9_isFull_25 : decode cX9_isFull 25 = .ok (.goto 4, 3) := by decide +kernel
theorem dX9_isFull_28 : decode cX9_isFull 28 = .ok (.iconst 0, 1) := by decide +kernel
theorem dX9_isFull_29 : decode cX9_isFull 29 = .ok (.ireturn, 1) := by decide +kernel
theorem dX9_isFull_30 : decode cX9_isFull 30 = .ok (.aload_n 0, 1) := by decide +kernel
theorem dX9_isFull_31 : decode cX9_isFull 31 = .ok (.ldc2_w 164, 3) := by decide +kernel
theorem dX9_isFull_34 : decode cX9_isFull 34 = .ok (.invokevirtual 244, 3) := by decide +kernel
theorem dX9_isFull_37 : decode cX9_isFull 37 = .ok (.ifCond .eq 23, 3) := by decide +kernel
theorem dX9_isFull_40 : decode cX9_isFull 40 = .ok (.aload_n 0, 1) := by decide +kernel
theorem dX9_isFull_41 : decode cX9_isFull 41 = .ok (.getfield 24, 3) := by decide +kernel
theorem dX9_isFull_44 : decode cX9_isFull 44 = .ok (.aload_n 0, 1) := by decide +kernel
theorem dX9_isFull_45 : decode cX9_isFull 45 = .ok (.getfield 259, 3) := by decide +kernel
theorem dX9_isFull_48 : decode cX9_isFull 48 = .ok (.iaload, 1) := by decide +kernel
theorem dX9_isFull_49 : decode cX9_isFull 49 = .ok (.bipush 8, 2) := by decide +kernel
theorem dX9_isFull_51 : decode cX9_isFull 51 = .ok (.if_icmp .ne 7, 3) := by decide +kernel
theorem dX9_isFull_54 : decode cX9_isFull 54 = .ok (.iconst 1, 1) := by decide +kernel
theorem dX9_isFull_55 : decode cX9_isFull 55 = .ok (.goto 4, 3) := by decide +kernel
theorem dX9_isFull_58 : decode cX9_isFull 58 = .ok (.iconst 0, 1) := by decide +kernel
theorem dX9_isFull_59 : decode cX9_isFull 59 = .ok (.ireturn, 1) := by decide +kernel
theorem dX9_isFull_60 : decode cX9_isFull 60 = .ok (.aload_n 0, 1) := by decide +kernel
theorem dX9_isFull_61 : decode cX9_isFull 61 = .ok (.ldc2_w 168, 3) := by decide +kernel
theorem dX9_isFull_64 : decode cX9_isFull 64 = .ok (.invokevirtual 244, 3) := by decide +kernel
theorem dX9_isFull_67 : decode cX9_isFull 67 = .ok (.ifCond .eq 23, 3) := by decide +kernel
theorem dX9_isFull_70 : decode cX9_isFull 70 = .ok (.aload_n 0, 1) := by decide +kernel
theorem dX9_isFull_71 : decode cX9_isFull 71 = .ok (.getfield 27, 3) := by decide +kernel
theorem dX9_isFull_74 : decode cX9_isFull 74 = .ok (.aload_n 0, 1) := by decide +kernel
theorem dX9_isFull_75 : decode cX9_isFull 75 = .ok (.getfield 259, 3) := by decide +kernel
theorem dX9_isFull_78 : decode cX9_isFull 78 = .ok (.iaload, 1) := by decide +kernel
theorem dX9_isFull_79 : decode cX9_isFull 79 = .ok (.bipush 7, 2) := by decide +kernel
theorem dX9_isFull_81 : decode cX9_isFull 81 = .ok (.if_icmp .ne 7, 3) := by decide +kernel
theorem dX9_isFull_84 : decode cX9_isFull 84 = .ok (.iconst 1, 1) := by decide +kernel
theorem dX9_isFull_85 : decode cX9_isFull 85 = .ok (.goto 4, 3) := by decide +kernel
theorem dX9_isFull_88 : decode cX9_isFull 88 = .ok (.iconst 0, 1) := by decide +kernel
theorem dX9_isFull_89 : decode cX9_isFull 89 = .ok (.ireturn, 1) := by decide +kernel
theorem dX9_isFull_90 : decode cX9_isFull 90 = .ok (.aload_n 0, 1) := by decide +kernel
theorem dX9_isFull_91 : decode cX9_isFull 91 = .ok (.ldc2_w 178, 3) := by decide +kernel
theorem dX9_isFull_94 : decode cX9_isFull 94 = .ok (.invokevirtual 244, 3) := by decide +kernel
theorem dX9_isFull_97 : decode cX9_isFull 97 = .ok (.ifCond .eq 17, 3) := by decide +kernel
theorem dX9_isFull_100 : decode cX9_isFull 100 = .ok (.aload_n 0, 1) := by decide +kernel
theorem dX9_isFull_101 : decode cX9_isFull 101 = .ok (.getfield 39, 3) := by decide +kernel
theorem dX9_isFull_104 : decode cX9_isFull 104 = .ok (.aload_n 0, 1) := by decide +kernel
theorem dX9_isFull_105 : decode cX9_isFull 105 = .ok (.getfield 259, 3) := by decide +kernel
theorem dX9_isFull_108 : decode cX9_isFull 108 = .ok (.iaload, 1) := by decide +kernel
theorem dX9_isFull_109 : decode cX9_isFull 109 = .ok (.iconst 0, 1) := by decide +kernel
theorem dX9_isFull_110 : decode cX9_isFull 110 = .ok (.invokestatic 274, 3) := by decide +kernel
theorem dX9_isFull_113 : decode cX9_isFull 113 = .ok (.ireturn, 1) := by decide +kernel
theorem dX9_isFull_114 : decode cX9_isFull 114 = .ok (.aload_n 0, 1) := by decide +kernel
theorem dX9_isFull_115 : decode cX9_isFull 115 = .ok (.ldc2_w 180, 3) := by decide +kernel
theorem dX9_isFull_118 : decode cX9_isFull 118 = .ok (.invokevirtual 244, 3) := by decide +kernel
theorem dX9_isFull_121 : decode cX9_isFull 121 = .ok (.ifCond .eq 17, 3) := by decide +kernel
theorem dX9_isFull_124 : decode cX9_isFull 124 = .ok (.aload_n 0, 1) := by decide +kernel
theorem dX9_isFull_125 : decode cX9_isFull 125 = .ok (.getfield 39, 3) := by decide +kernel
theorem dX9_isFull_128 : decode cX9_isFull 128 = .ok (.aload_n 0, 1) := by decide +kernel
theorem dX9_isFull_129 : decode cX9_isFull 129 = .ok (.getfield 259, 3) := by decide +kernel
theorem dX9_isFull_132 : decode cX9_isFull 132 = .ok (.iaload, 1) := by decide +kernel
theorem dX9_isFull_133 : decode cX9_isFull 133 = .ok (.iconst 1, 1) := by decide +kernel
theorem dX9_isFull_134 : decode cX9_isFull 134 = .ok (.invokestatic 274, 3) := by decide +kernel
theorem dX9_isFull_137 : decode cX9_isFull 137 = .ok (.ireturn, 1) := by decide +kernel
theorem dX9_isFull_138 : decode cX9_isFull 138 = .ok (.aload_n 0, 1) := by decide +kernel
theorem dX9_isFull_139 : decode cX9_isFull 139 = .ok (.ldc2_w 182, 3) := by decide +kernel
theorem dX9_isFull_142 : decode cX9_isFull 142 = .ok (.invokevirtual 244, 3) := by decide +kernel
theorem dX9_isFull_145 : decode cX9_isFull 145 = .ok (.ifCond .eq 19, 3) := by decide +kernel
theorem dX9_isFull_148 : decode cX9_isFull 148 = .ok (.aload_n 0, 1) := by decide +kernel
theorem dX9_isFull_149 : decode cX9_isFull 149 = .ok (.getfield 39, 3) := by decide +kernel
theorem dX9_isFull_152 : decode cX9_isFull 152 = .ok (.aload_n 0, 1) := by decide +kernel
theorem dX9_isFull_153 : decode cX9_isFull 153 = .ok (.getfield 259, 3) := by decide +kernel
theorem dX9_isFull_156 : decode cX9_isFull 156 = .ok (.iaload, 1) := by decide +kernel
theorem dX9_isFull_157 : decode cX9_isFull 157 = .ok (.iconst 2, 1) := by decide +kernel
theorem dX9_isFull_158 : decode cX9_isFull 158 = .ok (.invokestatic 274, 3) := by decide +kernel
theorem dX9_isFull_161 : decode cX9_isFull 161 = .ok (.ifCond .eq 7, 3) := by decide +kernel
theorem dX9_isFull_164 : decode cX9_isFull 164 = .ok (.iconst 1, 1) := by decide +kernel
theorem dX9_isFull_165 : decode cX9_isFull 165 = .ok (.goto 4, 3) := by decide +kernel
theorem dX9_isFull_168 : decode cX9_isFull 168 = .ok (.iconst 0, 1) := by decide +kernel
theorem dX9_isFull_169 : decode cX9_isFull 169 = .ok (.ireturn, 1) := by decide +kernel
set_option maxRecDepth 20000 in
theorem ggX9_readLine_X9_isFull : GoodIn wsX9_readLine wsX9_isFull := goodIn_r _ [17, 3, 18, 9, 4, 19, 5, 20, 6, 8, 7, 11, 21, 22, 23, 16, 24, 2, 1, 25, 26, 27, 193, 194, 195, 196, 197, 198, 199, 200, 201, 202, 203, 204, 205, 206, 207, 208, 209, 210, 211, 212, 213, 214, 215, 216, 217, 218, 219, 220, 221, 222, 223, 224, 225, 226, 227, 228, 229, 230, 231, 232, 233, 234, 235, 236, 237, 238, 239, 240, 241, 242, 243, 244, 245, 246, 247, 248, 249, 250, 251, 252, 253, 254, 255, 256, 257, 258, 259] rfl (by decide +kernel)
set_option maxRecDepth 20000 in
theorem gX9_readLine_X9_isFull : GoodIn wsX9_readLine (wsV RX9 278 RX9 yX9_isFull wsX9_isFull) := goodIn_app (goodIn_r _ [13, 14, 15, 16] rfl (by decide +kernel)) ggX9_readLine_X9_isFull
set_option maxRecDepth 20000 in
theorem ggX9_readLine_X9_misplaced : GoodIn wsX9_readLine wsX9_misplaced := goodIn_r _ [31, 2, 32, 33, 34, 35, 16, 36, 37, 38, 193, 194, 195, 196, 197, 198, 199, 200, 201, 202, 203, 204, 205, 206, 207, 208, 209, 210, 211, 212, 213, 214, 215, 216, 217, 218, 219, 220, 221, 222, 223, 224, 225, 226, 227, 228, 229, 230, 231, 232, 233, 234, 235, 236, 237, 238, 239, 240, 241, 242, 243, 244, 245, 246, 247, 248, 249, 250, 251, 252, 253, 254, 255, 256, 257, 258, 259] rfl (by decide +kernel)
set_option maxRecDepth 20000 in
theorem gX9_readLine_X9_misplaced : GoodIn wsX9_readLine (wsV RX9 241 RX9 yX9_misplaced wsX9_misplaced) := goodIn_app (goodIn_r _ [28, 29, 30, 16] rfl (by decide +kernel)) ggX9_readLine_X9_misplaced
set_option maxRecDepth 20000 in
theorem ggX9_readLine_X9_isGood : GoodIn wsX9_readLine wsX9_isGood := goodIn_r _ [42, 37, 193, 194, 195, 196, 197, 198, 199, 200, 201, 202, 203, 204, 205, 206, 207, 208, 209, 210, 211, 212, 213, 214, 215, 216, 217, 218, 219, 220, 221, 222, 223, 224, 225, 226, 227, 228, 229, 230, 231, 232, 233, 234, 235, 236, 237, 238, 239, 240, 241, 242, 243, 244, 245, 246, 247, 248, 249, 250, 251, 252, 253, 254, 255, 256, 257, 258, 259] rfl (by decide +kernel)
set_option maxRecDepth 20000 in
theorem gX9_readLine_X9_isGood : GoodIn wsX9_readLine (wsV RX9 234 RX9 yX9_isGood wsX9_isGood) := goodIn_app (goodIn_r _ [39, 40, 41, 16] rfl (by decide +kernel)) ggX9_readLine_X9_isGood
set_option maxRecDepth 20000 in
theorem ggX9_readLine_X9_goOn : GoodIn wsX9_readLine wsX9_goOn := goodIn_r _ [46, 47, 32, 48, 2, 1, 49, 50, 51, 52, 16, 53, 54, 55, 56, 57, 58, 59, 60, 3, 61, 62, 4, 63, 5, 64, 65, 66, 67, 6, 7, 11, 68, 69, 70, 71, 72, 73, 74, 75, 76, 77, 78, 79, 193, 194, 195, 196, 197, 198, 199, 200, 201, 202, 203, 204, 205, 206, 207, 208, 209, 210, 211, 212, 213, 214, 215, 216, 217, 218, 219, 220, 221, 222, 223, 224, 225, 226, 227, 228, 229, 230, 231, 232, 233, 234, 235, 236, 237, 238, 239, 240, 241, 242, 243, 244, 245, 246, 247, 248, 249, 250, 251, 252, 253, 254, 255, 256, 257, 258, 259] rfl (by decide +kernel)
set_option maxRecDepth 20000 in
theorem gX9_readLine_X9_goOn : GoodIn wsX9_readLine (wsV RX9 238 RX9 yX9_goOn wsX9_goOn) := goodIn_app (goodIn_r _ [43, 44, 45, 16] rfl (by decide +kernel)) ggX9_readLine_X9_goOn
set_option maxRecDepth 20000 in
theorem ggX9_readLine_X9_readCat : GoodIn wsX9_readLine wsX9_readCat := goodIn_r _ [83, 9, 18, 84, 85, 61, 86, 62, 87, 88, 89, 16, 90, 91, 92, 93, 94, 2, 1, 95, 96, 97, 98, 32, 39, 40, 41, 42, 37, 28, 29, 30, 31, 33, 34, 35, 36, 38, 43, 44, 45, 46, 47, 48, 49, 50, 51, 52, 53, 54, 55, 56, 57, 58, 59, 60, 3, 4, 63, 5, 64, 65, 66, 67, 6, 7, 11, 68, 69, 70, 71, 72, 73, 74, 75, 76, 77, 78, 79, 99, 100, 101, 102, 21, 22, 23, 24, 103, 104, 105, 106, 107, 108, 109, 110, 111, 112, 113, 114, 115, 116, 117, 118, 193, 194, 195, 196, 197, 198, 199, 200, 201, 202, 203, 204, 205, 206, 207, 208, 209, 210, 211, 212, 213, 214, 215, 216, 217, 218, 219, 220, 221, 222, 223, 224, 225, 226, 227, 228, 229, 230, 231, 232, 233, 234, 235, 236, 237, 238, 239, 240, 241, 242, 243, 244, 245, 246, 247, 248, 249, 250, 251, 252, 253, 254, 255, 256, 257, 258, 259] rfl (by decide +kernel)
set_option maxRecDepth 20000 in
theorem gX9_readLine_X9_readCat : GoodIn wsX9_readLine (wsV RX9 281 RX9 yX9_readCat wsX9_readCat) := goodIn_app (goodIn_r _ [80, 81, 82, 16] rfl (by decide +kernel)) ggX9_readLine_X9_readCat
set_option maxRecDepth 20000 in
theorem ggX9_readLine_X9_readRoom : GoodIn wsX9_readLine wsX9_readRoom := goodIn_r _ [122, 9, 19, 123, 124, 63, 125, 126, 127, 16, 128, 91, 92, 93, 94, 2, 1, 95, 96, 97, 98, 32, 39, 40, 41, 42, 37, 28, 29, 30, 31, 33, 34, 35, 36, 38, 43, 44, 45, 46, 47, 48, 49, 50, 51, 52, 53, 54, 55, 56, 57, 58, 59, 60, 3, 61, 62, 4, 5, 64, 65, 66, 67, 6, 7, 11, 68, 69, 70, 71, 72, 73, 74, 75, 76, 77, 78, 79, 111, 112, 113, 114, 21, 22, 23, 24, 87, 88, 89, 90, 84, 18, 115, 116, 117, 118, 193, 194, 195, 196, 197, 198, 199, 200, 201, 202, 203, 204, 205, 206, 207, 208, 209, 210, 211, 212, 213, 214, 215, 216, 217, 218, 219, 220, 221, 222, 223, 224, 225, 226, 227, 228, 229, 230, 231, 232, 233, 234, 235, 236, 237, 238, 239, 240, 241, 242, 243, 244, 245, 246, 247, 248, 249, 250, 251, 252, 253, 254, 255, 256, 257, 258, 259] rfl (by decide +kernel)
set_option maxRecDepth 20000 in
theorem gX9_readLine_X9_readRoom : GoodIn wsX9_readLine (wsV RX9 284 RX9 yX9_readRoom wsX9_readRoom) := goodIn_app (goodIn_r _ [119, 120, 121, 16] rfl (by decide +kernel)) ggX9_readLine_X9_readRoom
set_option maxRecDepth 20000 in
theorem ggX9_readLine_X9_readTenant : GoodIn wsX9_readLine wsX9_readTenant := goodIn_r _ [132, 9, 20, 133, 134, 64, 135, 65, 136, 66, 137, 67, 32, 91, 92, 93, 16, 94, 2, 1, 95, 96, 97, 98, 39, 40, 41, 42, 37, 28, 29, 30, 31, 33, 34, 35, 36, 38, 43, 44, 45, 46, 47, 48, 49, 50, 51, 52, 53, 54, 55, 56, 57, 58, 59, 60, 3, 61, 62, 4, 63, 5, 6, 7, 11, 68, 69, 70, 71, 72, 73, 74, 75, 76, 77, 78, 79, 99, 100, 101, 102, 21, 22, 23, 24, 103, 104, 105, 106, 107, 108, 109, 110, 138, 139, 140, 141, 111, 112, 113, 114, 125, 126, 127, 128, 123, 19, 115, 116, 117, 118, 193, 194, 195, 196, 197, 198, 199, 200, 201, 202, 203, 204, 205, 206, 207, 208, 209, 210, 211, 212, 213, 214, 215, 216, 217, 218, 219, 220, 221, 222, 223, 224, 225, 226, 227, 228, 229, 230, 231, 232, 233, 234, 235, 236, 237, 238, 239, 240, 241, 242, 243, 244, 245, 246, 247, 248, 249, 250, 251, 252, 253, 254, 255, 256, 257, 258, 259] rfl (by decide +kernel)
set_option maxRecDepth 20000 in
theorem gX9_readLine_X9_readTenant : GoodIn wsX9_readLine (wsV RX9 287 RX9 yX9_readTenant wsX9_readTenant) := goodIn_app (goodIn_r _ [129, 130, 131, 16] rfl (by decide +kernel)) ggX9_readLine_X9_readTenant
set_option maxRecDepth 20000 in
theorem ggX9_readLine_X9_readRule : GoodIn wsX9_readLine wsX9_readRule := goodIn_r _ [145, 8, 9, 146, 147, 148, 149, 150, 151, 152, 16, 153, 154, 155, 156, 157, 158, 159, 160, 161, 39, 40, 41, 42, 37, 162, 163, 164, 165, 73, 166, 2, 49, 21, 22, 23, 24, 1, 167, 168, 169, 170, 32, 50, 51, 52, 53, 48, 54, 171, 172, 173, 174, 64, 61, 65, 66, 68, 69, 70, 28, 29, 30, 31, 33, 34, 35, 36, 38, 43, 44, 45, 46, 47, 55, 56, 57, 58, 59, 60, 3, 62, 4, 63, 5, 67, 6, 7, 11, 71, 72, 74, 75, 76, 77, 78, 79, 175, 176, 177, 178, 179, 180, 181, 182, 183, 184, 185, 186, 187, 188, 189, 190, 191, 192, 103, 104, 105, 106, 193, 194, 195, 196, 197, 198, 199, 200, 201, 202, 203, 204, 205, 206, 207, 208, 209, 210, 211, 212, 213, 214, 215, 216, 217, 218, 219, 220, 221, 222, 223, 224, 225, 226, 227, 228, 229, 230, 231, 232, 233, 234, 235, 236, 237, 238, 239, 240, 241, 242, 243, 244, 245, 246, 247, 248, 249, 250, 251, 252, 253, 254, 255, 256, 257, 258, 259] rfl (by decide +kernel)
set_option maxRecDepth 20000 in
theorem gX9_readLine_X9_readRule : GoodIn wsX9_readLine (wsV RX9 290 RX9 yX9_readRule wsX9_readRule) := goodIn_app (goodIn_r _ [142, 143, 144, 16] rfl (by decide +kernel)) ggX9_readLine_X9_readRule
set_option maxRecDepth 20000 in
theorem ggX9_readLine_X9_numeral : GoodIn wsX9_readLine wsX9_numeral := goodIn_r _ [110, 2, 49, 32, 39, 40, 41, 16, 42, 37, 28, 29, 30, 31, 33, 34, 35, 36, 38, 43, 44, 45, 46, 47, 48, 1, 50, 51, 52, 53, 54, 55, 56, 57, 58, 59, 60, 3, 61, 62, 4, 63, 5, 64, 65, 66, 67, 6, 7, 11, 68, 69, 70, 71, 72, 73, 74, 75, 76, 77, 78, 79, 193, 194, 195, 196, 197, 198, 199, 200, 201, 202, 203, 204, 205, 206, 207, 208, 209, 210, 211, 212, 213, 214, 215, 216, 217, 218, 219, 220, 221, 222, 223, 224, 225, 226, 227, 228, 229, 230, 231, 232, 233, 234, 235, 236, 237, 238, 239, 240, 241, 242, 243, 244, 245, 246, 247, 248, 249, 250, 251, 252, 253, 254, 255, 256, 257, 258, 259] rfl (by decide +kernel)
set_option maxRecDepth 20000 in
theorem gX9_readLine_X9_numeral : GoodIn wsX9_readLine (wsV RX9 251 RX9 yX9_numeral wsX9_numeral) := goodIn_app (goodIn_r _ [107, 108, 109, 16] rfl (by decide +kernel)) ggX9_readLine_X9_numeral
set_option maxRecDepth 20000 in
theorem ggX9_readLine_X9_isSignHere : GoodIn wsX9_readLine wsX9_isSignHere := goodIn_r _ [170, 2, 32, 50, 51, 52, 16, 53, 48, 54, 193, 194, 195, 196, 197, 198, 199, 200, 201, 202, 203, 204, 205, 206, 207, 208, 209, 210, 211, 212, 213, 214, 215, 216, 217, 218, 219, 220, 221, 222, 223, 224, 225, 226, 227, 228, 229, 230, 231, 232, 233, 234, 235, 236, 237, 238, 239, 240, 241, 242, 243, 244, 245, 246, 247, 248, 249, 250, 251, 252, 253, 254, 255, 256, 257, 258, 259] rfl (by decide +kernel)
set_option maxRecDepth 20000 in
theorem gX9_readLine_X9_isSignHere : GoodIn wsX9_readLine (wsV RX9 293 RX9 yX9_isSignHere wsX9_isSignHere) := goodIn_app (goodIn_r _ [167, 168, 169, 16] rfl (by decide +kernel)) ggX9_readLine_X9_isSignHere
set_option maxRecDepth 20000 in
theorem ggX9_readLine_X9_must : GoodIn wsX9_readLine wsX9_must := goodIn_r _ [106, 39, 40, 41, 16, 42, 37, 43, 44, 45, 46, 47, 32, 48, 2, 1, 49, 50, 51, 52, 53, 54, 55, 56, 57, 58, 59, 60, 3, 61, 62, 4, 63, 5, 64, 65, 66, 67, 6, 7, 11, 68, 69, 70, 71, 72, 73, 74, 75, 76, 77, 78, 79, 28, 29, 30, 31, 33, 34, 35, 36, 38, 193, 194, 195, 196, 197, 198, 199, 200, 201, 202, 203, 204, 205, 206, 207, 208, 209, 210, 211, 212, 213, 214, 215, 216, 217, 218, 219, 220, 221, 222, 223, 224, 225, 226, 227, 228, 229, 230, 231, 232, 233, 234, 235, 236, 237, 238, 239, 240, 241, 242, 243, 244, 245, 246, 247, 248, 249, 250, 251, 252, 253, 254, 255, 256, 257, 258, 259] rfl (by decide +kernel)
set_option maxRecDepth 20000 in
theorem gX9_readLine_X9_must : GoodIn wsX9_readLine (wsV RX9 247 RX9 yX9_must wsX9_must) := goodIn_app (goodIn_r _ [103, 104, 105, 16] rfl (by decide +kernel)) ggX9_readLine_X9_must
theorem dX9_readLine_0 : decode cX9_readLine 0 = .ok (.aload_n 0, 1) := by decide +kernel
theorem dX9_readLine_1 : decode cX9_readLine 1 = .ok (.getfield 213, 3) := by decide +kernel
theorem dX9_readLine_4 : decode cX9_readLine 4 = .ok (.lstore_n 1, 1) := by decide +kernel
theorem dX9_readLine_5 : decode cX9_readLine 5 = .ok (.aload_n 0, 1) := by decide +kernel
theorem dX9_readLine_6 : decode cX9_readLine 6 = .ok (.getfield 206, 3) := by decide +kernel
theorem dX9_readLine_9 : decode cX9_readLine 9 = .ok (.iconst 3, 1) := by decide +kernel
theorem dX9_readLine_10 : decode cX9_readLine 10 = .ok (.if_icmp .ne 10, 3) := by decide +kernel
theorem dX9_readLine_13 : decode cX9_readLine 13 = .ok (.aload_n 0, 1) := by decide +kernel
theorem dX9_readLine_14 : decode cX9_readLine 14 = .ok (.invokevirtual 278, 3) := by decide +kernel
theorem dX9_readLine_17 : decode cX9_readLine 17 = .ok (.ifCond .eq 7, 3) := by decide +kernel
theorem dX9_readLine_20 : decode cX9_readLine 20 = .ok (.aload_n 0, 1) := by decide +kernel
theorem dX9_readLine_21 : decode cX9_readLine 21 = .ok (.invokevirtual 241, 3) := by decide +kernel
theorem dX9_readLine_24 : decode cX9_readLine 24 = .ok (.aload_n 0, 1) := by decide +kernel
theorem dX9_readLine_25 : decode cX9_readLine 25 = .ok (.invokevirtual 234, 3) := by decide +kernel
theorem dX9_readLine_28 : decode cX9_readLine 28 = .ok (.ifCond .ne 4, 3) := by decide +kernel
theorem dX9_readLine_31 : decode cX9_readLine 31 = .ok (.return_, 1) := by decide +kernel
theorem dX9_readLine_32 : decode cX9_readLine 32 = .ok (.aload_n 0, 1) := by decide +kernel
theorem dX9_readLine_33 : decode cX9_readLine 33 = .ok (.invokevirtual 238, 3) := by decide +kernel
theorem dX9_readLine_36 : decode cX9_readLine 36 = .ok (.lload_n 1, 1) := by decide +kernel
theorem dX9_readLine_37 : decode cX9_readLine 37 = .ok (.ldc2_w 158, 3) := by decide +kernel
theorem dX9_readLine_40 : decode cX9_readLine 40 = .ok (.lcmp, 1) := by decide +kernel
theorem dX9_readLine_41 : decode cX9_readLine 41 = .ok (.ifCond .ne 7, 3) := by decide +kernel
theorem dX9_readLine_44 : decode cX9_readLine 44 = .ok (.aload_n 0, 1) := by decide +kernel
theorem dX9_readLine_45 : decode cX9_readLine 45 = .ok (.invokevirtual 281, 3) := by decide +kernel
theorem dX9_readLine_48 : decode cX9_readLine 48 = .ok (.lload_n 1, 1) := by decide +kernel
theorem dX9_readLine_49 : decode cX9_readLine 49 = .ok (.ldc2_w 164, 3) := by decide +kernel
theorem dX9_readLine_52 : decode cX9_readLine 52 = .ok (.lcmp, 1) := by decide +kernel
theorem dX9_readLine_53 : decode cX9_readLine 53 = .ok (.ifCond .ne 7, 3) := by decide +kernel
theorem dX9_readLine_56 : decode cX9_readLine 56 = .ok (.aload_n 0, 1) := by decide +kernel
theorem dX9_readLine_57 : decode cX9_readLine 57 = .ok (.invokevirtual 284, 3) := by decide +kernel
theorem dX9_readLine_60 : decode cX9_readLine 60 = .ok (.lload_n 1, 1) := by decide +kernel
theorem dX9_readLine_61 : decode cX9_readLine 61 = .ok (.ldc2_w 168, 3) := by decide +kernel
theorem dX9_readLine_64 : decode cX9_readLine 64 = .ok (.lcmp, 1) := by decide +kernel
theorem dX9_readLine_65 : decode cX9_readLine 65 = .ok (.ifCond .ne 7, 3) := by decide +kernel
theorem dX9_readLine_68 : decode cX9_readLine 68 = .ok (.aload_n 0, 1) := by decide +kernel
theorem dX9_readLine_69 : decode cX9_readLine 69 = .ok (.invokevirtual 287, 3) := by decide +kernel
theorem dX9_readLine_72 : decode cX9_readLine 72 = .ok (.lload_n 1, 1) := by decide +kernel
theorem dX9_readLine_73 : decode cX9_readLine 73 = .ok (.ldc2_w 178, 3) := by decide +kernel
theorem dX9_readLine_76 : decode cX9_readLine 76 = .ok (.lcmp, 1) := by decide +kernel
theorem dX9_readLine_77 : decode cX9_readLine 77 = .ok (.ifCond .ne 7, 3) := by decide +kernel
theorem dX9_readLine_80 : decode cX9_readLine 80 = .ok (.aload_n 0, 1) := by decide +kernel
theorem dX9_readLine_81 : decode cX9_readLine 81 = .ok (.invokevirtual 290, 3) := by decide +kernel
theorem dX9_readLine_84 : decode cX9_readLine 84 = .ok (.lload_n 1, 1) := by decide +kernel
theorem dX9_readLine_85 : decode cX9_readLine 85 = .ok (.ldc2_w 180, 3) := by decide +kernel
theorem dX9_readLine_88 : decode cX9_readLine 88 = .ok (.lcmp, 1) := by decide +kernel
theorem dX9_readLine_89 : decode cX9_readLine 89 = .ok (.ifCond .ne 32, 3) := by decide +kernel
theorem dX9_readLine_92 : decode cX9_readLine 92 = .ok (.aload_n 0, 1) := by decide +kernel
theorem dX9_readLine_93 : decode cX9_readLine 93 = .ok (.getfield 39, 3) := by decide +kernel
theorem dX9_readLine_96 : decode cX9_readLine 96 = .ok (.aload_n 0, 1) := by decide +kernel
theorem dX9_readLine_97 : decode cX9_readLine 97 = .ok (.getfield 259, 3) := by decide +kernel
theorem dX9_readLine_100 : decode cX9_readLine 100 = .ok (.dup2, 1) := by decide +kernel
theorem dX9_readLine_101 : decode cX9_readLine 101 = .ok (.iaload, 1) := by decide +kernel
theorem dX9_readLine_102 : decode cX9_readLine 102 = .ok (.iconst 2, 1) := by decide +kernel
theorem dX9_readLine_103 : decode cX9_readLine 103 = .ok (.ior, 1) := by decide +kernel
theorem dX9_readLine_104 : decode cX9_readLine 104 = .ok (.iastore, 1) := by decide +kernel
theorem dX9_readLine_105 : decode cX9_readLine 105 = .ok (.aload_n 0, 1) := by decide +kernel
theorem dX9_readLine_106 : decode cX9_readLine 106 = .ok (.getfield 33, 3) := by decide +kernel
theorem dX9_readLine_109 : decode cX9_readLine 109 = .ok (.aload_n 0, 1) := by decide +kernel
theorem dX9_readLine_110 : decode cX9_readLine 110 = .ok (.getfield 259, 3) := by decide +kernel
theorem dX9_readLine_113 : decode cX9_readLine 113 = .ok (.aload_n 0, 1) := by decide +kernel
theorem dX9_readLine_114 : decode cX9_readLine 114 = .ok (.iconst 0, 1) := by decide +kernel
theorem dX9_readLine_115 : decode cX9_readLine 115 = .ok (.bipush 100, 2) := by decide +kernel
theorem dX9_readLine_117 : decode cX9_readLine 117 = .ok (.invokevirtual 251, 3) := by decide +kernel
theorem dX9_readLine_120 : decode cX9_readLine 120 = .ok (.iastore, 1) := by decide +kernel
theorem dX9_readLine_121 : decode cX9_readLine 121 = .ok (.lload_n 1, 1) := by decide +kernel
theorem dX9_readLine_122 : decode cX9_readLine 122 = .ok (.ldc2_w 182, 3) := by decide +kernel
theorem dX9_readLine_125 : decode cX9_readLine 125 = .ok (.lcmp, 1) := by decide +kernel
theorem dX9_readLine_126 : decode cX9_readLine 126 = .ok (.ifCond .ne 33, 3) := by decide +kernel
theorem dX9_readLine_129 : decode cX9_readLine 129 = .ok (.aload_n 0, 1) := by decide +kernel
theorem dX9_readLine_130 : decode cX9_readLine 130 = .ok (.getfield 39, 3) := by decide +kernel
theorem dX9_readLine_133 : decode cX9_readLine 133 = .ok (.aload_n 0, 1) := by decide +kernel
theorem dX9_readLine_134 : decode cX9_readLine 134 = .ok (.getfield 259, 3) := by decide +kernel
theorem dX9_readLine_137 : decode cX9_readLine 137 = .ok (.dup2, 1) := by decide +kernel
theorem dX9_readLine_138 : decode cX9_readLine 138 = .ok (.iaload, 1) := by decide +kernel
theorem dX9_readLine_139 : decode cX9_readLine 139 = .ok (.iconst 4, 1) := by decide +kernel
theorem dX9_readLine_140 : decode cX9_readLine 140 = .ok (.ior, 1) := by decide +kernel
theorem dX9_readLine_141 : decode cX9_readLine 141 = .ok (.iastore, 1) := by decide +kernel
theorem dX9_readLine_142 : decode cX9_readLine 142 = .ok (.aload_n 0, 1) := by decide +kernel
theorem dX9_readLine_143 : decode cX9_readLine 143 = .ok (.getfield 36, 3) := by decide +kernel
theorem dX9_readLine_146 : decode cX9_readLine 146 = .ok (.aload_n 0, 1) := by decide +kernel
theorem dX9_readLine_147 : decode cX9_readLine 147 = .ok (.getfield 259, 3) := by decide +kernel
theorem dX9_readLine_150 : decode cX9_readLine 150 = .ok (.aload_n 0, 1) := by decide +kernel
theorem dX9_readLine_151 : decode cX9_readLine 151 = .ok (.iconst 0, 1) := by decide +kernel
theorem dX9_readLine_152 : decode cX9_readLine 152 = .ok (.sipush 999, 3) := by decide +kernel
theorem dX9_readLine_155 : decode cX9_readLine 155 = .ok (.invokevirtual 251, 3) := by decide +kernel
theorem dX9_readLine_158 : decode cX9_readLine 158 = .ok (.iastore, 1) := by decide +kernel
theorem dX9_readLine_159 : decode cX9_readLine 159 = .ok (.aload_n 0, 1) := by decide +kernel
theorem dX9_readLine_160 : decode cX9_readLine 160 = .ok (.aload_n 0, 1) := by decide +kernel
theorem dX9_readLine_161 : decode cX9_readLine 161 = .ok (.bipush 59, 2) := by decide +kernel
theorem dX9_readLine_163 : decode cX9_readLine 163 = .ok (.invokevirtual 293, 3) := by decide +kernel
theorem dX9_readLine_166 : decode cX9_readLine 166 = .ok (.invokevirtual 247, 3) := by decide +kernel
theorem dX9_readLine_169 : decode cX9_readLine 169 = .ok (.return_, 1) := by decide +kernel
set_option maxRecDepth 20000 in
theorem ggX9_readCat_X9_catHere : GoodIn wsX9_readCat wsX9_catHere := goodIn_r _ [12, 3, 1, 2, 13, 14, 15, 11, 16, 17, 18, 103, 104, 105, 106, 107, 108, 109, 110, 111, 112, 113, 114, 115, 116, 117, 118, 119, 120, 121, 122, 123, 124, 125, 126, 127, 128, 129, 130, 131, 132, 133, 134, 135, 136, 137, 138, 139, 140, 141, 142, 143, 144, 145, 146, 147, 148, 149, 150, 151, 152, 153, 154, 155, 156, 157, 158, 159, 160, 161, 162, 163, 164, 165, 166, 167, 168, 169] rfl (by decide +kernel)
set_option maxRecDepth 20000 in
theorem gX9_readCat_X9_catHere : GoodIn wsX9_readCat (wsV RX9 300 RX9 yX9_catHere wsX9_catHere) := goodIn_app (goodIn_r _ [8, 9, 10, 11] rfl (by decide +kernel)) ggX9_readCat_X9_catHere
set_option maxRecDepth 20000 in
theorem ggX9_readCat_X9_fresh : GoodIn wsX9_readCat wsX9_fresh := goodIn_r _ [22, 17, 23, 18, 24, 25, 26, 11, 27, 28, 29, 30, 31, 32, 33, 34, 35, 36, 37, 38, 39, 40, 41, 42, 43, 44, 45, 46, 47, 48, 49, 50, 51, 52, 53, 54, 55, 56, 5, 7, 57, 58, 59, 60, 61, 62, 63, 64, 65, 66, 67, 68, 69, 70, 71, 72, 73, 74, 75, 76, 77, 78, 103, 104, 105, 106, 107, 108, 109, 110, 111, 112, 113, 114, 115, 116, 117, 118, 119, 120, 121, 122, 123, 124, 125, 126, 127, 128, 129, 130, 131, 132, 133, 134, 135, 136, 137, 138, 139, 140, 141, 142, 143, 144, 145, 146, 147, 148, 149, 150, 151, 152, 153, 154, 155, 156, 157, 158, 159, 160, 161, 162, 163, 164, 165, 166, 167, 168, 169] rfl (by decide +kernel)
set_option maxRecDepth 20000 in
theorem gX9_readCat_X9_fresh : GoodIn wsX9_readCat (wsV RX9 304 RX9 yX9_fresh wsX9_fresh) := goodIn_app (goodIn_r _ [19, 20, 21, 11] rfl (by decide +kernel)) ggX9_readCat_X9_fresh
set_option maxRecDepth 20000 in
theorem ggX9_readCat_X9_after : GoodIn wsX9_readCat wsX9_after := goodIn_r _ [82, 83, 84, 85, 11, 86, 17, 18, 87, 88, 89, 90, 24, 25, 26, 27, 28, 38, 39, 40, 41, 42, 23, 43, 44, 45, 46, 47, 48, 49, 50, 51, 52, 53, 54, 55, 56, 5, 7, 57, 58, 59, 60, 61, 62, 63, 64, 65, 66, 67, 68, 69, 70, 71, 72, 73, 74, 75, 76, 77, 78, 29, 30, 31, 32, 33, 34, 35, 36, 37, 91, 92, 93, 94, 103, 104, 105, 106, 107, 108, 109, 110, 111, 112, 113, 114, 115, 116, 117, 118, 119, 120, 121, 122, 123, 124, 125, 126, 127, 128, 129, 130, 131, 132, 133, 134, 135, 136, 137, 138, 139, 140, 141, 142, 143, 144, 145, 146, 147, 148, 149, 150, 151, 152, 153, 154, 155, 156, 157, 158, 159, 160, 161, 162, 163, 164, 165, 166, 167, 168, 169] rfl (by decide +kernel)
set_option maxRecDepth 20000 in
theorem gX9_readCat_X9_after : GoodIn wsX9_readCat (wsV RX9 255 RX9 yX9_after wsX9_after) := goodIn_app (goodIn_r _ [79, 80, 81, 11] rfl (by decide +kernel)) ggX9_readCat_X9_after
set_option maxRecDepth 20000 in
theorem ggX9_readCat_X9_passes : GoodIn wsX9_readCat wsX9_passes := goodIn_r _ [98, 24, 25, 26, 11, 27, 28, 83, 84, 85, 86, 17, 18, 38, 39, 40, 41, 42, 23, 43, 44, 45, 46, 47, 48, 49, 50, 51, 52, 53, 54, 55, 56, 5, 7, 57, 58, 59, 60, 61, 62, 63, 64, 65, 66, 67, 68, 69, 70, 71, 72, 73, 74, 75, 76, 77, 78, 103, 104, 105, 106, 107, 108, 109, 110, 111, 112, 113, 114, 115, 116, 117, 118, 119, 120, 121, 122, 123, 124, 125, 126, 127, 128, 129, 130, 131, 132, 133, 134, 135, 136, 137, 138, 139, 140, 141, 142, 143, 144, 145, 146, 147, 148, 149, 150, 151, 152, 153, 154, 155, 156, 157, 158, 159, 160, 161, 162, 163, 164, 165, 166, 167, 168, 169] rfl (by decide +kernel)
set_option maxRecDepth 20000 in
theorem gX9_readCat_X9_passes : GoodIn wsX9_readCat (wsV RX9 308 RX9 yX9_passes wsX9_passes) := goodIn_app (goodIn_r _ [95, 96, 97, 11] rfl (by decide +kernel)) ggX9_readCat_X9_passes
set_option maxRecDepth 20000 in
theorem ggX9_readCat_X9_known : GoodIn wsX9_readCat wsX9_known := goodIn_r _ [102, 17, 23, 24, 25, 26, 11, 27, 28, 29, 30, 31, 32, 33, 34, 35, 36, 37, 38, 39, 40, 41, 42, 43, 18, 44, 45, 46, 47, 48, 49, 50, 51, 52, 53, 54, 55, 56, 5, 7, 57, 58, 59, 60, 61, 62, 63, 64, 65, 66, 67, 68, 69, 70, 71, 72, 73, 74, 75, 76, 77, 78, 103, 104, 105, 106, 107, 108, 109, 110, 111, 112, 113, 114, 115, 116, 117, 118, 119, 120, 121, 122, 123, 124, 125, 126, 127, 128, 129, 130, 131, 132, 133, 134, 135, 136, 137, 138, 139, 140, 141, 142, 143, 144, 145, 146, 147, 148, 149, 150, 151, 152, 153, 154, 155, 156, 157, 158, 159, 160, 161, 162, 163, 164, 165, 166, 167, 168, 169] rfl (by decide +kernel)
set_option maxRecDepth 20000 in
theorem gX9_readCat_X9_known : GoodIn wsX9_readCat (wsV RX9 311 RX9 yX9_known wsX9_known) := goodIn_app (goodIn_r _ [99, 100, 101, 11] rfl (by decide +kernel)) ggX9_readCat_X9_known
theorem dX9_readCat_0 : decode cX9_readCat 0 = .ok (.bipush 6, 2) := by decide +kernel
theorem dX9_readCat_2 : decode cX9_readCat 2 = .ok (.aload_n 0, 1) := by decide +kernel
theorem dX9_readCat_3 : decode cX9_readCat 3 = .ok (.getfield 259, 3) := by decide +kernel
theorem dX9_readCat_6 : decode cX9_readCat 6 = .ok (.imul, 1) := by decide +kernel
theorem dX9_readCat_7 : decode cX9_readCat 7 = .ok (.aload_n 0, 1) := by decide +kernel
theorem dX9_readCat_8 : decode cX9_readCat 8 = .ok (.getfield 20, 3) := by decide +kernel
theorem dX9_readCat_11 : decode cX9_readCat 11 = .ok (.aload_n 0, 1) := by decide +kernel
theorem dX9_readCat_12 : decode cX9_readCat 12 = .ok (.getfield 259, 3) := by decide +kernel
theorem dX9_readCat_15 : decode cX9_readCat 15 = .ok (.iaload, 1) := by decide +kernel
theorem dX9_readCat_16 : decode cX9_readCat 16 = .ok (.iadd, 1) := by decide +kernel
theorem dX9_readCat_17 : decode cX9_readCat 17 = .ok (.istore_n 1, 1) := by decide +kernel
theorem dX9_readCat_18 : decode cX9_readCat 18 = .ok (.aload_n 0, 1) := by decide +kernel
theorem dX9_readCat_19 : decode cX9_readCat 19 = .ok (.getfield 69, 3) := by decide +kernel
theorem dX9_readCat_22 : decode cX9_readCat 22 = .ok (.iload_n 1, 1) := by decide +kernel
theorem dX9_readCat_23 : decode cX9_readCat 23 = .ok (.aload_n 0, 1) := by decide +kernel
theorem dX9_readCat_24 : decode cX9_readCat 24 = .ok (.aload_n 0, 1) := by decide +kernel
theorem dX9_readCat_25 : decode cX9_readCat 25 = .ok (.invokevirtual 300, 3) := by decide +kernel
theorem dX9_readCat_28 : decode cX9_readCat 28 = .ok (.invokevirtual 304, 3) := by decide +kernel
theorem dX9_readCat_31 : decode cX9_readCat 31 = .ok (.lastore, 1) := by decide +kernel
theorem dX9_readCat_32 : decode cX9_readCat 32 = .ok (.aload_n 0, 1) := by decide +kernel
theorem dX9_readCat_33 : decode cX9_readCat 33 = .ok (.getfield 42, 3) := by decide +kernel
theorem dX9_readCat_36 : decode cX9_readCat 36 = .ok (.iload_n 1, 1) := by decide +kernel
theorem dX9_readCat_37 : decode cX9_readCat 37 = .ok (.aload_n 0, 1) := by decide +kernel
theorem dX9_readCat_38 : decode cX9_readCat 38 = .ok (.ldc2_w 160, 3) := by decide +kernel
theorem dX9_readCat_41 : decode cX9_readCat 41 = .ok (.iconst 0, 1) := by decide +kernel
theorem dX9_readCat_42 : decode cX9_readCat 42 = .ok (.bipush 99, 2) := by decide +kernel
theorem dX9_readCat_44 : decode cX9_readCat 44 = .ok (.invokevirtual 255, 3) := by decide +kernel
theorem dX9_readCat_47 : decode cX9_readCat 47 = .ok (.iastore, 1) := by decide +kernel
theorem dX9_readCat_48 : decode cX9_readCat 48 = .ok (.aload_n 0, 1) := by decide +kernel
theorem dX9_readCat_49 : decode cX9_readCat 49 = .ok (.getfield 45, 3) := by decide +kernel
theorem dX9_readCat_52 : decode cX9_readCat 52 = .ok (.iload_n 1, 1) := by decide +kernel
theorem dX9_readCat_53 : decode cX9_readCat 53 = .ok (.aload_n 0, 1) := by decide +kernel
theorem dX9_readCat_54 : decode cX9_readCat 54 = .ok (.ldc2_w 162, 3) := by decide +kernel
theorem dX9_readCat_57 : decode cX9_readCat 57 = .ok (.invokevirtual 308, 3) := by decide +kernel
theorem dX9_readCat_60 : decode cX9_readCat 60 = .ok (.ifCond .eq 14, 3) := by decide +kernel
theorem dX9_readCat_63 : decode cX9_readCat 63 = .ok (.aload_n 0, 1) := by decide +kernel
theorem dX9_readCat_64 : decode cX9_readCat 64 = .ok (.aload_n 0, 1) := by decide +kernel
theorem dX9_readCat_65 : decode cX9_readCat 65 = .ok (.invokevirtual 300, 3) := by decide +kernel
theorem dX9_readCat_68 : decode cX9_readCat 68 = .ok (.invokevirtual 311, 3) := by decide +kernel
theorem dX9_readCat_71 : decode cX9_readCat 71 = .ok (.goto 4, 3) := by decide +kernel
theorem dX9_readCat_74 : decode cX9_readCat 74 = .ok (.iconst (-1), 1) := by decide +kernel
theorem dX9_readCat_75 : decode cX9_readCat 75 = .ok (.iastore, 1) := by decide +kernel
theorem dX9_readCat_76 : decode cX9_readCat 76 = .ok (.aload_n 0, 1) := by decide +kernel
theorem dX9_readCat_77 : decode cX9_readCat 77 = .ok (.getfield 20, 3) := by decide +kernel
theorem dX9_readCat_80 : decode cX9_readCat 80 = .ok (.aload_n 0, 1) := by decide +kernel
theorem dX9_readCat_81 : decode cX9_readCat 81 = .ok (.getfield 259, 3) := by decide +kernel
theorem dX9_readCat_84 : decode cX9_readCat 84 = .ok (.dup2, 1) := by decide +kernel
theorem dX9_readCat_85 : decode cX9_readCat 85 = .ok (.iaload, 1) := by decide +kernel
theorem dX9_readCat_86 : decode cX9_readCat 86 = .ok (.iconst 1, 1) := by decide +kernel
theorem dX9_readCat_87 : decode cX9_readCat 87 = .ok (.iadd, 1) := by decide +kernel
theorem dX9_readCat_88 : decode cX9_readCat 88 = .ok (.iastore, 1) := by decide +kernel
theorem dX9_readCat_89 : decode cX9_readCat 89 = .ok (.return_, 1) := by decide +kernel
set_option maxRecDepth 20000 in
theorem ggX9_readRoom_X9_roomHere : GoodIn wsX9_readRoom wsX9_roomHere := goodIn_r _ [10, 3, 1, 2, 11, 12, 13, 9, 14, 15, 16, 96, 97, 98, 99, 100, 101, 102, 103, 104, 105, 106, 107, 108, 109, 110, 111, 112, 113, 114, 115, 116, 117, 118, 119, 120, 121, 122, 123, 124, 125, 126, 127, 128, 129, 130, 131, 132, 133, 134, 135, 136, 137, 138, 139, 140, 141, 142, 143, 144, 145, 146, 147, 148, 149, 150, 151, 152, 153, 154, 155, 156, 157, 158, 159, 160, 161, 162] rfl (by decide +kernel)
set_option maxRecDepth 20000 in
theorem gX9_readRoom_X9_roomHere : GoodIn wsX9_readRoom (wsV RX9 314 RX9 yX9_roomHere wsX9_roomHere) := goodIn_app (goodIn_r _ [6, 7, 8, 9] rfl (by decide +kernel)) ggX9_readRoom_X9_roomHere
set_option maxRecDepth 20000 in
theorem ggX9_readRoom_X9_fresh : GoodIn wsX9_readRoom wsX9_fresh := goodIn_r _ [20, 15, 21, 16, 22, 23, 24, 9, 25, 26, 27, 28, 29, 30, 31, 32, 33, 34, 35, 36, 37, 38, 39, 40, 41, 42, 43, 44, 45, 46, 47, 48, 49, 50, 51, 52, 53, 54, 55, 56, 57, 5, 58, 59, 60, 61, 62, 63, 64, 65, 66, 67, 68, 69, 70, 71, 72, 73, 74, 75, 76, 77, 96, 97, 98, 99, 100, 101, 102, 103, 104, 105, 106, 107, 108, 109, 110, 111, 112, 113, 114, 115, 116, 117, 118, 119, 120, 121, 122, 123, 124, 125, 126, 127, 128, 129, 130, 131, 132, 133, 134, 135, 136, 137, 138, 139, 140, 141, 142, 143, 144, 145, 146, 147, 148, 149, 150, 151, 152, 153, 154, 155, 156, 157, 158, 159, 160, 161, 162] rfl (by decide +kernel)
set_option maxRecDepth 20000 in
theorem gX9_readRoom_X9_fresh : GoodIn wsX9_readRoom (wsV RX9 304 RX9 yX9_fresh wsX9_fresh) := goodIn_app (goodIn_r _ [17, 18, 19, 9] rfl (by decide +kernel)) ggX9_readRoom_X9_fresh
set_option maxRecDepth 20000 in
theorem ggX9_readRoom_X9_passes : GoodIn wsX9_readRoom wsX9_passes := goodIn_r _ [81, 22, 23, 24, 9, 25, 26, 82, 83, 84, 85, 15, 16, 36, 37, 38, 39, 40, 21, 41, 42, 43, 44, 45, 46, 47, 48, 49, 50, 51, 52, 53, 54, 55, 56, 57, 5, 58, 59, 60, 61, 62, 63, 64, 65, 66, 67, 68, 69, 70, 71, 72, 73, 74, 75, 76, 77, 96, 97, 98, 99, 100, 101, 102, 103, 104, 105, 106, 107, 108, 109, 110, 111, 112, 113, 114, 115, 116, 117, 118, 119, 120, 121, 122, 123, 124, 125, 126, 127, 128, 129, 130, 131, 132, 133, 134, 135, 136, 137, 138, 139, 140, 141, 142, 143, 144, 145, 146, 147, 148, 149, 150, 151, 152, 153, 154, 155, 156, 157, 158, 159, 160, 161, 162] rfl (by decide +kernel)
set_option maxRecDepth 20000 in
theorem gX9_readRoom_X9_passes : GoodIn wsX9_readRoom (wsV RX9 308 RX9 yX9_passes wsX9_passes) := goodIn_app (goodIn_r _ [78, 79, 80, 9] rfl (by decide +kernel)) ggX9_readRoom_X9_passes
set_option maxRecDepth 20000 in
theorem ggX9_readRoom_X9_catHere : GoodIn wsX9_readRoom wsX9_catHere := goodIn_r _ [89, 90, 1, 91, 11, 12, 13, 9, 14, 15, 16, 96, 97, 98, 99, 100, 101, 102, 103, 104, 105, 106, 107, 108, 109, 110, 111, 112, 113, 114, 115, 116, 117, 118, 119, 120, 121, 122, 123, 124, 125, 126, 127, 128, 129, 130, 131, 132, 133, 134, 135, 136, 137, 138, 139, 140, 141, 142, 143, 144, 145, 146, 147, 148, 149, 150, 151, 152, 153, 154, 155, 156, 157, 158, 159, 160, 161, 162] rfl (by decide +kernel)
set_option maxRecDepth 20000 in
theorem gX9_readRoom_X9_catHere : GoodIn wsX9_readRoom (wsV RX9 300 RX9 yX9_catHere wsX9_catHere) := goodIn_app (goodIn_r _ [86, 87, 88, 9] rfl (by decide +kernel)) ggX9_readRoom_X9_catHere
set_option maxRecDepth 20000 in
theorem ggX9_readRoom_X9_known : GoodIn wsX9_readRoom wsX9_known := goodIn_r _ [95, 15, 21, 22, 23, 24, 9, 25, 26, 27, 28, 29, 30, 31, 32, 33, 34, 35, 36, 37, 38, 39, 40, 41, 16, 42, 43, 44, 45, 46, 47, 48, 49, 50, 51, 52, 53, 54, 55, 56, 57, 5, 58, 59, 60, 61, 62, 63, 64, 65, 66, 67, 68, 69, 70, 71, 72, 73, 74, 75, 76, 77, 96, 97, 98, 99, 100, 101, 102, 103, 104, 105, 106, 107, 108, 109, 110, 111, 112, 113, 114, 115, 116, 117, 118, 119, 120, 121, 122, 123, 124, 125, 126, 127, 128, 129, 130, 131, 132, 133, 134, 135, 136, 137, 138, 139, 140, 141, 142, 143, 144, 145, 146, 147, 148, 149, 150, 151, 152, 153, 154, 155, 156, 157, 158, 159, 160, 161, 162] rfl (by decide +kernel)
set_option maxRecDepth 20000 in
theorem gX9_readRoom_X9_known : GoodIn wsX9_readRoom (wsV RX9 311 RX9 yX9_known wsX9_known) := goodIn_app (goodIn_r _ [92, 93, 94, 9] rfl (by decide +kernel)) ggX9_readRoom_X9_known
theorem dX9_readRoom_0 : decode cX9_readRoom 0 = .ok (.bipush 8, 2) := by decide +kernel
theorem dX9_readRoom_2 : decode cX9_readRoom 2 = .ok (.aload_n 0, 1) := by decide +kernel
theorem dX9_readRoom_3 : decode cX9_readRoom 3 = .ok (.getfield 259, 3) := by decide +kernel
theorem dX9_readRoom_6 : decode cX9_readRoom 6 = .ok (.imul, 1) := by decide +kernel
theorem dX9_readRoom_7 : decode cX9_readRoom 7 = .ok (.aload_n 0, 1) := by decide +kernel
theorem dX9_readRoom_8 : decode cX9_readRoom 8 = .ok (.getfield 24, 3) := by decide +kernel
theorem dX9_readRoom_11 : decode cX9_readRoom 11 = .ok (.aload_n 0, 1) := by decide +kernel
theorem dX9_readRoom_12 : decode cX9_readRoom 12 = .ok (.getfield 259, 3) := by decide +kernel
theorem dX9_readRoom_15 : decode cX9_readRoom 15 = .ok (.iaload, 1) := by decide +kernel
theorem dX9_readRoom_16 : decode cX9_readRoom 16 = .ok (.iadd, 1) := by decide +kernel
theorem dX9_readRoom_17 : decode cX9_readRoom 17 = .ok (.istore_n 1, 1) := by decide +kernel
theorem dX9_readRoom_18 : decode cX9_readRoom 18 = .ok (.aload_n 0, 1) := by decide +kernel
theorem dX9_readRoom_19 : decode cX9_readRoom 19 = .ok (.getfield 73, 3) := by decide +kernel
theorem dX9_readRoom_22 : decode cX9_readRoom 22 = .ok (.iload_n 1, 1) := by decide +kernel
theorem dX9_readRoom_23 : decode cX9_readRoom 23 = .ok (.aload_n 0, 1) := by decide +kernel
theorem dX9_readRoom_24 : decode cX9_readRoom 24 = .ok (.aload_n 0, 1) := by decide +kernel
theorem dX9_readRoom_25 : decode cX9_readRoom 25 = .ok (.invokevirtual 314, 3) := by decide +kernel
theorem dX9_readRoom_28 : decode cX9_readRoom 28 = .ok (.invokevirtual 304, 3) := by decide +kernel
theorem dX9_readRoom_31 : decode cX9_readRoom 31 = .ok (.lastore, 1) := by decide +kernel
theorem dX9_readRoom_32 : decode cX9_readRoom 32 = .ok (.aload_n 0, 1) := by decide +kernel
theorem dX9_readRoom_33 : decode cX9_readRoom 33 = .ok (.getfield 48, 3) := by decide +kernel
theorem dX9_readRoom_36 : decode cX9_readRoom 36 = .ok (.iload_n 1, 1) := by decide +kernel
theorem dX9_readRoom_37 : decode cX9_readRoom 37 = .ok (.aload_n 0, 1) := by decide +kernel
theorem dX9_readRoom_38 : decode cX9_readRoom 38 = .ok (.ldc2_w 166, 3) := by decide +kernel
theorem dX9_readRoom_41 : decode cX9_readRoom 41 = .ok (.invokevirtual 308, 3) := by decide +kernel
theorem dX9_readRoom_44 : decode cX9_readRoom 44 = .ok (.ifCond .eq 14, 3) := by decide +kernel
theorem dX9_readRoom_47 : decode cX9_readRoom 47 = .ok (.aload_n 0, 1) := by decide +kernel
theorem dX9_readRoom_48 : decode cX9_readRoom 48 = .ok (.aload_n 0, 1) := by decide +kernel
theorem dX9_readRoom_49 : decode cX9_readRoom 49 = .ok (.invokevirtual 300, 3) := by decide +kernel
theorem dX9_readRoom_52 : decode cX9_readRoom 52 = .ok (.invokevirtual 311, 3) := by decide +kernel
theorem dX9_readRoom_55 : decode cX9_readRoom 55 = .ok (.goto 4, 3) := by decide +kernel
theorem dX9_readRoom_58 : decode cX9_readRoom 58 = .ok (.iconst (-1), 1) := by decide +kernel
theorem dX9_readRoom_59 : decode cX9_readRoom 59 = .ok (.iastore, 1) := by decide +kernel
theorem dX9_readRoom_60 : decode cX9_readRoom 60 = .ok (.aload_n 0, 1) := by decide +kernel
theorem dX9_readRoom_61 : decode cX9_readRoom 61 = .ok (.getfield 24, 3) := by decide +kernel
theorem dX9_readRoom_64 : decode cX9_readRoom 64 = .ok (.aload_n 0, 1) := by decide +kernel
theorem dX9_readRoom_65 : decode cX9_readRoom 65 = .ok (.getfield 259, 3) := by decide +kernel
theorem dX9_readRoom_68 : decode cX9_readRoom 68 = .ok (.dup2, 1) := by decide +kernel
theorem dX9_readRoom_69 : decode cX9_readRoom 69 = .ok (.iaload, 1) := by decide +kernel
theorem dX9_readRoom_70 : decode cX9_readRoom 70 = .ok (.iconst 1, 1) := by decide +kernel
theorem dX9_readRoom_71 : decode cX9_readRoom 71 = .ok (.iadd, 1) := by decide +kernel
theorem dX9_readRoom_72 : decode cX9_readRoom 72 = .ok (.iastore, 1) := by decide +kernel
theorem dX9_readRoom_73 : decode cX9_readRoom 73 = .ok (.return_, 1) := by decide +kernel
set_option maxRecDepth 20000 in
theorem ggX9_readTenant_X9_here : GoodIn wsX9_readTenant wsX9_here := goodIn_r _ [17, 18, 19, 111, 112, 113, 114, 115, 116, 117, 118, 119, 120, 121, 122, 123, 124, 125, 126, 127, 128, 129, 130, 131, 132, 133, 134, 135, 136, 137, 138, 139, 140, 141, 142, 143, 144, 145, 146, 147, 148, 149, 150, 151, 152, 153, 154, 155, 156, 157, 158, 159, 160, 161, 162, 163, 164, 165, 166, 167, 168, 169, 170, 171, 172, 173, 174, 175, 176, 177] rfl (by decide +kernel)
set_option maxRecDepth 20000 in
theorem gX9_readTenant_X9_here : GoodIn wsX9_readTenant (wsV RX9 296 RX9 yX9_here wsX9_here) := goodIn_app (goodIn_r _ [13, 14, 15, 16] rfl (by decide +kernel)) ggX9_readTenant_X9_here
set_option maxRecDepth 20000 in
theorem ggX9_readTenant_X9_fresh : GoodIn wsX9_readTenant wsX9_fresh := goodIn_r _ [23, 18, 12, 19, 24, 25, 26, 16, 27, 28, 29, 30, 31, 32, 33, 34, 35, 36, 37, 38, 39, 40, 41, 42, 43, 44, 45, 46, 47, 48, 49, 50, 51, 52, 53, 54, 55, 56, 57, 58, 59, 60, 61, 5, 7, 9, 11, 62, 63, 64, 65, 66, 67, 68, 69, 70, 71, 72, 73, 74, 75, 76, 111, 112, 113, 114, 115, 116, 117, 118, 119, 120, 121, 122, 123, 124, 125, 126, 127, 128, 129, 130, 131, 132, 133, 134, 135, 136, 137, 138, 139, 140, 141, 142, 143, 144, 145, 146, 147, 148, 149, 150, 151, 152, 153, 154, 155, 156, 157, 158, 159, 160, 161, 162, 163, 164, 165, 166, 167, 168, 169, 170, 171, 172, 173, 174, 175, 176, 177] rfl (by decide +kernel)
set_option maxRecDepth 20000 in
theorem gX9_readTenant_X9_fresh : GoodIn wsX9_readTenant (wsV RX9 304 RX9 yX9_fresh wsX9_fresh) := goodIn_app (goodIn_r _ [20, 21, 22, 16] rfl (by decide +kernel)) ggX9_readTenant_X9_fresh
set_option maxRecDepth 20000 in
theorem ggX9_readTenant_X9_after : GoodIn wsX9_readTenant wsX9_after := goodIn_r _ [80, 81, 82, 83, 16, 84, 18, 19, 85, 86, 87, 88, 24, 25, 26, 27, 28, 38, 39, 40, 41, 42, 12, 43, 44, 45, 46, 47, 48, 49, 50, 51, 52, 53, 54, 55, 56, 57, 58, 59, 60, 61, 5, 7, 9, 11, 62, 63, 64, 65, 66, 67, 68, 69, 70, 71, 72, 73, 74, 75, 76, 29, 30, 31, 32, 33, 34, 35, 36, 37, 89, 90, 91, 92, 111, 112, 113, 114, 115, 116, 117, 118, 119, 120, 121, 122, 123, 124, 125, 126, 127, 128, 129, 130, 131, 132, 133, 134, 135, 136, 137, 138, 139, 140, 141, 142, 143, 144, 145, 146, 147, 148, 149, 150, 151, 152, 153, 154, 155, 156, 157, 158, 159, 160, 161, 162, 163, 164, 165, 166, 167, 168, 169, 170, 171, 172, 173, 174, 175, 176, 177] rfl (by decide +kernel)
set_option maxRecDepth 20000 in
theorem gX9_readTenant_X9_after : GoodIn wsX9_readTenant (wsV RX9 255 RX9 yX9_after wsX9_after) := goodIn_app (goodIn_r _ [77, 78, 79, 16] rfl (by decide +kernel)) ggX9_readTenant_X9_after
set_option maxRecDepth 20000 in
theorem ggX9_readTenant_X9_perhaps : GoodIn wsX9_readTenant wsX9_perhaps := goodIn_r _ [96, 24, 25, 26, 16, 27, 28, 81, 82, 83, 84, 18, 19, 77, 78, 79, 80, 85, 86, 87, 88, 38, 39, 40, 41, 42, 12, 43, 44, 45, 46, 47, 48, 49, 50, 51, 52, 53, 54, 55, 56, 57, 58, 59, 60, 61, 5, 7, 9, 11, 62, 63, 64, 65, 66, 67, 68, 69, 70, 71, 72, 73, 74, 75, 76, 29, 30, 31, 32, 33, 34, 35, 36, 37, 89, 90, 91, 92, 111, 112, 113, 114, 115, 116, 117, 118, 119, 120, 121, 122, 123, 124, 125, 126, 127, 128, 129, 130, 131, 132, 133, 134, 135, 136, 137, 138, 139, 140, 141, 142, 143, 144, 145, 146, 147, 148, 149, 150, 151, 152, 153, 154, 155, 156, 157, 158, 159, 160, 161, 162, 163, 164, 165, 166, 167, 168, 169, 170, 171, 172, 173, 174, 175, 176, 177] rfl (by decide +kernel)
set_option maxRecDepth 20000 in
theorem gX9_readTenant_X9_perhaps : GoodIn wsX9_readTenant (wsV RX9 317 RX9 yX9_perhaps wsX9_perhaps) := goodIn_app (goodIn_r _ [93, 94, 95, 16] rfl (by decide +kernel)) ggX9_readTenant_X9_perhaps
set_option maxRecDepth 20000 in
theorem ggX9_readTenant_X9_passes : GoodIn wsX9_readTenant wsX9_passes := goodIn_r _ [100, 24, 25, 26, 16, 27, 28, 81, 82, 83, 84, 18, 19, 38, 39, 40, 41, 42, 12, 43, 44, 45, 46, 47, 48, 49, 50, 51, 52, 53, 54, 55, 56, 57, 58, 59, 60, 61, 5, 7, 9, 11, 62, 63, 64, 65, 66, 67, 68, 69, 70, 71, 72, 73, 74, 75, 76, 111, 112, 113, 114, 115, 116, 117, 118, 119, 120, 121, 122, 123, 124, 125, 126, 127, 128, 129, 130, 131, 132, 133, 134, 135, 136, 137, 138, 139, 140, 141, 142, 143, 144, 145, 146, 147, 148, 149, 150, 151, 152, 153, 154, 155, 156, 157, 158, 159, 160, 161, 162, 163, 164, 165, 166, 167, 168, 169, 170, 171, 172, 173, 174, 175, 176, 177] rfl (by decide +kernel)
set_option maxRecDepth 20000 in
theorem gX9_readTenant_X9_passes : GoodIn wsX9_readTenant (wsV RX9 308 RX9 yX9_passes wsX9_passes) := goodIn_app (goodIn_r _ [97, 98, 99, 16] rfl (by decide +kernel)) ggX9_readTenant_X9_passes
set_option maxRecDepth 20000 in
theorem ggX9_readTenant_X9_isGood : GoodIn wsX9_readTenant wsX9_isGood := goodIn_r _ [27, 28, 111, 112, 113, 114, 115, 116, 117, 118, 119, 120, 121, 122, 123, 124, 125, 126, 127, 128, 129, 130, 131, 132, 133, 134, 135, 136, 137, 138, 139, 140, 141, 142, 143, 144, 145, 146, 147, 148, 149, 150, 151, 152, 153, 154, 155, 156, 157, 158, 159, 160, 161, 162, 163, 164, 165, 166, 167, 168, 169, 170, 171, 172, 173, 174, 175, 176, 177] rfl (by decide +kernel)
set_option maxRecDepth 20000 in
theorem gX9_readTenant_X9_isGood : GoodIn wsX9_readTenant (wsV RX9 234 RX9 yX9_isGood wsX9_isGood) := goodIn_app (goodIn_r _ [24, 25, 26, 16] rfl (by decide +kernel)) ggX9_readTenant_X9_isGood
set_option maxRecDepth 20000 in
theorem ggX9_readTenant_X9_roomHere : GoodIn wsX9_readTenant wsX9_roomHere := goodIn_r _ [104, 105, 1, 106, 13, 14, 15, 16, 17, 18, 19, 111, 112, 113, 114, 115, 116, 117, 118, 119, 120, 121, 122, 123, 124, 125, 126, 127, 128, 129, 130, 131, 132, 133, 134, 135, 136, 137, 138, 139, 140, 141, 142, 143, 144, 145, 146, 147, 148, 149, 150, 151, 152, 153, 154, 155, 156, 157, 158, 159, 160, 161, 162, 163, 164, 165, 166, 167, 168, 169, 170, 171, 172, 173, 174, 175, 176, 177] rfl (by decide +kernel)
set_option maxRecDepth 20000 in
theorem gX9_readTenant_X9_roomHere : GoodIn wsX9_readTenant (wsV RX9 314 RX9 yX9_roomHere wsX9_roomHere) := goodIn_app (goodIn_r _ [101, 102, 103, 16] rfl (by decide +kernel)) ggX9_readTenant_X9_roomHere
set_option maxRecDepth 20000 in
theorem ggX9_readTenant_X9_fails : GoodIn wsX9_readTenant wsX9_fails := goodIn_r _ [36, 28, 37, 111, 112, 113, 114, 115, 116, 117, 118, 119, 120, 121, 122, 123, 124, 125, 126, 127, 128, 129, 130, 131, 132, 133, 134, 135, 136, 137, 138, 139, 140, 141, 142, 143, 144, 145, 146, 147, 148, 149, 150, 151, 152, 153, 154, 155, 156, 157, 158, 159, 160, 161, 162, 163, 164, 165, 166, 167, 168, 169, 170, 171, 172, 173, 174, 175, 176, 177] rfl (by decide +kernel)
set_option maxRecDepth 20000 in
theorem gX9_readTenant_X9_fails : GoodIn wsX9_readTenant (wsV RX9 230 RX9 yX9_fails wsX9_fails) := goodIn_app (goodIn_r _ [33, 34, 35, 16] rfl (by decide +kernel)) ggX9_readTenant_X9_fails
set_option maxRecDepth 20000 in
theorem ggX9_readTenant_X9_known : GoodIn wsX9_readTenant wsX9_known := goodIn_r _ [110, 18, 12, 24, 25, 26, 16, 27, 28, 29, 30, 31, 32, 33, 34, 35, 36, 37, 38, 39, 40, 41, 42, 43, 19, 44, 45, 46, 47, 48, 49, 50, 51, 52, 53, 54, 55, 56, 57, 58, 59, 60, 61, 5, 7, 9, 11, 62, 63, 64, 65, 66, 67, 68, 69, 70, 71, 72, 73, 74, 75, 76, 111, 112, 113, 114, 115, 116, 117, 118, 119, 120, 121, 122, 123, 124, 125, 126, 127, 128, 129, 130, 131, 132, 133, 134, 135, 136, 137, 138, 139, 140, 141, 142, 143, 144, 145, 146, 147, 148, 149, 150, 151, 152, 153, 154, 155, 156, 157, 158, 159, 160, 161, 162, 163, 164, 165, 166, 167, 168, 169, 170, 171, 172, 173, 174, 175, 176, 177] rfl (by decide +kernel)
set_option maxRecDepth 20000 in
theorem gX9_readTenant_X9_known : GoodIn wsX9_readTenant (wsV RX9 311 RX9 yX9_known wsX9_known) := goodIn_app (goodIn_r _ [107, 108, 109, 16] rfl (by decide +kernel)) ggX9_readTenant_X9_known
theorem dX9_readTenant_0 : decode cX9_readTenant 0 = .ok (.bipush 7, 2) := by decide +kernel
theorem dX9_readTenant_2 : decode cX9_readTenant 2 = .ok (.aload_n 0, 1) := by decide +kernel
theorem dX9_readTenant_3 : decode cX9_readTenant 3 = .ok (.getfield 259, 3) := by decide +kernel
theorem dX9_readTenant_6 : decode cX9_readTenant 6 = .ok (.imul, 1) := by decide +kernel
theorem dX9_readTenant_7 : decode cX9_readTenant 7 = .ok (.aload_n 0, 1) := by decide +kernel
theorem dX9_readTenant_8 : decode cX9_readTenant 8 = .ok (.getfield 27, 3) := by decide +kernel
