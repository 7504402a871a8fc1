theorem kc_10 : iv (10 : Int32) 10 10 := ⟨by decide, by decide⟩
theorem kc_12 : iv (12 : Int32) 12 12 := ⟨by decide, by decide⟩
theorem kc_13 : iv (13 : Int32) 13 13 := ⟨by decide, by decide⟩
theorem kc_14 : iv (14 : Int32) 14 14 := ⟨by decide, by decide⟩
theorem kc_15 : iv (15 : Int32) 15 15 := ⟨by decide, by decide⟩
theorem kc_16 : iv (16 : Int32) 16 16 := ⟨by decide, by decide⟩
theorem kc_17 : iv (17 : Int32) 17 17 := ⟨by decide, by decide⟩
theorem kc_18 : iv (18 : Int32) 18 18 := ⟨by decide, by decide⟩
theorem kc_19 : iv (19 : Int32) 19 19 := ⟨by decide, by decide⟩
theorem kc_32 : iv (32 : Int32) 32 32 := ⟨by decide, by decide⟩
theorem kc_37 : iv (37 : Int32) 37 37 := ⟨by decide, by decide⟩
theorem kc_42 : iv (42 : Int32) 42 42 := ⟨by decide, by decide⟩
theorem kc_43 : iv (43 : Int32) 43 43 := ⟨by decide, by decide⟩
theorem kc_45 : iv (45 : Int32) 45 45 := ⟨by decide, by decide⟩
theorem kc_47 : iv (47 : Int32) 47 47 := ⟨by decide, by decide⟩
theorem kc_48 : iv (48 : Int32) 48 48 := ⟨by decide, by decide⟩
theorem kc_57 : iv (57 : Int32) 57 57 := ⟨by decide, by decide⟩
theorem kc_60 : iv (60 : Int32) 60 60 := ⟨by decide, by decide⟩
theorem kc_61 : iv (61 : Int32) 61 61 := ⟨by decide, by decide⟩
theorem kc_62 : iv (62 : Int32) 62 62 := ⟨by decide, by decide⟩
theorem kc_97 : iv (97 : Int32) 97 97 := ⟨by decide, by decide⟩
theorem kc_122 : iv (122 : Int32) 122 122 := ⟨by decide, by decide⟩
theorem kc_257 : iv (257 : Int32) 257 257 := ⟨by decide, by decide⟩
theorem kc_258 : iv (258 : Int32) 258 258 := ⟨by decide, by decide⟩
theorem kc_259 : iv (259 : Int32) 259 259 := ⟨by decide, by decide⟩
theorem kc_1600 : iv (1600 : Int32) 1600 1600 := ⟨by decide, by decide⟩
theorem dX5_joinLetter_0 : decode cX5_joinLetter 0 = .ok (.lload_n 0, 1) := by decide +kernel
theorem dX5_joinLetter_1 : decode cX5_joinLetter 1 = .ok (.ldc2_w 79, 3) := by decide +kernel
theorem dX5_joinLetter_4 : decode cX5_joinLetter 4 = .ok (.lmul, 1) := by decide +kernel
theorem dX5_joinLetter_5 : decode cX5_joinLetter 5 = .ok (.iload_n 2, 1) := by decide +kernel
theorem dX5_joinLetter_6 : decode cX5_joinLetter 6 = .ok (.bipush 97, 2) := by decide +kernel
theorem dX5_joinLetter_8 : decode cX5_joinLetter 8 = .ok (.isub, 1) := by decide +kernel
theorem dX5_joinLetter_9 : decode cX5_joinLetter 9 = .ok (.iconst 1, 1) := by decide +kernel
theorem dX5_joinLetter_10 : decode cX5_joinLetter 10 = .ok (.iadd, 1) := by decide +kernel
theorem dX5_joinLetter_11 : decode cX5_joinLetter 11 = .ok (.i2l, 1) := by decide +kernel
theorem dX5_joinLetter_12 : decode cX5_joinLetter 12 = .ok (.ladd, 1) := by decide +kernel
theorem dX5_joinLetter_13 : decode cX5_joinLetter 13 = .ok (.lreturn, 1) := by decide +kernel
set_option maxRecDepth 20000 in
theorem ggX5_read_X4_empty : GoodIn wsX5_read wsX4_empty := goodIn_r _ [17, 18, 19, 20, 21, 22, 23, 24, 25, 26, 27, 28, 29, 30, 31, 32, 33, 34, 35, 36, 37, 38, 39, 40, 41, 42, 43, 44, 45, 46, 47, 332, 333, 334, 335, 336, 337, 338, 339, 340, 341, 342, 343, 344, 345, 346, 347, 348, 349, 350, 351, 352, 353] (by decide +kernel) (by decide +kernel)
set_option maxRecDepth 20000 in
theorem gX5_read_X4_empty : GoodIn wsX5_read (wsV RX5 87 RX4 yX4_empty wsX4_empty) := goodIn_app (goodIn_of _ (by decide +kernel)) ggX5_read_X4_empty
set_option maxRecDepth 20000 in
theorem ggX5_read_X5_advance : GoodIn wsX5_read wsX5_advance := goodIn_r _ [52, 11, 53, 12, 54, 55, 56, 51, 57, 6, 1, 58, 59, 60, 61, 62, 63, 64, 65, 66, 67, 68, 69, 70, 71, 72, 73, 74, 75, 76, 77, 78, 79, 80, 81, 82, 83, 84, 85, 86, 87, 88, 89, 90, 91, 92, 93, 94, 95, 96, 97, 98, 99, 100, 101, 102, 103, 104, 105, 106, 107, 108, 109, 110, 111, 112, 113, 114, 115, 4, 116, 117, 3, 5, 118, 119, 120, 121, 122, 123, 124, 125, 126, 127, 128, 129, 130, 131, 132, 133, 134, 135, 136, 137, 138, 139, 140, 141, 142, 143, 144, 145, 146, 147, 148, 149, 150, 151, 152, 153, 154, 155, 156, 157, 158, 159, 160, 161, 162, 163, 164, 165, 166, 167, 168, 169, 170, 171, 317, 318, 319, 320, 321, 322, 323, 324, 325, 326, 327, 328, 329, 330, 331] (by decide +kernel) (by decide +kernel)
set_option maxRecDepth 20000 in
theorem gX5_read_X5_advance : GoodIn wsX5_read (wsV RX5 90 RX5 yX5_advance wsX5_advance) := goodIn_app (goodIn_of _ (by decide +kernel)) ggX5_read_X5_advance
set_option maxRecDepth 20000 in
theorem ggX5_read_X5_readLine : GoodIn wsX5_read wsX5_readLine := goodIn_r _ [175, 12, 176, 177, 178, 51, 179, 7, 180, 181, 182, 85, 183, 184, 185, 186, 187, 53, 188, 189, 190, 191, 9, 10, 48, 49, 50, 52, 11, 54, 55, 56, 57, 6, 1, 58, 59, 60, 61, 62, 63, 64, 65, 66, 67, 68, 69, 70, 71, 72, 73, 74, 75, 76, 77, 78, 79, 80, 81, 82, 83, 84, 86, 87, 88, 89, 90, 91, 92, 93, 94, 95, 96, 97, 98, 99, 100, 101, 102, 103, 104, 105, 106, 107, 108, 109, 110, 111, 112, 113, 114, 115, 4, 116, 117, 3, 5, 118, 119, 120, 121, 122, 123, 124, 125, 126, 127, 128, 129, 130, 131, 132, 133, 134, 135, 136, 137, 138, 139, 140, 141, 142, 143, 144, 145, 146, 147, 148, 149, 150, 151, 152, 153, 154, 155, 156, 157, 158, 159, 160, 161, 162, 163, 164, 165, 166, 167, 168, 169, 170, 171, 192, 193, 194, 195, 196, 197, 198, 199, 200, 201, 202, 203, 204, 205, 206, 207, 208, 209, 210, 211, 212, 213, 214, 215, 216, 217, 218, 219, 220, 221, 222, 223, 224, 225, 226, 227, 228, 229, 230, 231, 232, 233, 234, 235, 236, 16, 237, 20, 238, 239, 240, 241, 242, 8, 243, 244, 245, 246, 247, 248, 249, 250, 251, 252, 253, 45, 254, 47, 255, 256, 257, 258, 259, 260, 261, 262, 263, 264, 265, 266, 267, 268, 269, 270, 271, 272, 273, 274, 275, 276, 277, 278, 279, 280, 281, 282, 283, 284, 285, 286, 287, 288, 289, 290, 291, 292, 293, 294, 295, 296, 297, 298, 299, 300, 301, 302, 303, 304, 305, 317, 318, 319, 320, 321, 322, 323, 324, 325, 326, 327, 328, 329, 330, 331, 332, 333, 334, 335, 336, 337, 338, 339, 340, 341, 342, 343, 344, 345, 346, 347, 348, 349, 350, 351, 352, 353] (by decide +kernel) (by decide +kernel)
set_option maxRecDepth 20000 in
theorem gX5_read_X5_readLine : GoodIn wsX5_read (wsV RX5 93 RX5 yX5_readLine wsX5_readLine) := goodIn_app (goodIn_of _ (by decide +kernel)) ggX5_read_X5_readLine
set_option maxRecDepth 20000 in
theorem ggX5_read_X5_finish : GoodIn wsX5_read wsX5_finish := goodIn_r _ [309, 7, 222, 180, 310, 8, 247, 311, 312, 313, 45, 314, 315, 288, 289, 290, 291, 252, 253, 254, 47, 255, 316, 293, 294, 295, 317, 318, 319, 320, 321, 322, 323, 324, 325, 326, 327, 328, 329, 330, 331, 332, 333, 334, 335, 336, 337, 338, 339, 340, 341, 342, 343, 344, 345, 346, 347, 348, 349, 350, 351, 352, 353] (by decide +kernel) (by decide +kernel)
set_option maxRecDepth 20000 in
theorem gX5_read_X5_finish : GoodIn wsX5_read (wsV RX5 97 RX5 yX5_finish wsX5_finish) := goodIn_app (goodIn_of _ (by decide +kernel)) ggX5_read_X5_finish
theorem dX5_read_0 : decode cX5_read 0 = .ok (.aload_n 0, 1) := by decide +kernel
theorem dX5_read_1 : decode cX5_read 1 = .ok (.aload_n 1, 1) := by decide +kernel
theorem dX5_read_2 : decode cX5_read 2 = .ok (.putfield 38, 3) := by decide +kernel
theorem dX5_read_5 : decode cX5_read 5 = .ok (.aload_n 0, 1) := by decide +kernel
theorem dX5_read_6 : decode cX5_read 6 = .ok (.iload_n 2, 1) := by decide +kernel
theorem dX5_read_7 : decode cX5_read 7 = .ok (.aload_n 1, 1) := by decide +kernel
theorem dX5_read_8 : decode cX5_read 8 = .ok (.arraylength, 1) := by decide +kernel
theorem dX5_read_9 : decode cX5_read 9 = .ok (.invokestatic 81, 3) := by decide +kernel
theorem dX5_read_12 : decode cX5_read 12 = .ok (.putfield 42, 3) := by decide +kernel
theorem dX5_read_15 : decode cX5_read 15 = .ok (.aload_n 0, 1) := by decide +kernel
theorem dX5_read_16 : decode cX5_read 16 = .ok (.getfield 12, 3) := by decide +kernel
theorem dX5_read_19 : decode cX5_read 19 = .ok (.invokevirtual 87, 3) := by decide +kernel
theorem dX5_read_22 : decode cX5_read 22 = .ok (.aload_n 0, 1) := by decide +kernel
theorem dX5_read_23 : decode cX5_read 23 = .ok (.iconst 0, 1) := by decide +kernel
theorem dX5_read_24 : decode cX5_read 24 = .ok (.putfield 45, 3) := by decide +kernel
theorem dX5_read_27 : decode cX5_read 27 = .ok (.aload_n 0, 1) := by decide +kernel
theorem dX5_read_28 : decode cX5_read 28 = .ok (.iconst 0, 1) := by decide +kernel
theorem dX5_read_29 : decode cX5_read 29 = .ok (.putfield 18, 3) := by decide +kernel
theorem dX5_read_32 : decode cX5_read 32 = .ok (.aload_n 0, 1) := by decide +kernel
theorem dX5_read_33 : decode cX5_read 33 = .ok (.iconst (-1), 1) := by decide +kernel
theorem dX5_read_34 : decode cX5_read 34 = .ok (.putfield 22, 3) := by decide +kernel
theorem dX5_read_37 : decode cX5_read 37 = .ok (.aload_n 0, 1) := by decide +kernel
theorem dX5_read_38 : decode cX5_read 38 = .ok (.iconst 0, 1) := by decide +kernel
theorem dX5_read_39 : decode cX5_read 39 = .ok (.putfield 48, 3) := by decide +kernel
theorem dX5_read_42 : decode cX5_read 42 = .ok (.aload_n 0, 1) := by decide +kernel
theorem dX5_read_43 : decode cX5_read 43 = .ok (.invokevirtual 90, 3) := by decide +kernel
theorem dX5_read_46 : decode cX5_read 46 = .ok (.iconst 1, 1) := by decide +kernel
theorem dX5_read_47 : decode cX5_read 47 = .ok (.istore_n 3, 1) := by decide +kernel
theorem dX5_read_48 : decode cX5_read 48 = .ok (.iconst 0, 1) := by decide +kernel
theorem dX5_read_49 : decode cX5_read 49 = .ok (.istore 4, 2) := by decide +kernel
theorem dX5_read_51 : decode cX5_read 51 = .ok (.iload 4, 2) := by decide +kernel
theorem dX5_read_53 : decode cX5_read 53 = .ok (.aload_n 0, 1) := by decide +kernel
theorem dX5_read_54 : decode cX5_read 54 = .ok (.getfield 42, 3) := by decide +kernel
theorem dX5_read_57 : decode cX5_read 57 = .ok (.if_icmp .gt 28, 3) := by decide +kernel
theorem dX5_read_60 : decode cX5_read 60 = .ok (.iload_n 3, 1) := by decide +kernel
theorem dX5_read_61 : decode cX5_read 61 = .ok (.ifCond .eq 24, 3) := by decide +kernel
theorem dX5_read_64 : decode cX5_read 64 = .ok (.aload_n 0, 1) := by decide +kernel
theorem dX5_read_65 : decode cX5_read 65 = .ok (.getfield 54, 3) := by decide +kernel
theorem dX5_read_68 : decode cX5_read 68 = .ok (.sipush 258, 3) := by decide +kernel
theorem dX5_read_71 : decode cX5_read 71 = .ok (.if_icmp .eq 14, 3) := by decide +kernel
theorem dX5_read_74 : decode cX5_read 74 = .ok (.aload_n 0, 1) := by decide +kernel
theorem dX5_read_75 : decode cX5_read 75 = .ok (.invokevirtual 93, 3) := by decide +kernel
theorem dX5_read_78 : decode cX5_read 78 = .ok (.istore_n 3, 1) := by decide +kernel
theorem dX5_read_79 : decode cX5_read 79 = .ok (.iinc 4 1, 3) := by decide +kernel
theorem dX5_read_82 : decode cX5_read 82 = .ok (.goto (-31), 3) := by decide +kernel
theorem dX5_read_85 : decode cX5_read 85 = .ok (.iload_n 3, 1) := by decide +kernel
theorem dX5_read_86 : decode cX5_read 86 = .ok (.ifCond .eq 7, 3) := by decide +kernel
theorem dX5_read_89 : decode cX5_read 89 = .ok (.aload_n 0, 1) := by decide +kernel
theorem dX5_read_90 : decode cX5_read 90 = .ok (.invokevirtual 97, 3) := by decide +kernel
theorem dX5_read_93 : decode cX5_read 93 = .ok (.iload_n 3, 1) := by decide +kernel
theorem dX5_read_94 : decode cX5_read 94 = .ok (.ireturn, 1) := by decide +kernel
set_option maxRecDepth 20000 in
theorem ggX5_finish_X2_addUntold : GoodIn wsX5_finish wsX2_addUntold := goodIn_r _ [11, 12, 13, 14, 10, 15, 16, 17, 18, 19, 20, 21, 22, 23, 24, 25, 60, 61, 62] (by decide +kernel) (by decide +kernel)
set_option maxRecDepth 20000 in
theorem gX5_finish_X2_addUntold : GoodIn wsX5_finish (wsV RX5 116 RX2 yX2_addUntold wsX2_addUntold) := goodIn_app (goodIn_of _ (by decide +kernel)) ggX5_finish_X2_addUntold
theorem dX5_finish_0 : decode cX5_finish 0 = .ok (.aload_n 0, 1) := by decide +kernel
theorem dX5_finish_1 : decode cX5_finish 1 = .ok (.getfield 12, 3) := by decide +kernel
theorem dX5_finish_4 : decode cX5_finish 4 = .ok (.getfield 100, 3) := by decide +kernel
theorem dX5_finish_7 : decode cX5_finish 7 = .ok (.iconst 1, 1) := by decide +kernel
theorem dX5_finish_8 : decode cX5_finish 8 = .ok (.aload_n 0, 1) := by decide +kernel
theorem dX5_finish_9 : decode cX5_finish 9 = .ok (.getfield 12, 3) := by decide +kernel
theorem dX5_finish_12 : decode cX5_finish 12 = .ok (.getfield 104, 3) := by decide +kernel
theorem dX5_finish_15 : decode cX5_finish 15 = .ok (.ishl, 1) := by decide +kernel
theorem dX5_finish_16 : decode cX5_finish 16 = .ok (.iconst 1, 1) := by decide +kernel
theorem dX5_finish_17 : decode cX5_finish 17 = .ok (.isub, 1) := by decide +kernel
theorem dX5_finish_18 : decode cX5_finish 18 = .ok (.putfield 107, 3) := by decide +kernel
theorem dX5_finish_21 : decode cX5_finish 21 = .ok (.aload_n 0, 1) := by decide +kernel
theorem dX5_finish_22 : decode cX5_finish 22 = .ok (.getfield 45, 3) := by decide +kernel
theorem dX5_finish_25 : decode cX5_finish 25 = .ok (.iconst 3, 1) := by decide +kernel
theorem dX5_finish_26 : decode cX5_finish 26 = .ok (.ishr, 1) := by decide +kernel
theorem dX5_finish_27 : decode cX5_finish 27 = .ok (.iconst 1, 1) := by decide +kernel
theorem dX5_finish_28 : decode cX5_finish 28 = .ok (.iand, 1) := by decide +kernel
theorem dX5_finish_29 : decode cX5_finish 29 = .ok (.ifCond .ne 13, 3) := by decide +kernel
theorem dX5_finish_32 : decode cX5_finish 32 = .ok (.aload_n 0, 1) := by decide +kernel
theorem dX5_finish_33 : decode cX5_finish 33 = .ok (.getfield 12, 3) := by decide +kernel
theorem dX5_finish_36 : decode cX5_finish 36 = .ok (.getfield 112, 3) := by decide +kernel
theorem dX5_finish_39 : decode cX5_finish 39 = .ok (.invokevirtual 116, 3) := by decide +kernel
theorem dX5_finish_42 : decode cX5_finish 42 = .ok (.return_, 1) := by decide +kernel
set_option maxRecDepth 20000 in
theorem ggX5_readLine_X5_readCat : GoodIn wsX5_readLine wsX5_readCat := goodIn_r _ [6, 7, 8, 9, 10, 11, 12, 13, 14, 15, 5, 16, 1, 17, 18, 19, 20, 21, 22, 23, 24, 25, 26, 27, 28, 29, 30, 31, 32, 33, 34, 35, 36, 37, 38, 39, 40, 41, 42, 43, 44, 45, 46, 47, 48, 49, 50, 51, 52, 53, 54, 55, 56, 57, 58, 59, 60, 61, 62, 63, 64, 65, 66, 67, 68, 69, 70, 71, 72, 73, 74, 75, 76, 77, 78, 79, 80, 81, 82, 83, 84, 85, 86, 87, 88, 89, 90, 91, 92, 93, 94, 95, 96, 97, 98, 99, 100, 101, 102, 103, 104, 105, 106, 107, 108, 109, 110, 111, 112, 113, 114, 115, 116, 117, 118, 119, 120, 121, 122, 123, 124, 125, 126, 127, 128, 129, 130, 131, 132, 133, 134, 135, 136, 137, 138, 139, 140, 141, 142, 143, 144, 145, 146, 147, 148, 149, 150, 151, 152, 153, 154, 155, 156, 157, 158, 159, 160, 161, 162, 163, 164, 165, 166, 167, 168, 169, 170, 270, 271, 272, 273, 274, 275, 276, 277, 278, 279, 280, 281, 282, 283, 284, 285, 286, 287, 288, 289, 290, 291, 292, 293, 294, 295] (by decide +kernel) (by decide +kernel)
set_option maxRecDepth 20000 in
theorem gX5_readLine_X5_readCat : GoodIn wsX5_readLine (wsV RX5 121 RX5 yX5_readCat wsX5_readCat) := goodIn_app (goodIn_of _ (by decide +kernel)) ggX5_readLine_X5_readCat
set_option maxRecDepth 20000 in
theorem ggX5_readLine_X5_closeLine : GoodIn wsX5_readLine wsX5_closeLine := goodIn_r _ [174, 155, 156, 157, 5, 158, 1, 13, 14, 15, 16, 17, 18, 19, 20, 21, 22, 23, 24, 25, 26, 27, 28, 29, 30, 31, 32, 33, 34, 35, 36, 37, 38, 39, 40, 41, 42, 43, 44, 45, 46, 47, 48, 49, 50, 51, 52, 53, 54, 55, 56, 57, 58, 59, 60, 61, 11, 62, 63, 64, 65, 66, 67, 68, 69, 70, 71, 72, 73, 74, 75, 76, 77, 78, 79, 80, 81, 82, 83, 84, 85, 86, 87, 88, 89, 90, 91, 92, 93, 94, 95, 96, 97, 98, 99, 100, 101, 102, 103, 104, 105, 106, 107, 108, 109, 110, 111, 112, 113, 114, 115, 116, 117, 118, 119, 120, 121, 122, 123, 124, 125, 126, 127, 128, 129, 130, 131, 132, 133, 134, 135, 136, 137, 138, 139, 140, 141, 142, 143, 144, 145, 146, 147, 148, 149, 150, 270, 271, 272, 273, 274, 275, 276, 277, 278, 279, 280, 281, 282, 283, 284] (by decide +kernel) (by decide +kernel)
set_option maxRecDepth 20000 in
theorem gX5_readLine_X5_closeLine : GoodIn wsX5_readLine (wsV RX5 124 RX5 yX5_closeLine wsX5_closeLine) := goodIn_app (goodIn_of _ (by decide +kernel)) ggX5_readLine_X5_closeLine
set_option maxRecDepth 20000 in
theorem ggX5_readLine_X5_readRoom : GoodIn wsX5_readLine wsX5_readRoom := goodIn_r _ [178, 7, 179, 180, 9, 8, 181, 182, 13, 14, 15, 5, 16, 1, 17, 18, 19, 20, 21, 22, 23, 24, 25, 26, 27, 28, 29, 30, 31, 32, 33, 34, 35, 36, 37, 38, 39, 40, 41, 42, 43, 44, 45, 46, 47, 48, 49, 50, 51, 52, 53, 54, 55, 56, 57, 58, 59, 60, 61, 11, 62, 63, 64, 65, 66, 67, 68, 69, 70, 71, 72, 73, 74, 75, 76, 77, 78, 79, 80, 81, 82, 83, 84, 85, 86, 87, 88, 89, 90, 91, 92, 93, 94, 95, 96, 97, 98, 99, 100, 101, 102, 103, 104, 105, 106, 107, 108, 109, 110, 111, 112, 113, 114, 115, 116, 117, 118, 119, 120, 121, 122, 123, 124, 125, 126, 127, 128, 129, 130, 131, 132, 133, 134, 135, 136, 137, 138, 139, 140, 141, 142, 143, 144, 145, 146, 147, 148, 149, 150, 151, 152, 153, 154, 163, 164, 165, 166, 167, 168, 169, 170, 270, 271, 272, 273, 274, 275, 276, 277, 278, 279, 280, 281, 282, 283, 284, 285, 286, 287, 288, 289, 290, 291, 292, 293, 294, 295, 296, 297, 298, 299, 300, 301, 302, 303] (by decide +kernel) (by decide +kernel)
set_option maxRecDepth 20000 in
theorem gX5_readLine_X5_readRoom : GoodIn wsX5_readLine (wsV RX5 127 RX5 yX5_readRoom wsX5_readRoom) := goodIn_app (goodIn_of _ (by decide +kernel)) ggX5_readLine_X5_readRoom
set_option maxRecDepth 20000 in
theorem ggX5_readLine_X5_readTenant : GoodIn wsX5_readLine wsX5_readTenant := goodIn_r _ [186, 7, 187, 188, 181, 189, 11, 190, 191, 17, 180, 179, 192, 13, 14, 15, 5, 16, 1, 18, 19, 20, 21, 22, 23, 24, 25, 26, 27, 28, 29, 30, 31, 32, 33, 34, 35, 36, 37, 38, 39, 40, 41, 42, 43, 44, 45, 46, 47, 48, 49, 50, 51, 52, 53, 54, 55, 56, 57, 58, 59, 60, 61, 62, 63, 64, 65, 66, 67, 68, 69, 70, 71, 72, 73, 74, 75, 76, 77, 78, 79, 80, 81, 82, 83, 84, 85, 86, 87, 88, 89, 90, 91, 92, 93, 94, 95, 96, 97, 98, 99, 100, 101, 102, 103, 104, 105, 106, 107, 108, 109, 110, 111, 112, 113, 114, 115, 116, 117, 118, 119, 120, 121, 122, 123, 124, 125, 126, 127, 128, 129, 130, 131, 132, 133, 134, 135, 136, 137, 138, 139, 140, 141, 142, 143, 144, 145, 146, 147, 148, 149, 150, 151, 152, 153, 154, 155, 156, 157, 158, 159, 160, 161, 162, 163, 164, 165, 166, 167, 168, 169, 170, 193, 194, 195, 196, 197, 198, 199, 270, 271, 272, 273, 274, 275, 276, 277, 278, 279, 280, 281, 282, 283, 284, 285, 286, 287, 288, 289, 290, 291, 292, 293, 294, 295, 296, 297, 298, 299, 300, 301, 302, 303] (by decide +kernel) (by decide +kernel)
set_option maxRecDepth 20000 in
theorem gX5_readLine_X5_readTenant : GoodIn wsX5_readLine (wsV RX5 130 RX5 yX5_readTenant wsX5_readTenant) := goodIn_app (goodIn_of _ (by decide +kernel)) ggX5_readLine_X5_readTenant
set_option maxRecDepth 20000 in
theorem ggX5_readLine_X5_readOnce : GoodIn wsX5_readLine wsX5_readOnce := goodIn_r _ [203, 204, 1, 13, 14, 15, 5, 16, 17, 18, 19, 20, 21, 22, 23, 24, 25, 26, 27, 28, 29, 30, 31, 32, 33, 34, 35, 36, 37, 38, 39, 40, 41, 42, 43, 44, 45, 46, 47, 48, 49, 50, 51, 52, 53, 54, 55, 56, 57, 58, 59, 60, 61, 11, 62, 63, 64, 65, 66, 67, 68, 69, 70, 71, 72, 73, 74, 75, 76, 77, 78, 79, 80, 81, 82, 83, 84, 85, 86, 87, 88, 89, 90, 91, 92, 93, 94, 95, 96, 97, 98, 99, 100, 101, 102, 103, 104, 105, 106, 107, 108, 109, 110, 111, 112, 113, 114, 115, 116, 117, 118, 119, 120, 121, 122, 123, 124, 125, 126, 127, 128, 129, 130, 131, 132, 133, 134, 135, 136, 137, 138, 139, 140, 141, 142, 143, 144, 145, 146, 147, 148, 149, 150, 270, 271, 272, 273, 274, 275, 276, 277, 278, 279, 280, 281, 282, 283, 284] (by decide +kernel) (by decide +kernel)
set_option maxRecDepth 20000 in
theorem gX5_readLine_X5_readOnce : GoodIn wsX5_readLine (wsV RX5 133 RX5 yX5_readOnce wsX5_readOnce) := goodIn_app (goodIn_of _ (by decide +kernel)) ggX5_readLine_X5_readOnce
set_option maxRecDepth 20000 in
theorem ggX5_readLine_X5_readEither : GoodIn wsX5_readLine wsX5_readEither := goodIn_r _ [208, 1, 7, 209, 210, 211, 212, 5, 24, 25, 26, 27, 28, 17, 29, 30, 31, 32, 33, 34, 35, 36, 37, 38, 39, 40, 41, 42, 43, 44, 45, 46, 47, 48, 49, 50, 51, 52, 53, 54, 55, 56, 57, 58, 59, 60, 61, 11, 62, 63, 64, 65, 66, 67, 68, 69, 70, 71, 72, 73, 74, 75, 76, 77, 78, 79, 80, 81, 82, 83, 84, 85, 86, 87, 88, 89, 90, 91, 92, 93, 94, 95, 96, 97, 98, 99, 100, 101, 102, 103, 104, 105, 106, 107, 108, 109, 110, 111, 112, 113, 114, 115, 116, 117, 118, 119, 120, 121, 122, 123, 124, 125, 126, 127, 128, 129, 130, 131, 132, 133, 134, 135, 136, 137, 138, 139, 140, 141, 142, 143, 144, 145, 146, 147, 148, 149, 150, 213, 214, 215, 216, 217, 218, 219, 220, 221, 222, 223, 224, 13, 14, 15, 16, 18, 19, 20, 21, 22, 23, 225, 226, 227, 228, 229, 230, 231, 232, 205, 206, 207, 155, 156, 157, 158, 233, 234, 235, 236, 237, 238, 239, 240, 241, 242, 243, 244, 245, 246, 247, 248, 249, 250, 251, 252, 253, 254, 255, 256, 257, 258, 259, 270, 271, 272, 273, 274, 275, 276, 277, 278, 279, 280, 281, 282, 283, 284, 285, 286, 287, 288, 289, 290, 291, 292, 293, 294, 295, 304, 305, 306] (by decide +kernel) (by decide +kernel)
set_option maxRecDepth 20000 in
theorem gX5_readLine_X5_readEither : GoodIn wsX5_readLine (wsV RX5 136 RX5 yX5_readEither wsX5_readEither) := goodIn_app (goodIn_of _ (by decide +kernel)) ggX5_readLine_X5_readEither
set_option maxRecDepth 20000 in
theorem ggX5_readLine_X5_readDies : GoodIn wsX5_readLine wsX5_readDies := goodIn_r _ [263, 7, 11, 264, 159, 160, 161, 5, 162, 1, 17, 13, 14, 15, 16, 18, 19, 20, 21, 22, 23, 24, 25, 26, 27, 28, 29, 30, 31, 32, 33, 34, 35, 36, 37, 38, 39, 40, 41, 42, 43, 44, 45, 46, 47, 48, 49, 50, 51, 52, 53, 54, 55, 56, 57, 58, 59, 60, 61, 62, 63, 64, 65, 66, 67, 68, 69, 70, 71, 72, 73, 74, 75, 76, 77, 78, 79, 80, 81, 82, 83, 84, 85, 86, 87, 88, 89, 90, 91, 92, 93, 94, 95, 96, 97, 98, 99, 100, 101, 102, 103, 104, 105, 106, 107, 108, 109, 110, 111, 112, 113, 114, 115, 116, 117, 118, 119, 120, 121, 122, 123, 124, 125, 126, 127, 128, 129, 130, 131, 132, 133, 134, 135, 136, 137, 138, 139, 140, 141, 142, 143, 144, 145, 146, 147, 148, 149, 150, 270, 271, 272, 273, 274, 275, 276, 277, 278, 279, 280, 281, 282, 283, 284, 285, 286, 287, 288, 289, 290, 291, 292, 293, 294, 295] (by decide +kernel) (by decide +kernel)
set_option maxRecDepth 20000 in
theorem gX5_readLine_X5_readDies : GoodIn wsX5_readLine (wsV RX5 140 RX5 yX5_readDies wsX5_readDies) := goodIn_app (goodIn_of _ (by decide +kernel)) ggX5_readLine_X5_readDies
set_option maxRecDepth 20000 in
theorem ggX5_readLine_X5_readDraw : GoodIn wsX5_readLine wsX5_readDraw := goodIn_r _ [268, 7, 181, 11, 269, 159, 160, 161, 5, 162, 1, 17, 13, 14, 15, 16, 18, 19, 20, 21, 22, 23, 24, 25, 26, 27, 28, 29, 30, 31, 32, 33, 34, 35, 36, 37, 38, 39, 40, 41, 42, 43, 44, 45, 46, 47, 48, 49, 50, 51, 52, 53, 54, 55, 56, 57, 58, 59, 60, 61, 62, 63, 64, 65, 66, 67, 68, 69, 70, 71, 72, 73, 74, 75, 76, 77, 78, 79, 80, 81, 82, 83, 84, 85, 86, 87, 88, 89, 90, 91, 92, 93, 94, 95, 96, 97, 98, 99, 100, 101, 102, 103, 104, 105, 106, 107, 108, 109, 110, 111, 112, 113, 114, 115, 116, 117, 118, 119, 120, 121, 122, 123, 124, 125, 126, 127, 128, 129, 130, 131, 132, 133, 134, 135, 136, 137, 138, 139, 140, 141, 142, 143, 144, 145, 146, 147, 148, 149, 150, 270, 271, 272, 273, 274, 275, 276, 277, 278, 279, 280, 281, 282, 283, 284, 285, 286, 287, 288, 289, 290, 291, 292, 293, 294, 295, 296, 297, 298, 299, 300, 301, 302, 303] (by decide +kernel) (by decide +kernel)
set_option maxRecDepth 20000 in
theorem gX5_readLine_X5_readDraw : GoodIn wsX5_readLine (wsV RX5 143 RX5 yX5_readDraw wsX5_readDraw) := goodIn_app (goodIn_of _ (by decide +kernel)) ggX5_readLine_X5_readDraw
set_option maxRecDepth 20000 in
theorem ggX5_readLine_X5_refuse : GoodIn wsX5_readLine wsX5_refuse := goodIn_r _ [16, 1, 17, 18, 19, 20, 5, 21, 22, 23, 270, 271, 272, 273, 274, 275, 276, 277, 278, 279, 280, 281, 282, 283, 284] (by decide +kernel) (by decide +kernel)
set_option maxRecDepth 20000 in
theorem gX5_readLine_X5_refuse : GoodIn wsX5_readLine (wsV RX5 146 RX5 yX5_refuse wsX5_refuse) := goodIn_app (goodIn_of _ (by decide +kernel)) ggX5_readLine_X5_refuse
theorem dX5_readLine_0 : decode cX5_readLine 0 = .ok (.aload_n 0, 1) := by decide +kernel
theorem dX5_readLine_1 : decode cX5_readLine 1 = .ok (.getfield 54, 3) := by decide +kernel
theorem dX5_readLine_4 : decode cX5_readLine 4 = .ok (.tableswitch 182 0 5 #[40, 60, 80, 100, 128, 155], 40) := by decide +kernel
theorem dX5_readLine_44 : decode cX5_readLine 44 = .ok (.aload_n 0, 1) := by decide +kernel
theorem dX5_readLine_45 : decode cX5_readLine 45 = .ok (.invokevirtual 121, 3) := by decide +kernel
theorem dX5_readLine_48 : decode cX5_readLine 48 = .ok (.ifCond .eq 14, 3) := by decide +kernel
theorem dX5_readLine_51 : decode cX5_readLine 51 = .ok (.aload_n 0, 1) := by decide +kernel
theorem dX5_readLine_52 : decode cX5_readLine 52 = .ok (.invokevirtual 124, 3) := by decide +kernel
theorem dX5_readLine_55 : decode cX5_readLine 55 = .ok (.ifCond .eq 7, 3) := by decide +kernel
theorem dX5_readLine_58 : decode cX5_readLine 58 = .ok (.iconst 1, 1) := by decide +kernel
theorem dX5_readLine_59 : decode cX5_readLine 59 = .ok (.goto 4, 3) := by decide +kernel
theorem dX5_readLine_62 : decode cX5_readLine 62 = .ok (.iconst 0, 1) := by decide +kernel
theorem dX5_readLine_63 : decode cX5_readLine 63 = .ok (.ireturn, 1) := by decide +kernel
theorem dX5_readLine_64 : decode cX5_readLine 64 = .ok (.aload_n 0, 1) := by decide +kernel
theorem dX5_readLine_65 : decode cX5_readLine 65 = .ok (.invokevirtual 127, 3) := by decide +kernel
theorem dX5_readLine_68 : decode cX5_readLine 68 = .ok (.ifCond .eq 14, 3) := by decide +kernel
theorem dX5_readLine_71 : decode cX5_readLine 71 = .ok (.aload_n 0, 1) := by decide +kernel
theorem dX5_readLine_72 : decode cX5_readLine 72 = .ok (.invokevirtual 124, 3) := by decide +kernel
theorem dX5_readLine_75 : decode cX5_readLine 75 = .ok (.ifCond .eq 7, 3) := by decide +kernel
theorem dX5_readLine_78 : decode cX5_readLine 78 = .ok (.iconst 1, 1) := by decide +kernel
theorem dX5_readLine_79 : decode cX5_readLine 79 = .ok (.goto 4, 3) := by decide +kernel
theorem dX5_readLine_82 : decode cX5_readLine 82 = .ok (.iconst 0, 1) := by decide +kernel
theorem dX5_readLine_83 : decode cX5_readLine 83 = .ok (.ireturn, 1) := by decide +kernel
theorem dX5_readLine_84 : decode cX5_readLine 84 = .ok (.aload_n 0, 1) := by decide +kernel
theorem dX5_readLine_85 : decode cX5_readLine 85 = .ok (.invokevirtual 130, 3) := by decide +kernel
theorem dX5_readLine_88 : decode cX5_readLine 88 = .ok (.ifCond .eq 14, 3) := by decide +kernel
theorem dX5_readLine_91 : decode cX5_readLine 91 = .ok (.aload_n 0, 1) := by decide +kernel
theorem dX5_readLine_92 : decode cX5_readLine 92 = .ok (.invokevirtual 124, 3) := by decide +kernel
theorem dX5_readLine_95 : decode cX5_readLine 95 = .ok (.ifCond .eq 7, 3) := by decide +kernel
theorem dX5_readLine_98 : decode cX5_readLine 98 = .ok (.iconst 1, 1) := by decide +kernel
theorem dX5_readLine_99 : decode cX5_readLine 99 = .ok (.goto 4, 3) := by decide +kernel
theorem dX5_readLine_102 : decode cX5_readLine 102 = .ok (.iconst 0, 1) := by decide +kernel
theorem dX5_readLine_103 : decode cX5_readLine 103 = .ok (.ireturn, 1) := by decide +kernel
theorem dX5_readLine_104 : decode cX5_readLine 104 = .ok (.aload_n 0, 1) := by decide +kernel
theorem dX5_readLine_105 : decode cX5_readLine 105 = .ok (.invokevirtual 133, 3) := by decide +kernel
theorem dX5_readLine_108 : decode cX5_readLine 108 = .ok (.ifCond .eq 22, 3) := by decide +kernel
theorem dX5_readLine_111 : decode cX5_readLine 111 = .ok (.aload_n 0, 1) := by decide +kernel
theorem dX5_readLine_112 : decode cX5_readLine 112 = .ok (.iconst 0, 1) := by decide +kernel
theorem dX5_readLine_113 : decode cX5_readLine 113 = .ok (.invokevirtual 136, 3) := by decide +kernel
theorem dX5_readLine_116 : decode cX5_readLine 116 = .ok (.ifCond .eq 14, 3) := by decide +kernel
theorem dX5_readLine_119 : decode cX5_readLine 119 = .ok (.aload_n 0, 1) := by decide +kernel
theorem dX5_readLine_120 : decode cX5_readLine 120 = .ok (.invokevirtual 124, 3) := by decide +kernel
theorem dX5_readLine_123 : decode cX5_readLine 123 = .ok (.ifCond .eq 7, 3) := by decide +kernel
theorem dX5_readLine_126 : decode cX5_readLine 126 = .ok (.iconst 1, 1) := by decide +kernel
theorem dX5_readLine_127 : decode cX5_readLine 127 = .ok (.goto 4, 3) := by decide +kernel
theorem dX5_readLine_130 : decode cX5_readLine 130 = .ok (.iconst 0, 1) := by decide +kernel
theorem dX5_readLine_131 : decode cX5_readLine 131 = .ok (.ireturn, 1) := by decide +kernel
theorem dX5_readLine_132 : decode cX5_readLine 132 = .ok (.aload_n 0, 1) := by decide +kernel
theorem dX5_readLine_133 : decode cX5_readLine 133 = .ok (.invokevirtual 133, 3) := by decide +kernel
theorem dX5_readLine_136 : decode cX5_readLine 136 = .ok (.ifCond .eq 21, 3) := by decide +kernel
theorem dX5_readLine_139 : decode cX5_readLine 139 = .ok (.aload_n 0, 1) := by decide +kernel
theorem dX5_readLine_140 : decode cX5_readLine 140 = .ok (.invokevirtual 140, 3) := by decide +kernel
theorem dX5_readLine_143 : decode cX5_readLine 143 = .ok (.ifCond .eq 14, 3) := by decide +kernel
theorem dX5_readLine_146 : decode cX5_readLine 146 = .ok (.aload_n 0, 1) := by decide +kernel
theorem dX5_readLine_147 : decode cX5_readLine 147 = .ok (.invokevirtual 124, 3) := by decide +kernel
theorem dX5_readLine_150 : decode cX5_readLine 150 = .ok (.ifCond .eq 7, 3) := by decide +kernel
theorem dX5_readLine_153 : decode cX5_readLine 153 = .ok (.iconst 1, 1) := by decide +kernel
theorem dX5_readLine_154 : decode cX5_readLine 154 = .ok (.goto 4, 3) := by decide +kernel
theorem dX5_readLine_157 : decode cX5_readLine 157 = .ok (.iconst 0, 1) := by decide +kernel
theorem dX5_readLine_158 : decode cX5_readLine 158 = .ok (.ireturn, 1) := by decide +kernel
theorem dX5_readLine_159 : decode cX5_readLine 159 = .ok (.aload_n 0, 1) := by decide +kernel
theorem dX5_readLine_160 : decode cX5_readLine 160 = .ok (.invokevirtual 133, 3) := by decide +kernel
theorem dX5_readLine_163 : decode cX5_readLine 163 = .ok (.ifCond .eq 21, 3) := by decide +kernel
theorem dX5_readLine_166 : decode cX5_readLine 166 = .ok (.aload_n 0, 1) := by decide +kernel
theorem dX5_readLine_167 : decode cX5_readLine 167 = .ok (.invokevirtual 143, 3) := by decide +kernel
theorem dX5_readLine_170 : decode cX5_readLine 170 = .ok (.ifCond .eq 14, 3) := by decide +kernel
theorem dX5_readLine_173 : decode cX5_readLine 173 = .ok (.aload_n 0, 1) := by decide +kernel
theorem dX5_readLine_174 : decode cX5_readLine 174 = .ok (.invokevirtual 124, 3) := by decide +kernel
theorem dX5_readLine_177 : decode cX5_readLine 177 = .ok (.ifCond .eq 7, 3) := by decide +kernel
theorem dX5_readLine_180 : decode cX5_readLine 180 = .ok (.iconst 1, 1) := by decide +kernel
theorem dX5_readLine_181 : decode cX5_readLine 181 = .ok (.goto 4, 3) := by decide +kernel
theorem dX5_readLine_184 : decode cX5_readLine 184 = .ok (.iconst 0, 1) := by decide +kernel
theorem dX5_readLine_185 : decode cX5_readLine 185 = .ok (.ireturn, 1) := by decide +kernel
theorem dX5_readLine_186 : decode cX5_readLine 186 = .ok (.aload_n 0, 1) := by decide +kernel
theorem dX5_readLine_187 : decode cX5_readLine 187 = .ok (.invokevirtual 146, 3) := by decide +kernel
theorem dX5_readLine_190 : decode cX5_readLine 190 = .ok (.ireturn, 1) := by decide +kernel
set_option maxRecDepth 20000 in
theorem ggX5_readCat_X5_refuse : GoodIn wsX5_readCat wsX5_refuse := goodIn_r _ [11, 12, 13, 14, 15, 16, 10, 17, 18, 19, 167, 168, 169, 170, 171, 172, 173, 174, 175, 176, 177, 178, 179, 180, 181] (by decide +kernel) (by decide +kernel)
set_option maxRecDepth 20000 in
theorem gX5_readCat_X5_refuse : GoodIn wsX5_readCat (wsV RX5 146 RX5 yX5_refuse wsX5_refuse) := goodIn_app (goodIn_of _ (by decide +kernel)) ggX5_readCat_X5_refuse
set_option maxRecDepth 20000 in
theorem ggX5_readCat_X5_advance : GoodIn wsX5_readCat wsX5_advance := goodIn_r _ [23, 24, 13, 12, 25, 26, 27, 10, 28, 29, 30, 31, 32, 33, 34, 35, 36, 37, 38, 39, 40, 41, 42, 43, 44, 45, 46, 47, 48, 49, 50, 51, 52, 53, 54, 55, 56, 57, 5, 58, 59, 60, 61, 62, 63, 64, 65, 66, 67, 68, 69, 70, 71, 72, 73, 74, 75, 76, 77, 78, 79, 80, 81, 82, 83, 84, 85, 86, 87, 88, 89, 90, 91, 92, 93, 94, 95, 96, 97, 98, 99, 100, 101, 102, 103, 104, 105, 106, 107, 108, 109, 110, 111, 112, 113, 114, 115, 116, 117, 118, 119, 120, 121, 122, 123, 124, 125, 126, 127, 128, 129, 130, 131, 132, 133, 134, 135, 136, 137, 138, 139, 140, 141, 142, 143, 144, 145, 146, 167, 168, 169, 170, 171, 172, 173, 174, 175, 176, 177, 178, 179, 180, 181] (by decide +kernel) (by decide +kernel)
set_option maxRecDepth 20000 in
theorem gX5_readCat_X5_advance : GoodIn wsX5_readCat (wsV RX5 90 RX5 yX5_advance wsX5_advance) := goodIn_app (goodIn_of _ (by decide +kernel)) ggX5_readCat_X5_advance
set_option maxRecDepth 20000 in
theorem ggX5_readCat_X5_readNewName : GoodIn wsX5_readCat wsX5_readNewName := goodIn_r _ [150, 12, 13, 41, 7, 8, 9, 10, 11, 14, 15, 16, 17, 18, 19, 47, 48, 49, 50, 20, 21, 22, 23, 24, 25, 26, 27, 28, 29, 30, 31, 32, 33, 34, 35, 36, 37, 38, 39, 40, 42, 43, 44, 45, 46, 51, 52, 53, 54, 55, 56, 57, 5, 58, 59, 60, 61, 62, 63, 64, 65, 66, 67, 68, 69, 70, 71, 72, 73, 74, 75, 76, 77, 78, 79, 80, 81, 82, 83, 84, 85, 86, 87, 88, 89, 90, 91, 92, 93, 94, 95, 96, 97, 98, 99, 100, 101, 102, 103, 104, 105, 106, 107, 108, 109, 110, 111, 112, 113, 114, 115, 116, 117, 118, 119, 120, 121, 122, 123, 124, 125, 126, 127, 128, 129, 130, 131, 132, 133, 134, 135, 136, 137, 138, 139, 140, 141, 142, 143, 144, 145, 146, 167, 168, 169, 170, 171, 172, 173, 174, 175, 176, 177, 178, 179, 180, 181] (by decide +kernel) (by decide +kernel)
set_option maxRecDepth 20000 in
theorem gX5_readCat_X5_readNewName : GoodIn wsX5_readCat (wsV RX5 149 RX5 yX5_readNewName wsX5_readNewName) := goodIn_app (goodIn_of _ (by decide +kernel)) ggX5_readCat_X5_readNewName
set_option maxRecDepth 20000 in
theorem ggX5_readCat_X5_readWord : GoodIn wsX5_readCat wsX5_readWord := goodIn_r _ [154, 12, 7, 8, 9, 10, 11, 13, 14, 15, 16, 17, 18, 19, 20, 21, 22, 23, 24, 25, 26, 27, 28, 29, 30, 31, 32, 33, 34, 35, 36, 37, 38, 39, 40, 41, 42, 43, 44, 45, 46, 47, 48, 49, 50, 51, 52, 53, 54, 55, 56, 57, 5, 58, 59, 60, 61, 62, 63, 64, 65, 66, 67, 68, 69, 70, 71, 72, 73, 74, 75, 76, 77, 78, 79, 80, 81, 82, 83, 84, 85, 86, 87, 88, 89, 90, 91, 92, 93, 94, 95, 96, 97, 98, 99, 100, 101, 102, 103, 104, 105, 106, 107, 108, 109, 110, 111, 112, 113, 114, 115, 116, 117, 118, 119, 120, 121, 122, 123, 124, 125, 126, 127, 128, 129, 130, 131, 132, 133, 134, 135, 136, 137, 138, 139, 140, 141, 142, 143, 144, 145, 146, 167, 168, 169, 170, 171, 172, 173, 174, 175, 176, 177, 178, 179, 180, 181] (by decide +kernel) (by decide +kernel)
set_option maxRecDepth 20000 in
theorem gX5_readCat_X5_readWord : GoodIn wsX5_readCat (wsV RX5 153 RX5 yX5_readWord wsX5_readWord) := goodIn_app (goodIn_of _ (by decide +kernel)) ggX5_readCat_X5_readWord
set_option maxRecDepth 20000 in
theorem ggX5_readCat_X5_readNumber : GoodIn wsX5_readCat wsX5_readNumber := goodIn_r _ [158, 12, 5, 13, 7, 8, 9, 10, 11, 14, 15, 16, 17, 18, 19, 20, 21, 22, 23, 24, 25, 26, 27, 28, 29, 30, 31, 32, 33, 34, 35, 36, 37, 38, 39, 40, 41, 42, 43, 44, 45, 46, 47, 48, 49, 50, 51, 52, 53, 54, 55, 56, 57, 58, 59, 60, 61, 62, 63, 64, 65, 66, 67, 68, 69, 70, 71, 72, 73, 74, 75, 76, 77, 78, 79, 80, 81, 82, 83, 84, 85, 86, 87, 88, 89, 90, 91, 92, 93, 94, 95, 96, 97, 98, 99, 100, 101, 102, 103, 104, 105, 106, 107, 108, 109, 110, 111, 112, 113, 114, 115, 116, 117, 118, 119, 120, 121, 122, 123, 124, 125, 126, 127, 128, 129, 130, 131, 132, 133, 134, 135, 136, 137, 138, 139, 140, 141, 142, 143, 144, 145, 146, 167, 168, 169, 170, 171, 172, 173, 174, 175, 176, 177, 178, 179, 180, 181] (by decide +kernel) (by decide +kernel)
set_option maxRecDepth 20000 in
theorem gX5_readCat_X5_readNumber : GoodIn wsX5_readCat (wsV RX5 156 RX5 yX5_readNumber wsX5_readNumber) := goodIn_app (goodIn_of _ (by decide +kernel)) ggX5_readCat_X5_readNumber
set_option maxRecDepth 20000 in
theorem ggX5_readCat_X5_follows : GoodIn wsX5_readCat wsX5_follows := goodIn_r _ [162, 12, 20, 21, 22, 10, 23, 24, 13, 25, 26, 27, 28, 29, 30, 31, 32, 33, 34, 35, 36, 37, 38, 39, 40, 41, 42, 43, 44, 45, 46, 47, 48, 49, 50, 51, 52, 53, 54, 55, 56, 57, 5, 58, 59, 60, 61, 62, 63, 64, 65, 66, 67, 68, 69, 70, 71, 72, 73, 74, 75, 76, 77, 78, 79, 80, 81, 82, 83, 84, 85, 86, 87, 88, 89, 90, 91, 92, 93, 94, 95, 96, 97, 98, 99, 100, 101, 102, 103, 104, 105, 106, 107, 108, 109, 110, 111, 112, 113, 114, 115, 116, 117, 118, 119, 120, 121, 122, 123, 124, 125, 126, 127, 128, 129, 130, 131, 132, 133, 134, 135, 136, 137, 138, 139, 140, 141, 142, 143, 144, 145, 146, 167, 168, 169, 170, 171, 172, 173, 174, 175, 176, 177, 178, 179, 180, 181] (by decide +kernel) (by decide +kernel)
set_option maxRecDepth 20000 in
theorem gX5_readCat_X5_follows : GoodIn wsX5_readCat (wsV RX5 166 RX5 yX5_follows wsX5_follows) := goodIn_app (goodIn_of _ (by decide +kernel)) ggX5_readCat_X5_follows
set_option maxRecDepth 20000 in
theorem ggX5_readCat_X5_readKnownName : GoodIn wsX5_readCat wsX5_readKnownName := goodIn_r _ [166, 12, 13, 7, 8, 9, 10, 11, 14, 15, 16, 17, 18, 19, 47, 48, 49, 50, 41, 20, 21, 22, 23, 24, 25, 26, 27, 28, 29, 30, 31, 32, 33, 34, 35, 36, 37, 38, 39, 40, 42, 43, 44, 45, 46, 51, 52, 53, 54, 55, 56, 57, 5, 58, 59, 60, 61, 62, 63, 64, 65, 66, 67, 68, 69, 70, 71, 72, 73, 74, 75, 76, 77, 78, 79, 80, 81, 82, 83, 84, 85, 86, 87, 88, 89, 90, 91, 92, 93, 94, 95, 96, 97, 98, 99, 100, 101, 102, 103, 104, 105, 106, 107, 108, 109, 110, 111, 112, 113, 114, 115, 116, 117, 118, 119, 120, 121, 122, 123, 124, 125, 126, 127, 128, 129, 130, 131, 132, 133, 134, 135, 136, 137, 138, 139, 140, 141, 142, 143, 144, 145, 146, 167, 168, 169, 170, 171, 172, 173, 174, 175, 176, 177, 178, 179, 180, 181] (by decide +kernel) (by decide +kernel)
set_option maxRecDepth 20000 in
theorem gX5_readCat_X5_readKnownName : GoodIn wsX5_readCat (wsV RX5 169 RX5 yX5_readKnownName wsX5_readKnownName) := goodIn_app (goodIn_of _ (by decide +kernel)) ggX5_readCat_X5_readKnownName
theorem dX5_readCat_0 : decode cX5_readCat 0 = .ok (.aload_n 0, 1) := by decide +kernel
theorem dX5_readCat_1 : decode cX5_readCat 1 = .ok (.getfield 12, 3) := by decide +kernel
theorem dX5_readCat_4 : decode cX5_readCat 4 = .ok (.getfield 104, 3) := by decide +kernel
theorem dX5_readCat_7 : decode cX5_readCat 7 = .ok (.istore_n 1, 1) := by decide +kernel
theorem dX5_readCat_8 : decode cX5_readCat 8 = .ok (.iload_n 1, 1) := by decide +kernel
theorem dX5_readCat_9 : decode cX5_readCat 9 = .ok (.bipush 6, 2) := by decide +kernel
theorem dX5_readCat_11 : decode cX5_readCat 11 = .ok (.if_icmp .lt 8, 3) := by decide +kernel
theorem dX5_readCat_14 : decode cX5_readCat 14 = .ok (.aload_n 0, 1) := by decide +kernel
theorem dX5_readCat_15 : decode cX5_readCat 15 = .ok (.invokevirtual 146, 3) := by decide +kernel
theorem dX5_readCat_18 : decode cX5_readCat 18 = .ok (.ireturn, 1) := by decide +kernel
theorem dX5_readCat_19 : decode cX5_readCat 19 = .ok (.aload_n 0, 1) := by decide +kernel
theorem dX5_readCat_20 : decode cX5_readCat 20 = .ok (.invokevirtual 90, 3) := by decide +kernel
theorem dX5_readCat_23 : decode cX5_readCat 23 = .ok (.aload_n 0, 1) := by decide +kernel
theorem dX5_readCat_24 : decode cX5_readCat 24 = .ok (.aload_n 0, 1) := by decide +kernel
theorem dX5_readCat_25 : decode cX5_readCat 25 = .ok (.getfield 29, 3) := by decide +kernel
theorem dX5_readCat_28 : decode cX5_readCat 28 = .ok (.iload_n 1, 1) := by decide +kernel
theorem dX5_readCat_29 : decode cX5_readCat 29 = .ok (.invokevirtual 149, 3) := by decide +kernel
theorem dX5_readCat_32 : decode cX5_readCat 32 = .ok (.ifCond .eq 21, 3) := by decide +kernel
theorem dX5_readCat_35 : decode cX5_readCat 35 = .ok (.aload_n 0, 1) := by decide +kernel
theorem dX5_readCat_36 : decode cX5_readCat 36 = .ok (.bipush 6, 2) := by decide +kernel
theorem dX5_readCat_38 : decode cX5_readCat 38 = .ok (.invokevirtual 153, 3) := by decide +kernel
theorem dX5_readCat_41 : decode cX5_readCat 41 = .ok (.ifCond .eq 12, 3) := by decide +kernel
theorem dX5_readCat_44 : decode cX5_readCat 44 = .ok (.aload_n 0, 1) := by decide +kernel
theorem dX5_readCat_45 : decode cX5_readCat 45 = .ok (.bipush 99, 2) := by decide +kernel
theorem dX5_readCat_47 : decode cX5_readCat 47 = .ok (.invokevirtual 156, 3) := by decide +kernel
theorem dX5_readCat_50 : decode cX5_readCat 50 = .ok (.ifCond .ne 5, 3) := by decide +kernel
theorem dX5_readCat_53 : decode cX5_readCat 53 = .ok (.iconst 0, 1) := by decide +kernel
theorem dX5_readCat_54 : decode cX5_readCat 54 = .ok (.ireturn, 1) := by decide +kernel
theorem dX5_readCat_55 : decode cX5_readCat 55 = .ok (.aload_n 0, 1) := by decide +kernel
theorem dX5_readCat_56 : decode cX5_readCat 56 = .ok (.getfield 12, 3) := by decide +kernel
theorem dX5_readCat_59 : decode cX5_readCat 59 = .ok (.getfield 159, 3) := by decide +kernel
theorem dX5_readCat_62 : decode cX5_readCat 62 = .ok (.iload_n 1, 1) := by decide +kernel
theorem dX5_readCat_63 : decode cX5_readCat 63 = .ok (.aload_n 0, 1) := by decide +kernel
theorem dX5_readCat_64 : decode cX5_readCat 64 = .ok (.getfield 57, 3) := by decide +kernel
theorem dX5_readCat_67 : decode cX5_readCat 67 = .ok (.iastore, 1) := by decide +kernel
theorem dX5_readCat_68 : decode cX5_readCat 68 = .ok (.aload_n 0, 1) := by decide +kernel
theorem dX5_readCat_69 : decode cX5_readCat 69 = .ok (.getfield 12, 3) := by decide +kernel
theorem dX5_readCat_72 : decode cX5_readCat 72 = .ok (.getfield 163, 3) := by decide +kernel
theorem dX5_readCat_75 : decode cX5_readCat 75 = .ok (.iload_n 1, 1) := by decide +kernel
theorem dX5_readCat_76 : decode cX5_readCat 76 = .ok (.iconst (-1), 1) := by decide +kernel
theorem dX5_readCat_77 : decode cX5_readCat 77 = .ok (.iastore, 1) := by decide +kernel
theorem dX5_readCat_78 : decode cX5_readCat 78 = .ok (.aload_n 0, 1) := by decide +kernel
theorem dX5_readCat_79 : decode cX5_readCat 79 = .ok (.bipush 7, 2) := by decide +kernel
theorem dX5_readCat_81 : decode cX5_readCat 81 = .ok (.invokevirtual 166, 3) := by decide +kernel
theorem dX5_readCat_84 : decode cX5_readCat 84 = .ok (.ifCond .eq 29, 3) := by decide +kernel
theorem dX5_readCat_87 : decode cX5_readCat 87 = .ok (.aload_n 0, 1) := by decide +kernel
theorem dX5_readCat_88 : decode cX5_readCat 88 = .ok (.aload_n 0, 1) := by decide +kernel
theorem dX5_readCat_89 : decode cX5_readCat 89 = .ok (.getfield 29, 3) := by decide +kernel
theorem dX5_readCat_92 : decode cX5_readCat 92 = .ok (.iload_n 1, 1) := by decide +kernel
theorem dX5_readCat_93 : decode cX5_readCat 93 = .ok (.invokevirtual 169, 3) := by decide +kernel
theorem dX5_readCat_96 : decode cX5_readCat 96 = .ok (.istore_n 2, 1) := by decide +kernel
theorem dX5_readCat_97 : decode cX5_readCat 97 = .ok (.iload_n 2, 1) := by decide +kernel
theorem dX5_readCat_98 : decode cX5_readCat 98 = .ok (.ifCond .ge 5, 3) := by decide +kernel
theorem dX5_readCat_101 : decode cX5_readCat 101 = .ok (.iconst 0, 1) := by decide +kernel
theorem dX5_readCat_102 : decode cX5_readCat 102 = .ok (.ireturn, 1) := by decide +kernel
theorem dX5_readCat_103 : decode cX5_readCat 103 = .ok (.aload_n 0, 1) := by decide +kernel
theorem dX5_readCat_104 : decode cX5_readCat 104 = .ok (.getfield 12, 3) := by decide +kernel
theorem dX5_readCat_107 : decode cX5_readCat 107 = .ok (.getfield 163, 3) := by decide +kernel
theorem dX5_readCat_110 : decode cX5_readCat 110 = .ok (.iload_n 1, 1) := by decide +kernel
theorem dX5_readCat_111 : decode cX5_readCat 111 = .ok (.iload_n 2, 1) := by decide +kernel
theorem dX5_readCat_112 : decode cX5_readCat 112 = .ok (.iastore, 1) := by decide +kernel
theorem dX5_readCat_113 : decode cX5_readCat 113 = .ok (.aload_n 0, 1) := by decide +kernel
theorem dX5_readCat_114 : decode cX5_readCat 114 = .ok (.getfield 12, 3) := by decide +kernel
theorem dX5_readCat_117 : decode cX5_readCat 117 = .ok (.dup, 1) := by decide +kernel
theorem dX5_readCat_118 : decode cX5_readCat 118 = .ok (.getfield 104, 3) := by decide +kernel
theorem dX5_readCat_121 : decode cX5_readCat 121 = .ok (.iconst 1, 1) := by decide +kernel
theorem dX5_readCat_122 : decode cX5_readCat 122 = .ok (.iadd, 1) := by decide +kernel
theorem dX5_readCat_123 : decode cX5_readCat 123 = .ok (.putfield 104, 3) := by decide +kernel
theorem dX5_readCat_126 : decode cX5_readCat 126 = .ok (.iconst 1, 1) := by decide +kernel
theorem dX5_readCat_127 : decode cX5_readCat 127 = .ok (.ireturn, 1) := by decide +kernel
set_option maxRecDepth 20000 in
theorem ggX5_readRoom_X5_refuse : GoodIn wsX5_readRoom wsX5_refuse := goodIn_r _ [12, 13, 14, 15, 16, 17, 11, 18, 19, 20, 161, 162, 163, 164, 165, 166, 167, 168, 169, 170, 171, 172, 173, 174, 175] (by decide +kernel) (by decide +kernel)
set_option maxRecDepth 20000 in
theorem gX5_readRoom_X5_refuse : GoodIn wsX5_readRoom (wsV RX5 146 RX5 yX5_refuse wsX5_refuse) := goodIn_app (goodIn_of _ (by decide +kernel)) ggX5_readRoom_X5_refuse
set_option maxRecDepth 20000 in
theorem ggX5_readRoom_X5_advance : GoodIn wsX5_readRoom wsX5_advance := goodIn_r _ [24, 25, 14, 13, 26, 27, 28, 11, 29, 30, 31, 32, 33, 34, 35, 36, 37, 38, 39, 40, 41, 42, 43, 44, 45, 46, 47, 48, 49, 50, 51, 52, 53, 54, 55, 56, 57, 58, 59, 60, 61, 62, 63, 64, 65, 66, 67, 68, 69, 70, 71, 72, 73, 74, 75, 76, 77, 78, 79, 80, 81, 82, 83, 84, 85, 86, 87, 88, 89, 90, 91, 92, 93, 94, 95, 96, 97, 98, 99, 100, 101, 102, 103, 104, 105, 106, 107, 108, 109, 110, 111, 112, 113, 114, 115, 116, 117, 118, 119, 120, 121, 122, 123, 124, 125, 126, 127, 128, 129, 130, 131, 132, 133, 134, 135, 136, 137, 138, 139, 140, 141, 142, 143, 144, 145, 146, 147, 148, 161, 162, 163, 164, 165, 166, 167, 168, 169, 170, 171, 172, 173, 174, 175] (by decide +kernel) (by decide +kernel)
set_option maxRecDepth 20000 in
theorem gX5_readRoom_X5_advance : GoodIn wsX5_readRoom (wsV RX5 90 RX5 yX5_advance wsX5_advance) := goodIn_app (goodIn_of _ (by decide +kernel)) ggX5_readRoom_X5_advance
set_option maxRecDepth 20000 in
theorem ggX5_readRoom_X5_readNewName : GoodIn wsX5_readRoom wsX5_readNewName := goodIn_r _ [152, 13, 14, 42, 8, 9, 10, 11, 12, 15, 16, 17, 18, 19, 20, 48, 49, 50, 51, 21, 22, 23, 24, 25, 26, 27, 28, 29, 30, 31, 32, 33, 34, 35, 36, 37, 38, 39, 40, 41, 43, 44, 45, 46, 47, 52, 53, 54, 55, 56, 57, 58, 59, 60, 61, 62, 63, 64, 65, 66, 67, 68, 69, 70, 71, 72, 73, 74, 75, 76, 77, 78, 79, 80, 81, 82, 83, 84, 85, 86, 87, 88, 89, 90, 91, 92, 93, 94, 95, 96, 97, 98, 99, 100, 101, 102, 103, 104, 105, 106, 107, 108, 109, 110, 111, 112, 113, 114, 115, 116, 117, 118, 119, 120, 121, 122, 123, 124, 125, 126, 127, 128, 129, 130, 131, 132, 133, 134, 135, 136, 137, 138, 139, 140, 141, 142, 143, 144, 145, 146, 147, 148, 161, 162, 163, 164, 165, 166, 167, 168, 169, 170, 171, 172, 173, 174, 175] (by decide +kernel) (by decide +kernel)
set_option maxRecDepth 20000 in
theorem gX5_readRoom_X5_readNewName : GoodIn wsX5_readRoom (wsV RX5 149 RX5 yX5_readNewName wsX5_readNewName) := goodIn_app (goodIn_of _ (by decide +kernel)) ggX5_readRoom_X5_readNewName
set_option maxRecDepth 20000 in
theorem ggX5_readRoom_X5_follows : GoodIn wsX5_readRoom wsX5_follows := goodIn_r _ [156, 13, 21, 22, 23, 11, 24, 25, 14, 26, 27, 28, 29, 30, 31, 32, 33, 34, 35, 36, 37, 38, 39, 40, 41, 42, 43, 44, 45, 46, 47, 48, 49, 50, 51, 52, 53, 54, 55, 56, 57, 58, 59, 60, 61, 62, 63, 64, 65, 66, 67, 68, 69, 70, 71, 72, 73, 74, 75, 76, 77, 78, 79, 80, 81, 82, 83, 84, 85, 86, 87, 88, 89, 90, 91, 92, 93, 94, 95, 96, 97, 98, 99, 100, 101, 102, 103, 104, 105, 106, 107, 108, 109, 110, 111, 112, 113, 114, 115, 116, 117, 118, 119, 120, 121, 122, 123, 124, 125, 126, 127, 128, 129, 130, 131, 132, 133, 134, 135, 136, 137, 138, 139, 140, 141, 142, 143, 144, 145, 146, 147, 148, 161, 162, 163, 164, 165, 166, 167, 168, 169, 170, 171, 172, 173, 174, 175] (by decide +kernel) (by decide +kernel)
set_option maxRecDepth 20000 in
theorem gX5_readRoom_X5_follows : GoodIn wsX5_readRoom (wsV RX5 166 RX5 yX5_follows wsX5_follows) := goodIn_app (goodIn_of _ (by decide +kernel)) ggX5_readRoom_X5_follows
set_option maxRecDepth 20000 in
theorem ggX5_readRoom_X5_readKnownName : GoodIn wsX5_readRoom wsX5_readKnownName := goodIn_r _ [160, 13, 14, 8, 9, 10, 11, 12, 15, 16, 17, 18, 19, 20, 48, 49, 50, 51, 42, 21, 22, 23, 24, 25, 26, 27, 28, 29, 30, 31, 32, 33, 34, 35, 36, 37, 38, 39, 40, 41, 43, 44, 45, 46, 47, 52, 53, 54, 55, 56, 57, 58, 59, 60, 61, 62, 63, 64, 65, 66, 67, 68, 69, 70, 71, 72, 73, 74, 75, 76, 77, 78, 79, 80, 81, 82, 83, 84, 85, 86, 87, 88, 89, 90, 91, 92, 93, 94, 95, 96, 97, 98, 99, 100, 101, 102, 103, 104, 105, 106, 107, 108, 109, 110, 111, 112, 113, 114, 115, 116, 117, 118, 119, 120, 121, 122, 123, 124, 125, 126, 127, 128, 129, 130, 131, 132, 133, 134, 135, 136, 137, 138, 139, 140, 141, 142, 143, 144, 145, 146, 147, 148, 161, 162, 163, 164, 165, 166, 167, 168, 169, 170, 171, 172, 173, 174, 175] (by decide +kernel) (by decide +kernel)
set_option maxRecDepth 20000 in
theorem gX5_readRoom_X5_readKnownName : GoodIn wsX5_readRoom (wsV RX5 169 RX5 yX5_readKnownName wsX5_readKnownName) := goodIn_app (goodIn_of _ (by decide +kernel)) ggX5_readRoom_X5_readKnownName
theorem dX5_readRoom_0 : decode cX5_readRoom 0 = .ok (.aload_n 0, 1) := by decide +kernel
theorem dX5_readRoom_1 : decode cX5_readRoom 1 = .ok (.getfield 12, 3) := by decide +kernel
theorem dX5_readRoom_4 : decode cX5_readRoom 4 = .ok (.getfield 173, 3) := by decide +kernel
theorem dX5_readRoom_7 : decode cX5_readRoom 7 = .ok (.istore_n 1, 1) := by decide +kernel
theorem dX5_readRoom_8 : decode cX5_readRoom 8 = .ok (.iload_n 1, 1) := by decide +kernel
theorem dX5_readRoom_9 : decode cX5_readRoom 9 = .ok (.bipush 8, 2) := by decide +kernel
theorem dX5_readRoom_11 : decode cX5_readRoom 11 = .ok (.if_icmp .lt 8, 3) := by decide +kernel
theorem dX5_readRoom_14 : decode cX5_readRoom 14 = .ok (.aload_n 0, 1) := by decide +kernel
theorem dX5_readRoom_15 : decode cX5_readRoom 15 = .ok (.invokevirtual 146, 3) := by decide +kernel
theorem dX5_readRoom_18 : decode cX5_readRoom 18 = .ok (.ireturn, 1) := by decide +kernel
theorem dX5_readRoom_19 : decode cX5_readRoom 19 = .ok (.aload_n 0, 1) := by decide +kernel
theorem dX5_readRoom_20 : decode cX5_readRoom 20 = .ok (.invokevirtual 90, 3) := by decide +kernel
theorem dX5_readRoom_23 : decode cX5_readRoom 23 = .ok (.aload_n 0, 1) := by decide +kernel
theorem dX5_readRoom_24 : decode cX5_readRoom 24 = .ok (.aload_n 0, 1) := by decide +kernel
theorem dX5_readRoom_25 : decode cX5_readRoom 25 = .ok (.getfield 32, 3) := by decide +kernel
theorem dX5_readRoom_28 : decode cX5_readRoom 28 = .ok (.iload_n 1, 1) := by decide +kernel
theorem dX5_readRoom_29 : decode cX5_readRoom 29 = .ok (.invokevirtual 149, 3) := by decide +kernel
theorem dX5_readRoom_32 : decode cX5_readRoom 32 = .ok (.ifCond .ne 5, 3) := by decide +kernel
theorem dX5_readRoom_35 : decode cX5_readRoom 35 = .ok (.iconst 0, 1) := by decide +kernel
theorem dX5_readRoom_36 : decode cX5_readRoom 36 = .ok (.ireturn, 1) := by decide +kernel
theorem dX5_readRoom_37 : decode cX5_readRoom 37 = .ok (.aload_n 0, 1) := by decide +kernel
theorem dX5_readRoom_38 : decode cX5_readRoom 38 = .ok (.bipush 8, 2) := by decide +kernel
theorem dX5_readRoom_40 : decode cX5_readRoom 40 = .ok (.invokevirtual 166, 3) := by decide +kernel
theorem dX5_readRoom_43 : decode cX5_readRoom 43 = .ok (.ifCond .eq 38, 3) := by decide +kernel
theorem dX5_readRoom_46 : decode cX5_readRoom 46 = .ok (.aload_n 0, 1) := by decide +kernel
theorem dX5_readRoom_47 : decode cX5_readRoom 47 = .ok (.aload_n 0, 1) := by decide +kernel
theorem dX5_readRoom_48 : decode cX5_readRoom 48 = .ok (.getfield 29, 3) := by decide +kernel
theorem dX5_readRoom_51 : decode cX5_readRoom 51 = .ok (.aload_n 0, 1) := by decide +kernel
theorem dX5_readRoom_52 : decode cX5_readRoom 52 = .ok (.getfield 12, 3) := by decide +kernel
theorem dX5_readRoom_55 : decode cX5_readRoom 55 = .ok (.getfield 104, 3) := by decide +kernel
theorem dX5_readRoom_58 : decode cX5_readRoom 58 = .ok (.invokevirtual 169, 3) := by decide +kernel
theorem dX5_readRoom_61 : decode cX5_readRoom 61 = .ok (.istore_n 2, 1) := by decide +kernel
theorem dX5_readRoom_62 : decode cX5_readRoom 62 = .ok (.iload_n 2, 1) := by decide +kernel
theorem dX5_readRoom_63 : decode cX5_readRoom 63 = .ok (.ifCond .ge 5, 3) := by decide +kernel
theorem dX5_readRoom_66 : decode cX5_readRoom 66 = .ok (.iconst 0, 1) := by decide +kernel
theorem dX5_readRoom_67 : decode cX5_readRoom 67 = .ok (.ireturn, 1) := by decide +kernel
theorem dX5_readRoom_68 : decode cX5_readRoom 68 = .ok (.aload_n 0, 1) := by decide +kernel
theorem dX5_readRoom_69 : decode cX5_readRoom 69 = .ok (.getfield 12, 3) := by decide +kernel
theorem dX5_readRoom_72 : decode cX5_readRoom 72 = .ok (.getfield 100, 3) := by decide +kernel
theorem dX5_readRoom_75 : decode cX5_readRoom 75 = .ok (.getfield 176, 3) := by decide +kernel
theorem dX5_readRoom_78 : decode cX5_readRoom 78 = .ok (.iload_n 1, 1) := by decide +kernel
theorem dX5_readRoom_79 : decode cX5_readRoom 79 = .ok (.iload_n 2, 1) := by decide +kernel
theorem dX5_readRoom_80 : decode cX5_readRoom 80 = .ok (.iastore, 1) := by decide +kernel
theorem dX5_readRoom_81 : decode cX5_readRoom 81 = .ok (.aload_n 0, 1) := by decide +kernel
theorem dX5_readRoom_82 : decode cX5_readRoom 82 = .ok (.getfield 12, 3) := by decide +kernel
theorem dX5_readRoom_85 : decode cX5_readRoom 85 = .ok (.dup, 1) := by decide +kernel
theorem dX5_readRoom_86 : decode cX5_readRoom 86 = .ok (.getfield 173, 3) := by decide +kernel
theorem dX5_readRoom_89 : decode cX5_readRoom 89 = .ok (.iconst 1, 1) := by decide +kernel
theorem dX5_readRoom_90 : decode cX5_readRoom 90 = .ok (.iadd, 1) := by decide +kernel
theorem dX5_readRoom_91 : decode cX5_readRoom 91 = .ok (.putfield 173, 3) := by decide +kernel
theorem dX5_readRoom_94 : decode cX5_readRoom 94 = .ok (.iconst 1, 1) := by decide +kernel
theorem dX5_readRoom_95 : decode cX5_readRoom 95 = .ok (.ireturn, 1) := by decide +kernel
set_option maxRecDepth 20000 in
theorem ggX5_readTenant_X5_refuse : GoodIn wsX5_readTenant wsX5_refuse := goodIn_r _ [17, 18, 9, 19, 20, 21, 16, 22, 23, 24, 179, 180, 181, 182, 183, 184, 185, 186, 187, 188, 189, 190, 191, 192, 193] (by decide +kernel) (by decide +kernel)
set_option maxRecDepth 20000 in
theorem gX5_readTenant_X5_refuse : GoodIn wsX5_readTenant (wsV RX5 146 RX5 yX5_refuse wsX5_refuse) := goodIn_app (goodIn_of _ (by decide +kernel)) ggX5_readTenant_X5_refuse
set_option maxRecDepth 20000 in
theorem ggX5_readTenant_X5_advance : GoodIn wsX5_readTenant wsX5_advance := goodIn_r _ [28, 29, 9, 18, 30, 31, 32, 16, 33, 34, 35, 36, 37, 38, 39, 40, 41, 42, 43, 44, 45, 46, 47, 48, 49, 50, 51, 52, 53, 54, 55, 56, 57, 58, 59, 60, 61, 62, 6, 63, 64, 65, 66, 67, 68, 69, 70, 71, 72, 73, 74, 75, 76, 77, 78, 79, 80, 81, 82, 83, 84, 85, 86, 87, 88, 89, 90, 91, 92, 93, 94, 95, 96, 97, 98, 99, 100, 101, 102, 103, 104, 105, 106, 107, 108, 109, 110, 111, 112, 113, 114, 115, 116, 117, 118, 119, 120, 121, 122, 123, 124, 125, 126, 127, 128, 129, 130, 131, 132, 133, 134, 135, 136, 137, 138, 139, 140, 141, 142, 143, 144, 145, 146, 147, 148, 149, 150, 151, 179, 180, 181, 182, 183, 184, 185, 186, 187, 188, 189, 190, 191, 192, 193] (by decide +kernel) (by decide +kernel)
set_option maxRecDepth 20000 in
theorem gX5_readTenant_X5_advance : GoodIn wsX5_readTenant (wsV RX5 90 RX5 yX5_advance wsX5_advance) := goodIn_app (goodIn_of _ (by decide +kernel)) ggX5_readTenant_X5_advance
set_option maxRecDepth 20000 in
theorem ggX5_readTenant_X5_readNewName : GoodIn wsX5_readTenant wsX5_readNewName := goodIn_r _ [155, 18, 9, 46, 13, 14, 15, 16, 17, 19, 20, 21, 22, 23, 24, 52, 53, 54, 55, 25, 26, 27, 28, 29, 30, 31, 32, 33, 34, 35, 36, 37, 38, 39, 40, 41, 42, 43, 44, 45, 47, 48, 49, 50, 51, 56, 57, 58, 59, 60, 61, 62, 6, 63, 64, 65, 66, 67, 68, 69, 70, 71, 72, 73, 74, 75, 76, 77, 78, 79, 80, 81, 82, 83, 84, 85, 86, 87, 88, 89, 90, 91, 92, 93, 94, 95, 96, 97, 98, 99, 100, 101, 102, 103, 104, 105, 106, 107, 108, 109, 110, 111, 112, 113, 114, 115, 116, 117, 118, 119, 120, 121, 122, 123, 124, 125, 126, 127, 128, 129, 130, 131, 132, 133, 134, 135, 136, 137, 138, 139, 140, 141, 142, 143, 144, 145, 146, 147, 148, 149, 150, 151, 179, 180, 181, 182, 183, 184, 185, 186, 187, 188, 189, 190, 191, 192, 193] (by decide +kernel) (by decide +kernel)
set_option maxRecDepth 20000 in
theorem gX5_readTenant_X5_readNewName : GoodIn wsX5_readTenant (wsV RX5 149 RX5 yX5_readNewName wsX5_readNewName) := goodIn_app (goodIn_of _ (by decide +kernel)) ggX5_readTenant_X5_readNewName
set_option maxRecDepth 20000 in
theorem ggX5_readTenant_X5_readWord : GoodIn wsX5_readTenant wsX5_readWord := goodIn_r _ [159, 18, 13, 14, 15, 16, 17, 9, 19, 20, 21, 22, 23, 24, 25, 26, 27, 28, 29, 30, 31, 32, 33, 34, 35, 36, 37, 38, 39, 40, 41, 42, 43, 44, 45, 46, 47, 48, 49, 50, 51, 52, 53, 54, 55, 56, 57, 58, 59, 60, 61, 62, 6, 63, 64, 65, 66, 67, 68, 69, 70, 71, 72, 73, 74, 75, 76, 77, 78, 79, 80, 81, 82, 83, 84, 85, 86, 87, 88, 89, 90, 91, 92, 93, 94, 95, 96, 97, 98, 99, 100, 101, 102, 103, 104, 105, 106, 107, 108, 109, 110, 111, 112, 113, 114, 115, 116, 117, 118, 119, 120, 121, 122, 123, 124, 125, 126, 127, 128, 129, 130, 131, 132, 133, 134, 135, 136, 137, 138, 139, 140, 141, 142, 143, 144, 145, 146, 147, 148, 149, 150, 151, 179, 180, 181, 182, 183, 184, 185, 186, 187, 188, 189, 190, 191, 192, 193] (by decide +kernel) (by decide +kernel)
set_option maxRecDepth 20000 in
theorem gX5_readTenant_X5_readWord : GoodIn wsX5_readTenant (wsV RX5 153 RX5 yX5_readWord wsX5_readWord) := goodIn_app (goodIn_of _ (by decide +kernel)) ggX5_readTenant_X5_readWord
set_option maxRecDepth 20000 in
theorem ggX5_readTenant_X5_readNumber : GoodIn wsX5_readTenant wsX5_readNumber := goodIn_r _ [163, 18, 6, 9, 13, 14, 15, 16, 17, 19, 20, 21, 22, 23, 24, 25, 26, 27, 28, 29, 30, 31, 32, 33, 34, 35, 36, 37, 38, 39, 40, 41, 42, 43, 44, 45, 46, 47, 48, 49, 50, 51, 52, 53, 54, 55, 56, 57, 58, 59, 60, 61, 62, 63, 64, 65, 66, 67, 68, 69, 70, 71, 72, 73, 74, 75, 76, 77, 78, 79, 80, 81, 82, 83, 84, 85, 86, 87, 88, 89, 90, 91, 92, 93, 94, 95, 96, 97, 98, 99, 100, 101, 102, 103, 104, 105, 106, 107, 108, 109, 110, 111, 112, 113, 114, 115, 116, 117, 118, 119, 120, 121, 122, 123, 124, 125, 126, 127, 128, 129, 130, 131, 132, 133, 134, 135, 136, 137, 138, 139, 140, 141, 142, 143, 144, 145, 146, 147, 148, 149, 150, 151, 179, 180, 181, 182, 183, 184, 185, 186, 187, 188, 189, 190, 191, 192, 193] (by decide +kernel) (by decide +kernel)
set_option maxRecDepth 20000 in
theorem gX5_readTenant_X5_readNumber : GoodIn wsX5_readTenant (wsV RX5 156 RX5 yX5_readNumber wsX5_readNumber) := goodIn_app (goodIn_of _ (by decide +kernel)) ggX5_readTenant_X5_readNumber
set_option maxRecDepth 20000 in
theorem ggX5_readTenant_X5_follows : GoodIn wsX5_readTenant wsX5_follows := goodIn_r _ [167, 18, 25, 26, 27, 16, 28, 29, 9, 30, 31, 32, 33, 34, 35, 36, 37, 38, 39, 40, 41, 42, 43, 44, 45, 46, 47, 48, 49, 50, 51, 52, 53, 54, 55, 56, 57, 58, 59, 60, 61, 62, 6, 63, 64, 65, 66, 67, 68, 69, 70, 71, 72, 73, 74, 75, 76, 77, 78, 79, 80, 81, 82, 83, 84, 85, 86, 87, 88, 89, 90, 91, 92, 93, 94, 95, 96, 97, 98, 99, 100, 101, 102, 103, 104, 105, 106, 107, 108, 109, 110, 111, 112, 113, 114, 115, 116, 117, 118, 119, 120, 121, 122, 123, 124, 125, 126, 127, 128, 129, 130, 131, 132, 133, 134, 135, 136, 137, 138, 139, 140, 141, 142, 143, 144, 145, 146, 147, 148, 149, 150, 151, 179, 180, 181, 182, 183, 184, 185, 186, 187, 188, 189, 190, 191, 192, 193] (by decide +kernel) (by decide +kernel)
set_option maxRecDepth 20000 in
theorem gX5_readTenant_X5_follows : GoodIn wsX5_readTenant (wsV RX5 166 RX5 yX5_follows wsX5_follows) := goodIn_app (goodIn_of _ (by decide +kernel)) ggX5_readTenant_X5_follows
set_option maxRecDepth 20000 in
theorem ggX5_readTenant_X5_readKnownName : GoodIn wsX5_readTenant wsX5_readKnownName := goodIn_r _ [171, 18, 9, 13, 14, 15, 16, 17, 19, 20, 21, 22, 23, 24, 52, 53, 54, 55, 46, 25, 26, 27, 28, 29, 30, 31, 32, 33, 34, 35, 36, 37, 38, 39, 40, 41, 42, 43, 44, 45, 47, 48, 49, 50, 51, 56, 57, 58, 59, 60, 61, 62, 6, 63, 64, 65, 66, 67, 68, 69, 70, 71, 72, 73, 74, 75, 76, 77, 78, 79, 80, 81, 82, 83, 84, 85, 86, 87, 88, 89, 90, 91, 92, 93, 94, 95, 96, 97, 98, 99, 100, 101, 102, 103, 104, 105, 106, 107, 108, 109, 110, 111, 112, 113, 114, 115, 116, 117, 118, 119, 120, 121, 122, 123, 124, 125, 126, 127, 128, 129, 130, 131, 132, 133, 134, 135, 136, 137, 138, 139, 140, 141, 142, 143, 144, 145, 146, 147, 148, 149, 150, 151, 179, 180, 181, 182, 183, 184, 185, 186, 187, 188, 189, 190, 191, 192, 193] (by decide +kernel) (by decide +kernel)
set_option maxRecDepth 20000 in
theorem gX5_readTenant_X5_readKnownName : GoodIn wsX5_readTenant (wsV RX5 169 RX5 yX5_readKnownName wsX5_readKnownName) := goodIn_app (goodIn_of _ (by decide +kernel)) ggX5_readTenant_X5_readKnownName
set_option maxRecDepth 20000 in
theorem ggX5_readTenant_X4_whoIsIn : GoodIn wsX5_readTenant wsX4_whoIsIn := goodIn_r _ [176, 177, 178, 194, 195, 196, 197, 198, 199, 200, 201, 202, 203, 204, 205, 206, 207, 208, 209, 210, 211, 212] (by decide +kernel) (by decide +kernel)
set_option maxRecDepth 20000 in
theorem gX5_readTenant_X4_whoIsIn : GoodIn wsX5_readTenant (wsV RX5 191 RX4 yX4_whoIsIn wsX4_whoIsIn) := goodIn_app (goodIn_of _ (by decide +kernel)) ggX5_readTenant_X4_whoIsIn
set_option maxRecDepth 20000 in
theorem ggX5_readTenant_X5_fail : GoodIn wsX5_readTenant wsX5_fail := goodIn_r _ [22, 23, 24, 179, 180, 181, 182, 183, 184, 185, 186, 187, 188, 189, 190, 191, 192, 193] (by decide +kernel) (by decide +kernel)
set_option maxRecDepth 20000 in
theorem gX5_readTenant_X5_fail : GoodIn wsX5_readTenant (wsV RX5 195 RX5 yX5_fail wsX5_fail) := goodIn_app (goodIn_of _ (by decide +kernel)) ggX5_readTenant_X5_fail
theorem dX5_readTenant_0 : decode cX5_readTenant 0 = .ok (.aload_n 0, 1) := by decide +kernel
theorem dX5_readTenant_1 : decode cX5_readTenant 1 = .ok (.getfield 12, 3) := by decide +kernel
theorem dX5_readTenant_4 : decode cX5_readTenant 4 = .ok (.getfield 179, 3) := by decide +kernel
theorem dX5_readTenant_7 : decode cX5_readTenant 7 = .ok (.istore_n 1, 1) := by decide +kernel
theorem dX5_readTenant_8 : decode cX5_readTenant 8 = .ok (.iload_n 1, 1) := by decide +kernel
theorem dX5_readTenant_9 : decode cX5_readTenant 9 = .ok (.bipush 7, 2) := by decide +kernel
theorem dX5_readTenant_11 : decode cX5_readTenant 11 = .ok (.if_icmp .lt 8, 3) := by decide +kernel
theorem dX5_readTenant_14 : decode cX5_readTenant 14 = .ok (.aload_n 0, 1) := by decide +kernel
theorem dX5_readTenant_15 : decode cX5_readTenant 15 = .ok (.invokevirtual 146, 3) := by decide +kernel
theorem dX5_readTenant_18 : decode cX5_readTenant 18 = .ok (.ireturn, 1) := by decide +kernel
theorem dX5_readTenant_19 : decode cX5_readTenant 19 = .ok (.aload_n 0, 1) := by decide +kernel
theorem dX5_readTenant_20 : decode cX5_readTenant 20 = .ok (.invokevirtual 90, 3) := by decide +kernel
theorem dX5_readTenant_23 : decode cX5_readTenant 23 = .ok (.aload_n 0, 1) := by decide +kernel
theorem dX5_readTenant_24 : decode cX5_readTenant 24 = .ok (.aload_n 0, 1) := by decide +kernel
theorem dX5_readTenant_25 : decode cX5_readTenant 25 = .ok (.getfield 35, 3) := by decide +kernel
theorem dX5_readTenant_28 : decode cX5_readTenant 28 = .ok (.iload_n 1, 1) := by decide +kernel
theorem dX5_readTenant_29 : decode cX5_readTenant 29 = .ok (.invokevirtual 149, 3) := by decide +kernel
theorem dX5_readTenant_32 : decode cX5_readTenant 32 = .ok (.ifCond .eq 21, 3) := by decide +kernel
theorem dX5_readTenant_35 : decode cX5_readTenant 35 = .ok (.aload_n 0, 1) := by decide +kernel
theorem dX5_readTenant_36 : decode cX5_readTenant 36 = .ok (.bipush 10, 2) := by decide +kernel
theorem dX5_readTenant_38 : decode cX5_readTenant 38 = .ok (.invokevirtual 153, 3) := by decide +kernel
theorem dX5_readTenant_41 : decode cX5_readTenant 41 = .ok (.ifCond .eq 12, 3) := by decide +kernel
theorem dX5_readTenant_44 : decode cX5_readTenant 44 = .ok (.aload_n 0, 1) := by decide +kernel
theorem dX5_readTenant_45 : decode cX5_readTenant 45 = .ok (.bipush 99, 2) := by decide +kernel
theorem dX5_readTenant_47 : decode cX5_readTenant 47 = .ok (.invokevirtual 156, 3) := by decide +kernel
theorem dX5_readTenant_50 : decode cX5_readTenant 50 = .ok (.ifCond .ne 5, 3) := by decide +kernel
theorem dX5_readTenant_53 : decode cX5_readTenant 53 = .ok (.iconst 0, 1) := by decide +kernel
theorem dX5_readTenant_54 : decode cX5_readTenant 54 = .ok (.ireturn, 1) := by decide +kernel
theorem dX5_readTenant_55 : decode cX5_readTenant 55 = .ok (.aload_n 0, 1) := by decide +kernel
theorem dX5_readTenant_56 : decode cX5_readTenant 56 = .ok (.getfield 12, 3) := by decide +kernel
theorem dX5_readTenant_59 : decode cX5_readTenant 59 = .ok (.getfield 100, 3) := by decide +kernel
theorem dX5_readTenant_62 : decode cX5_readTenant 62 = .ok (.getfield 182, 3) := by decide +kernel
theorem dX5_readTenant_65 : decode cX5_readTenant 65 = .ok (.iload_n 1, 1) := by decide +kernel
theorem dX5_readTenant_66 : decode cX5_readTenant 66 = .ok (.aload_n 0, 1) := by decide +kernel
theorem dX5_readTenant_67 : decode cX5_readTenant 67 = .ok (.getfield 57, 3) := by decide +kernel
theorem dX5_readTenant_70 : decode cX5_readTenant 70 = .ok (.iastore, 1) := by decide +kernel
theorem dX5_readTenant_71 : decode cX5_readTenant 71 = .ok (.aload_n 0, 1) := by decide +kernel
theorem dX5_readTenant_72 : decode cX5_readTenant 72 = .ok (.getfield 12, 3) := by decide +kernel
theorem dX5_readTenant_75 : decode cX5_readTenant 75 = .ok (.getfield 185, 3) := by decide +kernel
theorem dX5_readTenant_78 : decode cX5_readTenant 78 = .ok (.iload_n 1, 1) := by decide +kernel
theorem dX5_readTenant_79 : decode cX5_readTenant 79 = .ok (.iconst 0, 1) := by decide +kernel
theorem dX5_readTenant_80 : decode cX5_readTenant 80 = .ok (.iastore, 1) := by decide +kernel
theorem dX5_readTenant_81 : decode cX5_readTenant 81 = .ok (.aload_n 0, 1) := by decide +kernel
theorem dX5_readTenant_82 : decode cX5_readTenant 82 = .ok (.bipush 11, 2) := by decide +kernel
theorem dX5_readTenant_84 : decode cX5_readTenant 84 = .ok (.invokevirtual 166, 3) := by decide +kernel
theorem dX5_readTenant_87 : decode cX5_readTenant 87 = .ok (.ifCond .eq 27, 3) := by decide +kernel
theorem dX5_readTenant_90 : decode cX5_readTenant 90 = .ok (.aload_n 0, 1) := by decide +kernel
theorem dX5_readTenant_91 : decode cX5_readTenant 91 = .ok (.bipush 9, 2) := by decide +kernel
theorem dX5_readTenant_93 : decode cX5_readTenant 93 = .ok (.invokevirtual 156, 3) := by decide +kernel
theorem dX5_readTenant_96 : decode cX5_readTenant 96 = .ok (.ifCond .ne 5, 3) := by decide +kernel
theorem dX5_readTenant_99 : decode cX5_readTenant 99 = .ok (.iconst 0, 1) := by decide +kernel
theorem dX5_readTenant_100 : decode cX5_readTenant 100 = .ok (.ireturn, 1) := by decide +kernel
theorem dX5_readTenant_101 : decode cX5_readTenant 101 = .ok (.aload_n 0, 1) := by decide +kernel
theorem dX5_readTenant_102 : decode cX5_readTenant 102 = .ok (.getfield 12, 3) := by decide +kernel
theorem dX5_readTenant_105 : decode cX5_readTenant 105 = .ok (.getfield 185, 3) := by decide +kernel
theorem dX5_readTenant_108 : decode cX5_readTenant 108 = .ok (.iload_n 1, 1) := by decide +kernel
theorem dX5_readTenant_109 : decode cX5_readTenant 109 = .ok (.aload_n 0, 1) := by decide +kernel
theorem dX5_readTenant_110 : decode cX5_readTenant 110 = .ok (.getfield 57, 3) := by decide +kernel
theorem dX5_readTenant_113 : decode cX5_readTenant 113 = .ok (.iastore, 1) := by decide +kernel
theorem dX5_readTenant_114 : decode cX5_readTenant 114 = .ok (.aload_n 0, 1) := by decide +kernel
theorem dX5_readTenant_115 : decode cX5_readTenant 115 = .ok (.bipush 12, 2) := by decide +kernel
theorem dX5_readTenant_117 : decode cX5_readTenant 117 = .ok (.invokevirtual 166, 3) := by decide +kernel
theorem dX5_readTenant_120 : decode cX5_readTenant 120 = .ok (.ifCond .eq 30, 3) := by decide +kernel
theorem dX5_readTenant_123 : decode cX5_readTenant 123 = .ok (.aload_n 0, 1) := by decide +kernel
theorem dX5_readTenant_124 : decode cX5_readTenant 124 = .ok (.bipush 9, 2) := by decide +kernel
theorem dX5_readTenant_126 : decode cX5_readTenant 126 = .ok (.invokevirtual 156, 3) := by decide +kernel
theorem dX5_readTenant_129 : decode cX5_readTenant 129 = .ok (.ifCond .ne 5, 3) := by decide +kernel
theorem dX5_readTenant_132 : decode cX5_readTenant 132 = .ok (.iconst 0, 1) := by decide +kernel
theorem dX5_readTenant_133 : decode cX5_readTenant 133 = .ok (.ireturn, 1) := by decide +kernel
theorem dX5_readTenant_134 : decode cX5_readTenant 134 = .ok (.aload_n 0, 1) := by decide +kernel
theorem dX5_readTenant_135 : decode cX5_readTenant 135 = .ok (.getfield 12, 3) := by decide +kernel
theorem dX5_readTenant_138 : decode cX5_readTenant 138 = .ok (.getfield 100, 3) := by decide +kernel
theorem dX5_readTenant_141 : decode cX5_readTenant 141 = .ok (.getfield 188, 3) := by decide +kernel
theorem dX5_readTenant_144 : decode cX5_readTenant 144 = .ok (.iload_n 1, 1) := by decide +kernel
theorem dX5_readTenant_145 : decode cX5_readTenant 145 = .ok (.aload_n 0, 1) := by decide +kernel
theorem dX5_readTenant_146 : decode cX5_readTenant 146 = .ok (.getfield 57, 3) := by decide +kernel
theorem dX5_readTenant_149 : decode cX5_readTenant 149 = .ok (.iastore, 1) := by decide +kernel
theorem dX5_readTenant_150 : decode cX5_readTenant 150 = .ok (.aload_n 0, 1) := by decide +kernel
theorem dX5_readTenant_151 : decode cX5_readTenant 151 = .ok (.bipush 9, 2) := by decide +kernel
theorem dX5_readTenant_153 : decode cX5_readTenant 153 = .ok (.invokevirtual 166, 3) := by decide +kernel
theorem dX5_readTenant_156 : decode cX5_readTenant 156 = .ok (.ifCond .eq 69, 3) := by decide +kernel
theorem dX5_readTenant_159 : decode cX5_readTenant 159 = .ok (.aload_n 0, 1) := by decide +kernel
theorem dX5_readTenant_160 : decode cX5_readTenant 160 = .ok (.getfield 51, 3) := by decide +kernel
theorem dX5_readTenant_163 : decode cX5_readTenant 163 = .ok (.istore_n 2, 1) := by decide +kernel
theorem dX5_readTenant_164 : decode cX5_readTenant 164 = .ok (.aload_n 0, 1) := by decide +kernel
theorem dX5_readTenant_165 : decode cX5_readTenant 165 = .ok (.aload_n 0, 1) := by decide +kernel
theorem dX5_readTenant_166 : decode cX5_readTenant 166 = .ok (.getfield 32, 3) := by decide +kernel
theorem dX5_readTenant_169 : decode cX5_readTenant 169 = .ok (.aload_n 0, 1) := by decide +kernel
theorem dX5_readTenant_170 : decode cX5_readTenant 170 = .ok (.getfield 12, 3) := by decide +kernel
theorem dX5_readTenant_173 : decode cX5_readTenant 173 = .ok (.getfield 173, 3) := by decide +kernel
theorem dX5_readTenant_176 : decode cX5_readTenant 176 = .ok (.invokevirtual 169, 3) := by decide +kernel
theorem dX5_readTenant_179 : decode cX5_readTenant 179 = .ok (.istore_n 3, 1) := by decide +kernel
theorem dX5_readTenant_180 : decode cX5_readTenant 180 = .ok (.iload_n 3, 1) := by decide +kernel
theorem dX5_readTenant_181 : decode cX5_readTenant 181 = .ok (.ifCond .ge 5, 3) := by decide +kernel
theorem dX5_readTenant_184 : decode cX5_readTenant 184 = .ok (.iconst 0, 1) := by decide +kernel
theorem dX5_readTenant_185 : decode cX5_readTenant 185 = .ok (.ireturn, 1) := by decide +kernel
theorem dX5_readTenant_186 : decode cX5_readTenant 186 = .ok (.aload_n 0, 1) := by decide +kernel
theorem dX5_readTenant_187 : decode cX5_readTenant 187 = .ok (.getfield 12, 3) := by decide +kernel
theorem dX5_readTenant_190 : decode cX5_readTenant 190 = .ok (.aload_n 0, 1) := by decide +kernel
theorem dX5_readTenant_191 : decode cX5_readTenant 191 = .ok (.getfield 12, 3) := by decide +kernel
theorem dX5_readTenant_194 : decode cX5_readTenant 194 = .ok (.getfield 100, 3) := by decide +kernel
theorem dX5_readTenant_197 : decode cX5_readTenant 197 = .ok (.iload_n 3, 1) := by decide +kernel
theorem dX5_readTenant_198 : decode cX5_readTenant 198 = .ok (.invokevirtual 191, 3) := by decide +kernel
theorem dX5_readTenant_201 : decode cX5_readTenant 201 = .ok (.iconst (-1), 1) := by decide +kernel
theorem dX5_readTenant_202 : decode cX5_readTenant 202 = .ok (.if_icmp .eq 10, 3) := by decide +kernel
theorem dX5_readTenant_205 : decode cX5_readTenant 205 = .ok (.aload_n 0, 1) := by decide +kernel
theorem dX5_readTenant_206 : decode cX5_readTenant 206 = .ok (.iconst 3, 1) := by decide +kernel
theorem dX5_readTenant_207 : decode cX5_readTenant 207 = .ok (.iload_n 2, 1) := by decide +kernel
theorem dX5_readTenant_208 : decode cX5_readTenant 208 = .ok (.invokevirtual 195, 3) := by decide +kernel
theorem dX5_readTenant_211 : decode cX5_readTenant 211 = .ok (.ireturn, 1) := by decide +kernel
theorem dX5_readTenant_212 : decode cX5_readTenant 212 = .ok (.aload_n 0, 1) := by decide +kernel
theorem dX5_readTenant_213 : decode cX5_readTenant 213 = .ok (.getfield 12, 3) := by decide +kernel
theorem dX5_readTenant_216 : decode cX5_readTenant 216 = .ok (.getfield 100, 3) := by decide +kernel
theorem dX5_readTenant_219 : decode cX5_readTenant 219 = .ok (.getfield 199, 3) := by decide +kernel
theorem dX5_readTenant_222 : decode cX5_readTenant 222 = .ok (.iload_n 1, 1) := by decide +kernel
theorem dX5_readTenant_223 : decode cX5_readTenant 223 = .ok (.iload_n 3, 1) := by decide +kernel
theorem dX5_readTenant_224 : decode cX5_readTenant 224 = .ok (.iastore, 1) := by decide +kernel
theorem dX5_readTenant_225 : decode cX5_readTenant 225 = .ok (.aload_n 0, 1) := by decide +kernel
theorem dX5_readTenant_226 : decode cX5_readTenant 226 = .ok (.getfield 12, 3) := by decide +kernel
theorem dX5_readTenant_229 : decode cX5_readTenant 229 = .ok (.dup, 1) := by decide +kernel
theorem dX5_readTenant_230 : decode cX5_readTenant 230 = .ok (.getfield 179, 3) := by decide +kernel
theorem dX5_readTenant_233 : decode cX5_readTenant 233 = .ok (.iconst 1, 1) := by decide +kernel
theorem dX5_readTenant_234 : decode cX5_readTenant 234 = .ok (.iadd, 1) := by decide +kernel
theorem dX5_readTenant_235 : decode cX5_readTenant 235 = .ok (.putfield 179, 3) := by decide +kernel
theorem dX5_readTenant_238 : decode cX5_readTenant 238 = .ok (.iconst 1, 1) := by decide +kernel
theorem dX5_readTenant_239 : decode cX5_readTenant 239 = .ok (.ireturn, 1) := by decide +kernel
set_option maxRecDepth 20000 in
theorem ggX5_readDies_X5_readNumber : GoodIn wsX5_readDies wsX5_readNumber := goodIn_r _ [8, 9, 2, 10, 11, 12, 13, 7, 14, 15, 16, 17, 18, 19, 20, 21, 22, 23, 24, 25, 26, 27, 28, 29, 30, 31, 32, 33, 34, 35, 36, 37, 38, 39, 40, 41, 42, 43, 44, 45, 46, 47, 48, 49, 50, 51, 52, 53, 54, 55, 56, 57, 58, 59, 60, 61, 62, 63, 64, 65, 66, 67, 68, 69, 70, 71, 72, 73, 74, 75, 76, 77, 78, 79, 80, 81, 82, 83, 84, 85, 86, 87, 88, 89, 90, 91, 92, 93, 94, 95, 96, 97, 98, 99, 100, 101, 102, 103, 104, 105, 106, 107, 108, 109, 110, 111, 112, 113, 114, 115, 116, 117, 118, 119, 120, 121, 122, 123, 124, 125, 126, 127, 128, 129, 130, 131, 132, 133, 134, 135, 136, 137, 138, 139, 140, 141, 142, 143, 144, 145, 146, 147, 148, 149, 150, 151, 152, 153, 154, 155, 156, 157, 158, 159, 160, 161, 162] (by decide +kernel) (by decide +kernel)
set_option maxRecDepth 20000 in
theorem gX5_readDies_X5_readNumber : GoodIn wsX5_readDies (wsV RX5 156 RX5 yX5_readNumber wsX5_readNumber) := goodIn_app (goodIn_of _ (by decide +kernel)) ggX5_readDies_X5_readNumber
theorem dX5_readDies_0 : decode cX5_readDies 0 = .ok (.aload_n 0, 1) := by decide +kernel
theorem dX5_readDies_1 : decode cX5_readDies 1 = .ok (.bipush 100, 2) := by decide +kernel
theorem dX5_readDies_3 : decode cX5_readDies 3 = .ok (.invokevirtual 156, 3) := by decide +kernel
theorem dX5_readDies_6 : decode cX5_readDies 6 = .ok (.ifCond .ne 5, 3) := by decide +kernel
theorem dX5_readDies_9 : decode cX5_readDies 9 = .ok (.iconst 0, 1) := by decide +kernel
theorem dX5_readDies_10 : decode cX5_readDies 10 = .ok (.ireturn, 1) := by decide +kernel
theorem dX5_readDies_11 : decode cX5_readDies 11 = .ok (.aload_n 0, 1) := by decide +kernel
theorem dX5_readDies_12 : decode cX5_readDies 12 = .ok (.getfield 12, 3) := by decide +kernel
theorem dX5_readDies_15 : decode cX5_readDies 15 = .ok (.aload_n 0, 1) := by decide +kernel
theorem dX5_readDies_16 : decode cX5_readDies 16 = .ok (.getfield 57, 3) := by decide +kernel
theorem dX5_readDies_19 : decode cX5_readDies 19 = .ok (.putfield 202, 3) := by decide +kernel
theorem dX5_readDies_22 : decode cX5_readDies 22 = .ok (.iconst 1, 1) := by decide +kernel
theorem dX5_readDies_23 : decode cX5_readDies 23 = .ok (.ireturn, 1) := by decide +kernel
set_option maxRecDepth 20000 in
theorem ggX5_readDraw_X5_readNumber : GoodIn wsX5_readDraw wsX5_readNumber := goodIn_r _ [9, 10, 3, 11, 12, 13, 14, 8, 15, 16, 17, 18, 19, 20, 21, 22, 23, 24, 25, 26, 27, 28, 29, 30, 31, 32, 33, 34, 35, 36, 37, 38, 39, 40, 41, 42, 43, 44, 45, 46, 47, 48, 49, 50, 51, 52, 53, 54, 55, 56, 57, 58, 59, 60, 61, 62, 63, 64, 65, 66, 67, 68, 69, 70, 71, 72, 73, 74, 75, 76, 77, 78, 79, 80, 81, 82, 83, 84, 85, 86, 87, 88, 89, 90, 91, 92, 93, 94, 95, 96, 97, 98, 99, 100, 101, 102, 103, 104, 105, 106, 107, 108, 109, 110, 111, 112, 113, 114, 115, 116, 117, 118, 119, 120, 121, 122, 123, 124, 125, 126, 127, 128, 129, 130, 131, 132, 133, 134, 135, 136, 137, 138, 139, 140, 141, 142, 143, 144, 145, 146, 147, 148, 149, 150, 151, 152, 153, 154, 155, 156, 157, 158, 159, 160, 161, 162, 163] (by decide +kernel) (by decide +kernel)
set_option maxRecDepth 20000 in
theorem gX5_readDraw_X5_readNumber : GoodIn wsX5_readDraw (wsV RX5 156 RX5 yX5_readNumber wsX5_readNumber) := goodIn_app (goodIn_of _ (by decide +kernel)) ggX5_readDraw_X5_readNumber
theorem dX5_readDraw_0 : decode cX5_readDraw 0 = .ok (.aload_n 0, 1) := by decide +kernel
theorem dX5_readDraw_1 : decode cX5_readDraw 1 = .ok (.sipush 999, 3) := by decide +kernel
theorem dX5_readDraw_4 : decode cX5_readDraw 4 = .ok (.invokevirtual 156, 3) := by decide +kernel
theorem dX5_readDraw_7 : decode cX5_readDraw 7 = .ok (.ifCond .ne 5, 3) := by decide +kernel
theorem dX5_readDraw_10 : decode cX5_readDraw 10 = .ok (.iconst 0, 1) := by decide +kernel
theorem dX5_readDraw_11 : decode cX5_readDraw 11 = .ok (.ireturn, 1) := by decide +kernel
theorem dX5_readDraw_12 : decode cX5_readDraw 12 = .ok (.aload_n 0, 1) := by decide +kernel
theorem dX5_readDraw_13 : decode cX5_readDraw 13 = .ok (.getfield 12, 3) := by decide +kernel
theorem dX5_readDraw_16 : decode cX5_readDraw 16 = .ok (.getfield 100, 3) := by decide +kernel
theorem dX5_readDraw_19 : decode cX5_readDraw 19 = .ok (.aload_n 0, 1) := by decide +kernel
theorem dX5_readDraw_20 : decode cX5_readDraw 20 = .ok (.getfield 57, 3) := by decide +kernel
theorem dX5_readDraw_23 : decode cX5_readDraw 23 = .ok (.putfield 205, 3) := by decide +kernel
theorem dX5_readDraw_26 : decode cX5_readDraw 26 = .ok (.iconst 1, 1) := by decide +kernel
theorem dX5_readDraw_27 : decode cX5_readDraw 27 = .ok (.ireturn, 1) := by decide +kernel
set_option maxRecDepth 20000 in
theorem ggX5_readOnce_X5_refuse : GoodIn wsX5_readOnce wsX5_refuse := goodIn_r _ [7, 2, 8, 9, 10, 11, 6, 12, 13, 14, 143, 144, 145, 146, 147, 148, 149, 150, 151, 152, 153, 154, 155, 156, 157] (by decide +kernel) (by decide +kernel)
set_option maxRecDepth 20000 in
theorem gX5_readOnce_X5_refuse : GoodIn wsX5_readOnce (wsV RX5 146 RX5 yX5_refuse wsX5_refuse) := goodIn_app (goodIn_of _ (by decide +kernel)) ggX5_readOnce_X5_refuse
set_option maxRecDepth 20000 in
theorem ggX5_readOnce_X5_advance : GoodIn wsX5_readOnce wsX5_advance := goodIn_r _ [18, 19, 8, 2, 20, 21, 22, 6, 23, 24, 25, 26, 27, 28, 29, 30, 31, 32, 33, 34, 35, 36, 37, 38, 39, 40, 41, 42, 43, 44, 45, 46, 47, 48, 49, 50, 51, 52, 53, 54, 55, 56, 57, 58, 59, 60, 61, 62, 63, 64, 65, 66, 67, 68, 69, 70, 71, 72, 73, 74, 75, 76, 77, 78, 79, 80, 81, 82, 83, 84, 85, 86, 87, 88, 89, 90, 91, 92, 93, 94, 95, 96, 97, 98, 99, 100, 101, 102, 103, 104, 105, 106, 107, 108, 109, 110, 111, 112, 113, 114, 115, 116, 117, 118, 119, 120, 121, 122, 123, 124, 125, 126, 127, 128, 129, 130, 131, 132, 133, 134, 135, 136, 137, 138, 139, 140, 141, 142, 143, 144, 145, 146, 147, 148, 149, 150, 151, 152, 153, 154, 155, 156, 157] (by decide +kernel) (by decide +kernel)
set_option maxRecDepth 20000 in
theorem gX5_readOnce_X5_advance : GoodIn wsX5_readOnce (wsV RX5 90 RX5 yX5_advance wsX5_advance) := goodIn_app (goodIn_of _ (by decide +kernel)) ggX5_readOnce_X5_advance
theorem dX5_readOnce_0 : decode cX5_readOnce 0 = .ok (.aload_n 0, 1) := by decide +kernel
theorem dX5_readOnce_1 : decode cX5_readOnce 1 = .ok (.getfield 45, 3) := by decide +kernel
theorem dX5_readOnce_4 : decode cX5_readOnce 4 = .ok (.aload_n 0, 1) := by decide +kernel
theorem dX5_readOnce_5 : decode cX5_readOnce 5 = .ok (.getfield 54, 3) := by decide +kernel
theorem dX5_readOnce_8 : decode cX5_readOnce 8 = .ok (.ishr, 1) := by decide +kernel
theorem dX5_readOnce_9 : decode cX5_readOnce 9 = .ok (.iconst 1, 1) := by decide +kernel
theorem dX5_readOnce_10 : decode cX5_readOnce 10 = .ok (.iand, 1) := by decide +kernel
theorem dX5_readOnce_11 : decode cX5_readOnce 11 = .ok (.ifCond .eq 8, 3) := by decide +kernel
theorem dX5_readOnce_14 : decode cX5_readOnce 14 = .ok (.aload_n 0, 1) := by decide +kernel
theorem dX5_readOnce_15 : decode cX5_readOnce 15 = .ok (.invokevirtual 146, 3) := by decide +kernel
theorem dX5_readOnce_18 : decode cX5_readOnce 18 = .ok (.ireturn, 1) := by decide +kernel
theorem dX5_readOnce_19 : decode cX5_readOnce 19 = .ok (.aload_n 0, 1) := by decide +kernel
theorem dX5_readOnce_20 : decode cX5_readOnce 20 = .ok (.dup, 1) := by decide +kernel
theorem dX5_readOnce_21 : decode cX5_readOnce 21 = .ok (.getfield 45, 3) := by decide +kernel
theorem dX5_readOnce_24 : decode cX5_readOnce 24 = .ok (.iconst 1, 1) := by decide +kernel
theorem dX5_readOnce_25 : decode cX5_readOnce 25 = .ok (.aload_n 0, 1) := by decide +kernel
theorem dX5_readOnce_26 : decode cX5_readOnce 26 = .ok (.getfield 54, 3) := by decide +kernel
theorem dX5_readOnce_29 : decode cX5_readOnce 29 = .ok (.ishl, 1) := by decide +kernel
theorem dX5_readOnce_30 : decode cX5_readOnce 30 = .ok (.ior, 1) := by decide +kernel
theorem dX5_readOnce_31 : decode cX5_readOnce 31 = .ok (.putfield 45, 3) := by decide +kernel
theorem dX5_readOnce_34 : decode cX5_readOnce 34 = .ok (.aload_n 0, 1) := by decide +kernel
theorem dX5_readOnce_35 : decode cX5_readOnce 35 = .ok (.invokevirtual 90, 3) := by decide +kernel
theorem dX5_readOnce_38 : decode cX5_readOnce 38 = .ok (.iconst 1, 1) := by decide +kernel
theorem dX5_readOnce_39 : decode cX5_readOnce 39 = .ok (.ireturn, 1) := by decide +kernel
set_option maxRecDepth 20000 in
theorem ggX5_closeLine_X5_readWord : GoodIn wsX5_closeLine wsX5_readWord := goodIn_r _ [5, 6, 7, 8, 9, 4, 10, 11, 12, 13, 14, 15, 16, 17, 18, 19, 20, 21, 22, 23, 24, 25, 26, 27, 28, 29, 30, 31, 32, 33, 34, 35, 36, 37, 38, 39, 40, 41, 42, 43, 44, 45, 46, 47, 48, 49, 50, 51, 52, 53, 54, 55, 56, 57, 58, 59, 60, 61, 62, 63, 64, 65, 66, 67, 68, 69, 70, 71, 72, 73, 74, 75, 76, 77, 78, 79, 80, 81, 82, 83, 84, 85, 86, 87, 88, 89, 90, 91, 92, 93, 94, 95, 96, 97, 98, 99, 100, 101, 102, 103, 104, 105, 106, 107, 108, 109, 110, 111, 112, 113, 114, 115, 116, 117, 118, 119, 120, 121, 122, 123, 124, 125, 126, 127, 128, 129, 130, 131, 132, 133, 134, 135, 136, 137, 138, 139, 140, 141, 142, 143, 144, 145, 146, 147, 148, 149, 150, 151, 152, 153, 154, 155, 156, 157, 158, 159, 160] (by decide +kernel) (by decide +kernel)
set_option maxRecDepth 20000 in
theorem gX5_closeLine_X5_readWord : GoodIn wsX5_closeLine (wsV RX5 153 RX5 yX5_readWord wsX5_readWord) := goodIn_app (goodIn_of _ (by decide +kernel)) ggX5_closeLine_X5_readWord
theorem dX5_closeLine_0 : decode cX5_closeLine 0 = .ok (.aload_n 0, 1) := by decide +kernel
theorem dX5_closeLine_1 : decode cX5_closeLine 1 = .ok (.bipush 59, 2) := by decide +kernel
theorem dX5_closeLine_3 : decode cX5_closeLine 3 = .ok (.invokevirtual 153, 3) := by decide +kernel
theorem dX5_closeLine_6 : decode cX5_closeLine 6 = .ok (.ireturn, 1) := by decide +kernel
set_option maxRecDepth 20000 in
theorem ggX5_readWord_X5_refuse : GoodIn wsX5_readWord wsX5_refuse := goodIn_r _ [6, 1, 7, 8, 9, 10, 5, 11, 12, 13, 142, 143, 144, 145, 146, 147, 148, 149, 150, 151, 152, 153, 154, 155, 156] (by decide +kernel) (by decide +kernel)
set_option maxRecDepth 20000 in
theorem gX5_readWord_X5_refuse : GoodIn wsX5_readWord (wsV RX5 146 RX5 yX5_refuse wsX5_refuse) := goodIn_app (goodIn_of _ (by decide +kernel)) ggX5_readWord_X5_refuse
set_option maxRecDepth 20000 in
theorem ggX5_readWord_X5_advance : GoodIn wsX5_readWord wsX5_advance := goodIn_r _ [17, 18, 7, 1, 19, 20, 21, 5, 22, 23, 24, 25, 26, 27, 28, 29, 30, 31, 32, 33, 34, 35, 36, 37, 38, 39, 40, 41, 42, 43, 44, 45, 46, 47, 48, 49, 50, 51, 52, 53, 54, 55, 56, 57, 58, 59, 60, 61, 62, 63, 64, 65, 66, 67, 68, 69, 70, 71, 72, 73, 74, 75, 76, 77, 78, 79, 80, 81, 82, 83, 84, 85, 86, 87, 88, 89, 90, 91, 92, 93, 94, 95, 96, 97, 98, 99, 100, 101, 102, 103, 104, 105, 106, 107, 108, 109, 110, 111, 112, 113, 114, 115, 116, 117, 118, 119, 120, 121, 122, 123, 124, 125, 126, 127, 128, 129, 130, 131, 132, 133, 134, 135, 136, 137, 138, 139, 140, 141, 142, 143, 144, 145, 146, 147, 148, 149, 150, 151, 152, 153, 154, 155, 156] (by decide +kernel) (by decide +kernel)
set_option maxRecDepth 20000 in
theorem gX5_readWord_X5_advance : GoodIn wsX5_readWord (wsV RX5 90 RX5 yX5_advance wsX5_advance) := goodIn_app (goodIn_of _ (by decide +kernel)) ggX5_readWord_X5_advance
theorem dX5_readWord_0 : decode cX5_readWord 0 = .ok (.aload_n 0, 1) := by decide +kernel
theorem dX5_readWord_1 : decode cX5_readWord 1 = .ok (.getfield 54, 3) := by decide +kernel
theorem dX5_readWord_4 : decode cX5_readWord 4 = .ok (.iload_n 1, 1) := by decide +kernel
theorem dX5_readWord_5 : decode cX5_readWord 5 = .ok (.if_icmp .eq 8, 3) := by decide +kernel
theorem dX5_readWord_8 : decode cX5_readWord 8 = .ok (.aload_n 0, 1) := by decide +kernel
theorem dX5_readWord_9 : decode cX5_readWord 9 = .ok (.invokevirtual 146, 3) := by decide +kernel
theorem dX5_readWord_12 : decode cX5_readWord 12 = .ok (.ireturn, 1) := by decide +kernel
theorem dX5_readWord_13 : decode cX5_readWord 13 = .ok (.aload_n 0, 1) := by decide +kernel
theorem dX5_readWord_14 : decode cX5_readWord 14 = .ok (.invokevirtual 90, 3) := by decide +kernel
theorem dX5_readWord_17 : decode cX5_readWord 17 = .ok (.iconst 1, 1) := by decide +kernel
theorem dX5_readWord_18 : decode cX5_readWord 18 = .ok (.ireturn, 1) := by decide +kernel
set_option maxRecDepth 20000 in
theorem ggX5_follows_X5_advance : GoodIn wsX5_follows wsX5_advance := goodIn_r _ [6, 7, 8, 1, 9, 10, 11, 5, 12, 13, 14, 15, 16, 17, 18, 19, 20, 21, 22, 23, 24, 25, 26, 27, 28, 29, 30, 31, 32, 33, 34, 35, 36, 37, 38, 39, 40, 41, 42, 43, 44, 45, 46, 47, 48, 49, 50, 51, 52, 53, 54, 55, 56, 57, 58, 59, 60, 61, 62, 63, 64, 65, 66, 67, 68, 69, 70, 71, 72, 73, 74, 75, 76, 77, 78, 79, 80, 81, 82, 83, 84, 85, 86, 87, 88, 89, 90, 91, 92, 93, 94, 95, 96, 97, 98, 99, 100, 101, 102, 103, 104, 105, 106, 107, 108, 109, 110, 111, 112, 113, 114, 115, 116, 117, 118, 119, 120, 121, 122, 123, 124, 125, 126, 127, 128, 129, 130, 131, 132, 133, 134, 135, 136, 137, 138, 139, 140, 141, 142, 143, 144, 145, 146] (by decide +kernel) (by decide +kernel)
set_option maxRecDepth 20000 in
theorem gX5_follows_X5_advance : GoodIn wsX5_follows (wsV RX5 90 RX5 yX5_advance wsX5_advance) := goodIn_app (goodIn_of _ (by decide +kernel)) ggX5_follows_X5_advance
theorem dX5_follows_0 : decode cX5_follows 0 = .ok (.aload_n 0, 1) := by decide +kernel
theorem dX5_follows_1 : decode cX5_follows 1 = .ok (.getfield 54, 3) := by decide +kernel
theorem dX5_follows_4 : decode cX5_follows 4 = .ok (.iload_n 1, 1) := by decide +kernel
theorem dX5_follows_5 : decode cX5_follows 5 = .ok (.if_icmp .ne 7, 3) := by decide +kernel
theorem dX5_follows_8 : decode cX5_follows 8 = .ok (.iconst 1, 1) := by decide +kernel
theorem dX5_follows_9 : decode cX5_follows 9 = .ok (.goto 4, 3) := by decide +kernel
theorem dX5_follows_12 : decode cX5_follows 12 = .ok (.iconst 0, 1) := by decide +kernel
theorem dX5_follows_13 : decode cX5_follows 13 = .ok (.istore_n 2, 1) := by decide +kernel
theorem dX5_follows_14 : decode cX5_follows 14 = .ok (.iload_n 2, 1) := by decide +kernel
theorem dX5_follows_15 : decode cX5_follows 15 = .ok (.ifCond .eq 7, 3) := by decide +kernel
theorem dX5_follows_18 : decode cX5_follows 18 = .ok (.aload_n 0, 1) := by decide +kernel
theorem dX5_follows_19 : decode cX5_follows 19 = .ok (.invokevirtual 90, 3) := by decide +kernel
theorem dX5_follows_22 : decode cX5_follows 22 = .ok (.iload_n 2, 1) := by decide +kernel
theorem dX5_follows_23 : decode cX5_follows 23 = .ok (.ireturn, 1) := by decide +kernel
set_option maxRecDepth 20000 in
theorem ggX5_readNumber_X5_refuse : GoodIn wsX5_readNumber wsX5_refuse := goodIn_r _ [8, 1, 3, 9, 10, 11, 7, 12, 13, 14, 142, 143, 144, 145, 146, 147, 148, 149, 150, 151, 152, 153, 154, 155, 156] (by decide +kernel) (by decide +kernel)
set_option maxRecDepth 20000 in
theorem gX5_readNumber_X5_refuse : GoodIn wsX5_readNumber (wsV RX5 146 RX5 yX5_refuse wsX5_refuse) := goodIn_app (goodIn_of _ (by decide +kernel)) ggX5_readNumber_X5_refuse
set_option maxRecDepth 20000 in
theorem ggX5_readNumber_X5_fail : GoodIn wsX5_readNumber wsX5_fail := goodIn_r _ [12, 13, 14, 142, 143, 144, 145, 146, 147, 148, 149, 150, 151, 152, 153, 154, 155, 156] (by decide +kernel) (by decide +kernel)
set_option maxRecDepth 20000 in
theorem gX5_readNumber_X5_fail : GoodIn wsX5_readNumber (wsV RX5 195 RX5 yX5_fail wsX5_fail) := goodIn_app (goodIn_of _ (by decide +kernel)) ggX5_readNumber_X5_fail
set_option maxRecDepth 20000 in
theorem ggX5_readNumber_X5_advance : GoodIn wsX5_readNumber wsX5_advance := goodIn_r _ [18, 19, 3, 1, 20, 21, 22, 7, 23, 24, 25, 26, 27, 28, 29, 30, 31, 32, 33, 34, 35, 36, 37, 38, 39, 40, 41, 42, 43, 44, 45, 46, 47, 48, 49, 50, 51, 52, 2, 53, 54, 55, 56, 57, 58, 59, 60, 61, 62, 63, 64, 65, 66, 67, 68, 69, 70, 71, 72, 73, 74, 75, 76, 77, 78, 79, 80, 81, 82, 83, 84, 85, 86, 87, 88, 89, 90, 91, 92, 93, 94, 95, 96, 97, 98, 99, 100, 101, 102, 103, 104, 105, 106, 107, 108, 109, 110, 111, 112, 113, 114, 115, 116, 117, 118, 119, 120, 121, 122, 123, 124, 125, 126, 127, 128, 129, 130, 131, 132, 133, 134, 135, 136, 137, 138, 139, 140, 141, 142, 143, 144, 145, 146, 147, 148, 149, 150, 151, 152, 153, 154, 155, 156] (by decide +kernel) (by decide +kernel)
set_option maxRecDepth 20000 in
theorem gX5_readNumber_X5_advance : GoodIn wsX5_readNumber (wsV RX5 90 RX5 yX5_advance wsX5_advance) := goodIn_app (goodIn_of _ (by decide +kernel)) ggX5_readNumber_X5_advance
theorem dX5_readNumber_0 : decode cX5_readNumber 0 = .ok (.aload_n 0, 1) := by decide +kernel
theorem dX5_readNumber_1 : decode cX5_readNumber 1 = .ok (.getfield 54, 3) := by decide +kernel
theorem dX5_readNumber_4 : decode cX5_readNumber 4 = .ok (.sipush 257, 3) := by decide +kernel
theorem dX5_readNumber_7 : decode cX5_readNumber 7 = .ok (.if_icmp .eq 8, 3) := by decide +kernel
theorem dX5_readNumber_10 : decode cX5_readNumber 10 = .ok (.aload_n 0, 1) := by decide +kernel
theorem dX5_readNumber_11 : decode cX5_readNumber 11 = .ok (.invokevirtual 146, 3) := by decide +kernel
theorem dX5_readNumber_14 : decode cX5_readNumber 14 = .ok (.ireturn, 1) := by decide +kernel
theorem dX5_readNumber_15 : decode cX5_readNumber 15 = .ok (.aload_n 0, 1) := by decide +kernel
theorem dX5_readNumber_16 : decode cX5_readNumber 16 = .ok (.getfield 57, 3) := by decide +kernel
theorem dX5_readNumber_19 : decode cX5_readNumber 19 = .ok (.iload_n 1, 1) := by decide +kernel
theorem dX5_readNumber_20 : decode cX5_readNumber 20 = .ok (.if_icmp .le 13, 3) := by decide +kernel
theorem dX5_readNumber_23 : decode cX5_readNumber 23 = .ok (.aload_n 0, 1) := by decide +kernel
theorem dX5_readNumber_24 : decode cX5_readNumber 24 = .ok (.iconst 4, 1) := by decide +kernel
theorem dX5_readNumber_25 : decode cX5_readNumber 25 = .ok (.aload_n 0, 1) := by decide +kernel
theorem dX5_readNumber_26 : decode cX5_readNumber 26 = .ok (.getfield 51, 3) := by decide +kernel
theorem dX5_readNumber_29 : decode cX5_readNumber 29 = .ok (.invokevirtual 195, 3) := by decide +kernel
theorem dX5_readNumber_32 : decode cX5_readNumber 32 = .ok (.ireturn, 1) := by decide +kernel
theorem dX5_readNumber_33 : decode cX5_readNumber 33 = .ok (.aload_n 0, 1) := by decide +kernel
theorem dX5_readNumber_34 : decode cX5_readNumber 34 = .ok (.getfield 57, 3) := by decide +kernel
theorem dX5_readNumber_37 : decode cX5_readNumber 37 = .ok (.istore_n 2, 1) := by decide +kernel
theorem dX5_readNumber_38 : decode cX5_readNumber 38 = .ok (.aload_n 0, 1) := by decide +kernel
theorem dX5_readNumber_39 : decode cX5_readNumber 39 = .ok (.invokevirtual 90, 3) := by decide +kernel
theorem dX5_readNumber_42 : decode cX5_readNumber 42 = .ok (.aload_n 0, 1) := by decide +kernel
theorem dX5_readNumber_43 : decode cX5_readNumber 43 = .ok (.iload_n 2, 1) := by decide +kernel
theorem dX5_readNumber_44 : decode cX5_readNumber 44 = .ok (.putfield 57, 3) := by decide +kernel
theorem dX5_readNumber_47 : decode cX5_readNumber 47 = .ok (.iconst 1, 1) := by decide +kernel
theorem dX5_readNumber_48 : decode cX5_readNumber 48 = .ok (.ireturn, 1) := by decide +kernel
set_option maxRecDepth 20000 in
theorem ggX5_readNewName_X5_refuse : GoodIn wsX5_readNewName wsX5_refuse := goodIn_r _ [8, 1, 2, 9, 10, 11, 7, 12, 13, 14, 142, 143, 144, 145, 146, 147, 148, 149, 150, 151, 152, 153, 154, 155, 156] (by decide +kernel) (by decide +kernel)
set_option maxRecDepth 20000 in
theorem gX5_readNewName_X5_refuse : GoodIn wsX5_readNewName (wsV RX5 146 RX5 yX5_refuse wsX5_refuse) := goodIn_app (goodIn_of _ (by decide +kernel)) ggX5_readNewName_X5_refuse
set_option maxRecDepth 20000 in
theorem ggX5_readNewName_X5_indexOfWord : GoodIn wsX5_readNewName wsX5_indexOfWord := goodIn_r _ [18, 3, 142, 143, 144, 145, 146, 147, 148, 149, 150, 151, 152, 153, 154, 155, 156] (by decide +kernel) (by decide +kernel)
set_option maxRecDepth 20000 in
theorem gX5_readNewName_X5_indexOfWord : GoodIn wsX5_readNewName (wsV RX5 208 RX5 yX5_indexOfWord wsX5_indexOfWord) := goodIn_app (goodIn_of _ (by decide +kernel)) ggX5_readNewName_X5_indexOfWord
set_option maxRecDepth 20000 in
theorem ggX5_readNewName_X5_fail : GoodIn wsX5_readNewName wsX5_fail := goodIn_r _ [12, 13, 14, 142, 143, 144, 145, 146, 147, 148, 149, 150, 151, 152, 153, 154, 155, 156] (by decide +kernel) (by decide +kernel)
set_option maxRecDepth 20000 in
theorem gX5_readNewName_X5_fail : GoodIn wsX5_readNewName (wsV RX5 195 RX5 yX5_fail wsX5_fail) := goodIn_app (goodIn_of _ (by decide +kernel)) ggX5_readNewName_X5_fail
set_option maxRecDepth 20000 in
theorem ggX5_readNewName_X5_advance : GoodIn wsX5_readNewName wsX5_advance := goodIn_r _ [22, 23, 2, 1, 24, 25, 26, 7, 27, 28, 29, 30, 31, 32, 33, 34, 35, 36, 37, 38, 39, 3, 40, 41, 42, 43, 44, 15, 16, 17, 18, 45, 46, 47, 48, 49, 50, 51, 52, 53, 54, 55, 56, 57, 58, 59, 60, 61, 62, 63, 64, 65, 66, 67, 68, 69, 70, 71, 72, 73, 74, 75, 76, 77, 78, 79, 80, 81, 82, 83, 84, 85, 86, 87, 88, 89, 90, 91, 92, 93, 94, 95, 96, 97, 98, 99, 100, 101, 102, 103, 104, 105, 106, 107, 108, 109, 110, 111, 112, 113, 114, 115, 116, 117, 118, 119, 120, 121, 122, 123, 124, 125, 126, 127, 128, 129, 130, 131, 132, 133, 134, 135, 136, 137, 138, 139, 140, 141, 142, 143, 144, 145, 146, 147, 148, 149, 150, 151, 152, 153, 154, 155, 156] (by decide +kernel) (by decide +kernel)
set_option maxRecDepth 20000 in
theorem gX5_readNewName_X5_advance : GoodIn wsX5_readNewName (wsV RX5 90 RX5 yX5_advance wsX5_advance) := goodIn_app (goodIn_of _ (by decide +kernel)) ggX5_readNewName_X5_advance
theorem dX5_readNewName_0 : decode cX5_readNewName 0 = .ok (.aload_n 0, 1) := by decide +kernel
theorem dX5_readNewName_1 : decode cX5_readNewName 1 = .ok (.getfield 54, 3) := by decide +kernel
theorem dX5_readNewName_4 : decode cX5_readNewName 4 = .ok (.sipush 256, 3) := by decide +kernel
theorem dX5_readNewName_7 : decode cX5_readNewName 7 = .ok (.if_icmp .ne 9, 3) := by decide +kernel
theorem dX5_readNewName_10 : decode cX5_readNewName 10 = .ok (.iload_n 2, 1) := by decide +kernel
theorem dX5_readNewName_11 : decode cX5_readNewName 11 = .ok (.aload_n 1, 1) := by decide +kernel
theorem dX5_readNewName_12 : decode cX5_readNewName 12 = .ok (.arraylength, 1) := by decide +kernel
theorem dX5_readNewName_13 : decode cX5_readNewName 13 = .ok (.if_icmp .lt 8, 3) := by decide +kernel
theorem dX5_readNewName_16 : decode cX5_readNewName 16 = .ok (.aload_n 0, 1) := by decide +kernel
theorem dX5_readNewName_17 : decode cX5_readNewName 17 = .ok (.invokevirtual 146, 3) := by decide +kernel
theorem dX5_readNewName_20 : decode cX5_readNewName 20 = .ok (.ireturn, 1) := by decide +kernel
theorem dX5_readNewName_21 : decode cX5_readNewName 21 = .ok (.aload_n 0, 1) := by decide +kernel
theorem dX5_readNewName_22 : decode cX5_readNewName 22 = .ok (.aload_n 1, 1) := by decide +kernel
theorem dX5_readNewName_23 : decode cX5_readNewName 23 = .ok (.iload_n 2, 1) := by decide +kernel
theorem dX5_readNewName_24 : decode cX5_readNewName 24 = .ok (.invokevirtual 208, 3) := by decide +kernel
theorem dX5_readNewName_27 : decode cX5_readNewName 27 = .ok (.iconst (-1), 1) := by decide +kernel
theorem dX5_readNewName_28 : decode cX5_readNewName 28 = .ok (.if_icmp .eq 13, 3) := by decide +kernel
theorem dX5_readNewName_31 : decode cX5_readNewName 31 = .ok (.aload_n 0, 1) := by decide +kernel
theorem dX5_readNewName_32 : decode cX5_readNewName 32 = .ok (.iconst 3, 1) := by decide +kernel
theorem dX5_readNewName_33 : decode cX5_readNewName 33 = .ok (.aload_n 0, 1) := by decide +kernel
theorem dX5_readNewName_34 : decode cX5_readNewName 34 = .ok (.getfield 51, 3) := by decide +kernel
theorem dX5_readNewName_37 : decode cX5_readNewName 37 = .ok (.invokevirtual 195, 3) := by decide +kernel
theorem dX5_readNewName_40 : decode cX5_readNewName 40 = .ok (.ireturn, 1) := by decide +kernel
theorem dX5_readNewName_41 : decode cX5_readNewName 41 = .ok (.aload_n 1, 1) := by decide +kernel
theorem dX5_readNewName_42 : decode cX5_readNewName 42 = .ok (.iload_n 2, 1) := by decide +kernel
theorem dX5_readNewName_43 : decode cX5_readNewName 43 = .ok (.aload_n 0, 1) := by decide +kernel
theorem dX5_readNewName_44 : decode cX5_readNewName 44 = .ok (.getfield 60, 3) := by decide +kernel
theorem dX5_readNewName_47 : decode cX5_readNewName 47 = .ok (.lastore, 1) := by decide +kernel
theorem dX5_readNewName_48 : decode cX5_readNewName 48 = .ok (.aload_n 0, 1) := by decide +kernel
theorem dX5_readNewName_49 : decode cX5_readNewName 49 = .ok (.invokevirtual 90, 3) := by decide +kernel
theorem dX5_readNewName_52 : decode cX5_readNewName 52 = .ok (.iconst 1, 1) := by decide +kernel
theorem dX5_readNewName_53 : decode cX5_readNewName 53 = .ok (.ireturn, 1) := by decide +kernel
set_option maxRecDepth 20000 in
theorem ggX5_readKnownName_X5_refuse : GoodIn wsX5_readKnownName wsX5_refuse := goodIn_r _ [7, 1, 2, 8, 9, 10, 6, 11, 12, 13, 142, 143, 144, 145, 146, 147, 148, 149, 150, 151, 152, 153, 154, 155, 156] (by decide +kernel) (by decide +kernel)
set_option maxRecDepth 20000 in
theorem gX5_readKnownName_X5_refuse : GoodIn wsX5_readKnownName (wsV RX5 146 RX5 yX5_refuse wsX5_refuse) := goodIn_app (goodIn_of _ (by decide +kernel)) ggX5_readKnownName_X5_refuse
set_option maxRecDepth 20000 in
theorem ggX5_readKnownName_X5_indexOfWord : GoodIn wsX5_readKnownName wsX5_indexOfWord := goodIn_r _ [17, 18, 142, 143, 144, 145, 146, 147, 148, 149, 150, 151, 152, 153, 154, 155, 156] (by decide +kernel) (by decide +kernel)
set_option maxRecDepth 20000 in
theorem gX5_readKnownName_X5_indexOfWord : GoodIn wsX5_readKnownName (wsV RX5 208 RX5 yX5_indexOfWord wsX5_indexOfWord) := goodIn_app (goodIn_of _ (by decide +kernel)) ggX5_readKnownName_X5_indexOfWord
set_option maxRecDepth 20000 in
theorem ggX5_readKnownName_X5_fail : GoodIn wsX5_readKnownName wsX5_fail := goodIn_r _ [11, 12, 13, 142, 143, 144, 145, 146, 147, 148, 149, 150, 151, 152, 153, 154, 155, 156] (by decide +kernel) (by decide +kernel)
set_option maxRecDepth 20000 in
theorem gX5_readKnownName_X5_fail : GoodIn wsX5_readKnownName (wsV RX5 195 RX5 yX5_fail wsX5_fail) := goodIn_app (goodIn_of _ (by decide +kernel)) ggX5_readKnownName_X5_fail
set_option maxRecDepth 20000 in
theorem ggX5_readKnownName_X5_advance : GoodIn wsX5_readKnownName wsX5_advance := goodIn_r _ [22, 23, 2, 1, 24, 25, 26, 6, 27, 28, 29, 30, 31, 32, 33, 34, 35, 36, 37, 38, 39, 18, 40, 41, 42, 43, 44, 14, 15, 16, 17, 45, 46, 47, 48, 49, 50, 51, 52, 53, 54, 55, 56, 57, 58, 59, 60, 61, 62, 63, 64, 65, 66, 67, 68, 69, 70, 71, 72, 73, 74, 75, 76, 77, 78, 79, 80, 81, 82, 83, 84, 85, 86, 87, 88, 89, 90, 91, 92, 93, 94, 95, 96, 97, 98, 99, 100, 101, 102, 103, 104, 105, 106, 107, 108, 109, 110, 111, 112, 113, 114, 115, 116, 117, 118, 119, 120, 121, 122, 123, 124, 125, 126, 127, 128, 129, 130, 131, 132, 133, 134, 135, 136, 137, 138, 139, 140, 141, 142, 143, 144, 145, 146, 147, 148, 149, 150, 151, 152, 153, 154, 155, 156] (by decide +kernel) (by decide +kernel)
set_option maxRecDepth 20000 in
theorem gX5_readKnownName_X5_advance : GoodIn wsX5_readKnownName (wsV RX5 90 RX5 yX5_advance wsX5_advance) := goodIn_app (goodIn_of _ (by decide +kernel)) ggX5_readKnownName_X5_advance
theorem dX5_readKnownName_0 : decode cX5_readKnownName 0 = .ok (.aload_n 0, 1) := by decide +kernel
theorem dX5_readKnownName_1 : decode cX5_readKnownName 1 = .ok (.getfield 54, 3) := by decide +kernel
theorem dX5_readKnownName_4 : decode cX5_readKnownName 4 = .ok (.sipush 256, 3) := by decide +kernel
theorem dX5_readKnownName_7 : decode cX5_readKnownName 7 = .ok (.if_icmp .eq 10, 3) := by decide +kernel
theorem dX5_readKnownName_10 : decode cX5_readKnownName 10 = .ok (.aload_n 0, 1) := by decide +kernel
theorem dX5_readKnownName_11 : decode cX5_readKnownName 11 = .ok (.invokevirtual 146, 3) := by decide +kernel
theorem dX5_readKnownName_14 : decode cX5_readKnownName 14 = .ok (.pop, 1) := by decide +kernel
theorem dX5_readKnownName_15 : decode cX5_readKnownName 15 = .ok (.iconst (-1), 1) := by decide +kernel
theorem dX5_readKnownName_16 : decode cX5_readKnownName 16 = .ok (.ireturn, 1) := by decide +kernel
theorem dX5_readKnownName_17 : decode cX5_readKnownName 17 = .ok (.aload_n 0, 1) := by decide +kernel
theorem dX5_readKnownName_18 : decode cX5_readKnownName 18 = .ok (.aload_n 1, 1) := by decide +kernel
theorem dX5_readKnownName_19 : decode cX5_readKnownName 19 = .ok (.iload_n 2, 1) := by decide +kernel
theorem dX5_readKnownName_20 : decode cX5_readKnownName 20 = .ok (.invokevirtual 208, 3) := by decide +kernel
theorem dX5_readKnownName_23 : decode cX5_readKnownName 23 = .ok (.istore_n 3, 1) := by decide +kernel
theorem dX5_readKnownName_24 : decode cX5_readKnownName 24 = .ok (.iload_n 3, 1) := by decide +kernel
theorem dX5_readKnownName_25 : decode cX5_readKnownName 25 = .ok (.iconst (-1), 1) := by decide +kernel
theorem dX5_readKnownName_26 : decode cX5_readKnownName 26 = .ok (.if_icmp .ne 15, 3) := by decide +kernel
theorem dX5_readKnownName_29 : decode cX5_readKnownName 29 = .ok (.aload_n 0, 1) := by decide +kernel
theorem dX5_readKnownName_30 : decode cX5_readKnownName 30 = .ok (.iconst 5, 1) := by decide +kernel
theorem dX5_readKnownName_31 : decode cX5_readKnownName 31 = .ok (.aload_n 0, 1) := by decide +kernel
theorem dX5_readKnownName_32 : decode cX5_readKnownName 32 = .ok (.getfield 51, 3) := by decide +kernel
theorem dX5_readKnownName_35 : decode cX5_readKnownName 35 = .ok (.invokevirtual 195, 3) := by decide +kernel
theorem dX5_readKnownName_38 : decode cX5_readKnownName 38 = .ok (.pop, 1) := by decide +kernel
theorem dX5_readKnownName_39 : decode cX5_readKnownName 39 = .ok (.iconst (-1), 1) := by decide +kernel
theorem dX5_readKnownName_40 : decode cX5_readKnownName 40 = .ok (.ireturn, 1) := by decide +kernel
theorem dX5_readKnownName_41 : decode cX5_readKnownName 41 = .ok (.aload_n 0, 1) := by decide +kernel
theorem dX5_readKnownName_42 : decode cX5_readKnownName 42 = .ok (.invokevirtual 90, 3) := by decide +kernel
theorem dX5_readKnownName_45 : decode cX5_readKnownName 45 = .ok (.iload_n 3, 1) := by decide +kernel
theorem dX5_readKnownName_46 : decode cX5_readKnownName 46 = .ok (.ireturn, 1) := by decide +kernel
theorem dX5_indexOfWord_0 : decode cX5_indexOfWord 0 = .ok (.iconst 0, 1) := by decide +kernel
theorem dX5_indexOfWord_1 : decode cX5_indexOfWord 1 = .ok (.istore_n 3, 1) := by decide +kernel
theorem dX5_indexOfWord_2 : decode cX5_indexOfWord 2 = .ok (.iload_n 3, 1) := by decide +kernel
theorem dX5_indexOfWord_3 : decode cX5_indexOfWord 3 = .ok (.iload_n 2, 1) := by decide +kernel
theorem dX5_indexOfWord_4 : decode cX5_indexOfWord 4 = .ok (.if_icmp .ge 28, 3) := by decide +kernel
theorem dX5_indexOfWord_7 : decode cX5_indexOfWord 7 = .ok (.iload_n 3, 1) := by decide +kernel
theorem dX5_indexOfWord_8 : decode cX5_indexOfWord 8 = .ok (.aload_n 1, 1) := by decide +kernel
theorem dX5_indexOfWord_9 : decode cX5_indexOfWord 9 = .ok (.arraylength, 1) := by decide +kernel
theorem dX5_indexOfWord_10 : decode cX5_indexOfWord 10 = .ok (.if_icmp .ge 22, 3) := by decide +kernel
theorem dX5_indexOfWord_13 : decode cX5_indexOfWord 13 = .ok (.aload_n 1, 1) := by decide +kernel
theorem dX5_indexOfWord_14 : decode cX5_indexOfWord 14 = .ok (.iload_n 3, 1) := by decide +kernel
theorem dX5_indexOfWord_15 : decode cX5_indexOfWord 15 = .ok (.laload, 1) := by decide +kernel
theorem dX5_indexOfWord_16 : decode cX5_indexOfWord 16 = .ok (.aload_n 0, 1) := by decide +kernel
theorem dX5_indexOfWord_17 : decode cX5_indexOfWord 17 = .ok (.getfield 60, 3) := by decide +kernel
theorem dX5_indexOfWord_20 : decode cX5_indexOfWord 20 = .ok (.lcmp, 1) := by decide +kernel
theorem dX5_indexOfWord_21 : decode cX5_indexOfWord 21 = .ok (.ifCond .ne 5, 3) := by decide +kernel
theorem dX5_indexOfWord_24 : decode cX5_indexOfWord 24 = .ok (.iload_n 3, 1) := by decide +kernel
theorem dX5_indexOfWord_25 : decode cX5_indexOfWord 25 = .ok (.ireturn, 1) := by decide +kernel
theorem dX5_indexOfWord_26 : decode cX5_indexOfWord 26 = .ok (.iinc 3 1, 3) := by decide +kernel
theorem dX5_indexOfWord_29 : decode cX5_indexOfWord 29 = .ok (.goto (-27), 3) := by decide +kernel
theorem dX5_indexOfWord_32 : decode cX5_indexOfWord 32 = .ok (.iconst (-1), 1) := by decide +kernel
theorem dX5_indexOfWord_33 : decode cX5_indexOfWord 33 = .ok (.ireturn, 1) := by decide +kernel
set_option maxRecDepth 20000 in
theorem ggX5_refuse_X5_fail : GoodIn wsX5_refuse wsX5_fail := goodIn_r _ [7, 8, 9, 10, 11, 12, 13, 14, 15, 16, 17, 18, 19, 20, 21, 22, 23, 24] (by decide +kernel) (by decide +kernel)
set_option maxRecDepth 20000 in
theorem gX5_refuse_X5_fail : GoodIn wsX5_refuse (wsV RX5 195 RX5 yX5_fail wsX5_fail) := goodIn_app (goodIn_of _ (by decide +kernel)) ggX5_refuse_X5_fail
theorem dX5_refuse_0 : decode cX5_refuse 0 = .ok (.aload_n 0, 1) := by decide +kernel
theorem dX5_refuse_1 : decode cX5_refuse 1 = .ok (.aload_n 0, 1) := by decide +kernel
theorem dX5_refuse_2 : decode cX5_refuse 2 = .ok (.getfield 54, 3) := by decide +kernel
theorem dX5_refuse_5 : decode cX5_refuse 5 = .ok (.sipush 259, 3) := by decide +kernel
theorem dX5_refuse_8 : decode cX5_refuse 8 = .ok (.if_icmp .ne 7, 3) := by decide +kernel
theorem dX5_refuse_11 : decode cX5_refuse 11 = .ok (.iconst 1, 1) := by decide +kernel
theorem dX5_refuse_12 : decode cX5_refuse 12 = .ok (.goto 4, 3) := by decide +kernel
theorem dX5_refuse_15 : decode cX5_refuse 15 = .ok (.iconst 2, 1) := by decide +kernel
theorem dX5_refuse_16 : decode cX5_refuse 16 = .ok (.aload_n 0, 1) := by decide +kernel
theorem dX5_refuse_17 : decode cX5_refuse 17 = .ok (.getfield 51, 3) := by decide +kernel
theorem dX5_refuse_20 : decode cX5_refuse 20 = .ok (.invokevirtual 195, 3) := by decide +kernel
theorem dX5_refuse_23 : decode cX5_refuse 23 = .ok (.ireturn, 1) := by decide +kernel
theorem dX5_fail_0 : decode cX5_fail 0 = .ok (.aload_n 0, 1) := by decide +kernel
theorem dX5_fail_1 : decode cX5_fail 1 = .ok (.iload_n 1, 1) := by decide +kernel
theorem dX5_fail_2 : decode cX5_fail 2 = .ok (.putfield 18, 3) := by decide +kernel
theorem dX5_fail_5 : decode cX5_fail 5 = .ok (.aload_n 0, 1) := by decide +kernel
theorem dX5_fail_6 : decode cX5_fail 6 = .ok (.iload_n 2, 1) := by decide +kernel
theorem dX5_fail_7 : decode cX5_fail 7 = .ok (.putfield 22, 3) := by decide +kernel
theorem dX5_fail_10 : decode cX5_fail 10 = .ok (.iconst 0, 1) := by decide +kernel
theorem dX5_fail_11 : decode cX5_fail 11 = .ok (.ireturn, 1) := by decide +kernel
set_option maxRecDepth 20000 in
theorem ggX5_readEither_X5_readBoth : GoodIn wsX5_readEither wsX5_readBoth := goodIn_r _ [144, 1, 2, 3, 145, 146, 147, 7, 8, 9, 10, 11, 12, 13, 14, 15, 16, 17, 18, 19, 20, 21, 22, 23, 24, 25, 26, 27, 28, 29, 30, 31, 32, 33, 34, 35, 36, 37, 38, 39, 40, 41, 42, 43, 44, 45, 46, 47, 48, 49, 50, 51, 52, 53, 54, 55, 56, 57, 58, 59, 60, 61, 62, 63, 64, 65, 66, 67, 68, 69, 70, 71, 72, 73, 74, 75, 76, 77, 78, 79, 80, 81, 82, 83, 84, 85, 86, 87, 88, 89, 90, 91, 92, 93, 94, 95, 96, 97, 98, 99, 100, 101, 102, 103, 104, 105, 106, 107, 108, 109, 110, 111, 112, 113, 114, 115, 116, 117, 118, 119, 120, 121, 122, 123, 124, 125, 126, 127, 128, 129, 130, 131, 132, 133, 134, 135, 136, 137, 138, 139, 140, 141, 142, 143, 0, 4, 5, 6, 148, 149, 150, 151, 152, 153, 154, 155, 156, 157, 158, 159, 160, 161, 162, 163, 164, 165, 166, 167, 168, 169, 170, 171, 172, 173, 174, 175, 176, 177, 178, 179, 180, 181, 182, 183, 184, 185, 186, 187, 188, 189, 190, 191, 192, 193, 194, 195, 196, 197, 198, 199, 200, 201, 202, 203, 204, 205, 206, 207, 208, 209, 210, 211, 212, 213, 214, 215, 216, 217, 218, 219, 220, 221, 222, 223, 224, 225, 226, 227, 228, 229] (by decide +kernel) (by decide +kernel)
set_option maxRecDepth 20000 in
theorem gX5_readEither_X5_readBoth : GoodIn wsX5_readEither (wsV RX5 211 RX5 yX5_readBoth wsX5_readBoth) := goodIn_app (goodIn_of _ (by decide +kernel)) ggX5_readEither_X5_readBoth
set_option maxRecDepth 20000 in
theorem ggX5_readEither_X5_advance : GoodIn wsX5_readEither wsX5_advance := goodIn_r _ [11, 12, 13, 1, 14, 15, 16, 7, 17, 18, 19, 20, 21, 22, 23, 24, 25, 26, 27, 28, 29, 30, 31, 32, 33, 34, 35, 36, 37, 38, 39, 40, 41, 42, 43, 44, 45, 46, 47, 48, 49, 50, 51, 52, 53, 54, 55, 56, 57, 58, 59, 60, 61, 62, 63, 64, 65, 66, 67, 68, 69, 70, 71, 72, 73, 74, 75, 76, 77, 78, 79, 80, 81, 82, 83, 84, 85, 86, 87, 88, 89, 90, 91, 92, 93, 94, 95, 96, 97, 98, 99, 100, 101, 102, 103, 104, 105, 106, 107, 108, 109, 110, 111, 112, 113, 114, 115, 116, 117, 118, 119, 120, 121, 122, 123, 124, 125, 126, 127, 128, 129, 130, 131, 132, 133, 134, 135, 136, 201, 202, 203, 204, 205, 206, 207, 208, 209, 210, 211, 212, 213, 214, 215] (by decide +kernel) (by decide +kernel)
set_option maxRecDepth 20000 in
theorem gX5_readEither_X5_advance : GoodIn wsX5_readEither (wsV RX5 90 RX5 yX5_advance wsX5_advance) := goodIn_app (goodIn_of _ (by decide +kernel)) ggX5_readEither_X5_advance
set_option maxRecDepth 20000 in
theorem ggX5_readEither_X2_addStep : GoodIn wsX5_readEither wsX2_addStep := goodIn_r _ [141, 142, 143, 227, 228, 229] (by decide +kernel) (by decide +kernel)
set_option maxRecDepth 20000 in
theorem gX5_readEither_X2_addStep : GoodIn wsX5_readEither (wsV RX5 214 RX2 yX2_addStep wsX2_addStep) := goodIn_app (goodIn_of _ (by decide +kernel)) ggX5_readEither_X2_addStep
theorem dX5_readEither_0 : decode cX5_readEither 0 = .ok (.aload_n 0, 1) := by decide +kernel
theorem dX5_readEither_1 : decode cX5_readEither 1 = .ok (.iload_n 1, 1) := by decide +kernel
theorem dX5_readEither_2 : decode cX5_readEither 2 = .ok (.invokevirtual 211, 3) := by decide +kernel
theorem dX5_readEither_5 : decode cX5_readEither 5 = .ok (.istore_n 2, 1) := by decide +kernel
theorem dX5_readEither_6 : decode cX5_readEither 6 = .ok (.iconst 0, 1) := by decide +kernel
theorem dX5_readEither_7 : decode cX5_readEither 7 = .ok (.istore_n 3, 1) := by decide +kernel
theorem dX5_readEither_8 : decode cX5_readEither 8 = .ok (.iload_n 3, 1) := by decide +kernel
theorem dX5_readEither_9 : decode cX5_readEither 9 = .ok (.bipush 30, 2) := by decide +kernel
theorem dX5_readEither_11 : decode cX5_readEither 11 = .ok (.if_icmp .ge 44, 3) := by decide +kernel
theorem dX5_readEither_14 : decode cX5_readEither 14 = .ok (.iload_n 2, 1) := by decide +kernel
theorem dX5_readEither_15 : decode cX5_readEither 15 = .ok (.ifCond .eq 40, 3) := by decide +kernel
theorem dX5_readEither_18 : decode cX5_readEither 18 = .ok (.aload_n 0, 1) := by decide +kernel
theorem dX5_readEither_19 : decode cX5_readEither 19 = .ok (.getfield 54, 3) := by decide +kernel
theorem dX5_readEither_22 : decode cX5_readEither 22 = .ok (.bipush 16, 2) := by decide +kernel
theorem dX5_readEither_24 : decode cX5_readEither 24 = .ok (.if_icmp .ne 31, 3) := by decide +kernel
theorem dX5_readEither_27 : decode cX5_readEither 27 = .ok (.aload_n 0, 1) := by decide +kernel
theorem dX5_readEither_28 : decode cX5_readEither 28 = .ok (.invokevirtual 90, 3) := by decide +kernel
theorem dX5_readEither_31 : decode cX5_readEither 31 = .ok (.aload_n 0, 1) := by decide +kernel
theorem dX5_readEither_32 : decode cX5_readEither 32 = .ok (.iload_n 1, 1) := by decide +kernel
theorem dX5_readEither_33 : decode cX5_readEither 33 = .ok (.invokevirtual 211, 3) := by decide +kernel
theorem dX5_readEither_36 : decode cX5_readEither 36 = .ok (.istore_n 2, 1) := by decide +kernel
theorem dX5_readEither_37 : decode cX5_readEither 37 = .ok (.aload_n 0, 1) := by decide +kernel
theorem dX5_readEither_38 : decode cX5_readEither 38 = .ok (.getfield 12, 3) := by decide +kernel
theorem dX5_readEither_41 : decode cX5_readEither 41 = .ok (.getfield 112, 3) := by decide +kernel
theorem dX5_readEither_44 : decode cX5_readEither 44 = .ok (.bipush (-21), 2) := by decide +kernel
theorem dX5_readEither_46 : decode cX5_readEither 46 = .ok (.invokevirtual 214, 3) := by decide +kernel
theorem dX5_readEither_49 : decode cX5_readEither 49 = .ok (.iinc 3 1, 3) := by decide +kernel
theorem dX5_readEither_52 : decode cX5_readEither 52 = .ok (.goto (-44), 3) := by decide +kernel
theorem dX5_readEither_55 : decode cX5_readEither 55 = .ok (.iload_n 2, 1) := by decide +kernel
theorem dX5_readEither_56 : decode cX5_readEither 56 = .ok (.ireturn, 1) := by decide +kernel
set_option maxRecDepth 20000 in
theorem ggX5_readBoth_X5_readOne : GoodIn wsX5_readBoth wsX5_readOne := goodIn_r _ [148, 1, 2, 3, 149, 150, 151, 7, 152, 13, 153, 154, 155, 156, 157, 158, 8, 9, 10, 11, 12, 14, 15, 16, 17, 18, 19, 20, 21, 22, 23, 24, 25, 26, 27, 28, 29, 30, 31, 32, 33, 34, 35, 36, 37, 38, 39, 40, 41, 42, 43, 44, 45, 46, 47, 48, 49, 50, 51, 52, 53, 54, 55, 56, 57, 58, 59, 60, 61, 62, 63, 64, 65, 66, 67, 68, 69, 70, 71, 72, 73, 74, 75, 76, 77, 78, 79, 80, 81, 82, 83, 84, 85, 86, 87, 88, 89, 90, 91, 92, 93, 94, 95, 96, 97, 98, 99, 100, 101, 102, 103, 104, 105, 106, 107, 108, 109, 110, 111, 112, 113, 114, 115, 116, 117, 118, 119, 120, 121, 122, 123, 124, 125, 126, 127, 128, 129, 130, 131, 132, 133, 134, 135, 136, 4, 5, 6, 137, 138, 139, 140, 141, 142, 143, 159, 160, 161, 162, 163, 164, 0, 144, 145, 146, 147, 165, 166, 167, 168, 169, 170, 171, 172, 173, 174, 175, 176, 177, 178, 179, 180, 181, 182, 183, 184, 185, 186, 187, 188, 189, 190, 191, 192, 193, 194, 195, 196, 197, 198, 199, 200, 201, 202, 203, 204, 205, 206, 207, 208, 209, 210, 211, 212, 213, 214, 215, 216, 217, 218, 219, 220, 221, 222, 223, 224, 225, 226, 227, 228, 229] (by decide +kernel) (by decide +kernel)
set_option maxRecDepth 20000 in
theorem gX5_readBoth_X5_readOne : GoodIn wsX5_readBoth (wsV RX5 218 RX5 yX5_readOne wsX5_readOne) := goodIn_app (goodIn_of _ (by decide +kernel)) ggX5_readBoth_X5_readOne
set_option maxRecDepth 20000 in
theorem ggX5_readBoth_X5_advance : GoodIn wsX5_readBoth wsX5_advance := goodIn_r _ [11, 12, 13, 1, 14, 15, 16, 7, 17, 18, 19, 20, 21, 22, 23, 24, 25, 26, 27, 28, 29, 30, 31, 32, 33, 34, 35, 36, 37, 38, 39, 40, 41, 42, 43, 44, 45, 46, 47, 48, 49, 50, 51, 52, 53, 54, 55, 56, 57, 58, 59, 60, 61, 62, 63, 64, 65, 66, 67, 68, 69, 70, 71, 72, 73, 74, 75, 76, 77, 78, 79, 80, 81, 82, 83, 84, 85, 86, 87, 88, 89, 90, 91, 92, 93, 94, 95, 96, 97, 98, 99, 100, 101, 102, 103, 104, 105, 106, 107, 108, 109, 110, 111, 112, 113, 114, 115, 116, 117, 118, 119, 120, 121, 122, 123, 124, 125, 126, 127, 128, 129, 130, 131, 132, 133, 134, 135, 136, 201, 202, 203, 204, 205, 206, 207, 208, 209, 210, 211, 212, 213, 214, 215] (by decide +kernel) (by decide +kernel)
set_option maxRecDepth 20000 in
theorem gX5_readBoth_X5_advance : GoodIn wsX5_readBoth (wsV RX5 90 RX5 yX5_advance wsX5_advance) := goodIn_app (goodIn_of _ (by decide +kernel)) ggX5_readBoth_X5_advance
set_option maxRecDepth 20000 in
theorem ggX5_readBoth_X2_addStep : GoodIn wsX5_readBoth wsX2_addStep := goodIn_r _ [141, 142, 143, 227, 228, 229] (by decide +kernel) (by decide +kernel)
set_option maxRecDepth 20000 in
theorem gX5_readBoth_X2_addStep : GoodIn wsX5_readBoth (wsV RX5 214 RX2 yX2_addStep wsX2_addStep) := goodIn_app (goodIn_of _ (by decide +kernel)) ggX5_readBoth_X2_addStep
theorem dX5_readBoth_0 : decode cX5_readBoth 0 = .ok (.aload_n 0, 1) := by decide +kernel
theorem dX5_readBoth_1 : decode cX5_readBoth 1 = .ok (.iload_n 1, 1) := by decide +kernel
theorem dX5_readBoth_2 : decode cX5_readBoth 2 = .ok (.invokevirtual 218, 3) := by decide +kernel
theorem dX5_readBoth_5 : decode cX5_readBoth 5 = .ok (.istore_n 2, 1) := by decide +kernel
theorem dX5_readBoth_6 : decode cX5_readBoth 6 = .ok (.iconst 0, 1) := by decide +kernel
theorem dX5_readBoth_7 : decode cX5_readBoth 7 = .ok (.istore_n 3, 1) := by decide +kernel
theorem dX5_readBoth_8 : decode cX5_readBoth 8 = .ok (.iload_n 3, 1) := by decide +kernel
theorem dX5_readBoth_9 : decode cX5_readBoth 9 = .ok (.bipush 30, 2) := by decide +kernel
theorem dX5_readBoth_11 : decode cX5_readBoth 11 = .ok (.if_icmp .ge 44, 3) := by decide +kernel
theorem dX5_readBoth_14 : decode cX5_readBoth 14 = .ok (.iload_n 2, 1) := by decide +kernel
theorem dX5_readBoth_15 : decode cX5_readBoth 15 = .ok (.ifCond .eq 40, 3) := by decide +kernel
theorem dX5_readBoth_18 : decode cX5_readBoth 18 = .ok (.aload_n 0, 1) := by decide +kernel
theorem dX5_readBoth_19 : decode cX5_readBoth 19 = .ok (.getfield 54, 3) := by decide +kernel
theorem dX5_readBoth_22 : decode cX5_readBoth 22 = .ok (.bipush 17, 2) := by decide +kernel
theorem dX5_readBoth_24 : decode cX5_readBoth 24 = .ok (.if_icmp .ne 31, 3) := by decide +kernel
theorem dX5_readBoth_27 : decode cX5_readBoth 27 = .ok (.aload_n 0, 1) := by decide +kernel
theorem dX5_readBoth_28 : decode cX5_readBoth 28 = .ok (.invokevirtual 90, 3) := by decide +kernel
theorem dX5_readBoth_31 : decode cX5_readBoth 31 = .ok (.aload_n 0, 1) := by decide +kernel
theorem dX5_readBoth_32 : decode cX5_readBoth 32 = .ok (.iload_n 1, 1) := by decide +kernel
theorem dX5_readBoth_33 : decode cX5_readBoth 33 = .ok (.invokevirtual 218, 3) := by decide +kernel
theorem dX5_readBoth_36 : decode cX5_readBoth 36 = .ok (.istore_n 2, 1) := by decide +kernel
theorem dX5_readBoth_37 : decode cX5_readBoth 37 = .ok (.aload_n 0, 1) := by decide +kernel
theorem dX5_readBoth_38 : decode cX5_readBoth 38 = .ok (.getfield 12, 3) := by decide +kernel
theorem dX5_readBoth_41 : decode cX5_readBoth 41 = .ok (.getfield 112, 3) := by decide +kernel
theorem dX5_readBoth_44 : decode cX5_readBoth 44 = .ok (.bipush (-22), 2) := by decide +kernel
theorem dX5_readBoth_46 : decode cX5_readBoth 46 = .ok (.invokevirtual 214, 3) := by decide +kernel
theorem dX5_readBoth_49 : decode cX5_readBoth 49 = .ok (.iinc 3 1, 3) := by decide +kernel
theorem dX5_readBoth_52 : decode cX5_readBoth 52 = .ok (.goto (-44), 3) := by decide +kernel
theorem dX5_readBoth_55 : decode cX5_readBoth 55 = .ok (.iload_n 2, 1) := by decide +kernel
theorem dX5_readBoth_56 : decode cX5_readBoth 56 = .ok (.ireturn, 1) := by decide +kernel
set_option maxRecDepth 20000 in
theorem ggX5_readOne_X5_refuse : GoodIn wsX5_readOne wsX5_refuse := goodIn_r _ [8, 1, 9, 10, 11, 12, 7, 13, 14, 15, 201, 202, 203, 204, 205, 206, 207, 208, 209, 210, 211, 212, 213, 214, 215] (by decide +kernel) (by decide +kernel)
set_option maxRecDepth 20000 in
theorem gX5_readOne_X5_refuse : GoodIn wsX5_readOne (wsV RX5 146 RX5 yX5_refuse wsX5_refuse) := goodIn_app (goodIn_of _ (by decide +kernel)) ggX5_readOne_X5_refuse
set_option maxRecDepth 20000 in
theorem ggX5_readOne_X5_advance : GoodIn wsX5_readOne wsX5_advance := goodIn_r _ [19, 20, 9, 1, 21, 22, 23, 7, 24, 25, 26, 27, 28, 29, 30, 31, 32, 33, 34, 35, 36, 37, 38, 39, 40, 41, 42, 43, 44, 45, 46, 47, 48, 49, 50, 51, 52, 53, 54, 55, 56, 57, 58, 59, 60, 61, 62, 63, 64, 65, 66, 67, 68, 69, 70, 71, 72, 73, 74, 75, 76, 77, 78, 79, 80, 81, 82, 83, 84, 85, 86, 87, 88, 89, 90, 91, 92, 93, 94, 95, 96, 97, 98, 99, 100, 101, 102, 103, 104, 105, 106, 107, 108, 109, 110, 111, 112, 113, 114, 115, 116, 117, 118, 119, 120, 121, 122, 123, 124, 125, 126, 127, 128, 129, 130, 131, 132, 133, 134, 135, 136, 137, 138, 139, 140, 141, 142, 143, 201, 202, 203, 204, 205, 206, 207, 208, 209, 210, 211, 212, 213, 214, 215] (by decide +kernel) (by decide +kernel)
set_option maxRecDepth 20000 in
theorem gX5_readOne_X5_advance : GoodIn wsX5_readOne (wsV RX5 90 RX5 yX5_advance wsX5_advance) := goodIn_app (goodIn_of _ (by decide +kernel)) ggX5_readOne_X5_advance
set_option maxRecDepth 20000 in
theorem ggX5_readOne_X5_readOne : GoodIn wsX5_readOne wsX5_readOne := goodIn_r _ [0, 1, 2, 3, 4, 5, 6, 7, 8, 9, 10, 11, 12, 13, 14, 15, 16, 17, 18, 19, 20, 21, 22, 23, 24, 25, 26, 27, 28, 29, 30, 31, 32, 33, 34, 35, 36, 37, 38, 39, 40, 41, 42, 43, 44, 45, 46, 47, 48, 49, 50, 51, 52, 53, 54, 55, 56, 57, 58, 59, 60, 61, 62, 63, 64, 65, 66, 67, 68, 69, 70, 71, 72, 73, 74, 75, 76, 77, 78, 79, 80, 81, 82, 83, 84, 85, 86, 87, 88, 89, 90, 91, 92, 93, 94, 95, 96, 97, 98, 99, 100, 101, 102, 103, 104, 105, 106, 107, 108, 109, 110, 111, 112, 113, 114, 115, 116, 117, 118, 119, 120, 121, 122, 123, 124, 125, 126, 127, 128, 129, 130, 131, 132, 133, 134, 135, 136, 137, 138, 139, 140, 141, 142, 143, 144, 145, 146, 147, 148, 149, 150, 151, 152, 153, 154, 155, 156, 157, 158, 159, 160, 161, 162, 163, 164, 165, 166, 167, 168, 169, 170, 171, 172, 173, 174, 175, 176, 177, 178, 179, 180, 181, 182, 183, 184, 185, 186, 187, 188, 189, 190, 191, 192, 193, 194, 195, 196, 197, 198, 199, 200, 201, 202, 203, 204, 205, 206, 207, 208, 209, 210, 211, 212, 213, 214, 215, 216, 217, 218, 219, 220, 221, 222, 223, 224, 225, 226, 227, 228, 229] (by decide +kernel) (by decide +kernel)
set_option maxRecDepth 20000 in
theorem gX5_readOne_X5_readOne : GoodIn wsX5_readOne (wsV RX5 218 RX5 yX5_readOne wsX5_readOne) := goodIn_app (goodIn_of _ (by decide +kernel)) ggX5_readOne_X5_readOne
set_option maxRecDepth 20000 in
theorem ggX5_readOne_X2_addStep : GoodIn wsX5_readOne wsX2_addStep := goodIn_r _ [151, 152, 153, 227, 228, 229] (by decide +kernel) (by decide +kernel)
set_option maxRecDepth 20000 in
theorem gX5_readOne_X2_addStep : GoodIn wsX5_readOne (wsV RX5 214 RX2 yX2_addStep wsX2_addStep) := goodIn_app (goodIn_of _ (by decide +kernel)) ggX5_readOne_X2_addStep
set_option maxRecDepth 20000 in
theorem ggX5_readOne_X5_readSum : GoodIn wsX5_readOne wsX5_readSum := goodIn_r _ [174, 1, 2, 3, 175, 176, 177, 7, 16, 17, 18, 19, 20, 9, 21, 22, 23, 24, 25, 26, 27, 28, 29, 30, 31, 32, 33, 34, 35, 36, 37, 38, 39, 40, 41, 42, 43, 44, 45, 46, 47, 48, 49, 50, 51, 52, 53, 54, 55, 56, 57, 58, 59, 60, 61, 62, 63, 64, 65, 66, 67, 68, 69, 70, 71, 72, 73, 74, 75, 76, 77, 78, 79, 80, 81, 82, 83, 84, 85, 86, 87, 88, 89, 90, 91, 92, 93, 94, 95, 96, 97, 98, 99, 100, 101, 102, 103, 104, 105, 106, 107, 108, 109, 110, 111, 112, 113, 114, 115, 116, 117, 118, 119, 120, 121, 122, 123, 124, 125, 126, 127, 128, 129, 130, 131, 132, 133, 134, 135, 136, 137, 138, 139, 140, 141, 142, 143, 147, 148, 149, 150, 151, 152, 153, 160, 144, 145, 146, 161, 162, 163, 164, 0, 4, 5, 6, 8, 10, 11, 12, 13, 14, 15, 154, 155, 156, 157, 158, 159, 165, 166, 167, 168, 169, 170, 171, 172, 173, 178, 179, 180, 181, 182, 183, 184, 185, 186, 187, 188, 189, 190, 191, 192, 193, 194, 195, 196, 197, 198, 199, 200, 201, 202, 203, 204, 205, 206, 207, 208, 209, 210, 211, 212, 213, 214, 215, 216, 217, 218, 219, 220, 221, 222, 223, 224, 225, 226, 227, 228, 229] (by decide +kernel) (by decide +kernel)
set_option maxRecDepth 20000 in
theorem gX5_readOne_X5_readSum : GoodIn wsX5_readOne (wsV RX5 221 RX5 yX5_readSum wsX5_readSum) := goodIn_app (goodIn_of _ (by decide +kernel)) ggX5_readOne_X5_readSum
set_option maxRecDepth 20000 in
theorem ggX5_readOne_X5_relation : GoodIn wsX5_readOne wsX5_relation := goodIn_r _ [159] (by decide +kernel) (by decide +kernel)
set_option maxRecDepth 20000 in
theorem gX5_readOne_X5_relation : GoodIn wsX5_readOne (va_wsS RX5 224 yX5_relation wsX5_relation) := goodIn_app (goodIn_of _ (by decide +kernel)) ggX5_readOne_X5_relation
theorem dX5_readOne_0 : decode cX5_readOne 0 = .ok (.aload_n 0, 1) := by decide +kernel
theorem dX5_readOne_1 : decode cX5_readOne 1 = .ok (.getfield 54, 3) := by decide +kernel
theorem dX5_readOne_4 : decode cX5_readOne 4 = .ok (.bipush 18, 2) := by decide +kernel
theorem dX5_readOne_6 : decode cX5_readOne 6 = .ok (.if_icmp .ne 40, 3) := by decide +kernel
theorem dX5_readOne_9 : decode cX5_readOne 9 = .ok (.iload_n 1, 1) := by decide +kernel
theorem dX5_readOne_10 : decode cX5_readOne 10 = .ok (.bipush 7, 2) := by decide +kernel
theorem dX5_readOne_12 : decode cX5_readOne 12 = .ok (.if_icmp .lt 8, 3) := by decide +kernel
theorem dX5_readOne_15 : decode cX5_readOne 15 = .ok (.aload_n 0, 1) := by decide +kernel
theorem dX5_readOne_16 : decode cX5_readOne 16 = .ok (.invokevirtual 146, 3) := by decide +kernel
theorem dX5_readOne_19 : decode cX5_readOne 19 = .ok (.ireturn, 1) := by decide +kernel
theorem dX5_readOne_20 : decode cX5_readOne 20 = .ok (.aload_n 0, 1) := by decide +kernel
theorem dX5_readOne_21 : decode cX5_readOne 21 = .ok (.invokevirtual 90, 3) := by decide +kernel
theorem dX5_readOne_24 : decode cX5_readOne 24 = .ok (.aload_n 0, 1) := by decide +kernel
theorem dX5_readOne_25 : decode cX5_readOne 25 = .ok (.iload_n 1, 1) := by decide +kernel
theorem dX5_readOne_26 : decode cX5_readOne 26 = .ok (.iconst 1, 1) := by decide +kernel
theorem dX5_readOne_27 : decode cX5_readOne 27 = .ok (.iadd, 1) := by decide +kernel
theorem dX5_readOne_28 : decode cX5_readOne 28 = .ok (.invokevirtual 218, 3) := by decide +kernel
theorem dX5_readOne_31 : decode cX5_readOne 31 = .ok (.istore_n 2, 1) := by decide +kernel
theorem dX5_readOne_32 : decode cX5_readOne 32 = .ok (.aload_n 0, 1) := by decide +kernel
theorem dX5_readOne_33 : decode cX5_readOne 33 = .ok (.getfield 12, 3) := by decide +kernel
theorem dX5_readOne_36 : decode cX5_readOne 36 = .ok (.getfield 112, 3) := by decide +kernel
theorem dX5_readOne_39 : decode cX5_readOne 39 = .ok (.bipush (-20), 2) := by decide +kernel
theorem dX5_readOne_41 : decode cX5_readOne 41 = .ok (.invokevirtual 214, 3) := by decide +kernel
theorem dX5_readOne_44 : decode cX5_readOne 44 = .ok (.iload_n 2, 1) := by decide +kernel
theorem dX5_readOne_45 : decode cX5_readOne 45 = .ok (.ireturn, 1) := by decide +kernel
theorem dX5_readOne_46 : decode cX5_readOne 46 = .ok (.aload_n 0, 1) := by decide +kernel
theorem dX5_readOne_47 : decode cX5_readOne 47 = .ok (.iload_n 1, 1) := by decide +kernel
theorem dX5_readOne_48 : decode cX5_readOne 48 = .ok (.invokevirtual 221, 3) := by decide +kernel
theorem dX5_readOne_51 : decode cX5_readOne 51 = .ok (.ifCond .ne 5, 3) := by decide +kernel
theorem dX5_readOne_54 : decode cX5_readOne 54 = .ok (.iconst 0, 1) := by decide +kernel
theorem dX5_readOne_55 : decode cX5_readOne 55 = .ok (.ireturn, 1) := by decide +kernel
theorem dX5_readOne_56 : decode cX5_readOne 56 = .ok (.aload_n 0, 1) := by decide +kernel
theorem dX5_readOne_57 : decode cX5_readOne 57 = .ok (.getfield 54, 3) := by decide +kernel
theorem dX5_readOne_60 : decode cX5_readOne 60 = .ok (.invokestatic 224, 3) := by decide +kernel
theorem dX5_readOne_63 : decode cX5_readOne 63 = .ok (.istore_n 2, 1) := by decide +kernel
theorem dX5_readOne_64 : decode cX5_readOne 64 = .ok (.iload_n 2, 1) := by decide +kernel
theorem dX5_readOne_65 : decode cX5_readOne 65 = .ok (.ifCond .ne 5, 3) := by decide +kernel
theorem dX5_readOne_68 : decode cX5_readOne 68 = .ok (.iconst 1, 1) := by decide +kernel
theorem dX5_readOne_69 : decode cX5_readOne 69 = .ok (.ireturn, 1) := by decide +kernel
theorem dX5_readOne_70 : decode cX5_readOne 70 = .ok (.aload_n 0, 1) := by decide +kernel
theorem dX5_readOne_71 : decode cX5_readOne 71 = .ok (.invokevirtual 90, 3) := by decide +kernel
theorem dX5_readOne_74 : decode cX5_readOne 74 = .ok (.aload_n 0, 1) := by decide +kernel
theorem dX5_readOne_75 : decode cX5_readOne 75 = .ok (.iload_n 1, 1) := by decide +kernel
theorem dX5_readOne_76 : decode cX5_readOne 76 = .ok (.invokevirtual 221, 3) := by decide +kernel
theorem dX5_readOne_79 : decode cX5_readOne 79 = .ok (.istore_n 3, 1) := by decide +kernel
theorem dX5_readOne_80 : decode cX5_readOne 80 = .ok (.aload_n 0, 1) := by decide +kernel
theorem dX5_readOne_81 : decode cX5_readOne 81 = .ok (.getfield 12, 3) := by decide +kernel
theorem dX5_readOne_84 : decode cX5_readOne 84 = .ok (.getfield 112, 3) := by decide +kernel
theorem dX5_readOne_87 : decode cX5_readOne 87 = .ok (.iload_n 2, 1) := by decide +kernel
theorem dX5_readOne_88 : decode cX5_readOne 88 = .ok (.invokevirtual 214, 3) := by decide +kernel
theorem dX5_readOne_91 : decode cX5_readOne 91 = .ok (.iload_n 3, 1) := by decide +kernel
theorem dX5_readOne_92 : decode cX5_readOne 92 = .ok (.ireturn, 1) := by decide +kernel
set_option maxRecDepth 20000 in
theorem ggX5_readSum_X5_readTerm : GoodIn wsX5_readSum wsX5_readTerm := goodIn_r _ [178, 1, 2, 3, 179, 180, 181, 7, 182, 183, 184, 8, 9, 10, 11, 12, 13, 14, 15, 16, 17, 18, 19, 20, 21, 22, 23, 24, 25, 26, 27, 28, 29, 30, 31, 32, 33, 34, 35, 36, 37, 38, 39, 40, 41, 42, 43, 44, 45, 46, 47, 48, 49, 50, 51, 52, 53, 54, 55, 56, 57, 58, 59, 60, 61, 62, 63, 64, 65, 66, 67, 68, 69, 70, 71, 72, 73, 74, 75, 76, 77, 78, 79, 80, 81, 82, 83, 84, 85, 86, 87, 88, 89, 90, 91, 92, 93, 94, 95, 96, 97, 98, 99, 100, 101, 102, 103, 104, 105, 106, 107, 108, 109, 110, 111, 112, 113, 114, 115, 116, 117, 118, 119, 120, 121, 122, 123, 124, 125, 126, 127, 128, 129, 130, 131, 132, 133, 134, 135, 136, 137, 138, 139, 140, 141, 142, 143, 144, 145, 146, 147, 148, 149, 150, 151, 152, 153, 154, 155, 156, 157, 158, 159, 160, 161, 162, 163, 164, 165, 166, 167, 168, 169, 170, 171, 172, 173, 174, 175, 176, 177, 0, 4, 5, 6, 185, 186, 187, 188, 189, 190, 191, 192, 193, 194, 195, 196, 197, 198, 199, 200, 201, 202, 203, 204, 205, 206, 207, 208, 209, 210, 211, 212, 213, 214, 215, 216, 217, 218, 219, 220, 221, 222, 223, 224, 225, 226, 227, 228, 229] (by decide +kernel) (by decide +kernel)
set_option maxRecDepth 20000 in
theorem gX5_readSum_X5_readTerm : GoodIn wsX5_readSum (wsV RX5 228 RX5 yX5_readTerm wsX5_readTerm) := goodIn_app (goodIn_of _ (by decide +kernel)) ggX5_readSum_X5_readTerm
set_option maxRecDepth 20000 in
theorem ggX5_readSum_X5_advance : GoodIn wsX5_readSum wsX5_advance := goodIn_r _ [11, 12, 13, 1, 14, 15, 16, 7, 17, 18, 19, 20, 21, 22, 23, 24, 25, 26, 27, 28, 29, 30, 31, 32, 33, 34, 35, 36, 37, 38, 39, 40, 41, 42, 43, 44, 45, 46, 47, 48, 49, 50, 51, 52, 53, 54, 55, 56, 57, 58, 59, 60, 61, 62, 63, 64, 65, 66, 67, 68, 69, 70, 71, 72, 73, 74, 75, 76, 77, 78, 79, 80, 81, 82, 83, 84, 85, 86, 87, 88, 89, 90, 91, 92, 93, 94, 95, 96, 97, 98, 99, 100, 101, 102, 103, 104, 105, 106, 107, 108, 109, 110, 111, 112, 113, 114, 115, 116, 117, 118, 119, 120, 121, 122, 123, 124, 125, 126, 127, 128, 129, 130, 131, 132, 133, 134, 135, 136, 201, 202, 203, 204, 205, 206, 207, 208, 209, 210, 211, 212, 213, 214, 215] (by decide +kernel) (by decide +kernel)
set_option maxRecDepth 20000 in
theorem gX5_readSum_X5_advance : GoodIn wsX5_readSum (wsV RX5 90 RX5 yX5_advance wsX5_advance) := goodIn_app (goodIn_of _ (by decide +kernel)) ggX5_readSum_X5_advance
set_option maxRecDepth 20000 in
theorem ggX5_readSum_X2_addStep : GoodIn wsX5_readSum wsX2_addStep := goodIn_r _ [141, 142, 143, 227, 228, 229] (by decide +kernel) (by decide +kernel)
set_option maxRecDepth 20000 in
theorem gX5_readSum_X2_addStep : GoodIn wsX5_readSum (wsV RX5 214 RX2 yX2_addStep wsX2_addStep) := goodIn_app (goodIn_of _ (by decide +kernel)) ggX5_readSum_X2_addStep
theorem dX5_readSum_0 : decode cX5_readSum 0 = .ok (.aload_n 0, 1) := by decide +kernel
theorem dX5_readSum_1 : decode cX5_readSum 1 = .ok (.iload_n 1, 1) := by decide +kernel
theorem dX5_readSum_2 : decode cX5_readSum 2 = .ok (.invokevirtual 228, 3) := by decide +kernel
theorem dX5_readSum_5 : decode cX5_readSum 5 = .ok (.istore_n 2, 1) := by decide +kernel
theorem dX5_readSum_6 : decode cX5_readSum 6 = .ok (.iconst 0, 1) := by decide +kernel
theorem dX5_readSum_7 : decode cX5_readSum 7 = .ok (.istore_n 3, 1) := by decide +kernel
theorem dX5_readSum_8 : decode cX5_readSum 8 = .ok (.iload_n 3, 1) := by decide +kernel
theorem dX5_readSum_9 : decode cX5_readSum 9 = .ok (.bipush 30, 2) := by decide +kernel
theorem dX5_readSum_11 : decode cX5_readSum 11 = .ok (.if_icmp .ge 71, 3) := by decide +kernel
theorem dX5_readSum_14 : decode cX5_readSum 14 = .ok (.iload_n 2, 1) := by decide +kernel
theorem dX5_readSum_15 : decode cX5_readSum 15 = .ok (.ifCond .eq 67, 3) := by decide +kernel
theorem dX5_readSum_18 : decode cX5_readSum 18 = .ok (.aload_n 0, 1) := by decide +kernel
theorem dX5_readSum_19 : decode cX5_readSum 19 = .ok (.getfield 54, 3) := by decide +kernel
theorem dX5_readSum_22 : decode cX5_readSum 22 = .ok (.bipush 43, 2) := by decide +kernel
theorem dX5_readSum_24 : decode cX5_readSum 24 = .ok (.if_icmp .eq 12, 3) := by decide +kernel
theorem dX5_readSum_27 : decode cX5_readSum 27 = .ok (.aload_n 0, 1) := by decide +kernel
theorem dX5_readSum_28 : decode cX5_readSum 28 = .ok (.getfield 54, 3) := by decide +kernel
theorem dX5_readSum_31 : decode cX5_readSum 31 = .ok (.bipush 45, 2) := by decide +kernel
theorem dX5_readSum_33 : decode cX5_readSum 33 = .ok (.if_icmp .ne 49, 3) := by decide +kernel
theorem dX5_readSum_36 : decode cX5_readSum 36 = .ok (.aload_n 0, 1) := by decide +kernel
theorem dX5_readSum_37 : decode cX5_readSum 37 = .ok (.getfield 54, 3) := by decide +kernel
theorem dX5_readSum_40 : decode cX5_readSum 40 = .ok (.bipush 43, 2) := by decide +kernel
theorem dX5_readSum_42 : decode cX5_readSum 42 = .ok (.if_icmp .ne 8, 3) := by decide +kernel
theorem dX5_readSum_45 : decode cX5_readSum 45 = .ok (.bipush (-26), 2) := by decide +kernel
theorem dX5_readSum_47 : decode cX5_readSum 47 = .ok (.goto 5, 3) := by decide +kernel
theorem dX5_readSum_50 : decode cX5_readSum 50 = .ok (.bipush (-27), 2) := by decide +kernel
theorem dX5_readSum_52 : decode cX5_readSum 52 = .ok (.istore 4, 2) := by decide +kernel
theorem dX5_readSum_54 : decode cX5_readSum 54 = .ok (.aload_n 0, 1) := by decide +kernel
theorem dX5_readSum_55 : decode cX5_readSum 55 = .ok (.invokevirtual 90, 3) := by decide +kernel
theorem dX5_readSum_58 : decode cX5_readSum 58 = .ok (.aload_n 0, 1) := by decide +kernel
theorem dX5_readSum_59 : decode cX5_readSum 59 = .ok (.iload_n 1, 1) := by decide +kernel
theorem dX5_readSum_60 : decode cX5_readSum 60 = .ok (.invokevirtual 228, 3) := by decide +kernel
theorem dX5_readSum_63 : decode cX5_readSum 63 = .ok (.istore_n 2, 1) := by decide +kernel
theorem dX5_readSum_64 : decode cX5_readSum 64 = .ok (.aload_n 0, 1) := by decide +kernel
theorem dX5_readSum_65 : decode cX5_readSum 65 = .ok (.getfield 12, 3) := by decide +kernel
theorem dX5_readSum_68 : decode cX5_readSum 68 = .ok (.getfield 112, 3) := by decide +kernel
theorem dX5_readSum_71 : decode cX5_readSum 71 = .ok (.iload 4, 2) := by decide +kernel
theorem dX5_readSum_73 : decode cX5_readSum 73 = .ok (.invokevirtual 214, 3) := by decide +kernel
theorem dX5_readSum_76 : decode cX5_readSum 76 = .ok (.iinc 3 1, 3) := by decide +kernel
theorem dX5_readSum_79 : decode cX5_readSum 79 = .ok (.goto (-71), 3) := by decide +kernel
theorem dX5_readSum_82 : decode cX5_readSum 82 = .ok (.iload_n 2, 1) := by decide +kernel
theorem dX5_readSum_83 : decode cX5_readSum 83 = .ok (.ireturn, 1) := by decide +kernel
set_option maxRecDepth 20000 in
theorem ggX5_readTerm_X5_readUnit : GoodIn wsX5_readTerm wsX5_readUnit := goodIn_r _ [185, 2, 173, 1, 3, 50, 156, 157, 158, 7, 159, 16, 160, 161, 162, 163, 164, 165, 186, 187, 188, 189, 190, 191, 192, 193, 194, 143, 195, 196, 141, 142, 144, 145, 146, 197, 198, 199, 200, 11, 12, 13, 14, 15, 17, 18, 19, 20, 21, 22, 23, 24, 25, 26, 27, 28, 29, 30, 31, 32, 33, 34, 35, 36, 37, 38, 39, 40, 41, 42, 43, 44, 45, 46, 47, 48, 49, 51, 52, 53, 54, 55, 56, 57, 58, 59, 60, 61, 62, 63, 64, 65, 66, 67, 68, 69, 70, 71, 72, 73, 74, 75, 76, 77, 78, 79, 80, 81, 82, 83, 84, 85, 86, 87, 88, 89, 90, 91, 92, 93, 94, 95, 96, 97, 98, 99, 100, 101, 102, 103, 104, 105, 106, 107, 108, 109, 110, 111, 112, 113, 114, 115, 116, 117, 118, 119, 120, 121, 122, 123, 124, 125, 126, 127, 128, 129, 130, 131, 132, 133, 134, 135, 136, 137, 138, 139, 147, 148, 149, 150, 140, 151, 152, 153, 154, 155, 166, 167, 168, 169, 170, 171, 172, 174, 175, 176, 177, 178, 179, 180, 181, 182, 183, 184, 0, 4, 5, 6, 8, 9, 10, 201, 202, 203, 204, 205, 206, 207, 208, 209, 210, 211, 212, 213, 214, 215, 216, 217, 218, 219, 220, 221, 222, 223, 224, 225, 226, 227, 228, 229] (by decide +kernel) (by decide +kernel)
set_option maxRecDepth 20000 in
theorem gX5_readTerm_X5_readUnit : GoodIn wsX5_readTerm (wsV RX5 231 RX5 yX5_readUnit wsX5_readUnit) := goodIn_app (goodIn_of _ (by decide +kernel)) ggX5_readTerm_X5_readUnit
set_option maxRecDepth 20000 in
theorem ggX5_readTerm_X5_multiplying : GoodIn wsX5_readTerm wsX5_multiplying := goodIn_r _ [10] (by decide +kernel) (by decide +kernel)
set_option maxRecDepth 20000 in
theorem gX5_readTerm_X5_multiplying : GoodIn wsX5_readTerm (va_wsS RX5 234 yX5_multiplying wsX5_multiplying) := goodIn_app (goodIn_of _ (by decide +kernel)) ggX5_readTerm_X5_multiplying
set_option maxRecDepth 20000 in
theorem ggX5_readTerm_X5_advance : GoodIn wsX5_readTerm wsX5_advance := goodIn_r _ [14, 15, 16, 1, 17, 18, 19, 7, 20, 21, 22, 23, 24, 25, 26, 27, 28, 29, 30, 31, 32, 33, 34, 35, 36, 37, 38, 39, 40, 41, 42, 43, 44, 45, 46, 47, 48, 49, 50, 51, 52, 53, 54, 55, 56, 57, 58, 59, 60, 61, 62, 63, 64, 65, 66, 67, 68, 69, 70, 71, 72, 73, 74, 75, 76, 77, 78, 79, 80, 81, 82, 83, 84, 85, 86, 87, 88, 89, 90, 91, 92, 93, 94, 95, 96, 97, 98, 99, 100, 101, 102, 103, 104, 105, 106, 107, 108, 109, 110, 111, 112, 113, 114, 115, 116, 117, 118, 119, 120, 121, 122, 123, 124, 125, 126, 127, 128, 129, 130, 131, 132, 133, 134, 135, 136, 137, 138, 139, 201, 202, 203, 204, 205, 206, 207, 208, 209, 210, 211, 212, 213, 214, 215] (by decide +kernel) (by decide +kernel)
set_option maxRecDepth 20000 in
theorem gX5_readTerm_X5_advance : GoodIn wsX5_readTerm (wsV RX5 90 RX5 yX5_advance wsX5_advance) := goodIn_app (goodIn_of _ (by decide +kernel)) ggX5_readTerm_X5_advance
set_option maxRecDepth 20000 in
theorem ggX5_readTerm_X2_addStep : GoodIn wsX5_readTerm wsX2_addStep := goodIn_r _ [144, 145, 146, 227, 228, 229] (by decide +kernel) (by decide +kernel)
set_option maxRecDepth 20000 in
theorem gX5_readTerm_X2_addStep : GoodIn wsX5_readTerm (wsV RX5 214 RX2 yX2_addStep wsX2_addStep) := goodIn_app (goodIn_of _ (by decide +kernel)) ggX5_readTerm_X2_addStep
theorem dX5_readTerm_0 : decode cX5_readTerm 0 = .ok (.aload_n 0, 1) := by decide +kernel
theorem dX5_readTerm_1 : decode cX5_readTerm 1 = .ok (.iload_n 1, 1) := by decide +kernel
theorem dX5_readTerm_2 : decode cX5_readTerm 2 = .ok (.invokevirtual 231, 3) := by decide +kernel
theorem dX5_readTerm_5 : decode cX5_readTerm 5 = .ok (.istore_n 2, 1) := by decide +kernel
theorem dX5_readTerm_6 : decode cX5_readTerm 6 = .ok (.iconst 0, 1) := by decide +kernel
theorem dX5_readTerm_7 : decode cX5_readTerm 7 = .ok (.istore_n 3, 1) := by decide +kernel
theorem dX5_readTerm_8 : decode cX5_readTerm 8 = .ok (.iload_n 3, 1) := by decide +kernel
theorem dX5_readTerm_9 : decode cX5_readTerm 9 = .ok (.bipush 30, 2) := by decide +kernel
theorem dX5_readTerm_11 : decode cX5_readTerm 11 = .ok (.if_icmp .ge 54, 3) := by decide +kernel
theorem dX5_readTerm_14 : decode cX5_readTerm 14 = .ok (.iload_n 2, 1) := by decide +kernel
theorem dX5_readTerm_15 : decode cX5_readTerm 15 = .ok (.ifCond .eq 50, 3) := by decide +kernel
theorem dX5_readTerm_18 : decode cX5_readTerm 18 = .ok (.aload_n 0, 1) := by decide +kernel
theorem dX5_readTerm_19 : decode cX5_readTerm 19 = .ok (.getfield 54, 3) := by decide +kernel
theorem dX5_readTerm_22 : decode cX5_readTerm 22 = .ok (.invokestatic 234, 3) := by decide +kernel
theorem dX5_readTerm_25 : decode cX5_readTerm 25 = .ok (.ifCond .eq 40, 3) := by decide +kernel
theorem dX5_readTerm_28 : decode cX5_readTerm 28 = .ok (.aload_n 0, 1) := by decide +kernel
theorem dX5_readTerm_29 : decode cX5_readTerm 29 = .ok (.getfield 54, 3) := by decide +kernel
theorem dX5_readTerm_32 : decode cX5_readTerm 32 = .ok (.invokestatic 234, 3) := by decide +kernel
theorem dX5_readTerm_35 : decode cX5_readTerm 35 = .ok (.istore 4, 2) := by decide +kernel
theorem dX5_readTerm_37 : decode cX5_readTerm 37 = .ok (.aload_n 0, 1) := by decide +kernel
theorem dX5_readTerm_38 : decode cX5_readTerm 38 = .ok (.invokevirtual 90, 3) := by decide +kernel
theorem dX5_readTerm_41 : decode cX5_readTerm 41 = .ok (.aload_n 0, 1) := by decide +kernel
theorem dX5_readTerm_42 : decode cX5_readTerm 42 = .ok (.iload_n 1, 1) := by decide +kernel
theorem dX5_readTerm_43 : decode cX5_readTerm 43 = .ok (.invokevirtual 231, 3) := by decide +kernel
theorem dX5_readTerm_46 : decode cX5_readTerm 46 = .ok (.istore_n 2, 1) := by decide +kernel
theorem dX5_readTerm_47 : decode cX5_readTerm 47 = .ok (.aload_n 0, 1) := by decide +kernel
theorem dX5_readTerm_48 : decode cX5_readTerm 48 = .ok (.getfield 12, 3) := by decide +kernel
theorem dX5_readTerm_51 : decode cX5_readTerm 51 = .ok (.getfield 112, 3) := by decide +kernel
theorem dX5_readTerm_54 : decode cX5_readTerm 54 = .ok (.iload 4, 2) := by decide +kernel
theorem dX5_readTerm_56 : decode cX5_readTerm 56 = .ok (.invokevirtual 214, 3) := by decide +kernel
theorem dX5_readTerm_59 : decode cX5_readTerm 59 = .ok (.iinc 3 1, 3) := by decide +kernel
theorem dX5_readTerm_62 : decode cX5_readTerm 62 = .ok (.goto (-54), 3) := by decide +kernel
theorem dX5_readTerm_65 : decode cX5_readTerm 65 = .ok (.iload_n 2, 1) := by decide +kernel
theorem dX5_readTerm_66 : decode cX5_readTerm 66 = .ok (.ireturn, 1) := by decide +kernel
set_option maxRecDepth 20000 in
theorem ggX5_readUnit_X5_refuse : GoodIn wsX5_readUnit wsX5_refuse := goodIn_r _ [10, 3, 11, 12, 13, 14, 9, 15, 16, 17, 201, 202, 203, 204, 205, 206, 207, 208, 209, 210, 211, 212, 213, 214, 215] (by decide +kernel) (by decide +kernel)
set_option maxRecDepth 20000 in
theorem gX5_readUnit_X5_refuse : GoodIn wsX5_readUnit (wsV RX5 146 RX5 yX5_refuse wsX5_refuse) := goodIn_app (goodIn_of _ (by decide +kernel)) ggX5_readUnit_X5_refuse
set_option maxRecDepth 20000 in
theorem ggX5_readUnit_X5_readParentheses : GoodIn wsX5_readUnit wsX5_readParentheses := goodIn_r _ [182, 1, 2, 6, 7, 8, 9, 10, 3, 11, 12, 13, 14, 15, 16, 17, 39, 40, 41, 42, 43, 44, 45, 46, 47, 48, 49, 50, 51, 52, 53, 54, 55, 56, 57, 58, 59, 60, 61, 62, 63, 64, 65, 66, 67, 68, 69, 70, 71, 72, 73, 74, 75, 76, 5, 77, 78, 79, 80, 81, 82, 83, 84, 85, 86, 87, 88, 89, 90, 91, 92, 93, 94, 95, 96, 97, 98, 99, 100, 101, 102, 103, 104, 105, 106, 107, 108, 109, 110, 111, 112, 113, 114, 115, 116, 117, 118, 119, 120, 121, 122, 123, 124, 125, 126, 127, 128, 129, 130, 131, 132, 133, 134, 135, 136, 137, 138, 139, 140, 141, 142, 143, 144, 145, 146, 147, 148, 149, 150, 151, 152, 153, 154, 155, 156, 157, 158, 159, 160, 161, 162, 163, 164, 165, 183, 184, 185, 186, 187, 188, 189, 166, 4, 167, 168, 169, 170, 30, 31, 27, 32, 33, 34, 171, 172, 173, 174, 175, 176, 177, 178, 179, 180, 181, 190, 191, 192, 193, 194, 195, 196, 197, 198, 199, 200, 0, 18, 19, 20, 21, 22, 23, 24, 25, 26, 28, 29, 35, 36, 37, 38, 201, 202, 203, 204, 205, 206, 207, 208, 209, 210, 211, 212, 213, 214, 215, 216, 217, 218, 219, 220, 221, 222, 223, 224, 225, 226, 227, 228, 229] (by decide +kernel) (by decide +kernel)
set_option maxRecDepth 20000 in
theorem gX5_readUnit_X5_readParentheses : GoodIn wsX5_readUnit (wsV RX5 240 RX5 yX5_readParentheses wsX5_readParentheses) := goodIn_app (goodIn_of _ (by decide +kernel)) ggX5_readUnit_X5_readParentheses
set_option maxRecDepth 20000 in
theorem ggX5_readUnit_X5_termOf : GoodIn wsX5_readUnit wsX5_termOf := goodIn_r _ [23] (by decide +kernel) (by decide +kernel)
set_option maxRecDepth 20000 in
theorem gX5_readUnit_X5_termOf : GoodIn wsX5_readUnit (va_wsS RX5 243 yX5_termOf wsX5_termOf) := goodIn_app (goodIn_of _ (by decide +kernel)) ggX5_readUnit_X5_termOf
set_option maxRecDepth 20000 in
theorem ggX5_readUnit_X2_addTerm : GoodIn wsX5_readUnit wsX2_addTerm := goodIn_r _ [28, 29, 30, 31, 27, 32, 33, 34, 227, 228, 229] (by decide +kernel) (by decide +kernel)
set_option maxRecDepth 20000 in
theorem gX5_readUnit_X2_addTerm : GoodIn wsX5_readUnit (wsV RX5 246 RX2 yX2_addTerm wsX2_addTerm) := goodIn_app (goodIn_of _ (by decide +kernel)) ggX5_readUnit_X2_addTerm
set_option maxRecDepth 20000 in
theorem ggX5_readUnit_X2_addNumber : GoodIn wsX5_readUnit wsX2_addNumber := goodIn_r _ [38, 29, 30, 31, 27, 32, 33, 34, 227, 228, 229] (by decide +kernel) (by decide +kernel)
set_option maxRecDepth 20000 in
theorem gX5_readUnit_X2_addNumber : GoodIn wsX5_readUnit (wsV RX5 249 RX2 yX2_addNumber wsX2_addNumber) := goodIn_app (goodIn_of _ (by decide +kernel)) ggX5_readUnit_X2_addNumber
set_option maxRecDepth 20000 in
theorem ggX5_readUnit_X5_advance : GoodIn wsX5_readUnit wsX5_advance := goodIn_r _ [42, 43, 11, 3, 44, 45, 46, 9, 47, 48, 49, 50, 51, 52, 53, 54, 55, 56, 57, 58, 59, 60, 61, 62, 63, 64, 65, 66, 67, 68, 69, 70, 71, 72, 73, 74, 75, 76, 5, 77, 78, 79, 80, 81, 82, 83, 84, 85, 86, 87, 88, 89, 90, 91, 92, 93, 94, 95, 96, 97, 98, 99, 100, 101, 102, 103, 104, 105, 106, 107, 108, 109, 110, 111, 112, 113, 114, 115, 116, 117, 118, 119, 120, 121, 122, 123, 124, 125, 126, 127, 128, 129, 130, 131, 132, 133, 134, 135, 136, 137, 138, 139, 140, 141, 142, 143, 144, 145, 146, 147, 148, 149, 150, 151, 152, 153, 154, 155, 156, 157, 158, 159, 160, 161, 162, 163, 164, 165, 201, 202, 203, 204, 205, 206, 207, 208, 209, 210, 211, 212, 213, 214, 215] (by decide +kernel) (by decide +kernel)
set_option maxRecDepth 20000 in
theorem gX5_readUnit_X5_advance : GoodIn wsX5_readUnit (wsV RX5 90 RX5 yX5_advance wsX5_advance) := goodIn_app (goodIn_of _ (by decide +kernel)) ggX5_readUnit_X5_advance
theorem dX5_readUnit_0 : decode cX5_readUnit 0 = .ok (.aload_n 0, 1) := by decide +kernel
theorem dX5_readUnit_1 : decode cX5_readUnit 1 = .ok (.getfield 12, 3) := by decide +kernel
theorem dX5_readUnit_4 : decode cX5_readUnit 4 = .ok (.getfield 237, 3) := by decide +kernel
theorem dX5_readUnit_7 : decode cX5_readUnit 7 = .ok (.bipush 30, 2) := by decide +kernel
theorem dX5_readUnit_9 : decode cX5_readUnit 9 = .ok (.if_icmp .lt 8, 3) := by decide +kernel
theorem dX5_readUnit_12 : decode cX5_readUnit 12 = .ok (.aload_n 0, 1) := by decide +kernel
theorem dX5_readUnit_13 : decode cX5_readUnit 13 = .ok (.invokevirtual 146, 3) := by decide +kernel
theorem dX5_readUnit_16 : decode cX5_readUnit 16 = .ok (.ireturn, 1) := by decide +kernel
theorem dX5_readUnit_17 : decode cX5_readUnit 17 = .ok (.aload_n 0, 1) := by decide +kernel
theorem dX5_readUnit_18 : decode cX5_readUnit 18 = .ok (.getfield 54, 3) := by decide +kernel
theorem dX5_readUnit_21 : decode cX5_readUnit 21 = .ok (.bipush 40, 2) := by decide +kernel
theorem dX5_readUnit_23 : decode cX5_readUnit 23 = .ok (.if_icmp .ne 9, 3) := by decide +kernel
theorem dX5_readUnit_26 : decode cX5_readUnit 26 = .ok (.aload_n 0, 1) := by decide +kernel
theorem dX5_readUnit_27 : decode cX5_readUnit 27 = .ok (.iload_n 1, 1) := by decide +kernel
theorem dX5_readUnit_28 : decode cX5_readUnit 28 = .ok (.invokevirtual 240, 3) := by decide +kernel
theorem dX5_readUnit_31 : decode cX5_readUnit 31 = .ok (.ireturn, 1) := by decide +kernel
theorem dX5_readUnit_32 : decode cX5_readUnit 32 = .ok (.aload_n 0, 1) := by decide +kernel
theorem dX5_readUnit_33 : decode cX5_readUnit 33 = .ok (.getfield 54, 3) := by decide +kernel
theorem dX5_readUnit_36 : decode cX5_readUnit 36 = .ok (.invokestatic 243, 3) := by decide +kernel
theorem dX5_readUnit_39 : decode cX5_readUnit 39 = .ok (.istore_n 2, 1) := by decide +kernel
theorem dX5_readUnit_40 : decode cX5_readUnit 40 = .ok (.iload_n 2, 1) := by decide +kernel
theorem dX5_readUnit_41 : decode cX5_readUnit 41 = .ok (.iconst (-1), 1) := by decide +kernel
theorem dX5_readUnit_42 : decode cX5_readUnit 42 = .ok (.if_icmp .eq 17, 3) := by decide +kernel
theorem dX5_readUnit_45 : decode cX5_readUnit 45 = .ok (.aload_n 0, 1) := by decide +kernel
theorem dX5_readUnit_46 : decode cX5_readUnit 46 = .ok (.getfield 12, 3) := by decide +kernel
theorem dX5_readUnit_49 : decode cX5_readUnit 49 = .ok (.getfield 112, 3) := by decide +kernel
theorem dX5_readUnit_52 : decode cX5_readUnit 52 = .ok (.iload_n 2, 1) := by decide +kernel
theorem dX5_readUnit_53 : decode cX5_readUnit 53 = .ok (.invokevirtual 246, 3) := by decide +kernel
theorem dX5_readUnit_56 : decode cX5_readUnit 56 = .ok (.goto 35, 3) := by decide +kernel
theorem dX5_readUnit_59 : decode cX5_readUnit 59 = .ok (.aload_n 0, 1) := by decide +kernel
theorem dX5_readUnit_60 : decode cX5_readUnit 60 = .ok (.getfield 54, 3) := by decide +kernel
theorem dX5_readUnit_63 : decode cX5_readUnit 63 = .ok (.sipush 257, 3) := by decide +kernel
theorem dX5_readUnit_66 : decode cX5_readUnit 66 = .ok (.if_icmp .ne 20, 3) := by decide +kernel
theorem dX5_readUnit_69 : decode cX5_readUnit 69 = .ok (.aload_n 0, 1) := by decide +kernel
theorem dX5_readUnit_70 : decode cX5_readUnit 70 = .ok (.getfield 12, 3) := by decide +kernel
theorem dX5_readUnit_73 : decode cX5_readUnit 73 = .ok (.getfield 112, 3) := by decide +kernel
theorem dX5_readUnit_76 : decode cX5_readUnit 76 = .ok (.aload_n 0, 1) := by decide +kernel
theorem dX5_readUnit_77 : decode cX5_readUnit 77 = .ok (.getfield 57, 3) := by decide +kernel
theorem dX5_readUnit_80 : decode cX5_readUnit 80 = .ok (.invokevirtual 249, 3) := by decide +kernel
theorem dX5_readUnit_83 : decode cX5_readUnit 83 = .ok (.goto 8, 3) := by decide +kernel
theorem dX5_readUnit_86 : decode cX5_readUnit 86 = .ok (.aload_n 0, 1) := by decide +kernel
theorem dX5_readUnit_87 : decode cX5_readUnit 87 = .ok (.invokevirtual 146, 3) := by decide +kernel
theorem dX5_readUnit_90 : decode cX5_readUnit 90 = .ok (.ireturn, 1) := by decide +kernel
theorem dX5_readUnit_91 : decode cX5_readUnit 91 = .ok (.aload_n 0, 1) := by decide +kernel
theorem dX5_readUnit_92 : decode cX5_readUnit 92 = .ok (.getfield 12, 3) := by decide +kernel
theorem dX5_readUnit_95 : decode cX5_readUnit 95 = .ok (.dup, 1) := by decide +kernel
theorem dX5_readUnit_96 : decode cX5_readUnit 96 = .ok (.getfield 237, 3) := by decide +kernel
theorem dX5_readUnit_99 : decode cX5_readUnit 99 = .ok (.iconst 1, 1) := by decide +kernel
theorem dX5_readUnit_100 : decode cX5_readUnit 100 = .ok (.iadd, 1) := by decide +kernel
theorem dX5_readUnit_101 : decode cX5_readUnit 101 = .ok (.putfield 237, 3) := by decide +kernel
theorem dX5_readUnit_104 : decode cX5_readUnit 104 = .ok (.aload_n 0, 1) := by decide +kernel
theorem dX5_readUnit_105 : decode cX5_readUnit 105 = .ok (.invokevirtual 90, 3) := by decide +kernel
theorem dX5_readUnit_108 : decode cX5_readUnit 108 = .ok (.iconst 1, 1) := by decide +kernel
theorem dX5_readUnit_109 : decode cX5_readUnit 109 = .ok (.ireturn, 1) := by decide +kernel
set_option maxRecDepth 20000 in
theorem ggX5_readParentheses_X5_refuse : GoodIn wsX5_readParentheses wsX5_refuse := goodIn_r _ [7, 8, 9, 10, 11, 12, 6, 13, 14, 15, 201, 202, 203, 204, 205, 206, 207, 208, 209, 210, 211, 212, 213, 214, 215] (by decide +kernel) (by decide +kernel)
set_option maxRecDepth 20000 in
theorem gX5_readParentheses_X5_refuse : GoodIn wsX5_readParentheses (wsV RX5 146 RX5 yX5_refuse wsX5_refuse) := goodIn_app (goodIn_of _ (by decide +kernel)) ggX5_readParentheses_X5_refuse
set_option maxRecDepth 20000 in
theorem ggX5_readParentheses_X5_advance : GoodIn wsX5_readParentheses wsX5_advance := goodIn_r _ [19, 20, 9, 8, 21, 22, 23, 6, 24, 25, 26, 27, 28, 29, 30, 31, 32, 33, 34, 35, 36, 37, 38, 39, 40, 41, 42, 43, 44, 45, 46, 47, 48, 49, 50, 51, 52, 53, 54, 55, 56, 57, 58, 59, 60, 61, 62, 63, 64, 65, 66, 67, 68, 69, 70, 71, 72, 73, 74, 75, 76, 77, 78, 79, 80, 81, 82, 83, 84, 85, 86, 87, 88, 89, 90, 91, 92, 93, 94, 95, 96, 97, 98, 99, 100, 101, 102, 103, 104, 105, 106, 107, 108, 109, 110, 111, 112, 113, 114, 115, 116, 117, 118, 119, 120, 121, 122, 123, 124, 125, 126, 127, 128, 129, 130, 131, 132, 133, 134, 135, 136, 137, 138, 139, 140, 141, 142, 143, 201, 202, 203, 204, 205, 206, 207, 208, 209, 210, 211, 212, 213, 214, 215] (by decide +kernel) (by decide +kernel)
set_option maxRecDepth 20000 in
theorem gX5_readParentheses_X5_advance : GoodIn wsX5_readParentheses (wsV RX5 90 RX5 yX5_advance wsX5_advance) := goodIn_app (goodIn_of _ (by decide +kernel)) ggX5_readParentheses_X5_advance
set_option maxRecDepth 20000 in
theorem ggX5_readParentheses_X5_readEither : GoodIn wsX5_readParentheses wsX5_readEither := goodIn_r _ [163, 8, 1, 152, 164, 165, 166, 6, 16, 17, 18, 19, 20, 9, 21, 22, 23, 24, 25, 26, 27, 28, 29, 30, 31, 32, 33, 34, 35, 36, 37, 38, 39, 40, 41, 42, 43, 44, 45, 46, 47, 48, 49, 50, 51, 52, 53, 54, 55, 56, 57, 58, 59, 60, 61, 62, 63, 64, 65, 66, 67, 68, 69, 70, 71, 72, 73, 74, 75, 76, 77, 78, 79, 80, 81, 82, 83, 84, 85, 86, 87, 88, 89, 90, 91, 92, 93, 94, 95, 96, 97, 98, 99, 100, 101, 102, 103, 104, 105, 106, 107, 108, 109, 110, 111, 112, 113, 114, 115, 116, 117, 118, 119, 120, 121, 122, 123, 124, 125, 126, 127, 128, 129, 130, 131, 132, 133, 134, 135, 136, 137, 138, 139, 140, 141, 142, 143, 156, 157, 158, 159, 160, 161, 162, 151, 153, 154, 155, 167, 3, 4, 5, 7, 10, 11, 12, 13, 14, 15, 168, 169, 170, 171, 172, 173, 0, 2, 144, 145, 146, 147, 148, 149, 150, 174, 175, 176, 177, 178, 179, 180, 181, 182, 183, 184, 185, 186, 187, 188, 189, 190, 191, 192, 193, 194, 195, 196, 197, 198, 199, 200, 201, 202, 203, 204, 205, 206, 207, 208, 209, 210, 211, 212, 213, 214, 215, 216, 217, 218, 219, 220, 221, 222, 223, 224, 225, 226, 227, 228, 229] (by decide +kernel) (by decide +kernel)
set_option maxRecDepth 20000 in
theorem gX5_readParentheses_X5_readEither : GoodIn wsX5_readParentheses (wsV RX5 136 RX5 yX5_readEither wsX5_readEither) := goodIn_app (goodIn_of _ (by decide +kernel)) ggX5_readParentheses_X5_readEither
set_option maxRecDepth 20000 in
theorem ggX5_readParentheses_X5_readWord : GoodIn wsX5_readParentheses wsX5_readWord := goodIn_r _ [150, 8, 3, 4, 5, 6, 7, 9, 10, 11, 12, 13, 14, 15, 16, 17, 18, 19, 20, 21, 22, 23, 24, 25, 26, 27, 28, 29, 30, 31, 32, 33, 34, 35, 36, 37, 38, 39, 40, 41, 42, 43, 44, 45, 46, 47, 48, 49, 50, 51, 52, 53, 54, 55, 56, 57, 58, 59, 60, 61, 62, 63, 64, 65, 66, 67, 68, 69, 70, 71, 72, 73, 74, 75, 76, 77, 78, 79, 80, 81, 82, 83, 84, 85, 86, 87, 88, 89, 90, 91, 92, 93, 94, 95, 96, 97, 98, 99, 100, 101, 102, 103, 104, 105, 106, 107, 108, 109, 110, 111, 112, 113, 114, 115, 116, 117, 118, 119, 120, 121, 122, 123, 124, 125, 126, 127, 128, 129, 130, 131, 132, 133, 134, 135, 136, 137, 138, 139, 140, 141, 142, 143, 201, 202, 203, 204, 205, 206, 207, 208, 209, 210, 211, 212, 213, 214, 215] (by decide +kernel) (by decide +kernel)
set_option maxRecDepth 20000 in
theorem gX5_readParentheses_X5_readWord : GoodIn wsX5_readParentheses (wsV RX5 153 RX5 yX5_readWord wsX5_readWord) := goodIn_app (goodIn_of _ (by decide +kernel)) ggX5_readParentheses_X5_readWord
theorem dX5_readParentheses_0 : decode cX5_readParentheses 0 = .ok (.iload_n 1, 1) := by decide +kernel
theorem dX5_readParentheses_1 : decode cX5_readParentheses 1 = .ok (.bipush 7, 2) := by decide +kernel
theorem dX5_readParentheses_3 : decode cX5_readParentheses 3 = .ok (.if_icmp .lt 8, 3) := by decide +kernel
theorem dX5_readParentheses_6 : decode cX5_readParentheses 6 = .ok (.aload_n 0, 1) := by decide +kernel
theorem dX5_readParentheses_7 : decode cX5_readParentheses 7 = .ok (.invokevirtual 146, 3) := by decide +kernel
theorem dX5_readParentheses_10 : decode cX5_readParentheses 10 = .ok (.ireturn, 1) := by decide +kernel
theorem dX5_readParentheses_11 : decode cX5_readParentheses 11 = .ok (.aload_n 0, 1) := by decide +kernel
theorem dX5_readParentheses_12 : decode cX5_readParentheses 12 = .ok (.getfield 12, 3) := by decide +kernel
theorem dX5_readParentheses_15 : decode cX5_readParentheses 15 = .ok (.dup, 1) := by decide +kernel
theorem dX5_readParentheses_16 : decode cX5_readParentheses 16 = .ok (.getfield 237, 3) := by decide +kernel
theorem dX5_readParentheses_19 : decode cX5_readParentheses 19 = .ok (.iconst 1, 1) := by decide +kernel
theorem dX5_readParentheses_20 : decode cX5_readParentheses 20 = .ok (.iadd, 1) := by decide +kernel
theorem dX5_readParentheses_21 : decode cX5_readParentheses 21 = .ok (.putfield 237, 3) := by decide +kernel
theorem dX5_readParentheses_24 : decode cX5_readParentheses 24 = .ok (.aload_n 0, 1) := by decide +kernel
theorem dX5_readParentheses_25 : decode cX5_readParentheses 25 = .ok (.invokevirtual 90, 3) := by decide +kernel
theorem dX5_readParentheses_28 : decode cX5_readParentheses 28 = .ok (.aload_n 0, 1) := by decide +kernel
theorem dX5_readParentheses_29 : decode cX5_readParentheses 29 = .ok (.iload_n 1, 1) := by decide +kernel
theorem dX5_readParentheses_30 : decode cX5_readParentheses 30 = .ok (.iconst 1, 1) := by decide +kernel
theorem dX5_readParentheses_31 : decode cX5_readParentheses 31 = .ok (.iadd, 1) := by decide +kernel
theorem dX5_readParentheses_32 : decode cX5_readParentheses 32 = .ok (.invokevirtual 136, 3) := by decide +kernel
theorem dX5_readParentheses_35 : decode cX5_readParentheses 35 = .ok (.ifCond .eq 16, 3) := by decide +kernel
theorem dX5_readParentheses_38 : decode cX5_readParentheses 38 = .ok (.aload_n 0, 1) := by decide +kernel
theorem dX5_readParentheses_39 : decode cX5_readParentheses 39 = .ok (.bipush 41, 2) := by decide +kernel
theorem dX5_readParentheses_41 : decode cX5_readParentheses 41 = .ok (.invokevirtual 153, 3) := by decide +kernel
theorem dX5_readParentheses_44 : decode cX5_readParentheses 44 = .ok (.ifCond .eq 7, 3) := by decide +kernel
theorem dX5_readParentheses_47 : decode cX5_readParentheses 47 = .ok (.iconst 1, 1) := by decide +kernel
theorem dX5_readParentheses_48 : decode cX5_readParentheses 48 = .ok (.goto 4, 3) := by decide +kernel
theorem dX5_readParentheses_51 : decode cX5_readParentheses 51 = .ok (.iconst 0, 1) := by decide +kernel
theorem dX5_readParentheses_52 : decode cX5_readParentheses 52 = .ok (.ireturn, 1) := by decide +kernel
theorem dX5_relation_0 : decode cX5_relation 0 = .ok (.iload_n 0, 1) := by decide +kernel
theorem dX5_relation_1 : decode cX5_relation 1 = .ok (.tableswitch 36 60 62 #[27, 33, 30], 27) := by decide +kernel
theorem dX5_relation_28 : decode cX5_relation 28 = .ok (.bipush (-23), 2) := by decide +kernel
theorem dX5_relation_30 : decode cX5_relation 30 = .ok (.ireturn, 1) := by decide +kernel
theorem dX5_relation_31 : decode cX5_relation 31 = .ok (.bipush (-24), 2) := by decide +kernel
theorem dX5_relation_33 : decode cX5_relation 33 = .ok (.ireturn, 1) := by decide +kernel
theorem dX5_relation_34 : decode cX5_relation 34 = .ok (.bipush (-25), 2) := by decide +kernel
theorem dX5_relation_36 : decode cX5_relation 36 = .ok (.ireturn, 1) := by decide +kernel
theorem dX5_relation_37 : decode cX5_relation 37 = .ok (.iconst 0, 1) := by decide +kernel
theorem dX5_relation_38 : decode cX5_relation 38 = .ok (.ireturn, 1) := by decide +kernel
theorem dX5_multiplying_0 : decode cX5_multiplying 0 = .ok (.iload_n 0, 1) := by decide +kernel
theorem dX5_multiplying_1 : decode cX5_multiplying 1 = .ok (.lookupswitch 44 #[(37, 41), (42, 35), (47, 38)], 35) := by decide +kernel
theorem dX5_multiplying_36 : decode cX5_multiplying 36 = .ok (.bipush (-28), 2) := by decide +kernel
theorem dX5_multiplying_38 : decode cX5_multiplying 38 = .ok (.ireturn, 1) := by decide +kernel
theorem dX5_multiplying_39 : decode cX5_multiplying 39 = .ok (.bipush (-29), 2) := by decide +kernel
theorem dX5_multiplying_41 : decode cX5_multiplying 41 = .ok (.ireturn, 1) := by decide +kernel
theorem dX5_multiplying_42 : decode cX5_multiplying 42 = .ok (.bipush (-30), 2) := by decide +kernel
theorem dX5_multiplying_44 : decode cX5_multiplying 44 = .ok (.ireturn, 1) := by decide +kernel
theorem dX5_multiplying_45 : decode cX5_multiplying 45 = .ok (.iconst 0, 1) := by decide +kernel
theorem dX5_multiplying_46 : decode cX5_multiplying 46 = .ok (.ireturn, 1) := by decide +kernel
theorem dX5_termOf_0 : decode cX5_termOf 0 = .ok (.iload_n 0, 1) := by decide +kernel
theorem dX5_termOf_1 : decode cX5_termOf 1 = .ok (.tableswitch 70 6 15 #[57, 70, 70, 70, 55, 59, 61, 63, 65, 67], 55) := by decide +kernel
theorem dX5_termOf_56 : decode cX5_termOf 56 = .ok (.iconst 0, 1) := by decide +kernel
theorem dX5_termOf_57 : decode cX5_termOf 57 = .ok (.ireturn, 1) := by decide +kernel
theorem dX5_termOf_58 : decode cX5_termOf 58 = .ok (.iconst 1, 1) := by decide +kernel
theorem dX5_termOf_59 : decode cX5_termOf 59 = .ok (.ireturn, 1) := by decide +kernel
theorem dX5_termOf_60 : decode cX5_termOf 60 = .ok (.iconst 2, 1) := by decide +kernel
theorem dX5_termOf_61 : decode cX5_termOf 61 = .ok (.ireturn, 1) := by decide +kernel
theorem dX5_termOf_62 : decode cX5_termOf 62 = .ok (.iconst 3, 1) := by decide +kernel
theorem dX5_termOf_63 : decode cX5_termOf 63 = .ok (.ireturn, 1) := by decide +kernel
theorem dX5_termOf_64 : decode cX5_termOf 64 = .ok (.iconst 4, 1) := by decide +kernel
theorem dX5_termOf_65 : decode cX5_termOf 65 = .ok (.ireturn, 1) := by decide +kernel
theorem dX5_termOf_66 : decode cX5_termOf 66 = .ok (.iconst 5, 1) := by decide +kernel
theorem dX5_termOf_67 : decode cX5_termOf 67 = .ok (.ireturn, 1) := by decide +kernel
theorem dX5_termOf_68 : decode cX5_termOf 68 = .ok (.bipush 6, 2) := by decide +kernel
theorem dX5_termOf_70 : decode cX5_termOf 70 = .ok (.ireturn, 1) := by decide +kernel
theorem dX5_termOf_71 : decode cX5_termOf 71 = .ok (.iconst (-1), 1) := by decide +kernel
theorem dX5_termOf_72 : decode cX5_termOf 72 = .ok (.ireturn, 1) := by decide +kernel
set_option maxRecDepth 20000 in
theorem ggX5_advance_X5_byteAt : GoodIn wsX5_advance wsX5_byteAt := goodIn_r _ [8, 9, 10, 128, 129, 130, 131, 132, 133, 134, 135, 136, 137, 138, 139, 140, 141, 142] (by decide +kernel) (by decide +kernel)
set_option maxRecDepth 20000 in
theorem gX5_advance_X5_byteAt : GoodIn wsX5_advance (wsV RX5 252 RX5 yX5_byteAt wsX5_byteAt) := goodIn_app (goodIn_of _ (by decide +kernel)) ggX5_advance_X5_byteAt
set_option maxRecDepth 20000 in
theorem ggX5_advance_X5_isBlank : GoodIn wsX5_advance wsX5_isBlank := goodIn_r _ [13] (by decide +kernel) (by decide +kernel)
set_option maxRecDepth 20000 in
theorem gX5_advance_X5_isBlank : GoodIn wsX5_advance (va_wsS RX5 255 yX5_isBlank wsX5_isBlank) := goodIn_app (goodIn_of _ (by decide +kernel)) ggX5_advance_X5_isBlank
set_option maxRecDepth 20000 in
theorem ggX5_advance_X5_isLetter : GoodIn wsX5_advance wsX5_isLetter := goodIn_r _ [16] (by decide +kernel) (by decide +kernel)
set_option maxRecDepth 20000 in
theorem gX5_advance_X5_isLetter : GoodIn wsX5_advance (va_wsS RX5 258 yX5_isLetter wsX5_isLetter) := goodIn_app (goodIn_of _ (by decide +kernel)) ggX5_advance_X5_isLetter
set_option maxRecDepth 20000 in
theorem ggX5_advance_X5_takeWord : GoodIn wsX5_advance wsX5_takeWord := goodIn_r _ [20, 1, 21, 2, 3, 22, 4, 5, 6, 7, 8, 9, 10, 14, 15, 16, 23, 24, 25, 26, 27, 28, 29, 30, 128, 129, 130, 131, 132, 133, 134, 135, 136, 137, 138, 139, 140, 141, 142] (by decide +kernel) (by decide +kernel)
set_option maxRecDepth 20000 in
theorem gX5_advance_X5_takeWord : GoodIn wsX5_advance (wsV RX5 261 RX5 yX5_takeWord wsX5_takeWord) := goodIn_app (goodIn_of _ (by decide +kernel)) ggX5_advance_X5_takeWord
set_option maxRecDepth 20000 in
theorem ggX5_advance_X5_isDigit : GoodIn wsX5_advance wsX5_isDigit := goodIn_r _ [33] (by decide +kernel) (by decide +kernel)
set_option maxRecDepth 20000 in
theorem gX5_advance_X5_isDigit : GoodIn wsX5_advance (va_wsS RX5 264 yX5_isDigit wsX5_isDigit) := goodIn_app (goodIn_of _ (by decide +kernel)) ggX5_advance_X5_isDigit
set_option maxRecDepth 20000 in
theorem ggX5_advance_X5_takeNumber : GoodIn wsX5_advance wsX5_takeNumber := goodIn_r _ [37, 1, 38, 2, 3, 4, 5, 6, 7, 8, 9, 10, 31, 32, 33, 14, 15, 16, 128, 129, 130, 131, 132, 133, 134, 135, 136, 137, 138, 139, 140, 141, 142] (by decide +kernel) (by decide +kernel)
set_option maxRecDepth 20000 in
theorem gX5_advance_X5_takeNumber : GoodIn wsX5_advance (wsV RX5 267 RX5 yX5_takeNumber wsX5_takeNumber) := goodIn_app (goodIn_of _ (by decide +kernel)) ggX5_advance_X5_takeNumber
set_option maxRecDepth 20000 in
theorem ggX5_advance_J0_indexOf_0f7a4 : GoodIn wsX5_advance wsJ0_indexOf_0f7a4 := goodIn_r _ [43, 44, 45, 46, 42, 47, 48, 49, 50, 51, 52, 53, 54, 55, 56, 57, 58, 59, 60, 61, 62, 63, 64, 65, 66, 67, 68, 69, 70, 71, 72, 73, 74, 75, 76, 77, 78, 79, 80, 81, 82, 83, 84, 85, 86, 87, 88, 89, 90, 91, 92, 93, 94, 95, 96, 97, 98, 99, 100, 101, 102, 103, 104, 105, 106, 107, 108, 109, 110, 111, 112, 113, 114, 115, 116, 117, 118, 119, 120, 121, 122, 123, 124, 125, 126, 127] (by decide +kernel) (by decide +kernel)
set_option maxRecDepth 20000 in
theorem gX5_advance_J0_indexOf_0f7a4 : GoodIn wsX5_advance (wsV RX5 272 RJ0 yJ0_indexOf_0f7a4 wsJ0_indexOf_0f7a4) := goodIn_app (goodIn_of _ (by decide +kernel)) ggX5_advance_J0_indexOf_0f7a4
theorem dX5_advance_0 : decode cX5_advance 0 = .ok (.iconst 0, 1) := by decide +kernel
theorem dX5_advance_1 : decode cX5_advance 1 = .ok (.istore_n 1, 1) := by decide +kernel
theorem dX5_advance_2 : decode cX5_advance 2 = .ok (.iload_n 1, 1) := by decide +kernel
theorem dX5_advance_3 : decode cX5_advance 3 = .ok (.sipush 1600, 3) := by decide +kernel
theorem dX5_advance_6 : decode cX5_advance 6 = .ok (.if_icmp .ge 33, 3) := by decide +kernel
theorem dX5_advance_9 : decode cX5_advance 9 = .ok (.aload_n 0, 1) := by decide +kernel
theorem dX5_advance_10 : decode cX5_advance 10 = .ok (.aload_n 0, 1) := by decide +kernel
theorem dX5_advance_11 : decode cX5_advance 11 = .ok (.getfield 48, 3) := by decide +kernel
theorem dX5_advance_14 : decode cX5_advance 14 = .ok (.invokevirtual 252, 3) := by decide +kernel
theorem dX5_advance_17 : decode cX5_advance 17 = .ok (.invokestatic 255, 3) := by decide +kernel
theorem dX5_advance_20 : decode cX5_advance 20 = .ok (.ifCond .eq 19, 3) := by decide +kernel
theorem dX5_advance_23 : decode cX5_advance 23 = .ok (.aload_n 0, 1) := by decide +kernel
theorem dX5_advance_24 : decode cX5_advance 24 = .ok (.dup, 1) := by decide +kernel
theorem dX5_advance_25 : decode cX5_advance 25 = .ok (.getfield 48, 3) := by decide +kernel
theorem dX5_advance_28 : decode cX5_advance 28 = .ok (.iconst 1, 1) := by decide +kernel
theorem dX5_advance_29 : decode cX5_advance 29 = .ok (.iadd, 1) := by decide +kernel
theorem dX5_advance_30 : decode cX5_advance 30 = .ok (.putfield 48, 3) := by decide +kernel
theorem dX5_advance_33 : decode cX5_advance 33 = .ok (.iinc 1 1, 3) := by decide +kernel
theorem dX5_advance_36 : decode cX5_advance 36 = .ok (.goto (-34), 3) := by decide +kernel
theorem dX5_advance_39 : decode cX5_advance 39 = .ok (.aload_n 0, 1) := by decide +kernel
theorem dX5_advance_40 : decode cX5_advance 40 = .ok (.aload_n 0, 1) := by decide +kernel
theorem dX5_advance_41 : decode cX5_advance 41 = .ok (.getfield 48, 3) := by decide +kernel
theorem dX5_advance_44 : decode cX5_advance 44 = .ok (.putfield 51, 3) := by decide +kernel
theorem dX5_advance_47 : decode cX5_advance 47 = .ok (.aload_n 0, 1) := by decide +kernel
theorem dX5_advance_48 : decode cX5_advance 48 = .ok (.aload_n 0, 1) := by decide +kernel
theorem dX5_advance_49 : decode cX5_advance 49 = .ok (.getfield 48, 3) := by decide +kernel
theorem dX5_advance_52 : decode cX5_advance 52 = .ok (.invokevirtual 252, 3) := by decide +kernel
theorem dX5_advance_55 : decode cX5_advance 55 = .ok (.istore_n 1, 1) := by decide +kernel
theorem dX5_advance_56 : decode cX5_advance 56 = .ok (.iload_n 1, 1) := by decide +kernel
theorem dX5_advance_57 : decode cX5_advance 57 = .ok (.ifCond .ge 13, 3) := by decide +kernel
theorem dX5_advance_60 : decode cX5_advance 60 = .ok (.aload_n 0, 1) := by decide +kernel
theorem dX5_advance_61 : decode cX5_advance 61 = .ok (.sipush 258, 3) := by decide +kernel
theorem dX5_advance_64 : decode cX5_advance 64 = .ok (.putfield 54, 3) := by decide +kernel
theorem dX5_advance_67 : decode cX5_advance 67 = .ok (.goto 67, 3) := by decide +kernel
theorem dX5_advance_70 : decode cX5_advance 70 = .ok (.iload_n 1, 1) := by decide +kernel
theorem dX5_advance_71 : decode cX5_advance 71 = .ok (.invokestatic 258, 3) := by decide +kernel
theorem dX5_advance_74 : decode cX5_advance 74 = .ok (.ifCond .eq 10, 3) := by decide +kernel
theorem dX5_advance_77 : decode cX5_advance 77 = .ok (.aload_n 0, 1) := by decide +kernel
theorem dX5_advance_78 : decode cX5_advance 78 = .ok (.invokevirtual 261, 3) := by decide +kernel
theorem dX5_advance_81 : decode cX5_advance 81 = .ok (.goto 53, 3) := by decide +kernel
theorem dX5_advance_84 : decode cX5_advance 84 = .ok (.iload_n 1, 1) := by decide +kernel
theorem dX5_advance_85 : decode cX5_advance 85 = .ok (.invokestatic 264, 3) := by decide +kernel
theorem dX5_advance_88 : decode cX5_advance 88 = .ok (.ifCond .eq 10, 3) := by decide +kernel
theorem dX5_advance_91 : decode cX5_advance 91 = .ok (.aload_n 0, 1) := by decide +kernel
theorem dX5_advance_92 : decode cX5_advance 92 = .ok (.invokevirtual 267, 3) := by decide +kernel
theorem dX5_advance_95 : decode cX5_advance 95 = .ok (.goto 39, 3) := by decide +kernel
theorem dX5_advance_98 : decode cX5_advance 98 = .ok (.ldc_w 270, 3) := by decide +kernel
theorem dX5_advance_101 : decode cX5_advance 101 = .ok (.iload_n 1, 1) := by decide +kernel
theorem dX5_advance_102 : decode cX5_advance 102 = .ok (.i2c, 1) := by decide +kernel
theorem dX5_advance_103 : decode cX5_advance 103 = .ok (.invokevirtual 272, 3) := by decide +kernel
theorem dX5_advance_106 : decode cX5_advance 106 = .ok (.ifCond .lt 21, 3) := by decide +kernel
theorem dX5_advance_109 : decode cX5_advance 109 = .ok (.aload_n 0, 1) := by decide +kernel
theorem dX5_advance_110 : decode cX5_advance 110 = .ok (.iload_n 1, 1) := by decide +kernel
theorem dX5_advance_111 : decode cX5_advance 111 = .ok (.putfield 54, 3) := by decide +kernel
theorem dX5_advance_114 : decode cX5_advance 114 = .ok (.aload_n 0, 1) := by decide +kernel
theorem dX5_advance_115 : decode cX5_advance 115 = .ok (.dup, 1) := by decide +kernel
theorem dX5_advance_116 : decode cX5_advance 116 = .ok (.getfield 48, 3) := by decide +kernel
theorem dX5_advance_119 : decode cX5_advance 119 = .ok (.iconst 1, 1) := by decide +kernel
theorem dX5_advance_120 : decode cX5_advance 120 = .ok (.iadd, 1) := by decide +kernel
theorem dX5_advance_121 : decode cX5_advance 121 = .ok (.putfield 48, 3) := by decide +kernel
theorem dX5_advance_124 : decode cX5_advance 124 = .ok (.goto 10, 3) := by decide +kernel
theorem dX5_advance_127 : decode cX5_advance 127 = .ok (.aload_n 0, 1) := by decide +kernel
theorem dX5_advance_128 : decode cX5_advance 128 = .ok (.sipush 259, 3) := by decide +kernel
theorem dX5_advance_131 : decode cX5_advance 131 = .ok (.putfield 54, 3) := by decide +kernel
theorem dX5_advance_134 : decode cX5_advance 134 = .ok (.return_, 1) := by decide +kernel
set_option maxRecDepth 20000 in
theorem ggX5_takeWord_X5_byteAt : GoodIn wsX5_takeWord wsX5_byteAt := goodIn_r _ [10, 11, 12, 24, 25, 26, 27, 28, 29, 30, 31, 32, 33, 34, 35, 36, 37, 38] (by decide +kernel) (by decide +kernel)
set_option maxRecDepth 20000 in
theorem gX5_takeWord_X5_byteAt : GoodIn wsX5_takeWord (wsV RX5 252 RX5 yX5_byteAt wsX5_byteAt) := goodIn_app (goodIn_of _ (by decide +kernel)) ggX5_takeWord_X5_byteAt
set_option maxRecDepth 20000 in
theorem ggX5_takeWord_X5_isLetter : GoodIn wsX5_takeWord wsX5_isLetter := goodIn_r _ [15] (by decide +kernel) (by decide +kernel)
set_option maxRecDepth 20000 in
theorem gX5_takeWord_X5_isLetter : GoodIn wsX5_takeWord (va_wsS RX5 258 yX5_isLetter wsX5_isLetter) := goodIn_app (goodIn_of _ (by decide +kernel)) ggX5_takeWord_X5_isLetter
set_option maxRecDepth 20000 in
theorem ggX5_takeWord_X5_joinLetter : GoodIn wsX5_takeWord wsX5_joinLetter := goodIn_r _ [18, 19] (by decide +kernel) (by decide +kernel)
set_option maxRecDepth 20000 in
theorem gX5_takeWord_X5_joinLetter : GoodIn wsX5_takeWord (va_wsS RX5 75 yX5_joinLetter wsX5_joinLetter) := goodIn_app (goodIn_of _ (by decide +kernel)) ggX5_takeWord_X5_joinLetter
set_option maxRecDepth 20000 in
theorem ggX5_takeWord_X5_indexOfWord : GoodIn wsX5_takeWord wsX5_indexOfWord := goodIn_r _ [23, 2, 24, 25, 26, 27, 28, 29, 30, 31, 32, 33, 34, 35, 36, 37, 38] (by decide +kernel) (by decide +kernel)
set_option maxRecDepth 20000 in
theorem gX5_takeWord_X5_indexOfWord : GoodIn wsX5_takeWord (wsV RX5 208 RX5 yX5_indexOfWord wsX5_indexOfWord) := goodIn_app (goodIn_of _ (by decide +kernel)) ggX5_takeWord_X5_indexOfWord
theorem dX5_takeWord_0 : decode cX5_takeWord 0 = .ok (.lconst 0, 1) := by decide +kernel
theorem dX5_takeWord_1 : decode cX5_takeWord 1 = .ok (.lstore_n 1, 1) := by decide +kernel
theorem dX5_takeWord_2 : decode cX5_takeWord 2 = .ok (.iconst 0, 1) := by decide +kernel
theorem dX5_takeWord_3 : decode cX5_takeWord 3 = .ok (.istore_n 3, 1) := by decide +kernel
theorem dX5_takeWord_4 : decode cX5_takeWord 4 = .ok (.iload_n 3, 1) := by decide +kernel
theorem dX5_takeWord_5 : decode cX5_takeWord 5 = .ok (.sipush 1600, 3) := by decide +kernel
theorem dX5_takeWord_8 : decode cX5_takeWord 8 = .ok (.if_icmp .ge 46, 3) := by decide +kernel
theorem dX5_takeWord_11 : decode cX5_takeWord 11 = .ok (.aload_n 0, 1) := by decide +kernel
theorem dX5_takeWord_12 : decode cX5_takeWord 12 = .ok (.aload_n 0, 1) := by decide +kernel
theorem dX5_takeWord_13 : decode cX5_takeWord 13 = .ok (.getfield 48, 3) := by decide +kernel
theorem dX5_takeWord_16 : decode cX5_takeWord 16 = .ok (.invokevirtual 252, 3) := by decide +kernel
theorem dX5_takeWord_19 : decode cX5_takeWord 19 = .ok (.invokestatic 258, 3) := by decide +kernel
theorem dX5_takeWord_22 : decode cX5_takeWord 22 = .ok (.ifCond .eq 32, 3) := by decide +kernel
theorem dX5_takeWord_25 : decode cX5_takeWord 25 = .ok (.lload_n 1, 1) := by decide +kernel
theorem dX5_takeWord_26 : decode cX5_takeWord 26 = .ok (.aload_n 0, 1) := by decide +kernel
theorem dX5_takeWord_27 : decode cX5_takeWord 27 = .ok (.aload_n 0, 1) := by decide +kernel
theorem dX5_takeWord_28 : decode cX5_takeWord 28 = .ok (.getfield 48, 3) := by decide +kernel
theorem dX5_takeWord_31 : decode cX5_takeWord 31 = .ok (.invokevirtual 252, 3) := by decide +kernel
theorem dX5_takeWord_34 : decode cX5_takeWord 34 = .ok (.invokestatic 75, 3) := by decide +kernel
theorem dX5_takeWord_37 : decode cX5_takeWord 37 = .ok (.lstore_n 1, 1) := by decide +kernel
theorem dX5_takeWord_38 : decode cX5_takeWord 38 = .ok (.aload_n 0, 1) := by decide +kernel
theorem dX5_takeWord_39 : decode cX5_takeWord 39 = .ok (.dup, 1) := by decide +kernel
theorem dX5_takeWord_40 : decode cX5_takeWord 40 = .ok (.getfield 48, 3) := by decide +kernel
theorem dX5_takeWord_43 : decode cX5_takeWord 43 = .ok (.iconst 1, 1) := by decide +kernel
theorem dX5_takeWord_44 : decode cX5_takeWord 44 = .ok (.iadd, 1) := by decide +kernel
theorem dX5_takeWord_45 : decode cX5_takeWord 45 = .ok (.putfield 48, 3) := by decide +kernel
theorem dX5_takeWord_48 : decode cX5_takeWord 48 = .ok (.iinc 3 1, 3) := by decide +kernel
theorem dX5_takeWord_51 : decode cX5_takeWord 51 = .ok (.goto (-47), 3) := by decide +kernel
theorem dX5_takeWord_54 : decode cX5_takeWord 54 = .ok (.aload_n 0, 1) := by decide +kernel
theorem dX5_takeWord_55 : decode cX5_takeWord 55 = .ok (.lload_n 1, 1) := by decide +kernel
theorem dX5_takeWord_56 : decode cX5_takeWord 56 = .ok (.putfield 60, 3) := by decide +kernel
theorem dX5_takeWord_59 : decode cX5_takeWord 59 = .ok (.aload_n 0, 1) := by decide +kernel
theorem dX5_takeWord_60 : decode cX5_takeWord 60 = .ok (.getfield 48, 3) := by decide +kernel
theorem dX5_takeWord_63 : decode cX5_takeWord 63 = .ok (.aload_n 0, 1) := by decide +kernel
theorem dX5_takeWord_64 : decode cX5_takeWord 64 = .ok (.getfield 51, 3) := by decide +kernel
theorem dX5_takeWord_67 : decode cX5_takeWord 67 = .ok (.isub, 1) := by decide +kernel
theorem dX5_takeWord_68 : decode cX5_takeWord 68 = .ok (.bipush 8, 2) := by decide +kernel
theorem dX5_takeWord_70 : decode cX5_takeWord 70 = .ok (.if_icmp .le 13, 3) := by decide +kernel
theorem dX5_takeWord_73 : decode cX5_takeWord 73 = .ok (.aload_n 0, 1) := by decide +kernel
theorem dX5_takeWord_74 : decode cX5_takeWord 74 = .ok (.sipush 259, 3) := by decide +kernel
theorem dX5_takeWord_77 : decode cX5_takeWord 77 = .ok (.putfield 54, 3) := by decide +kernel
theorem dX5_takeWord_80 : decode cX5_takeWord 80 = .ok (.goto 33, 3) := by decide +kernel
theorem dX5_takeWord_83 : decode cX5_takeWord 83 = .ok (.aload_n 0, 1) := by decide +kernel
theorem dX5_takeWord_84 : decode cX5_takeWord 84 = .ok (.aload_n 0, 1) := by decide +kernel
theorem dX5_takeWord_85 : decode cX5_takeWord 85 = .ok (.getfield 25, 3) := by decide +kernel
theorem dX5_takeWord_88 : decode cX5_takeWord 88 = .ok (.aload_n 0, 1) := by decide +kernel
theorem dX5_takeWord_89 : decode cX5_takeWord 89 = .ok (.getfield 25, 3) := by decide +kernel
theorem dX5_takeWord_92 : decode cX5_takeWord 92 = .ok (.arraylength, 1) := by decide +kernel
theorem dX5_takeWord_93 : decode cX5_takeWord 93 = .ok (.invokevirtual 208, 3) := by decide +kernel
theorem dX5_takeWord_96 : decode cX5_takeWord 96 = .ok (.istore_n 3, 1) := by decide +kernel
theorem dX5_takeWord_97 : decode cX5_takeWord 97 = .ok (.aload_n 0, 1) := by decide +kernel
theorem dX5_takeWord_98 : decode cX5_takeWord 98 = .ok (.iload_n 3, 1) := by decide +kernel
theorem dX5_takeWord_99 : decode cX5_takeWord 99 = .ok (.iconst (-1), 1) := by decide +kernel
theorem dX5_takeWord_100 : decode cX5_takeWord 100 = .ok (.if_icmp .ne 9, 3) := by decide +kernel
theorem dX5_takeWord_103 : decode cX5_takeWord 103 = .ok (.sipush 256, 3) := by decide +kernel
theorem dX5_takeWord_106 : decode cX5_takeWord 106 = .ok (.goto 4, 3) := by decide +kernel
theorem dX5_takeWord_109 : decode cX5_takeWord 109 = .ok (.iload_n 3, 1) := by decide +kernel
theorem dX5_takeWord_110 : decode cX5_takeWord 110 = .ok (.putfield 54, 3) := by decide +kernel
theorem dX5_takeWord_113 : decode cX5_takeWord 113 = .ok (.return_, 1) := by decide +kernel
set_option maxRecDepth 20000 in
theorem ggX5_takeNumber_X5_byteAt : GoodIn wsX5_takeNumber wsX5_byteAt := goodIn_r _ [9, 10, 11, 18, 19, 20, 21, 22, 23, 24, 25, 26, 27, 28, 29, 30, 31, 32] (by decide +kernel) (by decide +kernel)
set_option maxRecDepth 20000 in
theorem gX5_takeNumber_X5_byteAt : GoodIn wsX5_takeNumber (wsV RX5 252 RX5 yX5_byteAt wsX5_byteAt) := goodIn_app (goodIn_of _ (by decide +kernel)) ggX5_takeNumber_X5_byteAt
set_option maxRecDepth 20000 in
theorem ggX5_takeNumber_X5_isDigit : GoodIn wsX5_takeNumber wsX5_isDigit := goodIn_r _ [14] (by decide +kernel) (by decide +kernel)
set_option maxRecDepth 20000 in
theorem gX5_takeNumber_X5_isDigit : GoodIn wsX5_takeNumber (va_wsS RX5 264 yX5_isDigit wsX5_isDigit) := goodIn_app (goodIn_of _ (by decide +kernel)) ggX5_takeNumber_X5_isDigit
set_option maxRecDepth 20000 in
theorem ggX5_takeNumber_X5_isLetter : GoodIn wsX5_takeNumber wsX5_isLetter := goodIn_r _ [17] (by decide +kernel) (by decide +kernel)
set_option maxRecDepth 20000 in
theorem gX5_takeNumber_X5_isLetter : GoodIn wsX5_takeNumber (va_wsS RX5 258 yX5_isLetter wsX5_isLetter) := goodIn_app (goodIn_of _ (by decide +kernel)) ggX5_takeNumber_X5_isLetter
theorem dX5_takeNumber_0 : decode cX5_takeNumber 0 = .ok (.iconst 0, 1) := by decide +kernel
theorem dX5_takeNumber_1 : decode cX5_takeNumber 1 = .ok (.istore_n 1, 1) := by decide +kernel
theorem dX5_takeNumber_2 : decode cX5_takeNumber 2 = .ok (.iconst 0, 1) := by decide +kernel
theorem dX5_takeNumber_3 : decode cX5_takeNumber 3 = .ok (.istore_n 2, 1) := by decide +kernel
theorem dX5_takeNumber_4 : decode cX5_takeNumber 4 = .ok (.iload_n 2, 1) := by decide +kernel
theorem dX5_takeNumber_5 : decode cX5_takeNumber 5 = .ok (.sipush 1600, 3) := by decide +kernel
theorem dX5_takeNumber_8 : decode cX5_takeNumber 8 = .ok (.if_icmp .ge 50, 3) := by decide +kernel
theorem dX5_takeNumber_11 : decode cX5_takeNumber 11 = .ok (.aload_n 0, 1) := by decide +kernel
theorem dX5_takeNumber_12 : decode cX5_takeNumber 12 = .ok (.aload_n 0, 1) := by decide +kernel
theorem dX5_takeNumber_13 : decode cX5_takeNumber 13 = .ok (.getfield 48, 3) := by decide +kernel
theorem dX5_takeNumber_16 : decode cX5_takeNumber 16 = .ok (.invokevirtual 252, 3) := by decide +kernel
theorem dX5_takeNumber_19 : decode cX5_takeNumber 19 = .ok (.invokestatic 264, 3) := by decide +kernel
theorem dX5_takeNumber_22 : decode cX5_takeNumber 22 = .ok (.ifCond .eq 36, 3) := by decide +kernel
theorem dX5_takeNumber_25 : decode cX5_takeNumber 25 = .ok (.iload_n 1, 1) := by decide +kernel
theorem dX5_takeNumber_26 : decode cX5_takeNumber 26 = .ok (.bipush 10, 2) := by decide +kernel
theorem dX5_takeNumber_28 : decode cX5_takeNumber 28 = .ok (.imul, 1) := by decide +kernel
theorem dX5_takeNumber_29 : decode cX5_takeNumber 29 = .ok (.aload_n 0, 1) := by decide +kernel
theorem dX5_takeNumber_30 : decode cX5_takeNumber 30 = .ok (.aload_n 0, 1) := by decide +kernel
theorem dX5_takeNumber_31 : decode cX5_takeNumber 31 = .ok (.getfield 48, 3) := by decide +kernel
theorem dX5_takeNumber_34 : decode cX5_takeNumber 34 = .ok (.invokevirtual 252, 3) := by decide +kernel
theorem dX5_takeNumber_37 : decode cX5_takeNumber 37 = .ok (.bipush 48, 2) := by decide +kernel
theorem dX5_takeNumber_39 : decode cX5_takeNumber 39 = .ok (.isub, 1) := by decide +kernel
theorem dX5_takeNumber_40 : decode cX5_takeNumber 40 = .ok (.iadd, 1) := by decide +kernel
theorem dX5_takeNumber_41 : decode cX5_takeNumber 41 = .ok (.istore_n 1, 1) := by decide +kernel
theorem dX5_takeNumber_42 : decode cX5_takeNumber 42 = .ok (.aload_n 0, 1) := by decide +kernel
theorem dX5_takeNumber_43 : decode cX5_takeNumber 43 = .ok (.dup, 1) := by decide +kernel
theorem dX5_takeNumber_44 : decode cX5_takeNumber 44 = .ok (.getfield 48, 3) := by decide +kernel
theorem dX5_takeNumber_47 : decode cX5_takeNumber 47 = .ok (.iconst 1, 1) := by decide +kernel
theorem dX5_takeNumber_48 : decode cX5_takeNumber 48 = .ok (.iadd, 1) := by decide +kernel
theorem dX5_takeNumber_49 : decode cX5_takeNumber 49 = .ok (.putfield 48, 3) := by decide +kernel
theorem dX5_takeNumber_52 : decode cX5_takeNumber 52 = .ok (.iinc 2 1, 3) := by decide +kernel
theorem dX5_takeNumber_55 : decode cX5_takeNumber 55 = .ok (.goto (-51), 3) := by decide +kernel
theorem dX5_takeNumber_58 : decode cX5_takeNumber 58 = .ok (.aload_n 0, 1) := by decide +kernel
theorem dX5_takeNumber_59 : decode cX5_takeNumber 59 = .ok (.iload_n 1, 1) := by decide +kernel
theorem dX5_takeNumber_60 : decode cX5_takeNumber 60 = .ok (.putfield 57, 3) := by decide +kernel
theorem dX5_takeNumber_63 : decode cX5_takeNumber 63 = .ok (.aload_n 0, 1) := by decide +kernel
theorem dX5_takeNumber_64 : decode cX5_takeNumber 64 = .ok (.aload_n 0, 1) := by decide +kernel
theorem dX5_takeNumber_65 : decode cX5_takeNumber 65 = .ok (.getfield 48, 3) := by decide +kernel
theorem dX5_takeNumber_68 : decode cX5_takeNumber 68 = .ok (.aload_n 0, 1) := by decide +kernel
theorem dX5_takeNumber_69 : decode cX5_takeNumber 69 = .ok (.getfield 51, 3) := by decide +kernel
theorem dX5_takeNumber_72 : decode cX5_takeNumber 72 = .ok (.isub, 1) := by decide +kernel
theorem dX5_takeNumber_73 : decode cX5_takeNumber 73 = .ok (.iconst 4, 1) := by decide +kernel
theorem dX5_takeNumber_74 : decode cX5_takeNumber 74 = .ok (.if_icmp .gt 17, 3) := by decide +kernel
theorem dX5_takeNumber_77 : decode cX5_takeNumber 77 = .ok (.aload_n 0, 1) := by decide +kernel
theorem dX5_takeNumber_78 : decode cX5_takeNumber 78 = .ok (.aload_n 0, 1) := by decide +kernel
theorem dX5_takeNumber_79 : decode cX5_takeNumber 79 = .ok (.getfield 48, 3) := by decide +kernel
theorem dX5_takeNumber_82 : decode cX5_takeNumber 82 = .ok (.invokevirtual 252, 3) := by decide +kernel
theorem dX5_takeNumber_85 : decode cX5_takeNumber 85 = .ok (.invokestatic 258, 3) := by decide +kernel
theorem dX5_takeNumber_88 : decode cX5_takeNumber 88 = .ok (.ifCond .eq 9, 3) := by decide +kernel
theorem dX5_takeNumber_91 : decode cX5_takeNumber 91 = .ok (.sipush 259, 3) := by decide +kernel
theorem dX5_takeNumber_94 : decode cX5_takeNumber 94 = .ok (.goto 6, 3) := by decide +kernel
theorem dX5_takeNumber_97 : decode cX5_takeNumber 97 = .ok (.sipush 257, 3) := by decide +kernel
theorem dX5_takeNumber_100 : decode cX5_takeNumber 100 = .ok (.putfield 54, 3) := by decide +kernel
theorem dX5_takeNumber_103 : decode cX5_takeNumber 103 = .ok (.return_, 1) := by decide +kernel
theorem dX5_byteAt_0 : decode cX5_byteAt 0 = .ok (.iload_n 1, 1) := by decide +kernel
theorem dX5_byteAt_1 : decode cX5_byteAt 1 = .ok (.ifCond .lt 33, 3) := by decide +kernel
theorem dX5_byteAt_4 : decode cX5_byteAt 4 = .ok (.iload_n 1, 1) := by decide +kernel
theorem dX5_byteAt_5 : decode cX5_byteAt 5 = .ok (.aload_n 0, 1) := by decide +kernel
theorem dX5_byteAt_6 : decode cX5_byteAt 6 = .ok (.getfield 42, 3) := by decide +kernel
theorem dX5_byteAt_9 : decode cX5_byteAt 9 = .ok (.if_icmp .ge 25, 3) := by decide +kernel
theorem dX5_byteAt_12 : decode cX5_byteAt 12 = .ok (.iload_n 1, 1) := by decide +kernel
theorem dX5_byteAt_13 : decode cX5_byteAt 13 = .ok (.aload_n 0, 1) := by decide +kernel
theorem dX5_byteAt_14 : decode cX5_byteAt 14 = .ok (.getfield 38, 3) := by decide +kernel
theorem dX5_byteAt_17 : decode cX5_byteAt 17 = .ok (.arraylength, 1) := by decide +kernel
theorem dX5_byteAt_18 : decode cX5_byteAt 18 = .ok (.if_icmp .ge 16, 3) := by decide +kernel
theorem dX5_byteAt_21 : decode cX5_byteAt 21 = .ok (.aload_n 0, 1) := by decide +kernel
theorem dX5_byteAt_22 : decode cX5_byteAt 22 = .ok (.getfield 38, 3) := by decide +kernel
theorem dX5_byteAt_25 : decode cX5_byteAt 25 = .ok (.iload_n 1, 1) := by decide +kernel
theorem dX5_byteAt_26 : decode cX5_byteAt 26 = .ok (.baload, 1) := by decide +kernel
theorem dX5_byteAt_27 : decode cX5_byteAt 27 = .ok (.sipush 255, 3) := by decide +kernel
theorem dX5_byteAt_30 : decode cX5_byteAt 30 = .ok (.iand, 1) := by decide +kernel
theorem dX5_byteAt_31 : decode cX5_byteAt 31 = .ok (.goto 4, 3) := by decide +kernel
theorem dX5_byteAt_34 : decode cX5_byteAt 34 = .ok (.iconst (-1), 1) := by decide +kernel
theorem dX5_byteAt_35 : decode cX5_byteAt 35 = .ok (.ireturn, 1) := by decide +kernel
theorem dX5_isBlank_0 : decode cX5_isBlank 0 = .ok (.iload_n 0, 1) := by decide +kernel
theorem dX5_isBlank_1 : decode cX5_isBlank 1 = .ok (.bipush 32, 2) := by decide +kernel
theorem dX5_isBlank_3 : decode cX5_isBlank 3 = .ok (.if_icmp .eq 9, 3) := by decide +kernel
theorem dX5_isBlank_6 : decode cX5_isBlank 6 = .ok (.iload_n 0, 1) := by decide +kernel
theorem dX5_isBlank_7 : decode cX5_isBlank 7 = .ok (.bipush 10, 2) := by decide +kernel
theorem dX5_isBlank_9 : decode cX5_isBlank 9 = .ok (.if_icmp .ne 7, 3) := by decide +kernel
theorem dX5_isBlank_12 : decode cX5_isBlank 12 = .ok (.iconst 1, 1) := by decide +kernel
theorem dX5_isBlank_13 : decode cX5_isBlank 13 = .ok (.goto 4, 3) := by decide +kernel
theorem dX5_isBlank_16 : decode cX5_isBlank 16 = .ok (.iconst 0, 1) := by decide +kernel
theorem dX5_isBlank_17 : decode cX5_isBlank 17 = .ok (.ireturn, 1) := by decide +kernel
theorem dX5_isLetter_0 : decode cX5_isLetter 0 = .ok (.iload_n 0, 1) := by decide +kernel
theorem dX5_isLetter_1 : decode cX5_isLetter 1 = .ok (.bipush 97, 2) := by decide +kernel
theorem dX5_isLetter_3 : decode cX5_isLetter 3 = .ok (.if_icmp .lt 13, 3) := by decide +kernel
theorem dX5_isLetter_6 : decode cX5_isLetter 6 = .ok (.iload_n 0, 1) := by decide +kernel
theorem dX5_isLetter_7 : decode cX5_isLetter 7 = .ok (.bipush 122, 2) := by decide +kernel
theorem dX5_isLetter_9 : decode cX5_isLetter 9 = .ok (.if_icmp .gt 7, 3) := by decide +kernel
theorem dX5_isLetter_12 : decode cX5_isLetter 12 = .ok (.iconst 1, 1) := by decide +kernel
theorem dX5_isLetter_13 : decode cX5_isLetter 13 = .ok (.goto 4, 3) := by decide +kernel
theorem dX5_isLetter_16 : decode cX5_isLetter 16 = .ok (.iconst 0, 1) := by decide +kernel
theorem dX5_isLetter_17 : decode cX5_isLetter 17 = .ok (.ireturn, 1) := by decide +kernel
theorem dX5_isDigit_0 : decode cX5_isDigit 0 = .ok (.iload_n 0, 1) := by decide +kernel
theorem dX5_isDigit_1 : decode cX5_isDigit 1 = .ok (.bipush 48, 2) := by decide +kernel
theorem dX5_isDigit_3 : decode cX5_isDigit 3 = .ok (.if_icmp .lt 13, 3) := by decide +kernel
theorem dX5_isDigit_6 : decode cX5_isDigit 6 = .ok (.iload_n 0, 1) := by decide +kernel
theorem dX5_isDigit_7 : decode cX5_isDigit 7 = .ok (.bipush 57, 2) := by decide +kernel
theorem dX5_isDigit_9 : decode cX5_isDigit 9 = .ok (.if_icmp .gt 7, 3) := by decide +kernel
theorem dX5_isDigit_12 : decode cX5_isDigit 12 = .ok (.iconst 1, 1) := by decide +kernel
theorem dX5_isDigit_13 : decode cX5_isDigit 13 = .ok (.goto 4, 3) := by decide +kernel
theorem dX5_isDigit_16 : decode cX5_isDigit 16 = .ok (.iconst 0, 1) := by decide +kernel
theorem dX5_isDigit_17 : decode cX5_isDigit 17 = .ok (.ireturn, 1) := by decide +kernel
theorem iX5_byteAt_X5 : ∀ w ∈ wsX50, w ∈ wsX5_byteAt := (fun _ h => List.mem_cons_of_mem _ (List.mem_append_right _ h))
theorem iX5_indexOfWord_X5 : ∀ w ∈ wsX50, w ∈ wsX5_indexOfWord := (fun _ h => List.mem_cons_of_mem _ (List.mem_append_right _ h))
theorem iX5_takeWord_X5 : ∀ w ∈ wsX50, w ∈ wsX5_takeWord := (fun _ h => List.mem_cons_of_mem _ (List.mem_append_right _ h))
theorem iX5_takeNumber_X5 : ∀ w ∈ wsX50, w ∈ wsX5_takeNumber := (fun _ h => List.mem_cons_of_mem _ (List.mem_append_right _ h))
theorem iX5_advance_X5 : ∀ w ∈ wsX50, w ∈ wsX5_advance := (fun _ h => List.mem_cons_of_mem _ (List.mem_append_right _ h))
theorem iX5_fail_X5 : ∀ w ∈ wsX50, w ∈ wsX5_fail := (fun _ h => List.mem_cons_of_mem _ (List.mem_append_right _ h))
theorem iX5_refuse_X5 : ∀ w ∈ wsX50, w ∈ wsX5_refuse := (fun _ h => List.mem_cons_of_mem _ (List.mem_append_right _ h))
theorem iX5_readNewName_X5 : ∀ w ∈ wsX50, w ∈ wsX5_readNewName := (fun _ h => List.mem_cons_of_mem _ (List.mem_append_right _ h))
theorem iX5_readKnownName_X5 : ∀ w ∈ wsX50, w ∈ wsX5_readKnownName := (fun _ h => List.mem_cons_of_mem _ (List.mem_append_right _ h))
theorem iX5_readNumber_X5 : ∀ w ∈ wsX50, w ∈ wsX5_readNumber := (fun _ h => List.mem_cons_of_mem _ (List.mem_append_right _ h))
theorem iX5_follows_X5 : ∀ w ∈ wsX50, w ∈ wsX5_follows := (fun _ h => List.mem_cons_of_mem _ (List.mem_append_right _ h))
theorem iX5_readWord_X5 : ∀ w ∈ wsX50, w ∈ wsX5_readWord := (fun _ h => List.mem_cons_of_mem _ (List.mem_append_right _ h))
theorem iX5_readOnce_X5 : ∀ w ∈ wsX50, w ∈ wsX5_readOnce := (fun _ h => List.mem_cons_of_mem _ (List.mem_append_right _ h))
theorem iX5_readDraw_X5 : ∀ w ∈ wsX50, w ∈ wsX5_readDraw := (fun _ h => List.mem_cons_of_mem _ (List.mem_append_left _ (List.mem_append_left _ (List.mem_append_right _ h))))
theorem iX5_readDraw_X4 : ∀ w ∈ wsX40, w ∈ wsX5_readDraw := (fun _ h => List.mem_cons_of_mem _ (List.mem_append_left _ (List.mem_append_right _ h)))
theorem iX5_readDraw_X7 : ∀ w ∈ wsX70, w ∈ wsX5_readDraw := (fun _ h => List.mem_cons_of_mem _ (List.mem_append_right _ h))
theorem iX5_readDies_X5 : ∀ w ∈ wsX50, w ∈ wsX5_readDies := (fun _ h => List.mem_cons_of_mem _ (List.mem_append_left _ (List.mem_append_right _ h)))
theorem iX5_readDies_X4 : ∀ w ∈ wsX40, w ∈ wsX5_readDies := (fun _ h => List.mem_cons_of_mem _ (List.mem_append_right _ h))
theorem iX5_readCat_X5 : ∀ w ∈ wsX50, w ∈ wsX5_readCat := (fun _ h => List.mem_cons_of_mem _ (List.mem_append_left _ (List.mem_append_right _ h)))
theorem iX5_readCat_X4 : ∀ w ∈ wsX40, w ∈ wsX5_readCat := (fun _ h => List.mem_cons_of_mem _ (List.mem_append_right _ h))
theorem iX5_readRoom_X5 : ∀ w ∈ wsX50, w ∈ wsX5_readRoom := (fun _ h => List.mem_cons_of_mem _ (List.mem_append_left _ (List.mem_append_left _ (List.mem_append_right _ h))))
theorem iX5_readRoom_X4 : ∀ w ∈ wsX40, w ∈ wsX5_readRoom := (fun _ h => List.mem_cons_of_mem _ (List.mem_append_left _ (List.mem_append_right _ h)))
theorem iX5_readRoom_X7 : ∀ w ∈ wsX70, w ∈ wsX5_readRoom := (fun _ h => List.mem_cons_of_mem _ (List.mem_append_right _ h))
theorem iX5_readTenant_X5 : ∀ w ∈ wsX50, w ∈ wsX5_readTenant := (fun _ h => List.mem_cons_of_mem _ (List.mem_append_left _ (List.mem_append_left _ (List.mem_append_right _ h))))
theorem iX5_readTenant_X4 : ∀ w ∈ wsX40, w ∈ wsX5_readTenant := (fun _ h => List.mem_cons_of_mem _ (List.mem_append_left _ (List.mem_append_right _ h)))
theorem iX5_readTenant_X7 : ∀ w ∈ wsX70, w ∈ wsX5_readTenant := (fun _ h => List.mem_cons_of_mem _ (List.mem_append_right _ h))
theorem iX5_readUnit_X5 : ∀ w ∈ wsX50, w ∈ wsX5_readUnit := (fun _ h => List.mem_cons_of_mem _ (List.mem_append_left _ (List.mem_append_left _ (List.mem_append_right _ h))))
theorem iX5_readUnit_X4 : ∀ w ∈ wsX40, w ∈ wsX5_readUnit := (fun _ h => List.mem_cons_of_mem _ (List.mem_append_left _ (List.mem_append_right _ h)))
theorem iX5_readTerm_X5 : ∀ w ∈ wsX50, w ∈ wsX5_readTerm := (fun _ h => List.mem_cons_of_mem _ (List.mem_append_left _ (List.mem_append_left _ (List.mem_append_right _ h))))
theorem iX5_readTerm_X4 : ∀ w ∈ wsX40, w ∈ wsX5_readTerm := (fun _ h => List.mem_cons_of_mem _ (List.mem_append_left _ (List.mem_append_right _ h)))
theorem iX5_readSum_X5 : ∀ w ∈ wsX50, w ∈ wsX5_readSum := (fun _ h => List.mem_cons_of_mem _ (List.mem_append_left _ (List.mem_append_left _ (List.mem_append_right _ h))))
theorem iX5_readSum_X4 : ∀ w ∈ wsX40, w ∈ wsX5_readSum := (fun _ h => List.mem_cons_of_mem _ (List.mem_append_left _ (List.mem_append_right _ h)))
theorem iX5_readOne_X5 : ∀ w ∈ wsX50, w ∈ wsX5_readOne := (fun _ h => List.mem_cons_of_mem _ (List.mem_append_left _ (List.mem_append_left _ (List.mem_append_right _ h))))
theorem iX5_readOne_X4 : ∀ w ∈ wsX40, w ∈ wsX5_readOne := (fun _ h => List.mem_cons_of_mem _ (List.mem_append_left _ (List.mem_append_right _ h)))
theorem iX5_readBoth_X5 : ∀ w ∈ wsX50, w ∈ wsX5_readBoth := (fun _ h => List.mem_cons_of_mem _ (List.mem_append_left _ (List.mem_append_left _ (List.mem_append_right _ h))))
theorem iX5_readBoth_X4 : ∀ w ∈ wsX40, w ∈ wsX5_readBoth := (fun _ h => List.mem_cons_of_mem _ (List.mem_append_left _ (List.mem_append_right _ h)))
theorem iX5_readEither_X5 : ∀ w ∈ wsX50, w ∈ wsX5_readEither := (fun _ h => List.mem_cons_of_mem _ (List.mem_append_left _ (List.mem_append_left _ (List.mem_append_right _ h))))
theorem iX5_readEither_X4 : ∀ w ∈ wsX40, w ∈ wsX5_readEither := (fun _ h => List.mem_cons_of_mem _ (List.mem_append_left _ (List.mem_append_right _ h)))
theorem iX5_readParentheses_X5 : ∀ w ∈ wsX50, w ∈ wsX5_readParentheses := (fun _ h => List.mem_cons_of_mem _ (List.mem_append_left _ (List.mem_append_left _ (List.mem_append_right _ h))))
theorem iX5_readParentheses_X4 : ∀ w ∈ wsX40, w ∈ wsX5_readParentheses := (fun _ h => List.mem_cons_of_mem _ (List.mem_append_left _ (List.mem_append_right _ h)))
theorem iX5_readLine_X5 : ∀ w ∈ wsX50, w ∈ wsX5_readLine := (fun _ h => List.mem_cons_of_mem _ (List.mem_append_left _ (List.mem_append_left _ (List.mem_append_left _ (List.mem_append_right _ h)))))
theorem iX5_finish_X5 : ∀ w ∈ wsX50, w ∈ wsX5_finish := (fun _ h => List.mem_cons_of_mem _ (List.mem_append_left _ (List.mem_append_left _ (List.mem_append_left _ (List.mem_append_right _ h)))))
theorem iX5_finish_X4 : ∀ w ∈ wsX40, w ∈ wsX5_finish := (fun _ h => List.mem_cons_of_mem _ (List.mem_append_left _ (List.mem_append_left _ (List.mem_append_right _ h))))
theorem iX5_finish_X7 : ∀ w ∈ wsX70, w ∈ wsX5_finish := (fun _ h => List.mem_cons_of_mem _ (List.mem_append_left _ (List.mem_append_right _ h)))
theorem iX5_read_X5 : ∀ w ∈ wsX50, w ∈ wsX5_read := (fun _ h => List.mem_cons_of_mem _ (List.mem_append_left _ (List.mem_append_left _ (List.mem_append_left _ (List.mem_append_right _ h)))))
