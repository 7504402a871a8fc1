set_option maxRecDepth 20000 in
theorem gX9_will_X9_keepNow : GoodIn wsX9_will (wsV RX9 491 RX9 yX9_keepNow wsX9_keepNow) := goodIn_app (goodIn_r _ [19, 20, 21, 5] rfl (by decide +kernel)) ggX9_will_X9_keepNow
set_option maxRecDepth 20000 in
theorem ggX9_will_X9_goInEarnest : GoodIn wsX9_will wsX9_goInEarnest := goodIn_r _ [27, 1, 28, 12, 29, 30, 31, 5, 32, 33, 34, 35, 36, 7, 8, 9, 10, 11, 37, 38, 39, 40, 2, 3, 4, 6, 13, 14, 15, 41, 42, 43, 44, 45, 46, 47, 48, 49, 50, 51, 52, 53, 54, 55, 56, 57, 58, 59, 60, 61, 62, 63, 64, 65, 66, 67, 68, 69, 70, 71, 72, 73, 74, 75, 76, 77, 78, 79, 80, 81, 82, 83, 84, 85, 86, 87, 88, 89, 90, 91, 92, 93, 94, 95, 96, 97, 98, 99, 100, 101, 102, 103, 104, 105, 106, 107, 108, 109, 110, 111, 112, 113, 114, 115, 116, 117, 118, 119, 120, 121, 122, 123, 124, 125, 126, 127, 128, 129, 130, 131, 132, 133, 134, 139, 140, 141, 142, 143, 144, 145, 146, 147, 148, 149, 150, 151, 152, 153, 154, 155, 156, 157, 158, 159, 160, 161, 162, 163, 164, 165, 166, 167, 168, 169, 170, 171, 172, 173, 174, 175, 176, 177, 178, 179, 180, 181, 182, 183, 184, 185, 186, 187, 188, 189, 190, 191, 192, 193, 194, 195, 196, 197, 198, 199, 200, 201, 202, 203, 204, 205] rfl (by decide +kernel)
set_option maxRecDepth 20000 in
theorem gX9_will_X9_goInEarnest : GoodIn wsX9_will (wsV RX9 476 RX9 yX9_goInEarnest wsX9_goInEarnest) := goodIn_app (goodIn_r _ [24, 25, 26, 5] rfl (by decide +kernel)) ggX9_will_X9_goInEarnest
set_option maxRecDepth 20000 in
theorem ggX9_will_X9_goQuarter : GoodIn wsX9_will wsX9_goQuarter := goodIn_r _ [32, 1, 33, 34, 35, 5, 36, 7, 8, 9, 10, 11, 12, 37, 38, 39, 40, 2, 3, 4, 6, 13, 14, 15, 41, 42, 43, 44, 45, 46, 47, 48, 49, 50, 51, 52, 53, 54, 55, 56, 57, 58, 59, 60, 61, 62, 63, 64, 65, 66, 67, 68, 69, 70, 71, 72, 73, 74, 75, 76, 77, 78, 79, 80, 81, 82, 83, 84, 85, 86, 87, 88, 89, 90, 91, 92, 93, 94, 95, 96, 97, 98, 99, 100, 101, 102, 103, 104, 105, 106, 107, 108, 109, 110, 111, 112, 113, 114, 115, 116, 117, 139, 140, 141, 142, 143, 144, 145, 146, 147, 148, 149, 150, 151, 152, 153, 154, 155, 156, 157, 158, 159, 160, 161, 162, 163, 164, 165, 166, 167, 168, 169, 170, 171, 172, 173, 174, 175, 176, 177, 178, 179, 180, 181, 182, 183, 184, 185, 186, 187, 188, 189, 190, 191, 192, 193, 194, 195, 196, 197, 198, 199, 200, 201, 202, 203, 204, 205] rfl (by decide +kernel)
set_option maxRecDepth 20000 in
theorem gX9_will_X9_goQuarter : GoodIn wsX9_will (wsV RX9 450 RX9 yX9_goQuarter wsX9_goQuarter) := goodIn_app (goodIn_r _ [29, 30, 31, 5] rfl (by decide +kernel)) ggX9_will_X9_goQuarter
set_option maxRecDepth 20000 in
theorem ggX9_will_X9_bringBack : GoodIn wsX9_will wsX9_bringBack := goodIn_r _ [138, 1, 23, 139, 140, 141, 142, 143, 144, 145, 146, 147, 148, 149, 150, 151, 152, 153, 154, 155, 156, 157, 158, 159, 160, 161, 162, 163, 164, 165, 166, 167, 168, 169, 170, 171, 172, 173, 174, 175, 176, 177, 178, 179, 180, 181, 182, 183, 184, 185, 186, 187, 188, 189, 190, 191, 192, 193, 194, 195, 196, 197, 198, 199, 200, 201, 202, 203, 204, 205] rfl (by decide +kernel)
set_option maxRecDepth 20000 in
theorem gX9_will_X9_bringBack : GoodIn wsX9_will (wsV RX9 494 RX9 yX9_bringBack wsX9_bringBack) := goodIn_app (goodIn_r _ [135, 136, 137, 5] rfl (by decide +kernel)) ggX9_will_X9_bringBack
theorem dX9_will_0 : decode cX9_will 0 = .ok (.aload_n 0, 1) := by decide +kernel
theorem dX9_will_1 : decode cX9_will 1 = .ok (.iload_n 1, 1) := by decide +kernel
theorem dX9_will_2 : decode cX9_will 2 = .ok (.invokevirtual 386, 3) := by decide +kernel
theorem dX9_will_5 : decode cX9_will 5 = .ok (.ifCond .eq 19, 3) := by decide +kernel
theorem dX9_will_8 : decode cX9_will 8 = .ok (.iload_n 2, 1) := by decide +kernel
theorem dX9_will_9 : decode cX9_will 9 = .ok (.invokestatic 488, 3) := by decide +kernel
theorem dX9_will_12 : decode cX9_will 12 = .ok (.ifCond .eq 12, 3) := by decide +kernel
theorem dX9_will_15 : decode cX9_will 15 = .ok (.iload_n 3, 1) := by decide +kernel
theorem dX9_will_16 : decode cX9_will 16 = .ok (.iconst 0, 1) := by decide +kernel
theorem dX9_will_17 : decode cX9_will 17 = .ok (.iconst 1, 1) := by decide +kernel
theorem dX9_will_18 : decode cX9_will 18 = .ok (.invokestatic 376, 3) := by decide +kernel
theorem dX9_will_21 : decode cX9_will 21 = .ok (.ifCond .ne 6, 3) := by decide +kernel
theorem dX9_will_24 : decode cX9_will 24 = .ok (.bipush (-2), 2) := by decide +kernel
theorem dX9_will_26 : decode cX9_will 26 = .ok (.ireturn, 1) := by decide +kernel
theorem dX9_will_27 : decode cX9_will 27 = .ok (.aload_n 0, 1) := by decide +kernel
theorem dX9_will_28 : decode cX9_will 28 = .ok (.invokevirtual 491, 3) := by decide +kernel
theorem dX9_will_31 : decode cX9_will 31 = .ok (.iconst 0, 1) := by decide +kernel
theorem dX9_will_32 : decode cX9_will 32 = .ok (.istore 4, 2) := by decide +kernel
theorem dX9_will_34 : decode cX9_will 34 = .ok (.iconst 0, 1) := by decide +kernel
theorem dX9_will_35 : decode cX9_will 35 = .ok (.istore 5, 2) := by decide +kernel
theorem dX9_will_37 : decode cX9_will 37 = .ok (.iload 5, 2) := by decide +kernel
theorem dX9_will_39 : decode cX9_will 39 = .ok (.iload_n 2, 1) := by decide +kernel
theorem dX9_will_40 : decode cX9_will 40 = .ok (.if_icmp .ge 27, 3) := by decide +kernel
theorem dX9_will_43 : decode cX9_will 43 = .ok (.iload_n 3, 1) := by decide +kernel
theorem dX9_will_44 : decode cX9_will 44 = .ok (.iconst 1, 1) := by decide +kernel
theorem dX9_will_45 : decode cX9_will 45 = .ok (.if_icmp .ne 10, 3) := by decide +kernel
theorem dX9_will_48 : decode cX9_will 48 = .ok (.aload_n 0, 1) := by decide +kernel
theorem dX9_will_49 : decode cX9_will 49 = .ok (.invokevirtual 476, 3) := by decide +kernel
theorem dX9_will_52 : decode cX9_will 52 = .ok (.goto 7, 3) := by decide +kernel
theorem dX9_will_55 : decode cX9_will 55 = .ok (.aload_n 0, 1) := by decide +kernel
theorem dX9_will_56 : decode cX9_will 56 = .ok (.invokevirtual 450, 3) := by decide +kernel
theorem dX9_will_59 : decode cX9_will 59 = .ok (.istore 4, 2) := by decide +kernel
theorem dX9_will_61 : decode cX9_will 61 = .ok (.iinc 5 1, 3) := by decide +kernel
theorem dX9_will_64 : decode cX9_will 64 = .ok (.goto (-27), 3) := by decide +kernel
theorem dX9_will_67 : decode cX9_will 67 = .ok (.aload_n 0, 1) := by decide +kernel
theorem dX9_will_68 : decode cX9_will 68 = .ok (.getfield 94, 3) := by decide +kernel
theorem dX9_will_71 : decode cX9_will 71 = .ok (.iconst 0, 1) := by decide +kernel
theorem dX9_will_72 : decode cX9_will 72 = .ok (.iload_n 1, 1) := by decide +kernel
theorem dX9_will_73 : decode cX9_will 73 = .ok (.iadd, 1) := by decide +kernel
theorem dX9_will_74 : decode cX9_will 74 = .ok (.iaload, 1) := by decide +kernel
theorem dX9_will_75 : decode cX9_will 75 = .ok (.istore 5, 2) := by decide +kernel
theorem dX9_will_77 : decode cX9_will 77 = .ok (.aload_n 0, 1) := by decide +kernel
theorem dX9_will_78 : decode cX9_will 78 = .ok (.invokevirtual 494, 3) := by decide +kernel
theorem dX9_will_81 : decode cX9_will 81 = .ok (.iload 5, 2) := by decide +kernel
theorem dX9_will_83 : decode cX9_will 83 = .ok (.ireturn, 1) := by decide +kernel
set_option maxRecDepth 20000 in
theorem ggX9_outBehind_X9_isOut : GoodIn wsX9_outBehind wsX9_isOut := goodIn_r _ [5, 6, 110, 111, 112, 113, 114, 115, 116, 117, 118, 119, 120, 121, 122, 123, 124, 125, 126, 127, 128, 129, 130, 131, 132, 133, 134, 135, 136, 137, 138, 139, 140, 141, 142, 143, 144, 145, 146, 147, 148, 149, 150, 151, 152, 153, 154, 155, 156, 157, 158, 159, 160, 161, 162, 163, 164, 165, 166, 167, 168, 169, 170, 171, 172, 173, 174, 175, 176] rfl (by decide +kernel)
set_option maxRecDepth 20000 in
theorem gX9_outBehind_X9_isOut : GoodIn wsX9_outBehind (wsV RX9 389 RX9 yX9_isOut wsX9_isOut) := goodIn_app (goodIn_r _ [1, 2, 3, 4] rfl (by decide +kernel)) ggX9_outBehind_X9_isOut
set_option maxRecDepth 20000 in
theorem ggX9_outBehind_X9_goQuarter : GoodIn wsX9_outBehind wsX9_goQuarter := goodIn_r _ [10, 6, 11, 12, 13, 4, 14, 15, 16, 17, 18, 19, 20, 21, 22, 23, 24, 25, 26, 27, 28, 29, 30, 31, 1, 2, 3, 5, 32, 33, 34, 35, 36, 37, 38, 39, 40, 41, 42, 43, 44, 45, 46, 47, 48, 49, 50, 51, 52, 53, 54, 55, 56, 57, 58, 59, 60, 61, 62, 63, 64, 65, 66, 67, 68, 69, 70, 71, 72, 73, 74, 75, 76, 77, 78, 79, 80, 81, 82, 83, 84, 85, 86, 87, 88, 89, 90, 91, 92, 93, 94, 95, 96, 97, 98, 99, 100, 101, 102, 103, 104, 110, 111, 112, 113, 114, 115, 116, 117, 118, 119, 120, 121, 122, 123, 124, 125, 126, 127, 128, 129, 130, 131, 132, 133, 134, 135, 136, 137, 138, 139, 140, 141, 142, 143, 144, 145, 146, 147, 148, 149, 150, 151, 152, 153, 154, 155, 156, 157, 158, 159, 160, 161, 162, 163, 164, 165, 166, 167, 168, 169, 170, 171, 172, 173, 174, 175, 176] rfl (by decide +kernel)
set_option maxRecDepth 20000 in
theorem gX9_outBehind_X9_goQuarter : GoodIn wsX9_outBehind (wsV RX9 450 RX9 yX9_goQuarter wsX9_goQuarter) := goodIn_app (goodIn_r _ [7, 8, 9, 4] rfl (by decide +kernel)) ggX9_outBehind_X9_goQuarter
set_option maxRecDepth 20000 in
theorem ggX9_outBehind_X9_bringBack : GoodIn wsX9_outBehind wsX9_bringBack := goodIn_r _ [108, 6, 109, 110, 111, 112, 113, 114, 115, 116, 117, 118, 119, 120, 121, 122, 123, 124, 125, 126, 127, 128, 129, 130, 131, 132, 133, 134, 135, 136, 137, 138, 139, 140, 141, 142, 143, 144, 145, 146, 147, 148, 149, 150, 151, 152, 153, 154, 155, 156, 157, 158, 159, 160, 161, 162, 163, 164, 165, 166, 167, 168, 169, 170, 171, 172, 173, 174, 175, 176] rfl (by decide +kernel)
set_option maxRecDepth 20000 in
theorem gX9_outBehind_X9_bringBack : GoodIn wsX9_outBehind (wsV RX9 494 RX9 yX9_bringBack wsX9_bringBack) := goodIn_app (goodIn_r _ [105, 106, 107, 4] rfl (by decide +kernel)) ggX9_outBehind_X9_bringBack
theorem dX9_outBehind_0 : decode cX9_outBehind 0 = .ok (.iconst 0, 1) := by decide +kernel
theorem dX9_outBehind_1 : decode cX9_outBehind 1 = .ok (.istore_n 2, 1) := by decide +kernel
theorem dX9_outBehind_2 : decode cX9_outBehind 2 = .ok (.iload_n 2, 1) := by decide +kernel
theorem dX9_outBehind_3 : decode cX9_outBehind 3 = .ok (.bipush 99, 2) := by decide +kernel
theorem dX9_outBehind_5 : decode cX9_outBehind 5 = .ok (.if_icmp .gt 22, 3) := by decide +kernel
theorem dX9_outBehind_8 : decode cX9_outBehind 8 = .ok (.aload_n 0, 1) := by decide +kernel
theorem dX9_outBehind_9 : decode cX9_outBehind 9 = .ok (.iload_n 1, 1) := by decide +kernel
theorem dX9_outBehind_10 : decode cX9_outBehind 10 = .ok (.invokevirtual 389, 3) := by decide +kernel
theorem dX9_outBehind_13 : decode cX9_outBehind 13 = .ok (.ifCond .ne 14, 3) := by decide +kernel
theorem dX9_outBehind_16 : decode cX9_outBehind 16 = .ok (.aload_n 0, 1) := by decide +kernel
theorem dX9_outBehind_17 : decode cX9_outBehind 17 = .ok (.invokevirtual 450, 3) := by decide +kernel
theorem dX9_outBehind_20 : decode cX9_outBehind 20 = .ok (.istore_n 3, 1) := by decide +kernel
theorem dX9_outBehind_21 : decode cX9_outBehind 21 = .ok (.iinc 2 1, 3) := by decide +kernel
theorem dX9_outBehind_24 : decode cX9_outBehind 24 = .ok (.goto (-22), 3) := by decide +kernel
theorem dX9_outBehind_27 : decode cX9_outBehind 27 = .ok (.aload_n 0, 1) := by decide +kernel
theorem dX9_outBehind_28 : decode cX9_outBehind 28 = .ok (.invokevirtual 494, 3) := by decide +kernel
theorem dX9_outBehind_31 : decode cX9_outBehind 31 = .ok (.iload_n 2, 1) := by decide +kernel
theorem dX9_outBehind_32 : decode cX9_outBehind 32 = .ok (.bipush 99, 2) := by decide +kernel
theorem dX9_outBehind_34 : decode cX9_outBehind 34 = .ok (.if_icmp .gt 7, 3) := by decide +kernel
theorem dX9_outBehind_37 : decode cX9_outBehind 37 = .ok (.iload_n 2, 1) := by decide +kernel
theorem dX9_outBehind_38 : decode cX9_outBehind 38 = .ok (.goto 4, 3) := by decide +kernel
theorem dX9_outBehind_41 : decode cX9_outBehind 41 = .ok (.iconst (-1), 1) := by decide +kernel
theorem dX9_outBehind_42 : decode cX9_outBehind 42 = .ok (.ireturn, 1) := by decide +kernel
set_option maxRecDepth 20000 in
theorem ggX9_lasts_X9_isTenant : GoodIn wsX9_lasts wsX9_isTenant := goodIn_r _ [5, 6, 7, 8, 4, 9, 10, 11, 12, 13, 14, 118, 119, 120, 121, 122, 123, 124, 125, 126, 127, 128, 129, 130, 131, 132, 133, 134, 135, 136, 137, 138, 139, 140, 141, 142, 143, 144, 145, 146, 147, 148, 149, 150, 151, 152, 153, 154, 155, 156, 157, 158, 159, 160, 161, 162, 163, 164, 165, 166, 167, 168, 169, 170, 171, 172, 173, 174, 175, 176, 177, 178, 179, 180, 181, 182, 183, 184] rfl (by decide +kernel)
set_option maxRecDepth 20000 in
theorem gX9_lasts_X9_isTenant : GoodIn wsX9_lasts (wsV RX9 386 RX9 yX9_isTenant wsX9_isTenant) := goodIn_app (goodIn_r _ [1, 2, 3, 4] rfl (by decide +kernel)) ggX9_lasts_X9_isTenant
set_option maxRecDepth 20000 in
theorem ggX9_lasts_X9_keepNow : GoodIn wsX9_lasts wsX9_keepNow := goodIn_r _ [18, 19, 20, 118, 119, 120, 121, 122, 123, 124, 125, 126, 127, 128, 129, 130, 131, 132, 133, 134, 135, 136, 137, 138, 139, 140, 141, 142, 143, 144, 145, 146, 147, 148, 149, 150, 151, 152, 153, 154, 155, 156, 157, 158, 159, 160, 161, 162, 163, 164, 165, 166, 167, 168, 169, 170, 171, 172, 173, 174, 175, 176, 177, 178, 179, 180, 181, 182, 183, 184] rfl (by decide +kernel)
set_option maxRecDepth 20000 in
theorem gX9_lasts_X9_keepNow : GoodIn wsX9_lasts (wsV RX9 491 RX9 yX9_keepNow wsX9_keepNow) := goodIn_app (goodIn_r _ [15, 16, 17, 4] rfl (by decide +kernel)) ggX9_lasts_X9_keepNow
set_option maxRecDepth 20000 in
theorem ggX9_lasts_X9_outBehind : GoodIn wsX9_lasts wsX9_outBehind := goodIn_r _ [24, 25, 26, 27, 4, 28, 20, 29, 30, 31, 32, 33, 34, 35, 36, 6, 7, 8, 9, 10, 11, 37, 38, 39, 40, 1, 2, 3, 5, 12, 13, 14, 41, 42, 43, 44, 45, 46, 47, 48, 49, 50, 51, 52, 53, 54, 55, 56, 57, 58, 59, 60, 61, 62, 63, 64, 65, 66, 67, 68, 69, 70, 71, 72, 73, 74, 75, 76, 77, 78, 79, 80, 81, 82, 83, 84, 85, 86, 87, 88, 89, 90, 91, 92, 93, 94, 95, 96, 97, 98, 99, 100, 101, 102, 103, 104, 105, 106, 107, 108, 109, 110, 111, 112, 113, 114, 115, 116, 117, 19, 118, 119, 120, 121, 122, 123, 124, 125, 126, 127, 128, 129, 130, 131, 132, 133, 134, 135, 136, 137, 138, 139, 140, 141, 142, 143, 144, 145, 146, 147, 148, 149, 150, 151, 152, 153, 154, 155, 156, 157, 158, 159, 160, 161, 162, 163, 164, 165, 166, 167, 168, 169, 170, 171, 172, 173, 174, 175, 176, 177, 178, 179, 180, 181, 182, 183, 184] rfl (by decide +kernel)
set_option maxRecDepth 20000 in
theorem gX9_lasts_X9_outBehind : GoodIn wsX9_lasts (wsV RX9 497 RX9 yX9_outBehind wsX9_outBehind) := goodIn_app (goodIn_r _ [21, 22, 23, 4] rfl (by decide +kernel)) ggX9_lasts_X9_outBehind
theorem dX9_lasts_0 : decode cX9_lasts 0 = .ok (.aload_n 0, 1) := by decide +kernel
theorem dX9_lasts_1 : decode cX9_lasts 1 = .ok (.iload_n 1, 1) := by decide +kernel
theorem dX9_lasts_2 : decode cX9_lasts 2 = .ok (.invokevirtual 386, 3) := by decide +kernel
theorem dX9_lasts_5 : decode cX9_lasts 5 = .ok (.ifCond .ne 5, 3) := by decide +kernel
theorem dX9_lasts_8 : decode cX9_lasts 8 = .ok (.iconst (-1), 1) := by decide +kernel
theorem dX9_lasts_9 : decode cX9_lasts 9 = .ok (.ireturn, 1) := by decide +kernel
theorem dX9_lasts_10 : decode cX9_lasts 10 = .ok (.aload_n 0, 1) := by decide +kernel
theorem dX9_lasts_11 : decode cX9_lasts 11 = .ok (.invokevirtual 491, 3) := by decide +kernel
theorem dX9_lasts_14 : decode cX9_lasts 14 = .ok (.aload_n 0, 1) := by decide +kernel
theorem dX9_lasts_15 : decode cX9_lasts 15 = .ok (.iload_n 1, 1) := by decide +kernel
theorem dX9_lasts_16 : decode cX9_lasts 16 = .ok (.invokevirtual 497, 3) := by decide +kernel
theorem dX9_lasts_19 : decode cX9_lasts 19 = .ok (.ireturn, 1) := by decide +kernel
set_option maxRecDepth 20000 in
theorem ggX9_outAfter_X9_goQuarter : GoodIn wsX9_outAfter wsX9_goQuarter := goodIn_r _ [5, 6, 7, 8, 9, 4, 10, 11, 12, 13, 14, 15, 16, 17, 18, 19, 20, 21, 22, 23, 24, 25, 26, 27, 28, 29, 30, 31, 32, 33, 34, 35, 36, 37, 38, 39, 40, 41, 42, 43, 44, 45, 46, 47, 48, 49, 50, 51, 52, 53, 54, 55, 56, 57, 58, 59, 60, 61, 62, 63, 64, 65, 66, 67, 68, 69, 70, 71, 72, 73, 74, 75, 76, 77, 78, 79, 80, 81, 82, 83, 84, 85, 86, 87, 88, 89, 90, 91, 92, 93, 94, 95, 96, 97, 98, 99, 100, 101, 102, 103, 104, 110, 111, 112, 113, 114, 115, 116, 117, 118, 119, 120, 121, 122, 123, 124, 125, 126, 127, 128, 129, 130, 131, 132, 133, 134, 135, 136, 137, 138, 139, 140, 141, 142, 143, 144, 145, 146, 147, 148, 149, 150, 151, 152, 153, 154, 155, 156, 157, 158, 159, 160, 161, 162, 163, 164, 165, 166, 167, 168, 169, 170, 171, 172, 173, 174, 175, 176] rfl (by decide +kernel)
set_option maxRecDepth 20000 in
theorem gX9_outAfter_X9_goQuarter : GoodIn wsX9_outAfter (wsV RX9 450 RX9 yX9_goQuarter wsX9_goQuarter) := goodIn_app (goodIn_r _ [1, 2, 3, 4] rfl (by decide +kernel)) ggX9_outAfter_X9_goQuarter
set_option maxRecDepth 20000 in
theorem ggX9_outAfter_X9_many : GoodIn wsX9_outAfter wsX9_many := goodIn_r _ [14, 15, 16, 110, 111, 112, 113, 114, 115, 116, 117, 118, 119, 120, 121, 122, 123, 124, 125, 126, 127, 128, 129, 130, 131, 132, 133, 134, 135, 136, 137, 138, 139, 140, 141, 142, 143, 144, 145, 146, 147, 148, 149, 150, 151, 152, 153, 154, 155, 156, 157, 158, 159, 160, 161, 162, 163, 164, 165, 166, 167, 168, 169, 170, 171, 172, 173, 174, 175, 176] rfl (by decide +kernel)
set_option maxRecDepth 20000 in
theorem gX9_outAfter_X9_many : GoodIn wsX9_outAfter (wsV RX9 373 RX9 yX9_many wsX9_many) := goodIn_app (goodIn_r _ [11, 12, 13, 4] rfl (by decide +kernel)) ggX9_outAfter_X9_many
set_option maxRecDepth 20000 in
theorem ggX9_outAfter_X9_isOut : GoodIn wsX9_outAfter wsX9_isOut := goodIn_r _ [31, 6, 110, 111, 112, 113, 114, 115, 116, 117, 118, 119, 120, 121, 122, 123, 124, 125, 126, 127, 128, 129, 130, 131, 132, 133, 134, 135, 136, 137, 138, 139, 140, 141, 142, 143, 144, 145, 146, 147, 148, 149, 150, 151, 152, 153, 154, 155, 156, 157, 158, 159, 160, 161, 162, 163, 164, 165, 166, 167, 168, 169, 170, 171, 172, 173, 174, 175, 176] rfl (by decide +kernel)
set_option maxRecDepth 20000 in
theorem gX9_outAfter_X9_isOut : GoodIn wsX9_outAfter (wsV RX9 389 RX9 yX9_isOut wsX9_isOut) := goodIn_app (goodIn_r _ [28, 29, 30, 4] rfl (by decide +kernel)) ggX9_outAfter_X9_isOut
set_option maxRecDepth 20000 in
theorem ggX9_outAfter_X9_bringBack : GoodIn wsX9_outAfter wsX9_bringBack := goodIn_r _ [108, 6, 109, 110, 111, 112, 113, 114, 115, 116, 117, 118, 119, 120, 121, 122, 123, 124, 125, 126, 127, 128, 129, 130, 131, 132, 133, 134, 135, 136, 137, 138, 139, 140, 141, 142, 143, 144, 145, 146, 147, 148, 149, 150, 151, 152, 153, 154, 155, 156, 157, 158, 159, 160, 161, 162, 163, 164, 165, 166, 167, 168, 169, 170, 171, 172, 173, 174, 175, 176] rfl (by decide +kernel)
set_option maxRecDepth 20000 in
theorem gX9_outAfter_X9_bringBack : GoodIn wsX9_outAfter (wsV RX9 494 RX9 yX9_bringBack wsX9_bringBack) := goodIn_app (goodIn_r _ [105, 106, 107, 4] rfl (by decide +kernel)) ggX9_outAfter_X9_bringBack
theorem dX9_outAfter_0 : decode cX9_outAfter 0 = .ok (.iconst 0, 1) := by decide +kernel
theorem dX9_outAfter_1 : decode cX9_outAfter 1 = .ok (.istore_n 2, 1) := by decide +kernel
theorem dX9_outAfter_2 : decode cX9_outAfter 2 = .ok (.iload_n 2, 1) := by decide +kernel
theorem dX9_outAfter_3 : decode cX9_outAfter 3 = .ok (.iload_n 1, 1) := by decide +kernel
theorem dX9_outAfter_4 : decode cX9_outAfter 4 = .ok (.if_icmp .ge 14, 3) := by decide +kernel
theorem dX9_outAfter_7 : decode cX9_outAfter 7 = .ok (.aload_n 0, 1) := by decide +kernel
theorem dX9_outAfter_8 : decode cX9_outAfter 8 = .ok (.invokevirtual 450, 3) := by decide +kernel
theorem dX9_outAfter_11 : decode cX9_outAfter 11 = .ok (.istore_n 3, 1) := by decide +kernel
theorem dX9_outAfter_12 : decode cX9_outAfter 12 = .ok (.iinc 2 1, 3) := by decide +kernel
theorem dX9_outAfter_15 : decode cX9_outAfter 15 = .ok (.goto (-13), 3) := by decide +kernel
theorem dX9_outAfter_18 : decode cX9_outAfter 18 = .ok (.iconst 0, 1) := by decide +kernel
theorem dX9_outAfter_19 : decode cX9_outAfter 19 = .ok (.istore_n 2, 1) := by decide +kernel
theorem dX9_outAfter_20 : decode cX9_outAfter 20 = .ok (.iconst 0, 1) := by decide +kernel
theorem dX9_outAfter_21 : decode cX9_outAfter 21 = .ok (.istore_n 3, 1) := by decide +kernel
theorem dX9_outAfter_22 : decode cX9_outAfter 22 = .ok (.iload_n 3, 1) := by decide +kernel
theorem dX9_outAfter_23 : decode cX9_outAfter 23 = .ok (.aload_n 0, 1) := by decide +kernel
theorem dX9_outAfter_24 : decode cX9_outAfter 24 = .ok (.invokevirtual 373, 3) := by decide +kernel
theorem dX9_outAfter_27 : decode cX9_outAfter 27 = .ok (.if_icmp .ge 25, 3) := by decide +kernel
theorem dX9_outAfter_30 : decode cX9_outAfter 30 = .ok (.iload_n 2, 1) := by decide +kernel
theorem dX9_outAfter_31 : decode cX9_outAfter 31 = .ok (.aload_n 0, 1) := by decide +kernel
theorem dX9_outAfter_32 : decode cX9_outAfter 32 = .ok (.iload_n 3, 1) := by decide +kernel
theorem dX9_outAfter_33 : decode cX9_outAfter 33 = .ok (.invokevirtual 389, 3) := by decide +kernel
theorem dX9_outAfter_36 : decode cX9_outAfter 36 = .ok (.ifCond .eq 7, 3) := by decide +kernel
theorem dX9_outAfter_39 : decode cX9_outAfter 39 = .ok (.iconst 1, 1) := by decide +kernel
theorem dX9_outAfter_40 : decode cX9_outAfter 40 = .ok (.goto 4, 3) := by decide +kernel
theorem dX9_outAfter_43 : decode cX9_outAfter 43 = .ok (.iconst 0, 1) := by decide +kernel
theorem dX9_outAfter_44 : decode cX9_outAfter 44 = .ok (.iadd, 1) := by decide +kernel
theorem dX9_outAfter_45 : decode cX9_outAfter 45 = .ok (.istore_n 2, 1) := by decide +kernel
theorem dX9_outAfter_46 : decode cX9_outAfter 46 = .ok (.iinc 3 1, 3) := by decide +kernel
theorem dX9_outAfter_49 : decode cX9_outAfter 49 = .ok (.goto (-27), 3) := by decide +kernel
theorem dX9_outAfter_52 : decode cX9_outAfter 52 = .ok (.aload_n 0, 1) := by decide +kernel
theorem dX9_outAfter_53 : decode cX9_outAfter 53 = .ok (.invokevirtual 494, 3) := by decide +kernel
theorem dX9_outAfter_56 : decode cX9_outAfter 56 = .ok (.iload_n 2, 1) := by decide +kernel
theorem dX9_outAfter_57 : decode cX9_outAfter 57 = .ok (.ireturn, 1) := by decide +kernel
set_option maxRecDepth 20000 in
theorem ggX9_housed_X9_isAhead : GoodIn wsX9_housed wsX9_isAhead := goodIn_r _ [4] rfl (by decide +kernel)
set_option maxRecDepth 20000 in
theorem gX9_housed_X9_isAhead : GoodIn wsX9_housed (va_wsS RX9 488 yX9_isAhead wsX9_isAhead) := goodIn_app (goodIn_r _ [1, 2, 3] rfl (by decide +kernel)) ggX9_housed_X9_isAhead
set_option maxRecDepth 20000 in
theorem ggX9_housed_X9_keepNow : GoodIn wsX9_housed wsX9_keepNow := goodIn_r _ [8, 9, 10, 121, 122, 123, 124, 125, 126, 127, 128, 129, 130, 131, 132, 133, 134, 135, 136, 137, 138, 139, 140, 141, 142, 143, 144, 145, 146, 147, 148, 149, 150, 151, 152, 153, 154, 155, 156, 157, 158, 159, 160, 161, 162, 163, 164, 165, 166, 167, 168, 169, 170, 171, 172, 173, 174, 175, 176, 177, 178, 179, 180, 181, 182, 183, 184, 185, 186, 187] rfl (by decide +kernel)
set_option maxRecDepth 20000 in
theorem gX9_housed_X9_keepNow : GoodIn wsX9_housed (wsV RX9 491 RX9 yX9_keepNow wsX9_keepNow) := goodIn_app (goodIn_r _ [5, 6, 7, 3] rfl (by decide +kernel)) ggX9_housed_X9_keepNow
set_option maxRecDepth 20000 in
theorem ggX9_housed_X9_many : GoodIn wsX9_housed wsX9_many := goodIn_r _ [14, 15, 16, 121, 122, 123, 124, 125, 126, 127, 128, 129, 130, 131, 132, 133, 134, 135, 136, 137, 138, 139, 140, 141, 142, 143, 144, 145, 146, 147, 148, 149, 150, 151, 152, 153, 154, 155, 156, 157, 158, 159, 160, 161, 162, 163, 164, 165, 166, 167, 168, 169, 170, 171, 172, 173, 174, 175, 176, 177, 178, 179, 180, 181, 182, 183, 184, 185, 186, 187] rfl (by decide +kernel)
set_option maxRecDepth 20000 in
theorem gX9_housed_X9_many : GoodIn wsX9_housed (wsV RX9 373 RX9 yX9_many wsX9_many) := goodIn_app (goodIn_r _ [11, 12, 13, 3] rfl (by decide +kernel)) ggX9_housed_X9_many
set_option maxRecDepth 20000 in
theorem ggX9_housed_X9_outAfter : GoodIn wsX9_housed wsX9_outAfter := goodIn_r _ [20, 21, 22, 23, 3, 24, 10, 25, 26, 27, 28, 11, 12, 13, 14, 15, 16, 29, 30, 31, 32, 33, 34, 35, 36, 37, 38, 39, 40, 41, 42, 43, 44, 45, 46, 47, 48, 49, 50, 51, 52, 53, 54, 55, 56, 57, 58, 59, 60, 61, 62, 63, 64, 65, 66, 67, 68, 69, 70, 71, 72, 73, 74, 75, 76, 77, 78, 79, 80, 81, 82, 83, 84, 85, 86, 87, 88, 89, 90, 91, 92, 93, 94, 95, 96, 97, 98, 99, 100, 101, 102, 103, 104, 105, 106, 107, 108, 109, 110, 111, 112, 113, 114, 115, 116, 117, 118, 119, 120, 9, 121, 122, 123, 124, 125, 126, 127, 128, 129, 130, 131, 132, 133, 134, 135, 136, 137, 138, 139, 140, 141, 142, 143, 144, 145, 146, 147, 148, 149, 150, 151, 152, 153, 154, 155, 156, 157, 158, 159, 160, 161, 162, 163, 164, 165, 166, 167, 168, 169, 170, 171, 172, 173, 174, 175, 176, 177, 178, 179, 180, 181, 182, 183, 184, 185, 186, 187] rfl (by decide +kernel)
set_option maxRecDepth 20000 in
theorem gX9_housed_X9_outAfter : GoodIn wsX9_housed (wsV RX9 500 RX9 yX9_outAfter wsX9_outAfter) := goodIn_app (goodIn_r _ [17, 18, 19, 3] rfl (by decide +kernel)) ggX9_housed_X9_outAfter
theorem dX9_housed_0 : decode cX9_housed 0 = .ok (.iload_n 1, 1) := by decide +kernel
theorem dX9_housed_1 : decode cX9_housed 1 = .ok (.invokestatic 488, 3) := by decide +kernel
theorem dX9_housed_4 : decode cX9_housed 4 = .ok (.ifCond .ne 5, 3) := by decide +kernel
theorem dX9_housed_7 : decode cX9_housed 7 = .ok (.iconst (-1), 1) := by decide +kernel
theorem dX9_housed_8 : decode cX9_housed 8 = .ok (.ireturn, 1) := by decide +kernel
theorem dX9_housed_9 : decode cX9_housed 9 = .ok (.aload_n 0, 1) := by decide +kernel
theorem dX9_housed_10 : decode cX9_housed 10 = .ok (.invokevirtual 491, 3) := by decide +kernel
theorem dX9_housed_13 : decode cX9_housed 13 = .ok (.aload_n 0, 1) := by decide +kernel
theorem dX9_housed_14 : decode cX9_housed 14 = .ok (.invokevirtual 373, 3) := by decide +kernel
theorem dX9_housed_17 : decode cX9_housed 17 = .ok (.aload_n 0, 1) := by decide +kernel
theorem dX9_housed_18 : decode cX9_housed 18 = .ok (.iload_n 1, 1) := by decide +kernel
theorem dX9_housed_19 : decode cX9_housed 19 = .ok (.invokevirtual 500, 3) := by decide +kernel
theorem dX9_housed_22 : decode cX9_housed 22 = .ok (.isub, 1) := by decide +kernel
theorem dX9_housed_23 : decode cX9_housed 23 = .ok (.ireturn, 1) := by decide +kernel
set_option maxRecDepth 20000 in
theorem ggX9_grief_X9_isCat : GoodIn wsX9_grief wsX9_isCat := goodIn_r _ [5, 6, 7, 8, 4, 9, 10, 11, 12, 13, 14, 139, 140, 141, 142, 143, 144, 145, 146, 147, 148, 149, 150, 151, 152, 153, 154, 155, 156, 157, 158, 159, 160, 161, 162, 163, 164, 165, 166, 167, 168, 169, 170, 171, 172, 173, 174, 175, 176, 177, 178, 179, 180, 181, 182, 183, 184, 185, 186, 187, 188, 189, 190, 191, 192, 193, 194, 195, 196, 197, 198, 199, 200, 201, 202, 203, 204, 205] rfl (by decide +kernel)
set_option maxRecDepth 20000 in
theorem gX9_grief_X9_isCat : GoodIn wsX9_grief (wsV RX9 456 RX9 yX9_isCat wsX9_isCat) := goodIn_app (goodIn_r _ [1, 2, 3, 4] rfl (by decide +kernel)) ggX9_grief_X9_isCat
set_option maxRecDepth 20000 in
theorem ggX9_grief_X9_lives : GoodIn wsX9_grief wsX9_lives := goodIn_r _ [18, 19, 20, 21, 4, 22, 139, 140, 141, 142, 143, 144, 145, 146, 147, 148, 149, 150, 151, 152, 153, 154, 155, 156, 157, 158, 159, 160, 161, 162, 163, 164, 165, 166, 167, 168, 169, 170, 171, 172, 173, 174, 175, 176, 177, 178, 179, 180, 181, 182, 183, 184, 185, 186, 187, 188, 189, 190, 191, 192, 193, 194, 195, 196, 197, 198, 199, 200, 201, 202, 203, 204, 205] rfl (by decide +kernel)
set_option maxRecDepth 20000 in
theorem gX9_grief_X9_lives : GoodIn wsX9_grief (wsV RX9 434 RX9 yX9_lives wsX9_lives) := goodIn_app (goodIn_r _ [15, 16, 17, 4] rfl (by decide +kernel)) ggX9_grief_X9_lives
set_option maxRecDepth 20000 in
theorem ggX9_grief_X9_isIn : GoodIn wsX9_grief wsX9_isIn := goodIn_r _ [14] rfl (by decide +kernel)
set_option maxRecDepth 20000 in
theorem gX9_grief_X9_isIn : GoodIn wsX9_grief (va_wsS RX9 376 yX9_isIn wsX9_isIn) := goodIn_app (goodIn_r _ [12, 13, 4] rfl (by decide +kernel)) ggX9_grief_X9_isIn
set_option maxRecDepth 20000 in
theorem ggX9_grief_X9_keepNow : GoodIn wsX9_grief wsX9_keepNow := goodIn_r _ [26, 27, 19, 139, 140, 141, 142, 143, 144, 145, 146, 147, 148, 149, 150, 151, 152, 153, 154, 155, 156, 157, 158, 159, 160, 161, 162, 163, 164, 165, 166, 167, 168, 169, 170, 171, 172, 173, 174, 175, 176, 177, 178, 179, 180, 181, 182, 183, 184, 185, 186, 187, 188, 189, 190, 191, 192, 193, 194, 195, 196, 197, 198, 199, 200, 201, 202, 203, 204, 205] rfl (by decide +kernel)
set_option maxRecDepth 20000 in
theorem gX9_grief_X9_keepNow : GoodIn wsX9_grief (wsV RX9 491 RX9 yX9_keepNow wsX9_keepNow) := goodIn_app (goodIn_r _ [23, 24, 25, 4] rfl (by decide +kernel)) ggX9_grief_X9_keepNow
set_option maxRecDepth 20000 in
theorem ggX9_grief_X9_outAfter : GoodIn wsX9_grief wsX9_outAfter := goodIn_r _ [31, 32, 33, 34, 4, 35, 19, 36, 37, 38, 39, 40, 41, 42, 43, 44, 11, 45, 46, 47, 48, 49, 50, 51, 52, 12, 13, 14, 53, 54, 55, 56, 57, 58, 59, 60, 61, 62, 63, 64, 65, 66, 67, 68, 69, 70, 71, 72, 73, 74, 75, 76, 77, 78, 79, 80, 81, 82, 83, 84, 85, 86, 6, 7, 8, 9, 10, 87, 88, 89, 90, 91, 92, 93, 94, 95, 96, 97, 98, 20, 21, 22, 99, 100, 101, 102, 103, 104, 105, 106, 107, 108, 109, 110, 111, 112, 113, 114, 115, 116, 117, 118, 119, 120, 121, 122, 123, 124, 125, 27, 139, 140, 141, 142, 143, 144, 145, 146, 147, 148, 149, 150, 151, 152, 153, 154, 155, 156, 157, 158, 159, 160, 161, 162, 163, 164, 165, 166, 167, 168, 169, 170, 171, 172, 173, 174, 175, 176, 177, 178, 179, 180, 181, 182, 183, 184, 185, 186, 187, 188, 189, 190, 191, 192, 193, 194, 195, 196, 197, 198, 199, 200, 201, 202, 203, 204, 205] rfl (by decide +kernel)
set_option maxRecDepth 20000 in
theorem gX9_grief_X9_outAfter : GoodIn wsX9_grief (wsV RX9 500 RX9 yX9_outAfter wsX9_outAfter) := goodIn_app (goodIn_r _ [28, 29, 30, 4] rfl (by decide +kernel)) ggX9_grief_X9_outAfter
set_option maxRecDepth 20000 in
theorem ggX9_grief_X9_goDie : GoodIn wsX9_grief wsX9_goDie := goodIn_r _ [129, 19, 91, 92, 93, 4, 94, 95, 11, 130, 131, 132, 133, 57, 58, 59, 60, 20, 21, 22, 134, 135, 136, 137, 138, 15, 16, 17, 18, 139, 140, 141, 142, 143, 144, 145, 146, 147, 148, 149, 150, 151, 152, 153, 154, 155, 156, 157, 158, 159, 160, 161, 162, 163, 164, 165, 166, 167, 168, 169, 170, 171, 172, 173, 174, 175, 176, 177, 178, 179, 180, 181, 182, 183, 184, 185, 186, 187, 188, 189, 190, 191, 192, 193, 194, 195, 196, 197, 198, 199, 200, 201, 202, 203, 204, 205] rfl (by decide +kernel)
set_option maxRecDepth 20000 in
theorem gX9_grief_X9_goDie : GoodIn wsX9_grief (wsV RX9 453 RX9 yX9_goDie wsX9_goDie) := goodIn_app (goodIn_r _ [126, 127, 128, 4] rfl (by decide +kernel)) ggX9_grief_X9_goDie
theorem dX9_grief_0 : decode cX9_grief 0 = .ok (.aload_n 0, 1) := by decide +kernel
theorem dX9_grief_1 : decode cX9_grief 1 = .ok (.iload_n 1, 1) := by decide +kernel
theorem dX9_grief_2 : decode cX9_grief 2 = .ok (.invokevirtual 456, 3) := by decide +kernel
theorem dX9_grief_5 : decode cX9_grief 5 = .ok (.ifCond .eq 21, 3) := by decide +kernel
theorem dX9_grief_8 : decode cX9_grief 8 = .ok (.aload_n 0, 1) := by decide +kernel
theorem dX9_grief_9 : decode cX9_grief 9 = .ok (.iload_n 1, 1) := by decide +kernel
theorem dX9_grief_10 : decode cX9_grief 10 = .ok (.invokevirtual 434, 3) := by decide +kernel
theorem dX9_grief_13 : decode cX9_grief 13 = .ok (.ifCond .eq 13, 3) := by decide +kernel
theorem dX9_grief_16 : decode cX9_grief 16 = .ok (.iload_n 2, 1) := by decide +kernel
theorem dX9_grief_17 : decode cX9_grief 17 = .ok (.iconst 0, 1) := by decide +kernel
theorem dX9_grief_18 : decode cX9_grief 18 = .ok (.bipush 20, 2) := by decide +kernel
theorem dX9_grief_20 : decode cX9_grief 20 = .ok (.invokestatic 376, 3) := by decide +kernel
theorem dX9_grief_23 : decode cX9_grief 23 = .ok (.ifCond .ne 7, 3) := by decide +kernel
theorem dX9_grief_26 : decode cX9_grief 26 = .ok (.sipush (-1000), 3) := by decide +kernel
theorem dX9_grief_29 : decode cX9_grief 29 = .ok (.ireturn, 1) := by decide +kernel
theorem dX9_grief_30 : decode cX9_grief 30 = .ok (.aload_n 0, 1) := by decide +kernel
theorem dX9_grief_31 : decode cX9_grief 31 = .ok (.invokevirtual 491, 3) := by decide +kernel
theorem dX9_grief_34 : decode cX9_grief 34 = .ok (.aload_n 0, 1) := by decide +kernel
theorem dX9_grief_35 : decode cX9_grief 35 = .ok (.iload_n 2, 1) := by decide +kernel
theorem dX9_grief_36 : decode cX9_grief 36 = .ok (.invokevirtual 500, 3) := by decide +kernel
theorem dX9_grief_39 : decode cX9_grief 39 = .ok (.istore_n 3, 1) := by decide +kernel
theorem dX9_grief_40 : decode cX9_grief 40 = .ok (.aload_n 0, 1) := by decide +kernel
theorem dX9_grief_41 : decode cX9_grief 41 = .ok (.iconst 1, 1) := by decide +kernel
theorem dX9_grief_42 : decode cX9_grief 42 = .ok (.iload_n 1, 1) := by decide +kernel
theorem dX9_grief_43 : decode cX9_grief 43 = .ok (.ishl, 1) := by decide +kernel
theorem dX9_grief_44 : decode cX9_grief 44 = .ok (.invokevirtual 453, 3) := by decide +kernel
theorem dX9_grief_47 : decode cX9_grief 47 = .ok (.aload_n 0, 1) := by decide +kernel
theorem dX9_grief_48 : decode cX9_grief 48 = .ok (.iload_n 2, 1) := by decide +kernel
theorem dX9_grief_49 : decode cX9_grief 49 = .ok (.invokevirtual 500, 3) := by decide +kernel
theorem dX9_grief_52 : decode cX9_grief 52 = .ok (.iload_n 3, 1) := by decide +kernel
theorem dX9_grief_53 : decode cX9_grief 53 = .ok (.isub, 1) := by decide +kernel
theorem dX9_grief_54 : decode cX9_grief 54 = .ok (.ireturn, 1) := by decide +kernel
set_option maxRecDepth 20000 in
theorem ggX9_haven_X9_isTenant : GoodIn wsX9_haven wsX9_isTenant := goodIn_r _ [6, 7, 8, 9, 5, 10, 11, 12, 13, 14, 15, 126, 127, 128, 129, 130, 131, 132, 133, 134, 135, 136, 137, 138, 139, 140, 141, 142, 143, 144, 145, 146, 147, 148, 149, 150, 151, 152, 153, 154, 155, 156, 157, 158, 159, 160, 161, 162, 163, 164, 165, 166, 167, 168, 169, 170, 171, 172, 173, 174, 175, 176, 177, 178, 179, 180, 181, 182, 183, 184, 185, 186, 187, 188, 189, 190, 191, 192] rfl (by decide +kernel)
set_option maxRecDepth 20000 in
theorem gX9_haven_X9_isTenant : GoodIn wsX9_haven (wsV RX9 386 RX9 yX9_isTenant wsX9_isTenant) := goodIn_app (goodIn_r _ [2, 3, 4, 5] rfl (by decide +kernel)) ggX9_haven_X9_isTenant
set_option maxRecDepth 20000 in
theorem ggX9_haven_X9_isIn : GoodIn wsX9_haven wsX9_isIn := goodIn_r _ [15] rfl (by decide +kernel)
set_option maxRecDepth 20000 in
theorem gX9_haven_X9_isIn : GoodIn wsX9_haven (va_wsS RX9 376 yX9_isIn wsX9_isIn) := goodIn_app (goodIn_r _ [13, 14, 5] rfl (by decide +kernel)) ggX9_haven_X9_isIn
set_option maxRecDepth 20000 in
theorem ggX9_haven_X9_chambers : GoodIn wsX9_haven wsX9_chambers := goodIn_r _ [19, 20, 12, 126, 127, 128, 129, 130, 131, 132, 133, 134, 135, 136, 137, 138, 139, 140, 141, 142, 143, 144, 145, 146, 147, 148, 149, 150, 151, 152, 153, 154, 155, 156, 157, 158, 159, 160, 161, 162, 163, 164, 165, 166, 167, 168, 169, 170, 171, 172, 173, 174, 175, 176, 177, 178, 179, 180, 181, 182, 183, 184, 185, 186, 187, 188, 189, 190, 191, 192] rfl (by decide +kernel)
set_option maxRecDepth 20000 in
theorem gX9_haven_X9_chambers : GoodIn wsX9_haven (wsV RX9 383 RX9 yX9_chambers wsX9_chambers) := goodIn_app (goodIn_r _ [16, 17, 18, 5] rfl (by decide +kernel)) ggX9_haven_X9_chambers
set_option maxRecDepth 20000 in
theorem ggX9_haven_X9_whoIn : GoodIn wsX9_haven wsX9_whoIn := goodIn_r _ [24, 1, 7, 8, 9, 5, 10, 11, 12, 126, 127, 128, 129, 130, 131, 132, 133, 134, 135, 136, 137, 138, 139, 140, 141, 142, 143, 144, 145, 146, 147, 148, 149, 150, 151, 152, 153, 154, 155, 156, 157, 158, 159, 160, 161, 162, 163, 164, 165, 166, 167, 168, 169, 170, 171, 172, 173, 174, 175, 176, 177, 178, 179, 180, 181, 182, 183, 184, 185, 186, 187, 188, 189, 190, 191, 192] rfl (by decide +kernel)
set_option maxRecDepth 20000 in
theorem gX9_haven_X9_whoIn : GoodIn wsX9_haven (wsV RX9 465 RX9 yX9_whoIn wsX9_whoIn) := goodIn_app (goodIn_r _ [21, 22, 23, 5] rfl (by decide +kernel)) ggX9_haven_X9_whoIn
set_option maxRecDepth 20000 in
theorem ggX9_haven_X9_keepNow : GoodIn wsX9_haven wsX9_keepNow := goodIn_r _ [28, 29, 1, 126, 127, 128, 129, 130, 131, 132, 133, 134, 135, 136, 137, 138, 139, 140, 141, 142, 143, 144, 145, 146, 147, 148, 149, 150, 151, 152, 153, 154, 155, 156, 157, 158, 159, 160, 161, 162, 163, 164, 165, 166, 167, 168, 169, 170, 171, 172, 173, 174, 175, 176, 177, 178, 179, 180, 181, 182, 183, 184, 185, 186, 187, 188, 189, 190, 191, 192] rfl (by decide +kernel)
set_option maxRecDepth 20000 in
theorem gX9_haven_X9_keepNow : GoodIn wsX9_haven (wsV RX9 491 RX9 yX9_keepNow wsX9_keepNow) := goodIn_app (goodIn_r _ [25, 26, 27, 5] rfl (by decide +kernel)) ggX9_haven_X9_keepNow
set_option maxRecDepth 20000 in
theorem ggX9_haven_X9_goIn : GoodIn wsX9_haven wsX9_goIn := goodIn_r _ [33, 1, 126, 127, 128, 129, 130, 131, 132, 133, 134, 135, 136, 137, 138, 139, 140, 141, 142, 143, 144, 145, 146, 147, 148, 149, 150, 151, 152, 153, 154, 155, 156, 157, 158, 159, 160, 161, 162, 163, 164, 165, 166, 167, 168, 169, 170, 171, 172, 173, 174, 175, 176, 177, 178, 179, 180, 181, 182, 183, 184, 185, 186, 187, 188, 189, 190, 191, 192] rfl (by decide +kernel)
set_option maxRecDepth 20000 in
theorem gX9_haven_X9_goIn : GoodIn wsX9_haven (wsV RX9 479 RX9 yX9_goIn wsX9_goIn) := goodIn_app (goodIn_r _ [30, 31, 32, 5] rfl (by decide +kernel)) ggX9_haven_X9_goIn
set_option maxRecDepth 20000 in
theorem ggX9_haven_X9_outBehind : GoodIn wsX9_haven wsX9_outBehind := goodIn_r _ [37, 38, 39, 40, 5, 41, 1, 42, 43, 44, 45, 46, 47, 48, 49, 7, 8, 9, 10, 11, 12, 50, 51, 52, 53, 2, 3, 4, 6, 13, 14, 15, 54, 55, 56, 57, 58, 59, 60, 61, 62, 63, 64, 65, 66, 67, 68, 69, 70, 71, 72, 73, 74, 75, 76, 77, 78, 79, 80, 81, 82, 83, 84, 85, 86, 87, 88, 89, 90, 91, 92, 16, 17, 18, 19, 20, 93, 94, 95, 96, 97, 98, 99, 100, 101, 102, 103, 104, 105, 106, 107, 108, 109, 110, 111, 112, 113, 114, 115, 116, 117, 118, 119, 120, 121, 122, 123, 124, 125, 29, 126, 127, 128, 129, 130, 131, 132, 133, 134, 135, 136, 137, 138, 139, 140, 141, 142, 143, 144, 145, 146, 147, 148, 149, 150, 151, 152, 153, 154, 155, 156, 157, 158, 159, 160, 161, 162, 163, 164, 165, 166, 167, 168, 169, 170, 171, 172, 173, 174, 175, 176, 177, 178, 179, 180, 181, 182, 183, 184, 185, 186, 187, 188, 189, 190, 191, 192] rfl (by decide +kernel)
set_option maxRecDepth 20000 in
theorem gX9_haven_X9_outBehind : GoodIn wsX9_haven (wsV RX9 497 RX9 yX9_outBehind wsX9_outBehind) := goodIn_app (goodIn_r _ [34, 35, 36, 5] rfl (by decide +kernel)) ggX9_haven_X9_outBehind
theorem dX9_haven_0 : decode cX9_haven 0 = .ok (.aload_n 0, 1) := by decide +kernel
theorem dX9_haven_1 : decode cX9_haven 1 = .ok (.iload_n 1, 1) := by decide +kernel
theorem dX9_haven_2 : decode cX9_haven 2 = .ok (.invokevirtual 386, 3) := by decide +kernel
theorem dX9_haven_5 : decode cX9_haven 5 = .ok (.ifCond .eq 12, 3) := by decide +kernel
theorem dX9_haven_8 : decode cX9_haven 8 = .ok (.iload_n 2, 1) := by decide +kernel
theorem dX9_haven_9 : decode cX9_haven 9 = .ok (.iconst 0, 1) := by decide +kernel
theorem dX9_haven_10 : decode cX9_haven 10 = .ok (.iconst 1, 1) := by decide +kernel
theorem dX9_haven_11 : decode cX9_haven 11 = .ok (.invokestatic 376, 3) := by decide +kernel
theorem dX9_haven_14 : decode cX9_haven 14 = .ok (.ifCond .ne 5, 3) := by decide +kernel
theorem dX9_haven_17 : decode cX9_haven 17 = .ok (.iconst (-1), 1) := by decide +kernel
theorem dX9_haven_18 : decode cX9_haven 18 = .ok (.ireturn, 1) := by decide +kernel
theorem dX9_haven_19 : decode cX9_haven 19 = .ok (.iconst (-1), 1) := by decide +kernel
theorem dX9_haven_20 : decode cX9_haven 20 = .ok (.istore_n 3, 1) := by decide +kernel
theorem dX9_haven_21 : decode cX9_haven 21 = .ok (.iconst 0, 1) := by decide +kernel
theorem dX9_haven_22 : decode cX9_haven 22 = .ok (.istore 4, 2) := by decide +kernel
theorem dX9_haven_24 : decode cX9_haven 24 = .ok (.iconst 0, 1) := by decide +kernel
theorem dX9_haven_25 : decode cX9_haven 25 = .ok (.istore 5, 2) := by decide +kernel
theorem dX9_haven_27 : decode cX9_haven 27 = .ok (.iload 5, 2) := by decide +kernel
theorem dX9_haven_29 : decode cX9_haven 29 = .ok (.aload_n 0, 1) := by decide +kernel
theorem dX9_haven_30 : decode cX9_haven 30 = .ok (.invokevirtual 383, 3) := by decide +kernel
theorem dX9_haven_33 : decode cX9_haven 33 = .ok (.if_icmp .ge 97, 3) := by decide +kernel
theorem dX9_haven_36 : decode cX9_haven 36 = .ok (.aload_n 0, 1) := by decide +kernel
theorem dX9_haven_37 : decode cX9_haven 37 = .ok (.iload 5, 2) := by decide +kernel
theorem dX9_haven_39 : decode cX9_haven 39 = .ok (.invokevirtual 465, 3) := by decide +kernel
theorem dX9_haven_42 : decode cX9_haven 42 = .ok (.ifCond .lt 16, 3) := by decide +kernel
theorem dX9_haven_45 : decode cX9_haven 45 = .ok (.aload_n 0, 1) := by decide +kernel
theorem dX9_haven_46 : decode cX9_haven 46 = .ok (.iload 5, 2) := by decide +kernel
theorem dX9_haven_48 : decode cX9_haven 48 = .ok (.invokevirtual 465, 3) := by decide +kernel
theorem dX9_haven_51 : decode cX9_haven 51 = .ok (.iload_n 1, 1) := by decide +kernel
theorem dX9_haven_52 : decode cX9_haven 52 = .ok (.if_icmp .eq 6, 3) := by decide +kernel
theorem dX9_haven_55 : decode cX9_haven 55 = .ok (.goto 69, 3) := by decide +kernel
theorem dX9_haven_58 : decode cX9_haven 58 = .ok (.aload_n 0, 1) := by decide +kernel
theorem dX9_haven_59 : decode cX9_haven 59 = .ok (.invokevirtual 491, 3) := by decide +kernel
theorem dX9_haven_62 : decode cX9_haven 62 = .ok (.aload_n 0, 1) := by decide +kernel
theorem dX9_haven_63 : decode cX9_haven 63 = .ok (.getfield 94, 3) := by decide +kernel
theorem dX9_haven_66 : decode cX9_haven 66 = .ok (.iconst 0, 1) := by decide +kernel
theorem dX9_haven_67 : decode cX9_haven 67 = .ok (.iload_n 1, 1) := by decide +kernel
theorem dX9_haven_68 : decode cX9_haven 68 = .ok (.iadd, 1) := by decide +kernel
theorem dX9_haven_69 : decode cX9_haven 69 = .ok (.iaload, 1) := by decide +kernel
theorem dX9_haven_70 : decode cX9_haven 70 = .ok (.iload 5, 2) := by decide +kernel
theorem dX9_haven_72 : decode cX9_haven 72 = .ok (.if_icmp .eq 10, 3) := by decide +kernel
theorem dX9_haven_75 : decode cX9_haven 75 = .ok (.aload_n 0, 1) := by decide +kernel
theorem dX9_haven_76 : decode cX9_haven 76 = .ok (.iload_n 1, 1) := by decide +kernel
theorem dX9_haven_77 : decode cX9_haven 77 = .ok (.iload 5, 2) := by decide +kernel
theorem dX9_haven_79 : decode cX9_haven 79 = .ok (.invokevirtual 479, 3) := by decide +kernel
theorem dX9_haven_82 : decode cX9_haven 82 = .ok (.aload_n 0, 1) := by decide +kernel
theorem dX9_haven_83 : decode cX9_haven 83 = .ok (.iload_n 1, 1) := by decide +kernel
theorem dX9_haven_84 : decode cX9_haven 84 = .ok (.invokevirtual 497, 3) := by decide +kernel
theorem dX9_haven_87 : decode cX9_haven 87 = .ok (.istore 6, 2) := by decide +kernel
theorem dX9_haven_89 : decode cX9_haven 89 = .ok (.iload 6, 2) := by decide +kernel
theorem dX9_haven_91 : decode cX9_haven 91 = .ok (.ifCond .ge 8, 3) := by decide +kernel
theorem dX9_haven_94 : decode cX9_haven 94 = .ok (.bipush 99, 2) := by decide +kernel
theorem dX9_haven_96 : decode cX9_haven 96 = .ok (.goto 5, 3) := by decide +kernel
theorem dX9_haven_99 : decode cX9_haven 99 = .ok (.iload 6, 2) := by decide +kernel
theorem dX9_haven_101 : decode cX9_haven 101 = .ok (.istore 6, 2) := by decide +kernel
theorem dX9_haven_103 : decode cX9_haven 103 = .ok (.iload_n 3, 1) := by decide +kernel
theorem dX9_haven_104 : decode cX9_haven 104 = .ok (.ifCond .lt 13, 3) := by decide +kernel
theorem dX9_haven_107 : decode cX9_haven 107 = .ok (.iload 6, 2) := by decide +kernel
theorem dX9_haven_109 : decode cX9_haven 109 = .ok (.iload 4, 2) := by decide +kernel
theorem dX9_haven_111 : decode cX9_haven 111 = .ok (.if_icmp .gt 6, 3) := by decide +kernel
theorem dX9_haven_114 : decode cX9_haven 114 = .ok (.goto 10, 3) := by decide +kernel
theorem dX9_haven_117 : decode cX9_haven 117 = .ok (.iload 5, 2) := by decide +kernel
theorem dX9_haven_119 : decode cX9_haven 119 = .ok (.istore_n 3, 1) := by decide +kernel
theorem dX9_haven_120 : decode cX9_haven 120 = .ok (.iload 6, 2) := by decide +kernel
theorem dX9_haven_122 : decode cX9_haven 122 = .ok (.istore 4, 2) := by decide +kernel
theorem dX9_haven_124 : decode cX9_haven 124 = .ok (.iinc 5 1, 3) := by decide +kernel
theorem dX9_haven_127 : decode cX9_haven 127 = .ok (.goto (-100), 3) := by decide +kernel
theorem dX9_haven_130 : decode cX9_haven 130 = .ok (.iload_n 3, 1) := by decide +kernel
theorem dX9_haven_131 : decode cX9_haven 131 = .ok (.ifCond .ge 7, 3) := by decide +kernel
theorem dX9_haven_134 : decode cX9_haven 134 = .ok (.iconst (-1), 1) := by decide +kernel
theorem dX9_haven_135 : decode cX9_haven 135 = .ok (.goto 13, 3) := by decide +kernel
theorem dX9_haven_138 : decode cX9_haven 138 = .ok (.iload_n 2, 1) := by decide +kernel
theorem dX9_haven_139 : decode cX9_haven 139 = .ok (.ifCond .ne 7, 3) := by decide +kernel
theorem dX9_haven_142 : decode cX9_haven 142 = .ok (.iload_n 3, 1) := by decide +kernel
theorem dX9_haven_143 : decode cX9_haven 143 = .ok (.goto 5, 3) := by decide +kernel
theorem dX9_haven_146 : decode cX9_haven 146 = .ok (.iload 4, 2) := by decide +kernel
theorem dX9_haven_148 : decode cX9_haven 148 = .ok (.ireturn, 1) := by decide +kernel
set_option maxRecDepth 20000 in
theorem ggX9_areCats_X9_cattery : GoodIn wsX9_areCats wsX9_cattery := goodIn_r _ [5, 6, 7, 11, 12, 13, 14, 15, 16, 17, 18, 19, 20, 21, 22, 23, 24, 25, 26, 27, 28, 29, 30, 31, 32, 33, 34, 35, 36, 37, 38, 39, 40, 41, 42, 43, 44, 45, 46, 47, 48, 49, 50, 51, 52, 53, 54, 55, 56, 57, 58, 59, 60, 61, 62, 63, 64, 65, 66, 67, 68, 69, 70, 71, 72, 73, 74, 75, 76, 77] rfl (by decide +kernel)
set_option maxRecDepth 20000 in
theorem gX9_areCats_X9_cattery : GoodIn wsX9_areCats (wsV RX9 380 RX9 yX9_cattery wsX9_cattery) := goodIn_app (goodIn_r _ [1, 2, 3, 4] rfl (by decide +kernel)) ggX9_areCats_X9_cattery
set_option maxRecDepth 20000 in
theorem ggX9_areCats_X9_isIn : GoodIn wsX9_areCats wsX9_isIn := goodIn_r _ [10] rfl (by decide +kernel)
set_option maxRecDepth 20000 in
theorem gX9_areCats_X9_isIn : GoodIn wsX9_areCats (va_wsS RX9 376 yX9_isIn wsX9_isIn) := goodIn_app (goodIn_r _ [8, 9, 4] rfl (by decide +kernel)) ggX9_areCats_X9_isIn
theorem dX9_areCats_0 : decode cX9_areCats 0 = .ok (.iload_n 1, 1) := by decide +kernel
theorem dX9_areCats_1 : decode cX9_areCats 1 = .ok (.iconst 0, 1) := by decide +kernel
theorem dX9_areCats_2 : decode cX9_areCats 2 = .ok (.iconst 1, 1) := by decide +kernel
theorem dX9_areCats_3 : decode cX9_areCats 3 = .ok (.aload_n 0, 1) := by decide +kernel
theorem dX9_areCats_4 : decode cX9_areCats 4 = .ok (.invokevirtual 380, 3) := by decide +kernel
theorem dX9_areCats_7 : decode cX9_areCats 7 = .ok (.ishl, 1) := by decide +kernel
theorem dX9_areCats_8 : decode cX9_areCats 8 = .ok (.iconst 1, 1) := by decide +kernel
theorem dX9_areCats_9 : decode cX9_areCats 9 = .ok (.isub, 1) := by decide +kernel
theorem dX9_areCats_10 : decode cX9_areCats 10 = .ok (.invokestatic 376, 3) := by decide +kernel
theorem dX9_areCats_13 : decode cX9_areCats 13 = .ok (.ireturn, 1) := by decide +kernel
set_option maxRecDepth 20000 in
theorem ggX9_keeper_X9_isRoom : GoodIn wsX9_keeper wsX9_isRoom := goodIn_r _ [5, 6, 7, 8, 4, 9, 10, 11, 12, 13, 14, 45, 46, 47, 48, 49, 50, 51, 52, 53, 54, 55, 56, 57, 58, 59, 60, 61, 62, 63, 64, 65, 66, 67, 68, 69, 70, 71, 72, 73, 74, 75, 76, 77, 78, 79, 80, 81, 82, 83, 84, 85, 86, 87, 88, 89, 90, 91, 92, 93, 94, 95, 96, 97, 98, 99, 100, 101, 102, 103, 104, 105, 106, 107, 108, 109, 110, 111] rfl (by decide +kernel)
set_option maxRecDepth 20000 in
theorem gX9_keeper_X9_isRoom : GoodIn wsX9_keeper (wsV RX9 462 RX9 yX9_isRoom wsX9_isRoom) := goodIn_app (goodIn_r _ [1, 2, 3, 4] rfl (by decide +kernel)) ggX9_keeper_X9_isRoom
set_option maxRecDepth 20000 in
theorem ggX9_keeper_X9_areCats : GoodIn wsX9_keeper wsX9_areCats := goodIn_r _ [18, 19, 20, 21, 4, 22, 23, 11, 12, 13, 14, 45, 46, 47, 48, 49, 50, 51, 52, 53, 54, 55, 56, 57, 58, 59, 60, 61, 62, 63, 64, 65, 66, 67, 68, 69, 70, 71, 72, 73, 74, 75, 76, 77, 78, 79, 80, 81, 82, 83, 84, 85, 86, 87, 88, 89, 90, 91, 92, 93, 94, 95, 96, 97, 98, 99, 100, 101, 102, 103, 104, 105, 106, 107, 108, 109, 110, 111] rfl (by decide +kernel)
set_option maxRecDepth 20000 in
theorem gX9_keeper_X9_areCats : GoodIn wsX9_keeper (wsV RX9 503 RX9 yX9_areCats wsX9_areCats) := goodIn_app (goodIn_r _ [15, 16, 17, 4] rfl (by decide +kernel)) ggX9_keeper_X9_areCats
set_option maxRecDepth 20000 in
theorem ggX9_keeper_X9_keeperIf : GoodIn wsX9_keeper wsX9_keeperIf := goodIn_r _ [27, 28, 29, 30, 4, 31, 32, 33, 34, 35, 36, 37, 38, 39, 40, 11, 41, 42, 43, 44, 45, 46, 47, 48, 49, 50, 51, 52, 53, 54, 55, 56, 57, 58, 59, 60, 61, 62, 63, 64, 65, 66, 67, 68, 69, 70, 71, 72, 73, 74, 75, 76, 77, 78, 79, 80, 81, 82, 83, 84, 85, 86, 87, 88, 89, 90, 91, 92, 93, 94, 95, 96, 97, 98, 99, 100, 101, 102, 103, 104, 105, 106, 107, 108, 109, 110, 111] rfl (by decide +kernel)
set_option maxRecDepth 20000 in
theorem gX9_keeper_X9_keeperIf : GoodIn wsX9_keeper (wsV RX9 440 RX9 yX9_keeperIf wsX9_keeperIf) := goodIn_app (goodIn_r _ [24, 25, 26, 4] rfl (by decide +kernel)) ggX9_keeper_X9_keeperIf
theorem dX9_keeper_0 : decode cX9_keeper 0 = .ok (.aload_n 0, 1) := by decide +kernel
theorem dX9_keeper_1 : decode cX9_keeper 1 = .ok (.iload_n 1, 1) := by decide +kernel
theorem dX9_keeper_2 : decode cX9_keeper 2 = .ok (.invokevirtual 462, 3) := by decide +kernel
theorem dX9_keeper_5 : decode cX9_keeper 5 = .ok (.ifCond .eq 20, 3) := by decide +kernel
theorem dX9_keeper_8 : decode cX9_keeper 8 = .ok (.aload_n 0, 1) := by decide +kernel
theorem dX9_keeper_9 : decode cX9_keeper 9 = .ok (.iload_n 2, 1) := by decide +kernel
theorem dX9_keeper_10 : decode cX9_keeper 10 = .ok (.invokevirtual 503, 3) := by decide +kernel
theorem dX9_keeper_13 : decode cX9_keeper 13 = .ok (.ifCond .eq 12, 3) := by decide +kernel
theorem dX9_keeper_16 : decode cX9_keeper 16 = .ok (.aload_n 0, 1) := by decide +kernel
theorem dX9_keeper_17 : decode cX9_keeper 17 = .ok (.iload_n 1, 1) := by decide +kernel
theorem dX9_keeper_18 : decode cX9_keeper 18 = .ok (.iload_n 2, 1) := by decide +kernel
theorem dX9_keeper_19 : decode cX9_keeper 19 = .ok (.invokevirtual 440, 3) := by decide +kernel
theorem dX9_keeper_22 : decode cX9_keeper 22 = .ok (.goto 5, 3) := by decide +kernel
theorem dX9_keeper_25 : decode cX9_keeper 25 = .ok (.bipush (-2), 2) := by decide +kernel
theorem dX9_keeper_27 : decode cX9_keeper 27 = .ok (.ireturn, 1) := by decide +kernel
set_option maxRecDepth 20000 in
theorem ggX9_probate_X9_areCats : GoodIn wsX9_probate wsX9_areCats := goodIn_r _ [5, 6, 7, 8, 4, 9, 10, 11, 12, 13, 14, 41, 42, 43, 44, 45, 46, 47, 48, 49, 50, 51, 52, 53, 54, 55, 56, 57, 58, 59, 60, 61, 62, 63, 64, 65, 66, 67, 68, 69, 70, 71, 72, 73, 74, 75, 76, 77, 78, 79, 80, 81, 82, 83, 84, 85, 86, 87, 88, 89, 90, 91, 92, 93, 94, 95, 96, 97, 98, 99, 100, 101, 102, 103, 104, 105, 106, 107] rfl (by decide +kernel)
set_option maxRecDepth 20000 in
theorem gX9_probate_X9_areCats : GoodIn wsX9_probate (wsV RX9 503 RX9 yX9_areCats wsX9_areCats) := goodIn_app (goodIn_r _ [1, 2, 3, 4] rfl (by decide +kernel)) ggX9_probate_X9_areCats
set_option maxRecDepth 20000 in
theorem ggX9_probate_X9_chambers : GoodIn wsX9_probate wsX9_chambers := goodIn_r _ [18, 19, 11, 41, 42, 43, 44, 45, 46, 47, 48, 49, 50, 51, 52, 53, 54, 55, 56, 57, 58, 59, 60, 61, 62, 63, 64, 65, 66, 67, 68, 69, 70, 71, 72, 73, 74, 75, 76, 77, 78, 79, 80, 81, 82, 83, 84, 85, 86, 87, 88, 89, 90, 91, 92, 93, 94, 95, 96, 97, 98, 99, 100, 101, 102, 103, 104, 105, 106, 107] rfl (by decide +kernel)
set_option maxRecDepth 20000 in
theorem gX9_probate_X9_chambers : GoodIn wsX9_probate (wsV RX9 383 RX9 yX9_chambers wsX9_chambers) := goodIn_app (goodIn_r _ [15, 16, 17, 4] rfl (by decide +kernel)) ggX9_probate_X9_chambers
set_option maxRecDepth 20000 in
theorem ggX9_probate_X9_keeperIf : GoodIn wsX9_probate wsX9_keeperIf := goodIn_r _ [23, 24, 25, 26, 4, 27, 28, 29, 30, 31, 32, 33, 34, 35, 36, 11, 37, 38, 39, 40, 41, 42, 43, 44, 45, 46, 47, 48, 49, 50, 51, 52, 53, 54, 55, 56, 57, 58, 59, 60, 61, 62, 63, 64, 65, 66, 67, 68, 69, 70, 71, 72, 73, 74, 75, 76, 77, 78, 79, 80, 81, 82, 83, 84, 85, 86, 87, 88, 89, 90, 91, 92, 93, 94, 95, 96, 97, 98, 99, 100, 101, 102, 103, 104, 105, 106, 107] rfl (by decide +kernel)
set_option maxRecDepth 20000 in
theorem gX9_probate_X9_keeperIf : GoodIn wsX9_probate (wsV RX9 440 RX9 yX9_keeperIf wsX9_keeperIf) := goodIn_app (goodIn_r _ [20, 21, 22, 4] rfl (by decide +kernel)) ggX9_probate_X9_keeperIf
theorem dX9_probate_0 : decode cX9_probate 0 = .ok (.aload_n 0, 1) := by decide +kernel
theorem dX9_probate_1 : decode cX9_probate 1 = .ok (.iload_n 1, 1) := by decide +kernel
theorem dX9_probate_2 : decode cX9_probate 2 = .ok (.invokevirtual 503, 3) := by decide +kernel
theorem dX9_probate_5 : decode cX9_probate 5 = .ok (.ifCond .ne 5, 3) := by decide +kernel
theorem dX9_probate_8 : decode cX9_probate 8 = .ok (.iconst (-1), 1) := by decide +kernel
theorem dX9_probate_9 : decode cX9_probate 9 = .ok (.ireturn, 1) := by decide +kernel
theorem dX9_probate_10 : decode cX9_probate 10 = .ok (.iconst 0, 1) := by decide +kernel
theorem dX9_probate_11 : decode cX9_probate 11 = .ok (.istore_n 2, 1) := by decide +kernel
theorem dX9_probate_12 : decode cX9_probate 12 = .ok (.iconst 0, 1) := by decide +kernel
theorem dX9_probate_13 : decode cX9_probate 13 = .ok (.istore_n 3, 1) := by decide +kernel
theorem dX9_probate_14 : decode cX9_probate 14 = .ok (.iload_n 3, 1) := by decide +kernel
theorem dX9_probate_15 : decode cX9_probate 15 = .ok (.aload_n 0, 1) := by decide +kernel
theorem dX9_probate_16 : decode cX9_probate 16 = .ok (.invokevirtual 383, 3) := by decide +kernel
theorem dX9_probate_19 : decode cX9_probate 19 = .ok (.if_icmp .ge 26, 3) := by decide +kernel
theorem dX9_probate_22 : decode cX9_probate 22 = .ok (.iload_n 2, 1) := by decide +kernel
theorem dX9_probate_23 : decode cX9_probate 23 = .ok (.aload_n 0, 1) := by decide +kernel
theorem dX9_probate_24 : decode cX9_probate 24 = .ok (.iload_n 3, 1) := by decide +kernel
theorem dX9_probate_25 : decode cX9_probate 25 = .ok (.iload_n 1, 1) := by decide +kernel
theorem dX9_probate_26 : decode cX9_probate 26 = .ok (.invokevirtual 440, 3) := by decide +kernel
theorem dX9_probate_29 : decode cX9_probate 29 = .ok (.ifCond .ge 7, 3) := by decide +kernel
theorem dX9_probate_32 : decode cX9_probate 32 = .ok (.iconst 1, 1) := by decide +kernel
theorem dX9_probate_33 : decode cX9_probate 33 = .ok (.goto 4, 3) := by decide +kernel
theorem dX9_probate_36 : decode cX9_probate 36 = .ok (.iconst 0, 1) := by decide +kernel
theorem dX9_probate_37 : decode cX9_probate 37 = .ok (.iadd, 1) := by decide +kernel
theorem dX9_probate_38 : decode cX9_probate 38 = .ok (.istore_n 2, 1) := by decide +kernel
theorem dX9_probate_39 : decode cX9_probate 39 = .ok (.iinc 3 1, 3) := by decide +kernel
theorem dX9_probate_42 : decode cX9_probate 42 = .ok (.goto (-28), 3) := by decide +kernel
theorem dX9_probate_45 : decode cX9_probate 45 = .ok (.iload_n 2, 1) := by decide +kernel
theorem dX9_probate_46 : decode cX9_probate 46 = .ok (.ireturn, 1) := by decide +kernel
set_option maxRecDepth 20000 in
theorem ggX9_odds_X9_isCat : GoodIn wsX9_odds wsX9_isCat := goodIn_r _ [7, 8, 9, 10, 6, 11, 12, 2, 13, 14, 15, 30, 31, 32, 33, 34, 35, 36, 37, 38, 39, 40, 41, 42, 43, 44, 45, 46, 47, 48, 49, 50, 51, 52, 53, 54, 55, 56, 57, 58, 59, 60, 61, 62, 63, 64, 65, 66, 67, 68, 69, 70, 71, 72, 73, 74, 75, 76, 77, 78, 79, 80, 81, 82, 83, 84, 85, 86, 87, 88, 89, 90, 91, 92, 93, 94, 95, 96] rfl (by decide +kernel)
set_option maxRecDepth 20000 in
theorem gX9_odds_X9_isCat : GoodIn wsX9_odds (wsV RX9 456 RX9 yX9_isCat wsX9_isCat) := goodIn_app (goodIn_r _ [3, 4, 5, 6] rfl (by decide +kernel)) ggX9_odds_X9_isCat
set_option maxRecDepth 20000 in
theorem ggX9_odds_X9_lives : GoodIn wsX9_odds wsX9_lives := goodIn_r _ [19, 20, 21, 22, 6, 23, 30, 31, 32, 33, 34, 35, 36, 37, 38, 39, 40, 41, 42, 43, 44, 45, 46, 47, 48, 49, 50, 51, 52, 53, 54, 55, 56, 57, 58, 59, 60, 61, 62, 63, 64, 65, 66, 67, 68, 69, 70, 71, 72, 73, 74, 75, 76, 77, 78, 79, 80, 81, 82, 83, 84, 85, 86, 87, 88, 89, 90, 91, 92, 93, 94, 95, 96] rfl (by decide +kernel)
set_option maxRecDepth 20000 in
theorem gX9_odds_X9_lives : GoodIn wsX9_odds (wsV RX9 434 RX9 yX9_lives wsX9_lives) := goodIn_app (goodIn_r _ [16, 17, 18, 6] rfl (by decide +kernel)) ggX9_odds_X9_lives
set_option maxRecDepth 20000 in
theorem ggX9_odds_X9_isIn : GoodIn wsX9_odds wsX9_isIn := goodIn_r _ [15] rfl (by decide +kernel)
set_option maxRecDepth 20000 in
theorem gX9_odds_X9_isIn : GoodIn wsX9_odds (va_wsS RX9 376 yX9_isIn wsX9_isIn) := goodIn_app (goodIn_r _ [13, 14, 6] rfl (by decide +kernel)) ggX9_odds_X9_isIn
set_option maxRecDepth 20000 in
theorem ggX9_odds_X9_power : GoodIn wsX9_odds wsX9_power := goodIn_r _ [26] rfl (by decide +kernel)
set_option maxRecDepth 20000 in
theorem gX9_odds_X9_power : GoodIn wsX9_odds (va_wsS RX9 506 yX9_power wsX9_power) := goodIn_app (goodIn_r _ [24, 25, 6] rfl (by decide +kernel)) ggX9_odds_X9_power
set_option maxRecDepth 20000 in
theorem ggX9_odds_X9_divisor : GoodIn wsX9_odds wsX9_divisor := goodIn_r _ [29] rfl (by decide +kernel)
set_option maxRecDepth 20000 in
theorem gX9_odds_X9_divisor : GoodIn wsX9_odds (va_wsS RX9 509 yX9_divisor wsX9_divisor) := goodIn_app (goodIn_r _ [27, 28, 6] rfl (by decide +kernel)) ggX9_odds_X9_divisor
theorem dX9_odds_0 : decode cX9_odds 0 = .ok (.aload_n 0, 1) := by decide +kernel
theorem dX9_odds_1 : decode cX9_odds 1 = .ok (.iload_n 1, 1) := by decide +kernel
theorem dX9_odds_2 : decode cX9_odds 2 = .ok (.invokevirtual 456, 3) := by decide +kernel
theorem dX9_odds_5 : decode cX9_odds 5 = .ok (.ifCond .eq 29, 3) := by decide +kernel
theorem dX9_odds_8 : decode cX9_odds 8 = .ok (.aload_n 0, 1) := by decide +kernel
theorem dX9_odds_9 : decode cX9_odds 9 = .ok (.iload_n 1, 1) := by decide +kernel
theorem dX9_odds_10 : decode cX9_odds 10 = .ok (.invokevirtual 434, 3) := by decide +kernel
theorem dX9_odds_13 : decode cX9_odds 13 = .ok (.ifCond .eq 21, 3) := by decide +kernel
theorem dX9_odds_16 : decode cX9_odds 16 = .ok (.iload_n 2, 1) := by decide +kernel
theorem dX9_odds_17 : decode cX9_odds 17 = .ok (.iconst 0, 1) := by decide +kernel
theorem dX9_odds_18 : decode cX9_odds 18 = .ok (.iconst 4, 1) := by decide +kernel
theorem dX9_odds_19 : decode cX9_odds 19 = .ok (.invokestatic 376, 3) := by decide +kernel
theorem dX9_odds_22 : decode cX9_odds 22 = .ok (.ifCond .eq 12, 3) := by decide +kernel
theorem dX9_odds_25 : decode cX9_odds 25 = .ok (.iload_n 3, 1) := by decide +kernel
theorem dX9_odds_26 : decode cX9_odds 26 = .ok (.iconst 0, 1) := by decide +kernel
theorem dX9_odds_27 : decode cX9_odds 27 = .ok (.iconst 1, 1) := by decide +kernel
theorem dX9_odds_28 : decode cX9_odds 28 = .ok (.invokestatic 376, 3) := by decide +kernel
theorem dX9_odds_31 : decode cX9_odds 31 = .ok (.ifCond .ne 5, 3) := by decide +kernel
theorem dX9_odds_34 : decode cX9_odds 34 = .ok (.iconst (-1), 1) := by decide +kernel
theorem dX9_odds_35 : decode cX9_odds 35 = .ok (.ireturn, 1) := by decide +kernel
theorem dX9_odds_36 : decode cX9_odds 36 = .ok (.bipush 100, 2) := by decide +kernel
theorem dX9_odds_38 : decode cX9_odds 38 = .ok (.aload_n 0, 1) := by decide +kernel
theorem dX9_odds_39 : decode cX9_odds 39 = .ok (.getfield 33, 3) := by decide +kernel
theorem dX9_odds_42 : decode cX9_odds 42 = .ok (.aload_n 0, 1) := by decide +kernel
theorem dX9_odds_43 : decode cX9_odds 43 = .ok (.getfield 268, 3) := by decide +kernel
theorem dX9_odds_46 : decode cX9_odds 46 = .ok (.iaload, 1) := by decide +kernel
theorem dX9_odds_47 : decode cX9_odds 47 = .ok (.isub, 1) := by decide +kernel
theorem dX9_odds_48 : decode cX9_odds 48 = .ok (.iload_n 2, 1) := by decide +kernel
theorem dX9_odds_49 : decode cX9_odds 49 = .ok (.invokestatic 506, 3) := by decide +kernel
theorem dX9_odds_52 : decode cX9_odds 52 = .ok (.istore 4, 2) := by decide +kernel
theorem dX9_odds_54 : decode cX9_odds 54 = .ok (.bipush 100, 2) := by decide +kernel
theorem dX9_odds_56 : decode cX9_odds 56 = .ok (.iload_n 2, 1) := by decide +kernel
theorem dX9_odds_57 : decode cX9_odds 57 = .ok (.invokestatic 506, 3) := by decide +kernel
theorem dX9_odds_60 : decode cX9_odds 60 = .ok (.istore 5, 2) := by decide +kernel
theorem dX9_odds_62 : decode cX9_odds 62 = .ok (.iload_n 3, 1) := by decide +kernel
theorem dX9_odds_63 : decode cX9_odds 63 = .ok (.ifCond .ne 8, 3) := by decide +kernel
theorem dX9_odds_66 : decode cX9_odds 66 = .ok (.iload 4, 2) := by decide +kernel
theorem dX9_odds_68 : decode cX9_odds 68 = .ok (.goto 5, 3) := by decide +kernel
theorem dX9_odds_71 : decode cX9_odds 71 = .ok (.iload 5, 2) := by decide +kernel
theorem dX9_odds_73 : decode cX9_odds 73 = .ok (.iload 5, 2) := by decide +kernel
theorem dX9_odds_75 : decode cX9_odds 75 = .ok (.iload 4, 2) := by decide +kernel
theorem dX9_odds_77 : decode cX9_odds 77 = .ok (.invokestatic 509, 3) := by decide +kernel
