theorem dX9_fault_0 : decode cX9_fault 0 = .ok (.iload_n 1, 1) := by decide +kernel
theorem dX9_fault_1 : decode cX9_fault 1 = .ok (.ifCond .ne 10, 3) := by decide +kernel
theorem dX9_fault_4 : decode cX9_fault 4 = .ok (.aload_n 0, 1) := by decide +kernel
theorem dX9_fault_5 : decode cX9_fault 5 = .ok (.getfield 155, 3) := by decide +kernel
theorem dX9_fault_8 : decode cX9_fault 8 = .ok (.goto 16, 3) := by decide +kernel
theorem dX9_fault_11 : decode cX9_fault 11 = .ok (.iload_n 1, 1) := by decide +kernel
theorem dX9_fault_12 : decode cX9_fault 12 = .ok (.iconst 1, 1) := by decide +kernel
theorem dX9_fault_13 : decode cX9_fault 13 = .ok (.if_icmp .ne 10, 3) := by decide +kernel
theorem dX9_fault_16 : decode cX9_fault 16 = .ok (.aload_n 0, 1) := by decide +kernel
theorem dX9_fault_17 : decode cX9_fault 17 = .ok (.getfield 16, 3) := by decide +kernel
theorem dX9_fault_20 : decode cX9_fault 20 = .ok (.goto 4, 3) := by decide +kernel
theorem dX9_fault_23 : decode cX9_fault 23 = .ok (.iconst (-1), 1) := by decide +kernel
theorem dX9_fault_24 : decode cX9_fault 24 = .ok (.ireturn, 1) := by decide +kernel
theorem dX9_isIn_0 : decode cX9_isIn 0 = .ok (.iload_n 0, 1) := by decide +kernel
theorem dX9_isIn_1 : decode cX9_isIn 1 = .ok (.iload_n 1, 1) := by decide +kernel
theorem dX9_isIn_2 : decode cX9_isIn 2 = .ok (.if_icmp .lt 12, 3) := by decide +kernel
theorem dX9_isIn_5 : decode cX9_isIn 5 = .ok (.iload_n 0, 1) := by decide +kernel
theorem dX9_isIn_6 : decode cX9_isIn 6 = .ok (.iload_n 2, 1) := by decide +kernel
theorem dX9_isIn_7 : decode cX9_isIn 7 = .ok (.if_icmp .gt 7, 3) := by decide +kernel
theorem dX9_isIn_10 : decode cX9_isIn 10 = .ok (.iconst 1, 1) := by decide +kernel
theorem dX9_isIn_11 : decode cX9_isIn 11 = .ok (.goto 4, 3) := by decide +kernel
theorem dX9_isIn_14 : decode cX9_isIn 14 = .ok (.iconst 0, 1) := by decide +kernel
theorem dX9_isIn_15 : decode cX9_isIn 15 = .ok (.ireturn, 1) := by decide +kernel
theorem dX9_bitsOf_0 : decode cX9_bitsOf 0 = .ok (.iconst 0, 1) := by decide +kernel
theorem dX9_bitsOf_1 : decode cX9_bitsOf 1 = .ok (.istore_n 1, 1) := by decide +kernel
theorem dX9_bitsOf_2 : decode cX9_bitsOf 2 = .ok (.iload_n 0, 1) := by decide +kernel
theorem dX9_bitsOf_3 : decode cX9_bitsOf 3 = .ok (.istore_n 2, 1) := by decide +kernel
theorem dX9_bitsOf_4 : decode cX9_bitsOf 4 = .ok (.iload_n 2, 1) := by decide +kernel
theorem dX9_bitsOf_5 : decode cX9_bitsOf 5 = .ok (.ifCond .eq 15, 3) := by decide +kernel
theorem dX9_bitsOf_20 : decode cX9_bitsOf 20 = .ok (.iload_n 1, 1) := by decide +kernel
theorem dX9_bitsOf_21 : decode cX9_bitsOf 21 = .ok (.ireturn, 1) := by decide +kernel
theorem dX9_many_0 : decode cX9_many 0 = .ok (.aload_n 0, 1) := by decide +kernel
theorem dX9_many_1 : decode cX9_many 1 = .ok (.getfield 27, 3) := by decide +kernel
theorem dX9_many_4 : decode cX9_many 4 = .ok (.aload_n 0, 1) := by decide +kernel
theorem dX9_many_5 : decode cX9_many 5 = .ok (.getfield 268, 3) := by decide +kernel
theorem dX9_many_8 : decode cX9_many 8 = .ok (.iaload, 1) := by decide +kernel
theorem dX9_many_9 : decode cX9_many 9 = .ok (.ireturn, 1) := by decide +kernel
theorem dX9_cattery_0 : decode cX9_cattery 0 = .ok (.aload_n 0, 1) := by decide +kernel
theorem dX9_cattery_1 : decode cX9_cattery 1 = .ok (.getfield 20, 3) := by decide +kernel
theorem dX9_cattery_4 : decode cX9_cattery 4 = .ok (.aload_n 0, 1) := by decide +kernel
theorem dX9_cattery_5 : decode cX9_cattery 5 = .ok (.getfield 268, 3) := by decide +kernel
theorem dX9_cattery_8 : decode cX9_cattery 8 = .ok (.iaload, 1) := by decide +kernel
theorem dX9_cattery_9 : decode cX9_cattery 9 = .ok (.ireturn, 1) := by decide +kernel
theorem dX9_chambers_0 : decode cX9_chambers 0 = .ok (.aload_n 0, 1) := by decide +kernel
theorem dX9_chambers_1 : decode cX9_chambers 1 = .ok (.getfield 24, 3) := by decide +kernel
theorem dX9_chambers_4 : decode cX9_chambers 4 = .ok (.aload_n 0, 1) := by decide +kernel
theorem dX9_chambers_5 : decode cX9_chambers 5 = .ok (.getfield 268, 3) := by decide +kernel
theorem dX9_chambers_8 : decode cX9_chambers 8 = .ok (.iaload, 1) := by decide +kernel
theorem dX9_chambers_9 : decode cX9_chambers 9 = .ok (.ireturn, 1) := by decide +kernel
set_option maxRecDepth 20000 in
theorem ggX9_isTenant_X9_many : GoodIn wsX9_isTenant wsX9_many := goodIn_r _ [5, 6, 7, 11, 12, 13, 14, 15, 16, 17, 18, 19, 20, 21, 22, 23, 24, 25, 26, 27, 28, 29, 30, 31, 32, 33, 34, 35, 36, 37, 38, 39, 40, 41, 42, 43, 44, 45, 46, 47, 48, 49, 50, 51, 52, 53, 54, 55, 56, 57, 58, 59, 60, 61, 62, 63, 64, 65, 66, 67, 68, 69, 70, 71, 72, 73, 74, 75, 76, 77] (by decide +kernel) (by decide +kernel)
set_option maxRecDepth 20000 in
theorem gX9_isTenant_X9_many : GoodIn wsX9_isTenant (wsV RX9 373 RX9 yX9_many wsX9_many) := goodIn_app (goodIn_of _ (by decide +kernel)) ggX9_isTenant_X9_many
set_option maxRecDepth 20000 in
theorem ggX9_isTenant_X9_isIn : GoodIn wsX9_isTenant wsX9_isIn := goodIn_r _ [10] (by decide +kernel) (by decide +kernel)
set_option maxRecDepth 20000 in
theorem gX9_isTenant_X9_isIn : GoodIn wsX9_isTenant (va_wsS RX9 376 yX9_isIn wsX9_isIn) := goodIn_app (goodIn_of _ (by decide +kernel)) ggX9_isTenant_X9_isIn
theorem dX9_isTenant_0 : decode cX9_isTenant 0 = .ok (.iload_n 1, 1) := by decide +kernel
theorem dX9_isTenant_1 : decode cX9_isTenant 1 = .ok (.iconst 0, 1) := by decide +kernel
theorem dX9_isTenant_2 : decode cX9_isTenant 2 = .ok (.aload_n 0, 1) := by decide +kernel
theorem dX9_isTenant_3 : decode cX9_isTenant 3 = .ok (.invokevirtual 373, 3) := by decide +kernel
theorem dX9_isTenant_6 : decode cX9_isTenant 6 = .ok (.iconst 1, 1) := by decide +kernel
theorem dX9_isTenant_7 : decode cX9_isTenant 7 = .ok (.isub, 1) := by decide +kernel
theorem dX9_isTenant_8 : decode cX9_isTenant 8 = .ok (.invokestatic 376, 3) := by decide +kernel
theorem dX9_isTenant_11 : decode cX9_isTenant 11 = .ok (.ireturn, 1) := by decide +kernel
set_option maxRecDepth 20000 in
theorem ggX9_isCat_X9_cattery : GoodIn wsX9_isCat wsX9_cattery := goodIn_r _ [5, 6, 7, 11, 12, 13, 14, 15, 16, 17, 18, 19, 20, 21, 22, 23, 24, 25, 26, 27, 28, 29, 30, 31, 32, 33, 34, 35, 36, 37, 38, 39, 40, 41, 42, 43, 44, 45, 46, 47, 48, 49, 50, 51, 52, 53, 54, 55, 56, 57, 58, 59, 60, 61, 62, 63, 64, 65, 66, 67, 68, 69, 70, 71, 72, 73, 74, 75, 76, 77] (by decide +kernel) (by decide +kernel)
set_option maxRecDepth 20000 in
theorem gX9_isCat_X9_cattery : GoodIn wsX9_isCat (wsV RX9 380 RX9 yX9_cattery wsX9_cattery) := goodIn_app (goodIn_of _ (by decide +kernel)) ggX9_isCat_X9_cattery
set_option maxRecDepth 20000 in
theorem ggX9_isCat_X9_isIn : GoodIn wsX9_isCat wsX9_isIn := goodIn_r _ [10] (by decide +kernel) (by decide +kernel)
set_option maxRecDepth 20000 in
theorem gX9_isCat_X9_isIn : GoodIn wsX9_isCat (va_wsS RX9 376 yX9_isIn wsX9_isIn) := goodIn_app (goodIn_of _ (by decide +kernel)) ggX9_isCat_X9_isIn
theorem dX9_isCat_0 : decode cX9_isCat 0 = .ok (.iload_n 1, 1) := by decide +kernel
theorem dX9_isCat_1 : decode cX9_isCat 1 = .ok (.iconst 0, 1) := by decide +kernel
theorem dX9_isCat_2 : decode cX9_isCat 2 = .ok (.aload_n 0, 1) := by decide +kernel
theorem dX9_isCat_3 : decode cX9_isCat 3 = .ok (.invokevirtual 380, 3) := by decide +kernel
theorem dX9_isCat_6 : decode cX9_isCat 6 = .ok (.iconst 1, 1) := by decide +kernel
theorem dX9_isCat_7 : decode cX9_isCat 7 = .ok (.isub, 1) := by decide +kernel
theorem dX9_isCat_8 : decode cX9_isCat 8 = .ok (.invokestatic 376, 3) := by decide +kernel
theorem dX9_isCat_11 : decode cX9_isCat 11 = .ok (.ireturn, 1) := by decide +kernel
set_option maxRecDepth 20000 in
theorem ggX9_isRoom_X9_chambers : GoodIn wsX9_isRoom wsX9_chambers := goodIn_r _ [5, 6, 7, 11, 12, 13, 14, 15, 16, 17, 18, 19, 20, 21, 22, 23, 24, 25, 26, 27, 28, 29, 30, 31, 32, 33, 34, 35, 36, 37, 38, 39, 40, 41, 42, 43, 44, 45, 46, 47, 48, 49, 50, 51, 52, 53, 54, 55, 56, 57, 58, 59, 60, 61, 62, 63, 64, 65, 66, 67, 68, 69, 70, 71, 72, 73, 74, 75, 76, 77] (by decide +kernel) (by decide +kernel)
set_option maxRecDepth 20000 in
theorem gX9_isRoom_X9_chambers : GoodIn wsX9_isRoom (wsV RX9 383 RX9 yX9_chambers wsX9_chambers) := goodIn_app (goodIn_of _ (by decide +kernel)) ggX9_isRoom_X9_chambers
set_option maxRecDepth 20000 in
theorem ggX9_isRoom_X9_isIn : GoodIn wsX9_isRoom wsX9_isIn := goodIn_r _ [10] (by decide +kernel) (by decide +kernel)
set_option maxRecDepth 20000 in
theorem gX9_isRoom_X9_isIn : GoodIn wsX9_isRoom (va_wsS RX9 376 yX9_isIn wsX9_isIn) := goodIn_app (goodIn_of _ (by decide +kernel)) ggX9_isRoom_X9_isIn
theorem dX9_isRoom_0 : decode cX9_isRoom 0 = .ok (.iload_n 1, 1) := by decide +kernel
theorem dX9_isRoom_1 : decode cX9_isRoom 1 = .ok (.iconst 0, 1) := by decide +kernel
theorem dX9_isRoom_2 : decode cX9_isRoom 2 = .ok (.aload_n 0, 1) := by decide +kernel
theorem dX9_isRoom_3 : decode cX9_isRoom 3 = .ok (.invokevirtual 383, 3) := by decide +kernel
theorem dX9_isRoom_6 : decode cX9_isRoom 6 = .ok (.iconst 1, 1) := by decide +kernel
theorem dX9_isRoom_7 : decode cX9_isRoom 7 = .ok (.isub, 1) := by decide +kernel
theorem dX9_isRoom_8 : decode cX9_isRoom 8 = .ok (.invokestatic 376, 3) := by decide +kernel
theorem dX9_isRoom_11 : decode cX9_isRoom 11 = .ok (.ireturn, 1) := by decide +kernel
set_option maxRecDepth 20000 in
theorem ggX9_isAtHome_X9_isTenant : GoodIn wsX9_isAtHome wsX9_isTenant := goodIn_r _ [6, 7, 8, 9, 5, 10, 11, 12, 13, 14, 15, 24, 25, 26, 27, 28, 29, 30, 31, 32, 33, 34, 35, 36, 37, 38, 39, 40, 41, 42, 43, 44, 45, 46, 47, 48, 49, 50, 51, 52, 53, 54, 55, 56, 57, 58, 59, 60, 61, 62, 63, 64, 65, 66, 67, 68, 69, 70, 71, 72, 73, 74, 75, 76, 77, 78, 79, 80, 81, 82, 83, 84, 85, 86, 87, 88, 89, 90] (by decide +kernel) (by decide +kernel)
set_option maxRecDepth 20000 in
theorem gX9_isAtHome_X9_isTenant : GoodIn wsX9_isAtHome (wsV RX9 386 RX9 yX9_isTenant wsX9_isTenant) := goodIn_app (goodIn_of _ (by decide +kernel)) ggX9_isAtHome_X9_isTenant
theorem dX9_isAtHome_0 : decode cX9_isAtHome 0 = .ok (.aload_n 0, 1) := by decide +kernel
theorem dX9_isAtHome_1 : decode cX9_isAtHome 1 = .ok (.iload_n 1, 1) := by decide +kernel
theorem dX9_isAtHome_2 : decode cX9_isAtHome 2 = .ok (.invokevirtual 386, 3) := by decide +kernel
theorem dX9_isAtHome_5 : decode cX9_isAtHome 5 = .ok (.ifCond .eq 30, 3) := by decide +kernel
theorem dX9_isAtHome_35 : decode cX9_isAtHome 35 = .ok (.iconst 0, 1) := by decide +kernel
theorem dX9_isAtHome_36 : decode cX9_isAtHome 36 = .ok (.ireturn, 1) := by decide +kernel
set_option maxRecDepth 20000 in
theorem ggX9_thrown_X9_many : GoodIn wsX9_thrown wsX9_many := goodIn_r _ [5, 6, 7, 93, 94, 95, 96, 97, 98, 99, 100, 101, 102, 103, 104, 105, 106, 107, 108, 109, 110, 111, 112, 113, 114, 115, 116, 117, 118, 119, 120, 121, 122, 123, 124, 125, 126, 127, 128, 129, 130, 131, 132, 133, 134, 135, 136, 137, 138, 139, 140, 141, 142, 143, 144, 145, 146, 147, 148, 149, 150, 151, 152, 153, 154, 155, 156, 157, 158, 159] (by decide +kernel) (by decide +kernel)
set_option maxRecDepth 20000 in
theorem gX9_thrown_X9_many : GoodIn wsX9_thrown (wsV RX9 373 RX9 yX9_many wsX9_many) := goodIn_app (goodIn_of _ (by decide +kernel)) ggX9_thrown_X9_many
theorem dX9_thrown_0 : decode cX9_thrown 0 = .ok (.iconst 0, 1) := by decide +kernel
theorem dX9_thrown_1 : decode cX9_thrown 1 = .ok (.istore_n 1, 1) := by decide +kernel
theorem dX9_thrown_2 : decode cX9_thrown 2 = .ok (.iconst 0, 1) := by decide +kernel
theorem dX9_thrown_3 : decode cX9_thrown 3 = .ok (.istore_n 2, 1) := by decide +kernel
theorem dX9_thrown_4 : decode cX9_thrown 4 = .ok (.iload_n 2, 1) := by decide +kernel
theorem dX9_thrown_5 : decode cX9_thrown 5 = .ok (.aload_n 0, 1) := by decide +kernel
theorem dX9_thrown_6 : decode cX9_thrown 6 = .ok (.invokevirtual 373, 3) := by decide +kernel
theorem dX9_thrown_9 : decode cX9_thrown 9 = .ok (.if_icmp .ge 31, 3) := by decide +kernel
theorem dX9_thrown_40 : decode cX9_thrown 40 = .ok (.iload_n 1, 1) := by decide +kernel
theorem dX9_thrown_41 : decode cX9_thrown 41 = .ok (.ireturn, 1) := by decide +kernel
set_option maxRecDepth 20000 in
theorem ggX9_cat_X9_isCat : GoodIn wsX9_cat wsX9_isCat := goodIn_r _ [9, 10, 11, 12, 8, 13, 14, 3, 15, 16, 17, 47, 48, 49, 50, 51, 52, 53, 54, 55, 56, 57, 58, 59, 60, 61, 62, 63, 64, 65, 66, 67, 68, 69, 70, 71, 72, 73, 74, 75, 76, 77, 78, 79, 80, 81, 82, 83, 84, 85, 86, 87, 88, 89, 90, 91, 92, 93, 94, 95, 96, 97, 98, 99, 100, 101, 102, 103, 104, 105, 106, 107, 108, 109, 110, 111, 112, 113] (by decide +kernel) (by decide +kernel)
set_option maxRecDepth 20000 in
theorem gX9_cat_X9_isCat : GoodIn wsX9_cat (wsV RX9 456 RX9 yX9_isCat wsX9_isCat) := goodIn_app (goodIn_of _ (by decide +kernel)) ggX9_cat_X9_isCat
theorem dX9_cat_0 : decode cX9_cat 0 = .ok (.aload_n 0, 1) := by decide +kernel
theorem dX9_cat_1 : decode cX9_cat 1 = .ok (.iload_n 1, 1) := by decide +kernel
theorem dX9_cat_2 : decode cX9_cat 2 = .ok (.invokevirtual 456, 3) := by decide +kernel
theorem dX9_cat_5 : decode cX9_cat 5 = .ok (.ifCond .ne 6, 3) := by decide +kernel
theorem dX9_cat_8 : decode cX9_cat 8 = .ok (.bipush (-2), 2) := by decide +kernel
theorem dX9_cat_10 : decode cX9_cat 10 = .ok (.ireturn, 1) := by decide +kernel
set_option maxRecDepth 20000 in
theorem ggX9_room_X9_isRoom : GoodIn wsX9_room wsX9_isRoom := goodIn_r _ [5, 6, 7, 8, 4, 9, 10, 11, 12, 13, 14, 29, 30, 31, 32, 33, 34, 35, 36, 37, 38, 39, 40, 41, 42, 43, 44, 45, 46, 47, 48, 49, 50, 51, 52, 53, 54, 55, 56, 57, 58, 59, 60, 61, 62, 63, 64, 65, 66, 67, 68, 69, 70, 71, 72, 73, 74, 75, 76, 77, 78, 79, 80, 81, 82, 83, 84, 85, 86, 87, 88, 89, 90, 91, 92, 93, 94, 95] (by decide +kernel) (by decide +kernel)
set_option maxRecDepth 20000 in
theorem gX9_room_X9_isRoom : GoodIn wsX9_room (wsV RX9 462 RX9 yX9_isRoom wsX9_isRoom) := goodIn_app (goodIn_of _ (by decide +kernel)) ggX9_room_X9_isRoom
theorem dX9_room_0 : decode cX9_room 0 = .ok (.aload_n 0, 1) := by decide +kernel
theorem dX9_room_1 : decode cX9_room 1 = .ok (.iload_n 1, 1) := by decide +kernel
theorem dX9_room_2 : decode cX9_room 2 = .ok (.invokevirtual 462, 3) := by decide +kernel
theorem dX9_room_5 : decode cX9_room 5 = .ok (.ifCond .ne 6, 3) := by decide +kernel
theorem dX9_room_8 : decode cX9_room 8 = .ok (.bipush (-2), 2) := by decide +kernel
theorem dX9_room_10 : decode cX9_room 10 = .ok (.ireturn, 1) := by decide +kernel
set_option maxRecDepth 20000 in
theorem ggX9_tenant_X9_isTenant : GoodIn wsX9_tenant wsX9_isTenant := goodIn_r _ [8, 9, 10, 11, 7, 12, 13, 3, 14, 15, 16, 17, 18, 19, 20, 21, 22, 23, 24, 25, 26, 27, 28, 29, 30, 31, 32, 33, 34, 35, 36, 37, 38, 39, 40, 41, 42, 43, 44, 45, 46, 47, 48, 49, 50, 51, 52, 53, 54, 55, 56, 57, 58, 59, 60, 61, 62, 63, 64, 65, 66, 67, 68, 69, 70, 71, 72, 73, 74, 75, 76, 77, 78, 79, 80, 81, 82, 83] (by decide +kernel) (by decide +kernel)
set_option maxRecDepth 20000 in
theorem gX9_tenant_X9_isTenant : GoodIn wsX9_tenant (wsV RX9 386 RX9 yX9_isTenant wsX9_isTenant) := goodIn_app (goodIn_of _ (by decide +kernel)) ggX9_tenant_X9_isTenant
theorem dX9_tenant_0 : decode cX9_tenant 0 = .ok (.aload_n 0, 1) := by decide +kernel
theorem dX9_tenant_1 : decode cX9_tenant 1 = .ok (.iload_n 1, 1) := by decide +kernel
theorem dX9_tenant_2 : decode cX9_tenant 2 = .ok (.invokevirtual 386, 3) := by decide +kernel
theorem dX9_tenant_5 : decode cX9_tenant 5 = .ok (.ifCond .ne 6, 3) := by decide +kernel
theorem dX9_tenant_8 : decode cX9_tenant 8 = .ok (.bipush (-2), 2) := by decide +kernel
theorem dX9_tenant_10 : decode cX9_tenant 10 = .ok (.ireturn, 1) := by decide +kernel
set_option maxRecDepth 20000 in
theorem ggX9_liking_X9_isTenant : GoodIn wsX9_liking wsX9_isTenant := goodIn_r _ [6, 7, 8, 9, 5, 10, 11, 12, 13, 14, 15, 86, 87, 88, 89, 90, 91, 92, 93, 94, 95, 96, 97, 98, 99, 100, 101, 102, 103, 104, 105, 106, 107, 108, 109, 110, 111, 112, 113, 114, 115, 116, 117, 118, 119, 120, 121, 122, 123, 124, 125, 126, 127, 128, 129, 130, 131, 132, 133, 134, 135, 136, 137, 138, 139, 140, 141, 142, 143, 144, 145, 146, 147, 148, 149, 150, 151, 152] (by decide +kernel) (by decide +kernel)
set_option maxRecDepth 20000 in
theorem gX9_liking_X9_isTenant : GoodIn wsX9_liking (wsV RX9 386 RX9 yX9_isTenant wsX9_isTenant) := goodIn_app (goodIn_of _ (by decide +kernel)) ggX9_liking_X9_isTenant
theorem dX9_liking_0 : decode cX9_liking 0 = .ok (.aload_n 0, 1) := by decide +kernel
theorem dX9_liking_1 : decode cX9_liking 1 = .ok (.iload_n 1, 1) := by decide +kernel
theorem dX9_liking_2 : decode cX9_liking 2 = .ok (.invokevirtual 386, 3) := by decide +kernel
theorem dX9_liking_5 : decode cX9_liking 5 = .ok (.ifCond .eq 28, 3) := by decide +kernel
theorem dX9_liking_33 : decode cX9_liking 33 = .ok (.ldc_w 468, 3) := by decide +kernel
theorem dX9_liking_36 : decode cX9_liking 36 = .ok (.ireturn, 1) := by decide +kernel
set_option maxRecDepth 20000 in
theorem ggX9_shaky_X9_thrown : GoodIn wsX9_shaky wsX9_thrown := goodIn_r _ [5, 6, 7, 8, 4, 9, 10, 11, 12, 13, 14, 15, 16, 17, 18, 19, 20, 21, 22, 23, 24, 25, 26, 27, 28, 29, 30, 31, 32, 33, 34, 35, 36, 37, 38, 39, 40, 41, 42, 43, 44, 45, 46, 47, 48, 49, 50, 51, 52, 53, 54, 55, 56, 57, 58, 59, 60, 61, 62, 63, 64, 65, 66, 67, 68, 69, 70, 71, 72, 73, 74, 75, 76, 77, 78, 79, 80, 81, 82, 83, 84, 85, 86, 87, 88, 89, 90, 91, 92, 93, 94, 95, 96, 97, 98, 99, 100, 101, 102, 103, 104, 105, 106, 107, 108, 109, 110, 111, 112, 113, 114, 115, 116, 117, 118, 119, 120, 121, 122, 123, 124, 125, 126, 127, 128, 129, 130, 131, 132, 133, 134, 135, 136, 137, 138, 139, 140, 141, 142, 143, 144, 145, 146, 147, 148, 149, 150, 151, 152, 153, 154, 155, 156, 157, 158, 159, 160, 161, 162, 163] (by decide +kernel) (by decide +kernel)
set_option maxRecDepth 20000 in
theorem gX9_shaky_X9_thrown : GoodIn wsX9_shaky (wsV RX9 443 RX9 yX9_thrown wsX9_thrown) := goodIn_app (goodIn_of _ (by decide +kernel)) ggX9_shaky_X9_thrown
theorem dX9_shaky_0 : decode cX9_shaky 0 = .ok (.aload_n 0, 1) := by decide +kernel
theorem dX9_shaky_1 : decode cX9_shaky 1 = .ok (.invokevirtual 443, 3) := by decide +kernel
theorem dX9_shaky_4 : decode cX9_shaky 4 = .ok (.ireturn, 1) := by decide +kernel
set_option maxRecDepth 20000 in
theorem ggX9_law_X9_isIn : GoodIn wsX9_law wsX9_isIn := goodIn_r _ [5] (by decide +kernel) (by decide +kernel)
set_option maxRecDepth 20000 in
theorem gX9_law_X9_isIn : GoodIn wsX9_law (va_wsS RX9 376 yX9_isIn wsX9_isIn) := goodIn_app (goodIn_of _ (by decide +kernel)) ggX9_law_X9_isIn
set_option maxRecDepth 20000 in
theorem ggX9_law_X9_thrown : GoodIn wsX9_law wsX9_thrown := goodIn_r _ [9, 10, 11, 12, 4, 13, 14, 15, 16, 17, 18, 19, 20, 21, 22, 23, 24, 2, 3, 5, 25, 26, 27, 28, 29, 30, 31, 32, 33, 34, 35, 36, 37, 38, 39, 40, 41, 42, 43, 44, 45, 46, 47, 48, 49, 50, 51, 52, 53, 54, 55, 1, 56, 57, 58, 59, 60, 61, 62, 63, 64, 65, 66, 67, 68, 69, 70, 71, 72, 73, 74, 75, 76, 77, 78, 79, 80, 81, 82, 83, 84, 85, 86, 87, 88, 89, 90, 91, 92, 93, 94, 95, 96, 97, 98, 99, 100, 101, 102, 103, 104, 105, 106, 107, 108, 109, 110, 111, 112, 113, 114, 115, 116, 117, 118, 119, 120, 121, 122, 123, 124, 125, 126, 127, 128, 129, 130, 131, 132, 133, 134, 135, 136, 137, 138, 139, 140, 141, 142, 143, 144, 145, 146, 147, 148, 149, 150, 151, 152, 153, 154, 155, 156, 157, 158, 159, 160, 161, 162, 163] (by decide +kernel) (by decide +kernel)
set_option maxRecDepth 20000 in
theorem gX9_law_X9_thrown : GoodIn wsX9_law (wsV RX9 443 RX9 yX9_thrown wsX9_thrown) := goodIn_app (goodIn_of _ (by decide +kernel)) ggX9_law_X9_thrown
set_option maxRecDepth 20000 in
theorem ggX9_law_X9_bitsOf : GoodIn wsX9_law wsX9_bitsOf := goodIn_r _ [74] (by decide +kernel) (by decide +kernel)
set_option maxRecDepth 20000 in
theorem gX9_law_X9_bitsOf : GoodIn wsX9_law (va_wsS RX9 416 yX9_bitsOf wsX9_bitsOf) := goodIn_app (goodIn_of _ (by decide +kernel)) ggX9_law_X9_bitsOf
theorem dX9_law_0 : decode cX9_law 0 = .ok (.iload_n 1, 1) := by decide +kernel
theorem dX9_law_1 : decode cX9_law 1 = .ok (.iconst 0, 1) := by decide +kernel
theorem dX9_law_2 : decode cX9_law 2 = .ok (.bipush 99, 2) := by decide +kernel
theorem dX9_law_4 : decode cX9_law 4 = .ok (.invokestatic 376, 3) := by decide +kernel
theorem dX9_law_7 : decode cX9_law 7 = .ok (.ifCond .ne 5, 3) := by decide +kernel
theorem dX9_law_10 : decode cX9_law 10 = .ok (.iconst (-1), 1) := by decide +kernel
theorem dX9_law_11 : decode cX9_law 11 = .ok (.ireturn, 1) := by decide +kernel
theorem dX9_law_12 : decode cX9_law 12 = .ok (.aload_n 0, 1) := by decide +kernel
theorem dX9_law_13 : decode cX9_law 13 = .ok (.iload_n 1, 1) := by decide +kernel
theorem dX9_law_14 : decode cX9_law 14 = .ok (.putfield 100, 3) := by decide +kernel
theorem dX9_law_17 : decode cX9_law 17 = .ok (.aload_n 0, 1) := by decide +kernel
theorem dX9_law_18 : decode cX9_law 18 = .ok (.invokevirtual 443, 3) := by decide +kernel
theorem dX9_law_21 : decode cX9_law 21 = .ok (.invokestatic 416, 3) := by decide +kernel
theorem dX9_law_24 : decode cX9_law 24 = .ok (.istore_n 2, 1) := by decide +kernel
theorem dX9_law_25 : decode cX9_law 25 = .ok (.aload_n 0, 1) := by decide +kernel
theorem dX9_law_26 : decode cX9_law 26 = .ok (.iconst (-1), 1) := by decide +kernel
theorem dX9_law_27 : decode cX9_law 27 = .ok (.putfield 100, 3) := by decide +kernel
theorem dX9_law_30 : decode cX9_law 30 = .ok (.iload_n 2, 1) := by decide +kernel
theorem dX9_law_31 : decode cX9_law 31 = .ok (.ireturn, 1) := by decide +kernel
set_option maxRecDepth 20000 in
theorem ggX9_purse_X9_isCat : GoodIn wsX9_purse wsX9_isCat := goodIn_r _ [9, 10, 11, 12, 8, 13, 14, 4, 15, 16, 17, 47, 48, 49, 50, 51, 52, 53, 54, 55, 56, 57, 58, 59, 60, 61, 62, 63, 64, 65, 66, 67, 68, 69, 70, 71, 72, 73, 74, 75, 76, 77, 78, 79, 80, 81, 82, 83, 84, 85, 86, 87, 88, 89, 90, 91, 92, 93, 94, 95, 96, 97, 98, 99, 100, 101, 102, 103, 104, 105, 106, 107, 108, 109, 110, 111, 112, 113] (by decide +kernel) (by decide +kernel)
set_option maxRecDepth 20000 in
theorem gX9_purse_X9_isCat : GoodIn wsX9_purse (wsV RX9 456 RX9 yX9_isCat wsX9_isCat) := goodIn_app (goodIn_of _ (by decide +kernel)) ggX9_purse_X9_isCat
theorem dX9_purse_0 : decode cX9_purse 0 = .ok (.aload_n 0, 1) := by decide +kernel
theorem dX9_purse_1 : decode cX9_purse 1 = .ok (.iload_n 1, 1) := by decide +kernel
theorem dX9_purse_2 : decode cX9_purse 2 = .ok (.invokevirtual 456, 3) := by decide +kernel
theorem dX9_purse_5 : decode cX9_purse 5 = .ok (.ifCond .ne 7, 3) := by decide +kernel
theorem dX9_purse_8 : decode cX9_purse 8 = .ok (.ldc_w 469, 3) := by decide +kernel
theorem dX9_purse_11 : decode cX9_purse 11 = .ok (.ireturn, 1) := by decide +kernel
set_option maxRecDepth 20000 in
theorem ggX9_fondest_X9_cattery : GoodIn wsX9_fondest wsX9_cattery := goodIn_r _ [5, 6, 7, 89, 90, 91, 92, 93, 94, 95, 96, 97, 98, 99, 100, 101, 102, 103, 104, 105, 106, 107, 108, 109, 110, 111, 112, 113, 114, 115, 116, 117, 118, 119, 120, 121, 122, 123, 124, 125, 126, 127, 128, 129, 130, 131, 132, 133, 134, 135, 136, 137, 138, 139, 140, 141, 142, 143, 144, 145, 146, 147, 148, 149, 150, 151, 152, 153, 154, 155] (by decide +kernel) (by decide +kernel)
set_option maxRecDepth 20000 in
theorem gX9_fondest_X9_cattery : GoodIn wsX9_fondest (wsV RX9 380 RX9 yX9_cattery wsX9_cattery) := goodIn_app (goodIn_of _ (by decide +kernel)) ggX9_fondest_X9_cattery
theorem dX9_fondest_0 : decode cX9_fondest 0 = .ok (.iconst (-1), 1) := by decide +kernel
theorem dX9_fondest_1 : decode cX9_fondest 1 = .ok (.istore_n 1, 1) := by decide +kernel
theorem dX9_fondest_2 : decode cX9_fondest 2 = .ok (.iconst 0, 1) := by decide +kernel
theorem dX9_fondest_3 : decode cX9_fondest 3 = .ok (.istore_n 2, 1) := by decide +kernel
theorem dX9_fondest_4 : decode cX9_fondest 4 = .ok (.iconst 0, 1) := by decide +kernel
theorem dX9_fondest_5 : decode cX9_fondest 5 = .ok (.istore_n 3, 1) := by decide +kernel
theorem dX9_fondest_6 : decode cX9_fondest 6 = .ok (.iload_n 3, 1) := by decide +kernel
theorem dX9_fondest_7 : decode cX9_fondest 7 = .ok (.aload_n 0, 1) := by decide +kernel
theorem dX9_fondest_8 : decode cX9_fondest 8 = .ok (.invokevirtual 380, 3) := by decide +kernel
theorem dX9_fondest_11 : decode cX9_fondest 11 = .ok (.if_icmp .ge 92, 3) := by decide +kernel
theorem dX9_fondest_103 : decode cX9_fondest 103 = .ok (.iload_n 1, 1) := by decide +kernel
theorem dX9_fondest_104 : decode cX9_fondest 104 = .ok (.ireturn, 1) := by decide +kernel
set_option maxRecDepth 20000 in
theorem ggX9_nobodys_X9_many : GoodIn wsX9_nobodys wsX9_many := goodIn_r _ [5, 6, 7, 74, 75, 76, 77, 78, 79, 80, 81, 82, 83, 84, 85, 86, 87, 88, 89, 90, 91, 92, 93, 94, 95, 96, 97, 98, 99, 100, 101, 102, 103, 104, 105, 106, 107, 108, 109, 110, 111, 112, 113, 114, 115, 116, 117, 118, 119, 120, 121, 122, 123, 124, 125, 126, 127, 128, 129, 130, 131, 132, 133, 134, 135, 136, 137, 138, 139, 140] (by decide +kernel) (by decide +kernel)
set_option maxRecDepth 20000 in
theorem gX9_nobodys_X9_many : GoodIn wsX9_nobodys (wsV RX9 373 RX9 yX9_many wsX9_many) := goodIn_app (goodIn_of _ (by decide +kernel)) ggX9_nobodys_X9_many
theorem dX9_nobodys_0 : decode cX9_nobodys 0 = .ok (.iconst 0, 1) := by decide +kernel
theorem dX9_nobodys_1 : decode cX9_nobodys 1 = .ok (.istore_n 1, 1) := by decide +kernel
theorem dX9_nobodys_2 : decode cX9_nobodys 2 = .ok (.iconst 0, 1) := by decide +kernel
theorem dX9_nobodys_3 : decode cX9_nobodys 3 = .ok (.istore_n 2, 1) := by decide +kernel
theorem dX9_nobodys_4 : decode cX9_nobodys 4 = .ok (.iload_n 2, 1) := by decide +kernel
theorem dX9_nobodys_5 : decode cX9_nobodys 5 = .ok (.aload_n 0, 1) := by decide +kernel
theorem dX9_nobodys_6 : decode cX9_nobodys 6 = .ok (.invokevirtual 373, 3) := by decide +kernel
theorem dX9_nobodys_9 : decode cX9_nobodys 9 = .ok (.if_icmp .ge 68, 3) := by decide +kernel
theorem dX9_nobodys_77 : decode cX9_nobodys 77 = .ok (.iload_n 1, 1) := by decide +kernel
theorem dX9_nobodys_78 : decode cX9_nobodys 78 = .ok (.ireturn, 1) := by decide +kernel
set_option maxRecDepth 20000 in
theorem ggX9_move_X9_isTenant : GoodIn wsX9_move wsX9_isTenant := goodIn_r _ [6, 7, 8, 9, 5, 10, 11, 12, 13, 14, 15, 40, 41, 42, 43, 44, 45, 46, 47, 48, 49, 50, 51, 52, 53, 54, 55, 56, 57, 58, 59, 60, 61, 62, 63, 64, 65, 66, 67, 68, 69, 70, 71, 72, 73, 74, 75, 76, 77, 78, 79, 80, 81, 82, 83, 84, 85, 86, 87, 88, 89, 90, 91, 92, 93, 94, 95, 96, 97, 98, 99, 100, 101, 102, 103, 104, 105, 106] (by decide +kernel) (by decide +kernel)
set_option maxRecDepth 20000 in
theorem gX9_move_X9_isTenant : GoodIn wsX9_move (wsV RX9 386 RX9 yX9_isTenant wsX9_isTenant) := goodIn_app (goodIn_of _ (by decide +kernel)) ggX9_move_X9_isTenant
theorem dX9_move_0 : decode cX9_move 0 = .ok (.aload_n 0, 1) := by decide +kernel
theorem dX9_move_1 : decode cX9_move 1 = .ok (.iload_n 1, 1) := by decide +kernel
theorem dX9_move_2 : decode cX9_move 2 = .ok (.invokevirtual 386, 3) := by decide +kernel
theorem dX9_move_5 : decode cX9_move 5 = .ok (.ifCond .eq 19, 3) := by decide +kernel
theorem dX9_move_24 : decode cX9_move 24 = .ok (.bipush (-2), 2) := by decide +kernel
theorem dX9_move_26 : decode cX9_move 26 = .ok (.ireturn, 1) := by decide +kernel
set_option maxRecDepth 20000 in
theorem ggX9_leave_X9_isTenant : GoodIn wsX9_leave wsX9_isTenant := goodIn_r _ [6, 7, 8, 9, 5, 10, 11, 12, 13, 14, 15, 31, 32, 33, 34, 35, 36, 37, 38, 39, 40, 41, 42, 43, 44, 45, 46, 47, 48, 49, 50, 51, 52, 53, 54, 55, 56, 57, 58, 59, 60, 61, 62, 63, 64, 65, 66, 67, 68, 69, 70, 71, 72, 73, 74, 75, 76, 77, 78, 79, 80, 81, 82, 83, 84, 85, 86, 87, 88, 89, 90, 91, 92, 93, 94, 95, 96, 97] (by decide +kernel) (by decide +kernel)
set_option maxRecDepth 20000 in
theorem gX9_leave_X9_isTenant : GoodIn wsX9_leave (wsV RX9 386 RX9 yX9_isTenant wsX9_isTenant) := goodIn_app (goodIn_of _ (by decide +kernel)) ggX9_leave_X9_isTenant
theorem dX9_leave_0 : decode cX9_leave 0 = .ok (.aload_n 0, 1) := by decide +kernel
theorem dX9_leave_1 : decode cX9_leave 1 = .ok (.iload_n 1, 1) := by decide +kernel
theorem dX9_leave_2 : decode cX9_leave 2 = .ok (.invokevirtual 386, 3) := by decide +kernel
theorem dX9_leave_5 : decode cX9_leave 5 = .ok (.ifCond .eq 11, 3) := by decide +kernel
theorem dX9_leave_16 : decode cX9_leave 16 = .ok (.iconst (-1), 1) := by decide +kernel
theorem dX9_leave_17 : decode cX9_leave 17 = .ok (.ireturn, 1) := by decide +kernel
set_option maxRecDepth 20000 in
theorem ggX9_exchange_X9_isTenant : GoodIn wsX9_exchange wsX9_isTenant := goodIn_r _ [6, 7, 8, 9, 5, 10, 11, 12, 13, 14, 15, 31, 32, 33, 34, 35, 36, 37, 38, 39, 40, 41, 42, 43, 44, 45, 46, 47, 48, 49, 50, 51, 52, 53, 54, 55, 56, 57, 58, 59, 60, 61, 62, 63, 64, 65, 66, 67, 68, 69, 70, 71, 72, 73, 74, 75, 76, 77, 78, 79, 80, 81, 82, 83, 84, 85, 86, 87, 88, 89, 90, 91, 92, 93, 94, 95, 96, 97] (by decide +kernel) (by decide +kernel)
set_option maxRecDepth 20000 in
theorem gX9_exchange_X9_isTenant : GoodIn wsX9_exchange (wsV RX9 386 RX9 yX9_isTenant wsX9_isTenant) := goodIn_app (goodIn_of _ (by decide +kernel)) ggX9_exchange_X9_isTenant
theorem dX9_exchange_0 : decode cX9_exchange 0 = .ok (.aload_n 0, 1) := by decide +kernel
theorem dX9_exchange_1 : decode cX9_exchange 1 = .ok (.iload_n 1, 1) := by decide +kernel
theorem dX9_exchange_2 : decode cX9_exchange 2 = .ok (.invokevirtual 386, 3) := by decide +kernel
theorem dX9_exchange_5 : decode cX9_exchange 5 = .ok (.ifCond .eq 32, 3) := by decide +kernel
theorem dX9_exchange_37 : decode cX9_exchange 37 = .ok (.iconst (-1), 1) := by decide +kernel
theorem dX9_exchange_38 : decode cX9_exchange 38 = .ok (.ireturn, 1) := by decide +kernel
set_option maxRecDepth 20000 in
theorem ggX9_claim_X9_isRoom : GoodIn wsX9_claim wsX9_isRoom := goodIn_r _ [6, 7, 8, 9, 5, 10, 11, 12, 13, 14, 15, 50, 51, 52, 53, 54, 55, 56, 57, 58, 59, 60, 61, 62, 63, 64, 65, 66, 67, 68, 69, 70, 71, 72, 73, 74, 75, 76, 77, 78, 79, 80, 81, 82, 83, 84, 85, 86, 87, 88, 89, 90, 91, 92, 93, 94, 95, 96, 97, 98, 99, 100, 101, 102, 103, 104, 105, 106, 107, 108, 109, 110, 111, 112, 113, 114, 115, 116] (by decide +kernel) (by decide +kernel)
set_option maxRecDepth 20000 in
theorem gX9_claim_X9_isRoom : GoodIn wsX9_claim (wsV RX9 462 RX9 yX9_isRoom wsX9_isRoom) := goodIn_app (goodIn_of _ (by decide +kernel)) ggX9_claim_X9_isRoom
theorem dX9_claim_0 : decode cX9_claim 0 = .ok (.aload_n 0, 1) := by decide +kernel
theorem dX9_claim_1 : decode cX9_claim 1 = .ok (.iload_n 1, 1) := by decide +kernel
theorem dX9_claim_2 : decode cX9_claim 2 = .ok (.invokevirtual 462, 3) := by decide +kernel
theorem dX9_claim_5 : decode cX9_claim 5 = .ok (.ifCond .eq 27, 3) := by decide +kernel
theorem dX9_claim_32 : decode cX9_claim 32 = .ok (.iconst (-1), 1) := by decide +kernel
theorem dX9_claim_33 : decode cX9_claim 33 = .ok (.ireturn, 1) := by decide +kernel
set_option maxRecDepth 20000 in
theorem ggX9_spend_X9_isTenant : GoodIn wsX9_spend wsX9_isTenant := goodIn_r _ [5, 6, 7, 8, 4, 9, 10, 11, 12, 13, 14, 27, 28, 29, 30, 31, 32, 33, 34, 35, 36, 37, 38, 39, 40, 41, 42, 43, 44, 45, 46, 47, 48, 49, 50, 51, 52, 53, 54, 55, 56, 57, 58, 59, 60, 61, 62, 63, 64, 65, 66, 67, 68, 69, 70, 71, 72, 73, 74, 75, 76, 77, 78, 79, 80, 81, 82, 83, 84, 85, 86, 87, 88, 89, 90, 91, 92, 93] (by decide +kernel) (by decide +kernel)
set_option maxRecDepth 20000 in
theorem gX9_spend_X9_isTenant : GoodIn wsX9_spend (wsV RX9 386 RX9 yX9_isTenant wsX9_isTenant) := goodIn_app (goodIn_of _ (by decide +kernel)) ggX9_spend_X9_isTenant
theorem dX9_spend_0 : decode cX9_spend 0 = .ok (.aload_n 0, 1) := by decide +kernel
theorem dX9_spend_1 : decode cX9_spend 1 = .ok (.iload_n 1, 1) := by decide +kernel
theorem dX9_spend_2 : decode cX9_spend 2 = .ok (.invokevirtual 386, 3) := by decide +kernel
theorem dX9_spend_5 : decode cX9_spend 5 = .ok (.ifCond .eq 25, 3) := by decide +kernel
theorem dX9_spend_30 : decode cX9_spend 30 = .ok (.iconst (-1), 1) := by decide +kernel
theorem dX9_spend_31 : decode cX9_spend 31 = .ok (.ireturn, 1) := by decide +kernel
set_option maxRecDepth 20000 in
theorem ggX9_calm_X9_isTenant : GoodIn wsX9_calm wsX9_isTenant := goodIn_r _ [5, 6, 7, 8, 4, 9, 10, 11, 12, 13, 14, 27, 28, 29, 30, 31, 32, 33, 34, 35, 36, 37, 38, 39, 40, 41, 42, 43, 44, 45, 46, 47, 48, 49, 50, 51, 52, 53, 54, 55, 56, 57, 58, 59, 60, 61, 62, 63, 64, 65, 66, 67, 68, 69, 70, 71, 72, 73, 74, 75, 76, 77, 78, 79, 80, 81, 82, 83, 84, 85, 86, 87, 88, 89, 90, 91, 92, 93] (by decide +kernel) (by decide +kernel)
set_option maxRecDepth 20000 in
theorem gX9_calm_X9_isTenant : GoodIn wsX9_calm (wsV RX9 386 RX9 yX9_isTenant wsX9_isTenant) := goodIn_app (goodIn_of _ (by decide +kernel)) ggX9_calm_X9_isTenant
theorem dX9_calm_0 : decode cX9_calm 0 = .ok (.aload_n 0, 1) := by decide +kernel
theorem dX9_calm_1 : decode cX9_calm 1 = .ok (.iload_n 1, 1) := by decide +kernel
theorem dX9_calm_2 : decode cX9_calm 2 = .ok (.invokevirtual 386, 3) := by decide +kernel
theorem dX9_calm_5 : decode cX9_calm 5 = .ok (.ifCond .eq 25, 3) := by decide +kernel
theorem dX9_calm_30 : decode cX9_calm 30 = .ok (.iconst (-1), 1) := by decide +kernel
theorem dX9_calm_31 : decode cX9_calm 31 = .ok (.ireturn, 1) := by decide +kernel
theorem dX9_undo_0 : decode cX9_undo 0 = .ok (.aload_n 0, 1) := by decide +kernel
theorem dX9_undo_1 : decode cX9_undo 1 = .ok (.getfield 398, 3) := by decide +kernel
theorem dX9_undo_4 : decode cX9_undo 4 = .ok (.ifCond .ne 5, 3) := by decide +kernel
theorem dX9_undo_7 : decode cX9_undo 7 = .ok (.iconst 0, 1) := by decide +kernel
theorem dX9_undo_8 : decode cX9_undo 8 = .ok (.ireturn, 1) := by decide +kernel
theorem dX9_redo_0 : decode cX9_redo 0 = .ok (.aload_n 0, 1) := by decide +kernel
theorem dX9_redo_1 : decode cX9_redo 1 = .ok (.getfield 401, 3) := by decide +kernel
theorem dX9_redo_4 : decode cX9_redo 4 = .ok (.ifCond .ne 5, 3) := by decide +kernel
theorem dX9_redo_7 : decode cX9_redo 7 = .ok (.iconst 0, 1) := by decide +kernel
theorem dX9_redo_8 : decode cX9_redo 8 = .ok (.ireturn, 1) := by decide +kernel
set_option maxRecDepth 20000 in
theorem ggX9_lies_X9_isIn : GoodIn wsX9_lies wsX9_isIn := goodIn_r _ [6] (by decide +kernel) (by decide +kernel)
set_option maxRecDepth 20000 in
theorem gX9_lies_X9_isIn : GoodIn wsX9_lies (va_wsS RX9 376 yX9_isIn wsX9_isIn) := goodIn_app (goodIn_of _ (by decide +kernel)) ggX9_lies_X9_isIn
theorem dX9_lies_0 : decode cX9_lies 0 = .ok (.iload_n 1, 1) := by decide +kernel
theorem dX9_lies_1 : decode cX9_lies 1 = .ok (.iconst 0, 1) := by decide +kernel
theorem dX9_lies_2 : decode cX9_lies 2 = .ok (.aload_n 0, 1) := by decide +kernel
theorem dX9_lies_3 : decode cX9_lies 3 = .ok (.getfield 407, 3) := by decide +kernel
theorem dX9_lies_6 : decode cX9_lies 6 = .ok (.iconst 1, 1) := by decide +kernel
theorem dX9_lies_7 : decode cX9_lies 7 = .ok (.isub, 1) := by decide +kernel
theorem dX9_lies_8 : decode cX9_lies 8 = .ok (.invokestatic 376, 3) := by decide +kernel
theorem dX9_lies_11 : decode cX9_lies 11 = .ok (.ifCond .eq 12, 3) := by decide +kernel
theorem dX9_lies_23 : decode cX9_lies 23 = .ok (.bipush (-2), 2) := by decide +kernel
theorem dX9_lies_25 : decode cX9_lies 25 = .ok (.ireturn, 1) := by decide +kernel
set_option maxRecDepth 20000 in
theorem ggX9_will_X9_isTenant : GoodIn wsX9_will wsX9_isTenant := goodIn_r _ [6, 7, 8, 9, 5, 10, 11, 12, 13, 14, 15, 139, 140, 141, 142, 143, 144, 145, 146, 147, 148, 149, 150, 151, 152, 153, 154, 155, 156, 157, 158, 159, 160, 161, 162, 163, 164, 165, 166, 167, 168, 169, 170, 171, 172, 173, 174, 175, 176, 177, 178, 179, 180, 181, 182, 183, 184, 185, 186, 187, 188, 189, 190, 191, 192, 193, 194, 195, 196, 197, 198, 199, 200, 201, 202, 203, 204, 205] (by decide +kernel) (by decide +kernel)
set_option maxRecDepth 20000 in
theorem gX9_will_X9_isTenant : GoodIn wsX9_will (wsV RX9 386 RX9 yX9_isTenant wsX9_isTenant) := goodIn_app (goodIn_of _ (by decide +kernel)) ggX9_will_X9_isTenant
theorem dX9_will_0 : decode cX9_will 0 = .ok (.aload_n 0, 1) := by decide +kernel
theorem dX9_will_1 : decode cX9_will 1 = .ok (.iload_n 1, 1) := by decide +kernel
theorem dX9_will_2 : decode cX9_will 2 = .ok (.invokevirtual 386, 3) := by decide +kernel
theorem dX9_will_5 : decode cX9_will 5 = .ok (.ifCond .eq 19, 3) := by decide +kernel
theorem dX9_will_24 : decode cX9_will 24 = .ok (.bipush (-2), 2) := by decide +kernel
theorem dX9_will_26 : decode cX9_will 26 = .ok (.ireturn, 1) := by decide +kernel
set_option maxRecDepth 20000 in
theorem ggX9_lasts_X9_isTenant : GoodIn wsX9_lasts wsX9_isTenant := goodIn_r _ [5, 6, 7, 8, 4, 9, 10, 11, 12, 13, 14, 118, 119, 120, 121, 122, 123, 124, 125, 126, 127, 128, 129, 130, 131, 132, 133, 134, 135, 136, 137, 138, 139, 140, 141, 142, 143, 144, 145, 146, 147, 148, 149, 150, 151, 152, 153, 154, 155, 156, 157, 158, 159, 160, 161, 162, 163, 164, 165, 166, 167, 168, 169, 170, 171, 172, 173, 174, 175, 176, 177, 178, 179, 180, 181, 182, 183, 184] (by decide +kernel) (by decide +kernel)
set_option maxRecDepth 20000 in
theorem gX9_lasts_X9_isTenant : GoodIn wsX9_lasts (wsV RX9 386 RX9 yX9_isTenant wsX9_isTenant) := goodIn_app (goodIn_of _ (by decide +kernel)) ggX9_lasts_X9_isTenant
theorem dX9_lasts_0 : decode cX9_lasts 0 = .ok (.aload_n 0, 1) := by decide +kernel
theorem dX9_lasts_1 : decode cX9_lasts 1 = .ok (.iload_n 1, 1) := by decide +kernel
theorem dX9_lasts_2 : decode cX9_lasts 2 = .ok (.invokevirtual 386, 3) := by decide +kernel
theorem dX9_lasts_5 : decode cX9_lasts 5 = .ok (.ifCond .ne 5, 3) := by decide +kernel
theorem dX9_lasts_8 : decode cX9_lasts 8 = .ok (.iconst (-1), 1) := by decide +kernel
theorem dX9_lasts_9 : decode cX9_lasts 9 = .ok (.ireturn, 1) := by decide +kernel
set_option maxRecDepth 20000 in
theorem ggX9_grief_X9_isCat : GoodIn wsX9_grief wsX9_isCat := goodIn_r _ [5, 6, 7, 8, 4, 9, 10, 11, 12, 13, 14, 139, 140, 141, 142, 143, 144, 145, 146, 147, 148, 149, 150, 151, 152, 153, 154, 155, 156, 157, 158, 159, 160, 161, 162, 163, 164, 165, 166, 167, 168, 169, 170, 171, 172, 173, 174, 175, 176, 177, 178, 179, 180, 181, 182, 183, 184, 185, 186, 187, 188, 189, 190, 191, 192, 193, 194, 195, 196, 197, 198, 199, 200, 201, 202, 203, 204, 205] (by decide +kernel) (by decide +kernel)
set_option maxRecDepth 20000 in
theorem gX9_grief_X9_isCat : GoodIn wsX9_grief (wsV RX9 456 RX9 yX9_isCat wsX9_isCat) := goodIn_app (goodIn_of _ (by decide +kernel)) ggX9_grief_X9_isCat
theorem dX9_grief_0 : decode cX9_grief 0 = .ok (.aload_n 0, 1) := by decide +kernel
theorem dX9_grief_1 : decode cX9_grief 1 = .ok (.iload_n 1, 1) := by decide +kernel
theorem dX9_grief_2 : decode cX9_grief 2 = .ok (.invokevirtual 456, 3) := by decide +kernel
theorem dX9_grief_5 : decode cX9_grief 5 = .ok (.ifCond .eq 21, 3) := by decide +kernel
theorem dX9_grief_26 : decode cX9_grief 26 = .ok (.sipush (-1000), 3) := by decide +kernel
theorem dX9_grief_29 : decode cX9_grief 29 = .ok (.ireturn, 1) := by decide +kernel
set_option maxRecDepth 20000 in
theorem ggX9_haven_X9_isTenant : GoodIn wsX9_haven wsX9_isTenant := goodIn_r _ [6, 7, 8, 9, 5, 10, 11, 12, 13, 14, 15, 126, 127, 128, 129, 130, 131, 132, 133, 134, 135, 136, 137, 138, 139, 140, 141, 142, 143, 144, 145, 146, 147, 148, 149, 150, 151, 152, 153, 154, 155, 156, 157, 158, 159, 160, 161, 162, 163, 164, 165, 166, 167, 168, 169, 170, 171, 172, 173, 174, 175, 176, 177, 178, 179, 180, 181, 182, 183, 184, 185, 186, 187, 188, 189, 190, 191, 192] (by decide +kernel) (by decide +kernel)
set_option maxRecDepth 20000 in
theorem gX9_haven_X9_isTenant : GoodIn wsX9_haven (wsV RX9 386 RX9 yX9_isTenant wsX9_isTenant) := goodIn_app (goodIn_of _ (by decide +kernel)) ggX9_haven_X9_isTenant
theorem dX9_haven_0 : decode cX9_haven 0 = .ok (.aload_n 0, 1) := by decide +kernel
theorem dX9_haven_1 : decode cX9_haven 1 = .ok (.iload_n 1, 1) := by decide +kernel
theorem dX9_haven_2 : decode cX9_haven 2 = .ok (.invokevirtual 386, 3) := by decide +kernel
theorem dX9_haven_5 : decode cX9_haven 5 = .ok (.ifCond .eq 12, 3) := by decide +kernel
theorem dX9_haven_17 : decode cX9_haven 17 = .ok (.iconst (-1), 1) := by decide +kernel
theorem dX9_haven_18 : decode cX9_haven 18 = .ok (.ireturn, 1) := by decide +kernel
set_option maxRecDepth 20000 in
theorem ggX9_areCats_X9_cattery : GoodIn wsX9_areCats wsX9_cattery := goodIn_r _ [5, 6, 7, 11, 12, 13, 14, 15, 16, 17, 18, 19, 20, 21, 22, 23, 24, 25, 26, 27, 28, 29, 30, 31, 32, 33, 34, 35, 36, 37, 38, 39, 40, 41, 42, 43, 44, 45, 46, 47, 48, 49, 50, 51, 52, 53, 54, 55, 56, 57, 58, 59, 60, 61, 62, 63, 64, 65, 66, 67, 68, 69, 70, 71, 72, 73, 74, 75, 76, 77] (by decide +kernel) (by decide +kernel)
set_option maxRecDepth 20000 in
theorem gX9_areCats_X9_cattery : GoodIn wsX9_areCats (wsV RX9 380 RX9 yX9_cattery wsX9_cattery) := goodIn_app (goodIn_of _ (by decide +kernel)) ggX9_areCats_X9_cattery
set_option maxRecDepth 20000 in
theorem ggX9_areCats_X9_isIn : GoodIn wsX9_areCats wsX9_isIn := goodIn_r _ [10] (by decide +kernel) (by decide +kernel)
set_option maxRecDepth 20000 in
theorem gX9_areCats_X9_isIn : GoodIn wsX9_areCats (va_wsS RX9 376 yX9_isIn wsX9_isIn) := goodIn_app (goodIn_of _ (by decide +kernel)) ggX9_areCats_X9_isIn
theorem dX9_areCats_0 : decode cX9_areCats 0 = .ok (.iload_n 1, 1) := by decide +kernel
theorem dX9_areCats_1 : decode cX9_areCats 1 = .ok (.iconst 0, 1) := by decide +kernel
theorem dX9_areCats_2 : decode cX9_areCats 2 = .ok (.iconst 1, 1) := by decide +kernel
theorem dX9_areCats_3 : decode cX9_areCats 3 = .ok (.aload_n 0, 1) := by decide +kernel
theorem dX9_areCats_4 : decode cX9_areCats 4 = .ok (.invokevirtual 380, 3) := by decide +kernel
theorem dX9_areCats_7 : decode cX9_areCats 7 = .ok (.ishl, 1) := by decide +kernel
theorem dX9_areCats_8 : decode cX9_areCats 8 = .ok (.iconst 1, 1) := by decide +kernel
theorem dX9_areCats_9 : decode cX9_areCats 9 = .ok (.isub, 1) := by decide +kernel
theorem dX9_areCats_10 : decode cX9_areCats 10 = .ok (.invokestatic 376, 3) := by decide +kernel
theorem dX9_areCats_13 : decode cX9_areCats 13 = .ok (.ireturn, 1) := by decide +kernel
set_option maxRecDepth 20000 in
theorem ggX9_keeper_X9_isRoom : GoodIn wsX9_keeper wsX9_isRoom := goodIn_r _ [5, 6, 7, 8, 4, 9, 10, 11, 12, 13, 14, 45, 46, 47, 48, 49, 50, 51, 52, 53, 54, 55, 56, 57, 58, 59, 60, 61, 62, 63, 64, 65, 66, 67, 68, 69, 70, 71, 72, 73, 74, 75, 76, 77, 78, 79, 80, 81, 82, 83, 84, 85, 86, 87, 88, 89, 90, 91, 92, 93, 94, 95, 96, 97, 98, 99, 100, 101, 102, 103, 104, 105, 106, 107, 108, 109, 110, 111] (by decide +kernel) (by decide +kernel)
set_option maxRecDepth 20000 in
theorem gX9_keeper_X9_isRoom : GoodIn wsX9_keeper (wsV RX9 462 RX9 yX9_isRoom wsX9_isRoom) := goodIn_app (goodIn_of _ (by decide +kernel)) ggX9_keeper_X9_isRoom
theorem dX9_keeper_0 : decode cX9_keeper 0 = .ok (.aload_n 0, 1) := by decide +kernel
theorem dX9_keeper_1 : decode cX9_keeper 1 = .ok (.iload_n 1, 1) := by decide +kernel
theorem dX9_keeper_2 : decode cX9_keeper 2 = .ok (.invokevirtual 462, 3) := by decide +kernel
theorem dX9_keeper_5 : decode cX9_keeper 5 = .ok (.ifCond .eq 20, 3) := by decide +kernel
theorem dX9_keeper_25 : decode cX9_keeper 25 = .ok (.bipush (-2), 2) := by decide +kernel
theorem dX9_keeper_27 : decode cX9_keeper 27 = .ok (.ireturn, 1) := by decide +kernel
set_option maxRecDepth 20000 in
theorem ggX9_probate_X9_areCats : GoodIn wsX9_probate wsX9_areCats := goodIn_r _ [5, 6, 7, 8, 4, 9, 10, 11, 12, 13, 14, 41, 42, 43, 44, 45, 46, 47, 48, 49, 50, 51, 52, 53, 54, 55, 56, 57, 58, 59, 60, 61, 62, 63, 64, 65, 66, 67, 68, 69, 70, 71, 72, 73, 74, 75, 76, 77, 78, 79, 80, 81, 82, 83, 84, 85, 86, 87, 88, 89, 90, 91, 92, 93, 94, 95, 96, 97, 98, 99, 100, 101, 102, 103, 104, 105, 106, 107] (by decide +kernel) (by decide +kernel)
set_option maxRecDepth 20000 in
theorem gX9_probate_X9_areCats : GoodIn wsX9_probate (wsV RX9 503 RX9 yX9_areCats wsX9_areCats) := goodIn_app (goodIn_of _ (by decide +kernel)) ggX9_probate_X9_areCats
set_option maxRecDepth 20000 in
theorem ggX9_probate_X9_chambers : GoodIn wsX9_probate wsX9_chambers := goodIn_r _ [18, 19, 11, 41, 42, 43, 44, 45, 46, 47, 48, 49, 50, 51, 52, 53, 54, 55, 56, 57, 58, 59, 60, 61, 62, 63, 64, 65, 66, 67, 68, 69, 70, 71, 72, 73, 74, 75, 76, 77, 78, 79, 80, 81, 82, 83, 84, 85, 86, 87, 88, 89, 90, 91, 92, 93, 94, 95, 96, 97, 98, 99, 100, 101, 102, 103, 104, 105, 106, 107] (by decide +kernel) (by decide +kernel)
set_option maxRecDepth 20000 in
theorem gX9_probate_X9_chambers : GoodIn wsX9_probate (wsV RX9 383 RX9 yX9_chambers wsX9_chambers) := goodIn_app (goodIn_of _ (by decide +kernel)) ggX9_probate_X9_chambers
theorem dX9_probate_0 : decode cX9_probate 0 = .ok (.aload_n 0, 1) := by decide +kernel
theorem dX9_probate_1 : decode cX9_probate 1 = .ok (.iload_n 1, 1) := by decide +kernel
theorem dX9_probate_2 : decode cX9_probate 2 = .ok (.invokevirtual 503, 3) := by decide +kernel
theorem dX9_probate_5 : decode cX9_probate 5 = .ok (.ifCond .ne 5, 3) := by decide +kernel
theorem dX9_probate_8 : decode cX9_probate 8 = .ok (.iconst (-1), 1) := by decide +kernel
theorem dX9_probate_9 : decode cX9_probate 9 = .ok (.ireturn, 1) := by decide +kernel
theorem dX9_probate_10 : decode cX9_probate 10 = .ok (.iconst 0, 1) := by decide +kernel
theorem dX9_probate_11 : decode cX9_probate 11 = .ok (.istore_n 2, 1) := by decide +kernel
theorem dX9_probate_12 : decode cX9_probate 12 = .ok (.iconst 0, 1) := by decide +kernel
theorem dX9_probate_13 : decode cX9_probate 13 = .ok (.istore_n 3, 1) := by decide +kernel
theorem dX9_probate_14 : decode cX9_probate 14 = .ok (.iload_n 3, 1) := by decide +kernel
theorem dX9_probate_15 : decode cX9_probate 15 = .ok (.aload_n 0, 1) := by decide +kernel
theorem dX9_probate_16 : decode cX9_probate 16 = .ok (.invokevirtual 383, 3) := by decide +kernel
theorem dX9_probate_19 : decode cX9_probate 19 = .ok (.if_icmp .ge 26, 3) := by decide +kernel
theorem dX9_probate_45 : decode cX9_probate 45 = .ok (.iload_n 2, 1) := by decide +kernel
theorem dX9_probate_46 : decode cX9_probate 46 = .ok (.ireturn, 1) := by decide +kernel
set_option maxRecDepth 20000 in
theorem ggX9_odds_X9_isCat : GoodIn wsX9_odds wsX9_isCat := goodIn_r _ [7, 8, 9, 10, 6, 11, 12, 2, 13, 14, 15, 30, 31, 32, 33, 34, 35, 36, 37, 38, 39, 40, 41, 42, 43, 44, 45, 46, 47, 48, 49, 50, 51, 52, 53, 54, 55, 56, 57, 58, 59, 60, 61, 62, 63, 64, 65, 66, 67, 68, 69, 70, 71, 72, 73, 74, 75, 76, 77, 78, 79, 80, 81, 82, 83, 84, 85, 86, 87, 88, 89, 90, 91, 92, 93, 94, 95, 96] (by decide +kernel) (by decide +kernel)
set_option maxRecDepth 20000 in
theorem gX9_odds_X9_isCat : GoodIn wsX9_odds (wsV RX9 456 RX9 yX9_isCat wsX9_isCat) := goodIn_app (goodIn_of _ (by decide +kernel)) ggX9_odds_X9_isCat
theorem dX9_odds_0 : decode cX9_odds 0 = .ok (.aload_n 0, 1) := by decide +kernel
theorem dX9_odds_1 : decode cX9_odds 1 = .ok (.iload_n 1, 1) := by decide +kernel
theorem dX9_odds_2 : decode cX9_odds 2 = .ok (.invokevirtual 456, 3) := by decide +kernel
theorem dX9_odds_5 : decode cX9_odds 5 = .ok (.ifCond .eq 29, 3) := by decide +kernel
theorem dX9_odds_34 : decode cX9_odds 34 = .ok (.iconst (-1), 1) := by decide +kernel
theorem dX9_odds_35 : decode cX9_odds 35 = .ok (.ireturn, 1) := by decide +kernel
set_option maxRecDepth 20000 in
theorem ggX9_layLet_X9_chambers : GoodIn wsX9_layLet wsX9_chambers := goodIn_r _ [6, 7, 8, 83, 84, 85, 86, 87, 88, 89, 90, 91, 92, 93, 94, 95, 96, 97, 98, 99, 100, 101, 102, 103, 104, 105, 106, 107, 108, 109, 110, 111, 112, 113, 114, 115, 116, 117, 118, 119, 120, 121, 122, 123, 124, 125, 126, 127, 128, 129, 130, 131, 132, 133, 134, 135, 136, 137, 138, 139, 140, 141, 142, 143, 144, 145, 146, 147, 148, 149] (by decide +kernel) (by decide +kernel)
set_option maxRecDepth 20000 in
theorem gX9_layLet_X9_chambers : GoodIn wsX9_layLet (wsV RX9 383 RX9 yX9_chambers wsX9_chambers) := goodIn_app (goodIn_of _ (by decide +kernel)) ggX9_layLet_X9_chambers
set_option maxRecDepth 20000 in
theorem ggX9_layLet_X9_many : GoodIn wsX9_layLet wsX9_many := goodIn_r _ [12, 13, 8, 83, 84, 85, 86, 87, 88, 89, 90, 91, 92, 93, 94, 95, 96, 97, 98, 99, 100, 101, 102, 103, 104, 105, 106, 107, 108, 109, 110, 111, 112, 113, 114, 115, 116, 117, 118, 119, 120, 121, 122, 123, 124, 125, 126, 127, 128, 129, 130, 131, 132, 133, 134, 135, 136, 137, 138, 139, 140, 141, 142, 143, 144, 145, 146, 147, 148, 149] (by decide +kernel) (by decide +kernel)
set_option maxRecDepth 20000 in
theorem gX9_layLet_X9_many : GoodIn wsX9_layLet (wsV RX9 373 RX9 yX9_many wsX9_many) := goodIn_app (goodIn_of _ (by decide +kernel)) ggX9_layLet_X9_many
theorem dX9_layLet_0 : decode cX9_layLet 0 = .ok (.iconst 1, 1) := by decide +kernel
theorem dX9_layLet_1 : decode cX9_layLet 1 = .ok (.aload_n 0, 1) := by decide +kernel
theorem dX9_layLet_2 : decode cX9_layLet 2 = .ok (.invokevirtual 383, 3) := by decide +kernel
theorem dX9_layLet_5 : decode cX9_layLet 5 = .ok (.ishl, 1) := by decide +kernel
theorem dX9_layLet_6 : decode cX9_layLet 6 = .ok (.istore_n 1, 1) := by decide +kernel
theorem dX9_layLet_7 : decode cX9_layLet 7 = .ok (.iconst 0, 1) := by decide +kernel
theorem dX9_layLet_8 : decode cX9_layLet 8 = .ok (.istore_n 2, 1) := by decide +kernel
theorem dX9_layLet_9 : decode cX9_layLet 9 = .ok (.iload_n 2, 1) := by decide +kernel
theorem dX9_layLet_10 : decode cX9_layLet 10 = .ok (.iload_n 1, 1) := by decide +kernel
theorem dX9_layLet_11 : decode cX9_layLet 11 = .ok (.if_icmp .ge 25, 3) := by decide +kernel
theorem dX9_layLet_14 : decode cX9_layLet 14 = .ok (.aload_n 0, 1) := by decide +kernel
theorem dX9_layLet_15 : decode cX9_layLet 15 = .ok (.getfield 115, 3) := by decide +kernel
theorem dX9_layLet_18 : decode cX9_layLet 18 = .ok (.sipush 256, 3) := by decide +kernel
theorem dX9_layLet_21 : decode cX9_layLet 21 = .ok (.aload_n 0, 1) := by decide +kernel
theorem dX9_layLet_22 : decode cX9_layLet 22 = .ok (.invokevirtual 373, 3) := by decide +kernel
theorem dX9_layLet_25 : decode cX9_layLet 25 = .ok (.imul, 1) := by decide +kernel
theorem dX9_layLet_26 : decode cX9_layLet 26 = .ok (.iload_n 2, 1) := by decide +kernel
theorem dX9_layLet_27 : decode cX9_layLet 27 = .ok (.iadd, 1) := by decide +kernel
theorem dX9_layLet_28 : decode cX9_layLet 28 = .ok (.iconst 0, 1) := by decide +kernel
theorem dX9_layLet_29 : decode cX9_layLet 29 = .ok (.iastore, 1) := by decide +kernel
theorem dX9_layLet_30 : decode cX9_layLet 30 = .ok (.iinc 2 1, 3) := by decide +kernel
theorem dX9_layLet_33 : decode cX9_layLet 33 = .ok (.goto (-24), 3) := by decide +kernel
theorem dX9_layLet_36 : decode cX9_layLet 36 = .ok (.aload_n 0, 1) := by decide +kernel
theorem dX9_layLet_37 : decode cX9_layLet 37 = .ok (.invokevirtual 373, 3) := by decide +kernel
theorem dX9_layLet_40 : decode cX9_layLet 40 = .ok (.iconst 1, 1) := by decide +kernel
theorem dX9_layLet_41 : decode cX9_layLet 41 = .ok (.isub, 1) := by decide +kernel
theorem dX9_layLet_42 : decode cX9_layLet 42 = .ok (.istore_n 2, 1) := by decide +kernel
theorem dX9_layLet_43 : decode cX9_layLet 43 = .ok (.iload_n 2, 1) := by decide +kernel
theorem dX9_layLet_44 : decode cX9_layLet 44 = .ok (.ifCond .lt 161, 3) := by decide +kernel
theorem dX9_layLet_205 : decode cX9_layLet 205 = .ok (.aload_n 0, 1) := by decide +kernel
theorem dX9_layLet_206 : decode cX9_layLet 206 = .ok (.getfield 115, 3) := by decide +kernel
theorem dX9_layLet_209 : decode cX9_layLet 209 = .ok (.iconst 0, 1) := by decide +kernel
theorem dX9_layLet_210 : decode cX9_layLet 210 = .ok (.iaload, 1) := by decide +kernel
theorem dX9_layLet_211 : decode cX9_layLet 211 = .ok (.ireturn, 1) := by decide +kernel
set_option maxRecDepth 20000 in
theorem ggX9_letting_X9_layLet : GoodIn wsX9_letting wsX9_layLet := goodIn_r _ [9, 1, 10, 11, 12, 8, 13, 14, 15, 16, 17, 18, 19, 20, 21, 22, 23, 24, 4, 25, 26, 27, 28, 29, 30, 31, 32, 33, 34, 35, 36, 37, 38, 39, 40, 41, 42, 43, 44, 45, 46, 47, 48, 49, 50, 51, 52, 53, 54, 55, 56, 57, 58, 59, 60, 61, 62, 63, 64, 65, 66, 67, 68, 69, 70, 71, 72, 73, 74, 75, 76, 77, 78, 79, 80, 81, 82, 83, 84, 85, 86, 87, 88, 89, 90, 91, 92, 93, 94, 95, 96, 97, 98, 99, 100, 101, 102, 103, 104, 105, 106, 107, 108, 109, 110, 111, 112, 113, 114, 115, 116, 117, 118, 119, 120, 121, 122, 123, 124, 125, 126, 127, 128, 129, 130, 131, 132, 133, 134, 135, 136, 137, 138, 139, 140, 141, 142, 143, 144, 145, 146, 147, 148, 149, 150, 151, 152, 153, 154, 155] (by decide +kernel) (by decide +kernel)
set_option maxRecDepth 20000 in
theorem gX9_letting_X9_layLet : GoodIn wsX9_letting (wsV RX9 516 RX9 yX9_layLet wsX9_layLet) := goodIn_app (goodIn_of _ (by decide +kernel)) ggX9_letting_X9_layLet
set_option maxRecDepth 20000 in
theorem ggX9_letting_X9_many : GoodIn wsX9_letting wsX9_many := goodIn_r _ [19, 20, 15, 89, 90, 91, 92, 93, 94, 95, 96, 97, 98, 99, 100, 101, 102, 103, 104, 105, 106, 107, 108, 109, 110, 111, 112, 113, 114, 115, 116, 117, 118, 119, 120, 121, 122, 123, 124, 125, 126, 127, 128, 129, 130, 131, 132, 133, 134, 135, 136, 137, 138, 139, 140, 141, 142, 143, 144, 145, 146, 147, 148, 149, 150, 151, 152, 153, 154, 155] (by decide +kernel) (by decide +kernel)
set_option maxRecDepth 20000 in
theorem gX9_letting_X9_many : GoodIn wsX9_letting (wsV RX9 373 RX9 yX9_many wsX9_many) := goodIn_app (goodIn_of _ (by decide +kernel)) ggX9_letting_X9_many
theorem dX9_letting_0 : decode cX9_letting 0 = .ok (.aload_n 0, 1) := by decide +kernel
theorem dX9_letting_1 : decode cX9_letting 1 = .ok (.invokevirtual 516, 3) := by decide +kernel
theorem dX9_letting_4 : decode cX9_letting 4 = .ok (.istore_n 1, 1) := by decide +kernel
theorem dX9_letting_5 : decode cX9_letting 5 = .ok (.iconst 0, 1) := by decide +kernel
theorem dX9_letting_6 : decode cX9_letting 6 = .ok (.istore_n 2, 1) := by decide +kernel
theorem dX9_letting_7 : decode cX9_letting 7 = .ok (.iconst 0, 1) := by decide +kernel
theorem dX9_letting_8 : decode cX9_letting 8 = .ok (.istore_n 3, 1) := by decide +kernel
theorem dX9_letting_9 : decode cX9_letting 9 = .ok (.iload_n 3, 1) := by decide +kernel
theorem dX9_letting_10 : decode cX9_letting 10 = .ok (.aload_n 0, 1) := by decide +kernel
theorem dX9_letting_11 : decode cX9_letting 11 = .ok (.invokevirtual 373, 3) := by decide +kernel
theorem dX9_letting_14 : decode cX9_letting 14 = .ok (.if_icmp .ge 125, 3) := by decide +kernel
theorem dX9_letting_139 : decode cX9_letting 139 = .ok (.aload_n 0, 1) := by decide +kernel
theorem dX9_letting_140 : decode cX9_letting 140 = .ok (.aload_n 0, 1) := by decide +kernel
theorem dX9_letting_141 : decode cX9_letting 141 = .ok (.invokevirtual 373, 3) := by decide +kernel
theorem dX9_letting_144 : decode cX9_letting 144 = .ok (.putfield 407, 3) := by decide +kernel
theorem dX9_letting_147 : decode cX9_letting 147 = .ok (.iload_n 1, 1) := by decide +kernel
theorem dX9_letting_148 : decode cX9_letting 148 = .ok (.ldc_w 512, 3) := by decide +kernel
theorem dX9_letting_151 : decode cX9_letting 151 = .ok (.idiv, 1) := by decide +kernel
theorem dX9_letting_152 : decode cX9_letting 152 = .ok (.ireturn, 1) := by decide +kernel
set_option maxRecDepth 20000 in
theorem ggX9_pleasure_X9_layLet : GoodIn wsX9_pleasure wsX9_layLet := goodIn_r _ [6, 7, 8, 9, 10, 5, 11, 12, 13, 14, 15, 16, 17, 18, 19, 20, 21, 22, 1, 23, 24, 25, 26, 27, 28, 29, 30, 31, 32, 33, 34, 35, 36, 37, 38, 39, 40, 41, 42, 43, 44, 45, 46, 47, 48, 49, 50, 51, 52, 53, 54, 55, 56, 57, 58, 59, 60, 61, 62, 63, 64, 65, 66, 67, 68, 69, 70, 71, 72, 73, 74, 75, 76, 77, 78, 79, 80, 81, 82, 83, 84, 85, 86, 87, 88, 89, 90, 91, 92, 93, 94, 95, 96, 97, 98, 99, 100, 101, 102, 103, 104, 105, 106, 107, 108, 109, 110, 111, 112, 113, 114, 115, 116, 117, 118, 119, 120, 121, 122, 123, 124, 125, 126, 127, 128, 129, 130, 131, 132, 133, 134, 135, 136, 137, 138, 139, 140, 141, 142, 143, 144, 145, 146, 147, 148, 149, 150, 151, 152, 153] (by decide +kernel) (by decide +kernel)
set_option maxRecDepth 20000 in
theorem gX9_pleasure_X9_layLet : GoodIn wsX9_pleasure (wsV RX9 516 RX9 yX9_layLet wsX9_layLet) := goodIn_app (goodIn_of _ (by decide +kernel)) ggX9_pleasure_X9_layLet
theorem dX9_pleasure_0 : decode cX9_pleasure 0 = .ok (.aload_n 0, 1) := by decide +kernel
theorem dX9_pleasure_1 : decode cX9_pleasure 1 = .ok (.invokevirtual 516, 3) := by decide +kernel
theorem dX9_pleasure_4 : decode cX9_pleasure 4 = .ok (.ldc_w 512, 3) := by decide +kernel
theorem dX9_pleasure_7 : decode cX9_pleasure 7 = .ok (.irem, 1) := by decide +kernel
theorem dX9_pleasure_8 : decode cX9_pleasure 8 = .ok (.ireturn, 1) := by decide +kernel
set_option maxRecDepth 20000 in
theorem ggX9_swaps_X9_isIn : GoodIn wsX9_swaps wsX9_isIn := goodIn_r _ [5] (by decide +kernel) (by decide +kernel)
set_option maxRecDepth 20000 in
theorem gX9_swaps_X9_isIn : GoodIn wsX9_swaps (va_wsS RX9 376 yX9_isIn wsX9_isIn) := goodIn_app (goodIn_of _ (by decide +kernel)) ggX9_swaps_X9_isIn
set_option maxRecDepth 20000 in
theorem ggX9_swaps_X9_many : GoodIn wsX9_swaps wsX9_many := goodIn_r _ [9, 10, 11, 93, 94, 95, 96, 97, 98, 99, 100, 101, 102, 103, 104, 105, 106, 107, 108, 109, 110, 111, 112, 113, 114, 115, 116, 117, 118, 119, 120, 121, 122, 123, 124, 125, 126, 127, 128, 129, 130, 131, 132, 133, 134, 135, 136, 137, 138, 139, 140, 141, 142, 143, 144, 145, 146, 147, 148, 149, 150, 151, 152, 153, 154, 155, 156, 157, 158, 159] (by decide +kernel) (by decide +kernel)
set_option maxRecDepth 20000 in
theorem gX9_swaps_X9_many : GoodIn wsX9_swaps (wsV RX9 373 RX9 yX9_many wsX9_many) := goodIn_app (goodIn_of _ (by decide +kernel)) ggX9_swaps_X9_many
theorem dX9_swaps_0 : decode cX9_swaps 0 = .ok (.iload_n 1, 1) := by decide +kernel
theorem dX9_swaps_1 : decode cX9_swaps 1 = .ok (.iconst 0, 1) := by decide +kernel
theorem dX9_swaps_2 : decode cX9_swaps 2 = .ok (.iconst 2, 1) := by decide +kernel
theorem dX9_swaps_3 : decode cX9_swaps 3 = .ok (.invokestatic 376, 3) := by decide +kernel
theorem dX9_swaps_6 : decode cX9_swaps 6 = .ok (.ifCond .ne 5, 3) := by decide +kernel
theorem dX9_swaps_9 : decode cX9_swaps 9 = .ok (.iconst (-1), 1) := by decide +kernel
theorem dX9_swaps_10 : decode cX9_swaps 10 = .ok (.ireturn, 1) := by decide +kernel
theorem dX9_swaps_11 : decode cX9_swaps 11 = .ok (.iconst 0, 1) := by decide +kernel
theorem dX9_swaps_12 : decode cX9_swaps 12 = .ok (.istore_n 2, 1) := by decide +kernel
theorem dX9_swaps_13 : decode cX9_swaps 13 = .ok (.iconst (-1), 1) := by decide +kernel
theorem dX9_swaps_14 : decode cX9_swaps 14 = .ok (.istore_n 3, 1) := by decide +kernel
theorem dX9_swaps_15 : decode cX9_swaps 15 = .ok (.iconst 0, 1) := by decide +kernel
theorem dX9_swaps_16 : decode cX9_swaps 16 = .ok (.istore 4, 2) := by decide +kernel
theorem dX9_swaps_18 : decode cX9_swaps 18 = .ok (.iload 4, 2) := by decide +kernel
theorem dX9_swaps_20 : decode cX9_swaps 20 = .ok (.aload_n 0, 1) := by decide +kernel
theorem dX9_swaps_21 : decode cX9_swaps 21 = .ok (.invokevirtual 373, 3) := by decide +kernel
theorem dX9_swaps_24 : decode cX9_swaps 24 = .ok (.if_icmp .ge 124, 3) := by decide +kernel
theorem dX9_swaps_148 : decode cX9_swaps 148 = .ok (.iload_n 1, 1) := by decide +kernel
theorem dX9_swaps_149 : decode cX9_swaps 149 = .ok (.ifCond .ne 7, 3) := by decide +kernel
theorem dX9_swaps_152 : decode cX9_swaps 152 = .ok (.iload_n 2, 1) := by decide +kernel
theorem dX9_swaps_153 : decode cX9_swaps 153 = .ok (.goto 27, 3) := by decide +kernel
theorem dX9_swaps_156 : decode cX9_swaps 156 = .ok (.iload_n 2, 1) := by decide +kernel
theorem dX9_swaps_157 : decode cX9_swaps 157 = .ok (.ifCond .ne 7, 3) := by decide +kernel
theorem dX9_swaps_160 : decode cX9_swaps 160 = .ok (.iconst (-1), 1) := by decide +kernel
theorem dX9_swaps_161 : decode cX9_swaps 161 = .ok (.goto 19, 3) := by decide +kernel
theorem dX9_swaps_180 : decode cX9_swaps 180 = .ok (.ireturn, 1) := by decide +kernel
set_option maxRecDepth 20000 in
theorem ggX9_pay_X9_isAtHome : GoodIn wsX9_pay wsX9_isAtHome := goodIn_r _ [5, 6, 7, 8, 9, 4, 10, 11, 12, 13, 14, 15, 16, 17, 18, 19, 20, 21, 22, 23, 24, 25, 26, 27, 97, 98, 99, 100, 101, 102, 103, 104, 105, 106, 107, 108, 109, 110, 111, 112, 113, 114, 115, 116, 117, 118, 119, 120, 121, 122, 123, 124, 125, 126, 127, 128, 129, 130, 131, 132, 133, 134, 135, 136, 137, 138, 139, 140, 141, 142, 143, 144, 145, 146, 147, 148, 149, 150, 151, 152, 153, 154, 155, 156, 157, 158, 159, 160, 161, 162, 163] (by decide +kernel) (by decide +kernel)
set_option maxRecDepth 20000 in
theorem gX9_pay_X9_isAtHome : GoodIn wsX9_pay (wsV RX9 428 RX9 yX9_isAtHome wsX9_isAtHome) := goodIn_app (goodIn_of _ (by decide +kernel)) ggX9_pay_X9_isAtHome
theorem dX9_pay_0 : decode cX9_pay 0 = .ok (.aload_n 0, 1) := by decide +kernel
theorem dX9_pay_1 : decode cX9_pay 1 = .ok (.iload_n 1, 1) := by decide +kernel
theorem dX9_pay_2 : decode cX9_pay 2 = .ok (.invokevirtual 428, 3) := by decide +kernel
theorem dX9_pay_5 : decode cX9_pay 5 = .ok (.ifCond .ne 5, 3) := by decide +kernel
theorem dX9_pay_8 : decode cX9_pay 8 = .ok (.iconst (-1), 1) := by decide +kernel
theorem dX9_pay_9 : decode cX9_pay 9 = .ok (.ireturn, 1) := by decide +kernel
set_option maxRecDepth 20000 in
theorem ggX9_borne_X9_isAtHome : GoodIn wsX9_borne wsX9_isAtHome := goodIn_r _ [5, 6, 7, 8, 9, 4, 10, 11, 12, 13, 14, 15, 16, 17, 18, 19, 20, 21, 22, 23, 24, 25, 26, 27, 97, 98, 99, 100, 101, 102, 103, 104, 105, 106, 107, 108, 109, 110, 111, 112, 113, 114, 115, 116, 117, 118, 119, 120, 121, 122, 123, 124, 125, 126, 127, 128, 129, 130, 131, 132, 133, 134, 135, 136, 137, 138, 139, 140, 141, 142, 143, 144, 145, 146, 147, 148, 149, 150, 151, 152, 153, 154, 155, 156, 157, 158, 159, 160, 161, 162, 163] (by decide +kernel) (by decide +kernel)
set_option maxRecDepth 20000 in
theorem gX9_borne_X9_isAtHome : GoodIn wsX9_borne (wsV RX9 428 RX9 yX9_isAtHome wsX9_isAtHome) := goodIn_app (goodIn_of _ (by decide +kernel)) ggX9_borne_X9_isAtHome
theorem dX9_borne_0 : decode cX9_borne 0 = .ok (.aload_n 0, 1) := by decide +kernel
theorem dX9_borne_1 : decode cX9_borne 1 = .ok (.iload_n 1, 1) := by decide +kernel
theorem dX9_borne_2 : decode cX9_borne 2 = .ok (.invokevirtual 428, 3) := by decide +kernel
theorem dX9_borne_5 : decode cX9_borne 5 = .ok (.ifCond .ne 5, 3) := by decide +kernel
theorem dX9_borne_8 : decode cX9_borne 8 = .ok (.iconst (-1), 1) := by decide +kernel
theorem dX9_borne_9 : decode cX9_borne 9 = .ok (.ireturn, 1) := by decide +kernel
set_option maxRecDepth 20000 in
theorem ggX9_crowd_X9_isCat : GoodIn wsX9_crowd wsX9_isCat := goodIn_r _ [6, 7, 8, 9, 5, 10, 11, 12, 13, 14, 15, 97, 98, 99, 100, 101, 102, 103, 104, 105, 106, 107, 108, 109, 110, 111, 112, 113, 114, 115, 116, 117, 118, 119, 120, 121, 122, 123, 124, 125, 126, 127, 128, 129, 130, 131, 132, 133, 134, 135, 136, 137, 138, 139, 140, 141, 142, 143, 144, 145, 146, 147, 148, 149, 150, 151, 152, 153, 154, 155, 156, 157, 158, 159, 160, 161, 162, 163] (by decide +kernel) (by decide +kernel)
set_option maxRecDepth 20000 in
theorem gX9_crowd_X9_isCat : GoodIn wsX9_crowd (wsV RX9 456 RX9 yX9_isCat wsX9_isCat) := goodIn_app (goodIn_of _ (by decide +kernel)) ggX9_crowd_X9_isCat
theorem dX9_crowd_0 : decode cX9_crowd 0 = .ok (.aload_n 0, 1) := by decide +kernel
theorem dX9_crowd_1 : decode cX9_crowd 1 = .ok (.iload_n 1, 1) := by decide +kernel
theorem dX9_crowd_2 : decode cX9_crowd 2 = .ok (.invokevirtual 456, 3) := by decide +kernel
theorem dX9_crowd_5 : decode cX9_crowd 5 = .ok (.ifCond .eq 11, 3) := by decide +kernel
theorem dX9_crowd_16 : decode cX9_crowd 16 = .ok (.iconst (-1), 1) := by decide +kernel
theorem dX9_crowd_17 : decode cX9_crowd 17 = .ok (.ireturn, 1) := by decide +kernel
set_option maxRecDepth 20000 in
theorem ggX9_bid_X9_isTenant : GoodIn wsX9_bid wsX9_isTenant := goodIn_r _ [7, 8, 9, 10, 6, 11, 12, 13, 14, 15, 16, 107, 108, 109, 110, 111, 112, 113, 114, 115, 116, 117, 118, 119, 120, 121, 122, 123, 124, 125, 126, 127, 128, 129, 130, 131, 132, 133, 134, 135, 136, 137, 138, 139, 140, 141, 142, 143, 144, 145, 146, 147, 148, 149, 150, 151, 152, 153, 154, 155, 156, 157, 158, 159, 160, 161, 162, 163, 164, 165, 166, 167, 168, 169, 170, 171, 172, 173] (by decide +kernel) (by decide +kernel)
set_option maxRecDepth 20000 in
theorem gX9_bid_X9_isTenant : GoodIn wsX9_bid (wsV RX9 386 RX9 yX9_isTenant wsX9_isTenant) := goodIn_app (goodIn_of _ (by decide +kernel)) ggX9_bid_X9_isTenant
theorem dX9_bid_0 : decode cX9_bid 0 = .ok (.aload_n 0, 1) := by decide +kernel
theorem dX9_bid_1 : decode cX9_bid 1 = .ok (.iconst 0, 1) := by decide +kernel
theorem dX9_bid_2 : decode cX9_bid 2 = .ok (.putfield 407, 3) := by decide +kernel
theorem dX9_bid_5 : decode cX9_bid 5 = .ok (.aload_n 0, 1) := by decide +kernel
theorem dX9_bid_6 : decode cX9_bid 6 = .ok (.iload_n 1, 1) := by decide +kernel
theorem dX9_bid_7 : decode cX9_bid 7 = .ok (.invokevirtual 386, 3) := by decide +kernel
theorem dX9_bid_10 : decode cX9_bid 10 = .ok (.ifCond .eq 32, 3) := by decide +kernel
theorem dX9_bid_42 : decode cX9_bid 42 = .ok (.iconst (-1), 1) := by decide +kernel
theorem dX9_bid_43 : decode cX9_bid 43 = .ok (.ireturn, 1) := by decide +kernel
set_option maxRecDepth 20000 in
theorem ggX9_seen_X9_isIn : GoodIn wsX9_seen wsX9_isIn := goodIn_r _ [11] (by decide +kernel) (by decide +kernel)
set_option maxRecDepth 20000 in
theorem gX9_seen_X9_isIn : GoodIn wsX9_seen (va_wsS RX9 376 yX9_isIn wsX9_isIn) := goodIn_app (goodIn_of _ (by decide +kernel)) ggX9_seen_X9_isIn
set_option maxRecDepth 20000 in
theorem ggX9_seen_X9_isTenant : GoodIn wsX9_seen wsX9_isTenant := goodIn_r _ [15, 16, 17, 18, 10, 19, 20, 21, 8, 9, 11, 27, 28, 29, 30, 31, 32, 33, 34, 35, 36, 37, 38, 39, 40, 41, 42, 43, 44, 45, 46, 47, 48, 49, 50, 51, 52, 53, 54, 55, 56, 57, 58, 59, 60, 61, 62, 63, 64, 65, 66, 67, 68, 69, 70, 71, 72, 73, 74, 75, 76, 77, 78, 79, 80, 81, 82, 83, 84, 85, 86, 87, 88, 89, 90, 91, 92, 93] (by decide +kernel) (by decide +kernel)
set_option maxRecDepth 20000 in
theorem gX9_seen_X9_isTenant : GoodIn wsX9_seen (wsV RX9 386 RX9 yX9_isTenant wsX9_isTenant) := goodIn_app (goodIn_of _ (by decide +kernel)) ggX9_seen_X9_isTenant
theorem dX9_seen_0 : decode cX9_seen 0 = .ok (.iload_n 1, 1) := by decide +kernel
theorem dX9_seen_1 : decode cX9_seen 1 = .ok (.iconst 0, 1) := by decide +kernel
theorem dX9_seen_2 : decode cX9_seen 2 = .ok (.bipush 9, 2) := by decide +kernel
theorem dX9_seen_4 : decode cX9_seen 4 = .ok (.invokestatic 376, 3) := by decide +kernel
theorem dX9_seen_7 : decode cX9_seen 7 = .ok (.ifCond .eq 27, 3) := by decide +kernel
theorem dX9_seen_10 : decode cX9_seen 10 = .ok (.aload_n 0, 1) := by decide +kernel
theorem dX9_seen_11 : decode cX9_seen 11 = .ok (.iload_n 2, 1) := by decide +kernel
theorem dX9_seen_12 : decode cX9_seen 12 = .ok (.invokevirtual 386, 3) := by decide +kernel
theorem dX9_seen_15 : decode cX9_seen 15 = .ok (.ifCond .eq 19, 3) := by decide +kernel
theorem dX9_seen_34 : decode cX9_seen 34 = .ok (.iconst (-1), 1) := by decide +kernel
theorem dX9_seen_35 : decode cX9_seen 35 = .ok (.ireturn, 1) := by decide +kernel
set_option maxRecDepth 20000 in
theorem ggX9_untell_X9_isIn : GoodIn wsX9_untell wsX9_isIn := goodIn_r _ [7] (by decide +kernel) (by decide +kernel)
set_option maxRecDepth 20000 in
theorem gX9_untell_X9_isIn : GoodIn wsX9_untell (va_wsS RX9 376 yX9_isIn wsX9_isIn) := goodIn_app (goodIn_of _ (by decide +kernel)) ggX9_untell_X9_isIn
theorem dX9_untell_0 : decode cX9_untell 0 = .ok (.iload_n 1, 1) := by decide +kernel
theorem dX9_untell_1 : decode cX9_untell 1 = .ok (.iconst 0, 1) := by decide +kernel
theorem dX9_untell_2 : decode cX9_untell 2 = .ok (.aload_n 0, 1) := by decide +kernel
theorem dX9_untell_3 : decode cX9_untell 3 = .ok (.getfield 404, 3) := by decide +kernel
theorem dX9_untell_6 : decode cX9_untell 6 = .ok (.iconst 1, 1) := by decide +kernel
theorem dX9_untell_7 : decode cX9_untell 7 = .ok (.isub, 1) := by decide +kernel
theorem dX9_untell_8 : decode cX9_untell 8 = .ok (.invokestatic 376, 3) := by decide +kernel
theorem dX9_untell_11 : decode cX9_untell 11 = .ok (.ifCond .eq 12, 3) := by decide +kernel
theorem dX9_untell_23 : decode cX9_untell 23 = .ok (.iconst 0, 1) := by decide +kernel
theorem dX9_untell_24 : decode cX9_untell 24 = .ok (.ireturn, 1) := by decide +kernel
set_option maxRecDepth 20000 in
theorem ggX9_later_X9_isIn : GoodIn wsX9_later wsX9_isIn := goodIn_r _ [6] (by decide +kernel) (by decide +kernel)
set_option maxRecDepth 20000 in
theorem gX9_later_X9_isIn : GoodIn wsX9_later (va_wsS RX9 376 yX9_isIn wsX9_isIn) := goodIn_app (goodIn_of _ (by decide +kernel)) ggX9_later_X9_isIn
theorem dX9_later_0 : decode cX9_later 0 = .ok (.iload_n 1, 1) := by decide +kernel
theorem dX9_later_1 : decode cX9_later 1 = .ok (.iconst 0, 1) := by decide +kernel
theorem dX9_later_2 : decode cX9_later 2 = .ok (.sipush 1000, 3) := by decide +kernel
theorem dX9_later_5 : decode cX9_later 5 = .ok (.invokestatic 376, 3) := by decide +kernel
theorem dX9_later_8 : decode cX9_later 8 = .ok (.ifCond .eq 15, 3) := by decide +kernel
theorem dX9_later_11 : decode cX9_later 11 = .ok (.aload_n 0, 1) := by decide +kernel
theorem dX9_later_12 : decode cX9_later 12 = .ok (.getfield 532, 3) := by decide +kernel
theorem dX9_later_15 : decode cX9_later 15 = .ok (.iload_n 1, 1) := by decide +kernel
theorem dX9_later_16 : decode cX9_later 16 = .ok (.iadd, 1) := by decide +kernel
theorem dX9_later_17 : decode cX9_later 17 = .ok (.ldc_w 512, 3) := by decide +kernel
theorem dX9_later_20 : decode cX9_later 20 = .ok (.if_icmp .le 5, 3) := by decide +kernel
theorem dX9_later_23 : decode cX9_later 23 = .ok (.iconst (-1), 1) := by decide +kernel
theorem dX9_later_24 : decode cX9_later 24 = .ok (.ireturn, 1) := by decide +kernel
theorem dX9_later_25 : decode cX9_later 25 = .ok (.aload_n 0, 1) := by decide +kernel
theorem dX9_later_26 : decode cX9_later 26 = .ok (.dup, 1) := by decide +kernel
theorem dX9_later_27 : decode cX9_later 27 = .ok (.getfield 532, 3) := by decide +kernel
theorem dX9_later_30 : decode cX9_later 30 = .ok (.iload_n 1, 1) := by decide +kernel
theorem dX9_later_31 : decode cX9_later 31 = .ok (.iadd, 1) := by decide +kernel
theorem dX9_later_32 : decode cX9_later 32 = .ok (.putfield 532, 3) := by decide +kernel
theorem dX9_later_35 : decode cX9_later 35 = .ok (.aload_n 0, 1) := by decide +kernel
theorem dX9_later_36 : decode cX9_later 36 = .ok (.getfield 532, 3) := by decide +kernel
theorem dX9_later_39 : decode cX9_later 39 = .ok (.ireturn, 1) := by decide +kernel
set_option maxRecDepth 20000 in
theorem ggX9_fits_X9_cattery : GoodIn wsX9_fits wsX9_cattery := goodIn_r _ [5, 6, 7, 138, 139, 140, 141, 142, 143, 144, 145, 146, 147, 148, 149, 150, 151, 152, 153, 154, 155, 156, 157, 158, 159, 160, 161, 162, 163, 164, 165, 166, 167, 168, 169, 170, 171, 172, 173, 174, 175, 176, 177, 178, 179, 180, 181, 182, 183, 184, 185, 186, 187, 188, 189, 190, 191, 192, 193, 194, 195, 196, 197, 198, 199, 200, 201, 202, 203, 204] (by decide +kernel) (by decide +kernel)
set_option maxRecDepth 20000 in
theorem gX9_fits_X9_cattery : GoodIn wsX9_fits (wsV RX9 380 RX9 yX9_cattery wsX9_cattery) := goodIn_app (goodIn_of _ (by decide +kernel)) ggX9_fits_X9_cattery
theorem dX9_fits_0 : decode cX9_fits 0 = .ok (.aload_n 0, 1) := by decide +kernel
theorem dX9_fits_1 : decode cX9_fits 1 = .ok (.invokevirtual 380, 3) := by decide +kernel
theorem dX9_fits_4 : decode cX9_fits 4 = .ok (.ifCond .ne 5, 3) := by decide +kernel
theorem dX9_fits_7 : decode cX9_fits 7 = .ok (.iconst 0, 1) := by decide +kernel
theorem dX9_fits_8 : decode cX9_fits 8 = .ok (.ireturn, 1) := by decide +kernel
set_option maxRecDepth 20000 in
theorem ggX9_sure_X9_isIn : GoodIn wsX9_sure wsX9_isIn := goodIn_r _ [4] (by decide +kernel) (by decide +kernel)
set_option maxRecDepth 20000 in
theorem gX9_sure_X9_isIn : GoodIn wsX9_sure (va_wsS RX9 376 yX9_isIn wsX9_isIn) := goodIn_app (goodIn_of _ (by decide +kernel)) ggX9_sure_X9_isIn
set_option maxRecDepth 20000 in
theorem ggX9_sure_X9_fits : GoodIn wsX9_sure wsX9_fits := goodIn_r _ [8, 9, 10, 11, 3, 12, 13, 14, 15, 16, 17, 18, 19, 20, 21, 22, 23, 24, 25, 26, 27, 28, 29, 30, 31, 32, 33, 34, 35, 36, 37, 38, 39, 40, 41, 42, 43, 44, 45, 46, 47, 48, 49, 50, 51, 52, 53, 54, 55, 56, 57, 58, 59, 60, 61, 62, 63, 64, 65, 1, 2, 4, 66, 67, 68, 69, 70, 71, 72, 73, 74, 75, 76, 77, 78, 79, 80, 81, 82, 83, 84, 85, 86, 87, 88, 89, 90, 91, 92, 93, 94, 95, 96, 97, 98, 99, 100, 101, 102, 103, 104, 105, 106, 107, 108, 109, 110, 111, 112, 113, 114, 115, 116, 117, 118, 119, 120, 121, 122, 123, 124, 125, 126, 127, 128, 129, 130, 131, 132, 133, 134, 135, 136, 137, 138, 139, 140, 141, 142, 143, 144, 145, 146, 147, 148, 149, 150, 151, 152, 153, 154, 155, 156, 157, 158, 159, 160, 161, 162, 163, 164, 165, 166, 167, 168, 169, 170, 171, 172, 173, 174, 175, 176, 177, 178, 179, 180, 181, 182, 183, 184, 185, 186, 187, 188, 189, 190, 191, 192, 193, 194, 195, 196, 197, 198, 199, 200, 201, 202, 203, 204, 205, 206, 207, 208] (by decide +kernel) (by decide +kernel)
set_option maxRecDepth 20000 in
theorem gX9_sure_X9_fits : GoodIn wsX9_sure (wsV RX9 541 RX9 yX9_fits wsX9_fits) := goodIn_app (goodIn_of _ (by decide +kernel)) ggX9_sure_X9_fits
theorem dX9_sure_0 : decode cX9_sure 0 = .ok (.iload_n 1, 1) := by decide +kernel
theorem dX9_sure_1 : decode cX9_sure 1 = .ok (.iconst 0, 1) := by decide +kernel
theorem dX9_sure_2 : decode cX9_sure 2 = .ok (.iconst 1, 1) := by decide +kernel
theorem dX9_sure_3 : decode cX9_sure 3 = .ok (.invokestatic 376, 3) := by decide +kernel
theorem dX9_sure_6 : decode cX9_sure 6 = .ok (.ifCond .eq 11, 3) := by decide +kernel
theorem dX9_sure_9 : decode cX9_sure 9 = .ok (.aload_n 0, 1) := by decide +kernel
theorem dX9_sure_10 : decode cX9_sure 10 = .ok (.iload_n 2, 1) := by decide +kernel
theorem dX9_sure_11 : decode cX9_sure 11 = .ok (.invokevirtual 541, 3) := by decide +kernel
theorem dX9_sure_14 : decode cX9_sure 14 = .ok (.ifCond .ne 5, 3) := by decide +kernel
theorem dX9_sure_17 : decode cX9_sure 17 = .ok (.iconst (-1), 1) := by decide +kernel
theorem dX9_sure_18 : decode cX9_sure 18 = .ok (.ireturn, 1) := by decide +kernel
set_option maxRecDepth 20000 in
theorem ggX9_ask_X9_isIn : GoodIn wsX9_ask wsX9_isIn := goodIn_r _ [5] (by decide +kernel) (by decide +kernel)
set_option maxRecDepth 20000 in
theorem gX9_ask_X9_isIn : GoodIn wsX9_ask (va_wsS RX9 376 yX9_isIn wsX9_isIn) := goodIn_app (goodIn_of _ (by decide +kernel)) ggX9_ask_X9_isIn
set_option maxRecDepth 20000 in
theorem ggX9_ask_X9_fits : GoodIn wsX9_ask wsX9_fits := goodIn_r _ [9, 10, 11, 12, 4, 13, 14, 15, 16, 17, 18, 19, 20, 1, 21, 22, 23, 24, 25, 26, 27, 28, 29, 30, 31, 32, 33, 34, 35, 36, 37, 38, 39, 40, 41, 42, 43, 44, 45, 46, 47, 48, 49, 50, 51, 52, 53, 54, 55, 56, 57, 58, 59, 60, 61, 62, 63, 64, 65, 2, 3, 5, 66, 67, 68, 69, 70, 71, 72, 73, 74, 75, 76, 77, 78, 79, 80, 81, 82, 83, 84, 85, 86, 87, 88, 89, 90, 91, 92, 93, 94, 95, 96, 97, 98, 99, 100, 101, 102, 103, 104, 105, 106, 107, 108, 109, 110, 111, 112, 113, 114, 115, 116, 117, 118, 119, 120, 121, 122, 123, 124, 125, 126, 127, 128, 129, 130, 131, 132, 133, 134, 135, 136, 137, 138, 139, 140, 141, 142, 143, 144, 145, 146, 147, 148, 149, 150, 151, 152, 153, 154, 155, 156, 157, 158, 159, 160, 161, 162, 163, 164, 165, 166, 167, 168, 169, 170, 171, 172, 173, 174, 175, 176, 177, 178, 179, 180, 181, 182, 183, 184, 185, 186, 187, 188, 189, 190, 191, 192, 193, 194, 195, 196, 197, 198, 199, 200, 201, 202, 203, 204, 205, 206, 207, 208] (by decide +kernel) (by decide +kernel)
set_option maxRecDepth 20000 in
theorem gX9_ask_X9_fits : GoodIn wsX9_ask (wsV RX9 541 RX9 yX9_fits wsX9_fits) := goodIn_app (goodIn_of _ (by decide +kernel)) ggX9_ask_X9_fits
theorem dX9_ask_0 : decode cX9_ask 0 = .ok (.iload_n 1, 1) := by decide +kernel
theorem dX9_ask_1 : decode cX9_ask 1 = .ok (.iconst 0, 1) := by decide +kernel
theorem dX9_ask_2 : decode cX9_ask 2 = .ok (.bipush 9, 2) := by decide +kernel
theorem dX9_ask_4 : decode cX9_ask 4 = .ok (.invokestatic 376, 3) := by decide +kernel
theorem dX9_ask_7 : decode cX9_ask 7 = .ok (.ifCond .eq 12, 3) := by decide +kernel
theorem dX9_ask_10 : decode cX9_ask 10 = .ok (.iload_n 2, 1) := by decide +kernel
theorem dX9_ask_11 : decode cX9_ask 11 = .ok (.iconst 0, 1) := by decide +kernel
theorem dX9_ask_12 : decode cX9_ask 12 = .ok (.iconst 1, 1) := by decide +kernel
theorem dX9_ask_13 : decode cX9_ask 13 = .ok (.invokestatic 376, 3) := by decide +kernel
theorem dX9_ask_16 : decode cX9_ask 16 = .ok (.ifCond .ne 5, 3) := by decide +kernel
theorem dX9_ask_19 : decode cX9_ask 19 = .ok (.iconst (-1), 1) := by decide +kernel
theorem dX9_ask_20 : decode cX9_ask 20 = .ok (.ireturn, 1) := by decide +kernel
theorem dX9_ask_21 : decode cX9_ask 21 = .ok (.aload_n 0, 1) := by decide +kernel
theorem dX9_ask_22 : decode cX9_ask 22 = .ok (.iload_n 3, 1) := by decide +kernel
theorem dX9_ask_23 : decode cX9_ask 23 = .ok (.invokevirtual 541, 3) := by decide +kernel
theorem dX9_ask_26 : decode cX9_ask 26 = .ok (.istore 4, 2) := by decide +kernel
theorem dX9_ask_28 : decode cX9_ask 28 = .ok (.iload 4, 2) := by decide +kernel
theorem dX9_ask_30 : decode cX9_ask 30 = .ok (.ifCond .ne 5, 3) := by decide +kernel
theorem dX9_ask_33 : decode cX9_ask 33 = .ok (.iconst (-1), 1) := by decide +kernel
theorem dX9_ask_34 : decode cX9_ask 34 = .ok (.ireturn, 1) := by decide +kernel
set_option maxRecDepth 20000 in
theorem ggX9_thoseOut_X9_many : GoodIn wsX9_thoseOut wsX9_many := goodIn_r _ [5, 6, 7, 13, 14, 15, 16, 17, 18, 19, 20, 21, 22, 23, 24, 25, 26, 27, 28, 29, 30, 31, 32, 33, 34, 35, 36, 37, 38, 39, 40, 41, 42, 43, 44, 45, 46, 47, 48, 49, 50, 51, 52, 53, 54, 55, 56, 57, 58, 59, 60, 61, 62, 63, 64, 65, 66, 67, 68, 69, 70, 71, 72, 73, 74, 75, 76, 77, 78, 79] (by decide +kernel) (by decide +kernel)
set_option maxRecDepth 20000 in
theorem gX9_thoseOut_X9_many : GoodIn wsX9_thoseOut (wsV RX9 373 RX9 yX9_many wsX9_many) := goodIn_app (goodIn_of _ (by decide +kernel)) ggX9_thoseOut_X9_many
theorem dX9_thoseOut_0 : decode cX9_thoseOut 0 = .ok (.iconst 0, 1) := by decide +kernel
theorem dX9_thoseOut_1 : decode cX9_thoseOut 1 = .ok (.istore_n 1, 1) := by decide +kernel
theorem dX9_thoseOut_2 : decode cX9_thoseOut 2 = .ok (.iconst 0, 1) := by decide +kernel
theorem dX9_thoseOut_3 : decode cX9_thoseOut 3 = .ok (.istore_n 2, 1) := by decide +kernel
theorem dX9_thoseOut_4 : decode cX9_thoseOut 4 = .ok (.iload_n 2, 1) := by decide +kernel
theorem dX9_thoseOut_5 : decode cX9_thoseOut 5 = .ok (.aload_n 0, 1) := by decide +kernel
theorem dX9_thoseOut_6 : decode cX9_thoseOut 6 = .ok (.invokevirtual 373, 3) := by decide +kernel
theorem dX9_thoseOut_9 : decode cX9_thoseOut 9 = .ok (.if_icmp .ge 23, 3) := by decide +kernel
theorem dX9_thoseOut_32 : decode cX9_thoseOut 32 = .ok (.iload_n 1, 1) := by decide +kernel
theorem dX9_thoseOut_33 : decode cX9_thoseOut 33 = .ok (.ireturn, 1) := by decide +kernel
set_option maxRecDepth 20000 in
theorem ggX9_about_X9_many : GoodIn wsX9_about wsX9_many := goodIn_r _ [14, 15, 8, 34, 35, 36, 37, 38, 39, 40, 41, 42, 43, 44, 45, 46, 47, 48, 49, 50, 51, 52, 53, 54, 55, 56, 57, 58, 59, 60, 61, 62, 63, 64, 65, 66, 67, 68, 69, 70, 71, 72, 73, 74, 75, 76, 77, 78, 79, 80, 81, 82, 83, 84, 85, 86, 87, 88, 89, 90, 91, 92, 93, 94, 95, 96, 97, 98, 99, 100] (by decide +kernel) (by decide +kernel)
set_option maxRecDepth 20000 in
theorem gX9_about_X9_many : GoodIn wsX9_about (wsV RX9 373 RX9 yX9_many wsX9_many) := goodIn_app (goodIn_of _ (by decide +kernel)) ggX9_about_X9_many
set_option maxRecDepth 20000 in
theorem ggX9_about_X9_cattery : GoodIn wsX9_about wsX9_cattery := goodIn_r _ [19, 20, 8, 34, 35, 36, 37, 38, 39, 40, 41, 42, 43, 44, 45, 46, 47, 48, 49, 50, 51, 52, 53, 54, 55, 56, 57, 58, 59, 60, 61, 62, 63, 64, 65, 66, 67, 68, 69, 70, 71, 72, 73, 74, 75, 76, 77, 78, 79, 80, 81, 82, 83, 84, 85, 86, 87, 88, 89, 90, 91, 92, 93, 94, 95, 96, 97, 98, 99, 100] (by decide +kernel) (by decide +kernel)
set_option maxRecDepth 20000 in
theorem gX9_about_X9_cattery : GoodIn wsX9_about (wsV RX9 380 RX9 yX9_cattery wsX9_cattery) := goodIn_app (goodIn_of _ (by decide +kernel)) ggX9_about_X9_cattery
set_option maxRecDepth 20000 in
theorem ggX9_about_X9_chambers : GoodIn wsX9_about wsX9_chambers := goodIn_r _ [24, 25, 8, 34, 35, 36, 37, 38, 39, 40, 41, 42, 43, 44, 45, 46, 47, 48, 49, 50, 51, 52, 53, 54, 55, 56, 57, 58, 59, 60, 61, 62, 63, 64, 65, 66, 67, 68, 69, 70, 71, 72, 73, 74, 75, 76, 77, 78, 79, 80, 81, 82, 83, 84, 85, 86, 87, 88, 89, 90, 91, 92, 93, 94, 95, 96, 97, 98, 99, 100] (by decide +kernel) (by decide +kernel)
set_option maxRecDepth 20000 in
theorem gX9_about_X9_chambers : GoodIn wsX9_about (wsV RX9 383 RX9 yX9_chambers wsX9_chambers) := goodIn_app (goodIn_of _ (by decide +kernel)) ggX9_about_X9_chambers
set_option maxRecDepth 20000 in
theorem ggX9_about_X9_thoseOut : GoodIn wsX9_about wsX9_thoseOut := goodIn_r _ [29, 10, 11, 12, 13, 14, 15, 8, 30, 31, 32, 33, 1, 34, 35, 36, 37, 38, 39, 40, 41, 42, 43, 44, 45, 46, 47, 48, 49, 50, 51, 52, 53, 54, 55, 56, 57, 58, 59, 60, 61, 62, 63, 64, 65, 66, 67, 68, 69, 70, 71, 72, 73, 74, 75, 76, 77, 78, 79, 80, 81, 82, 83, 84, 85, 86, 87, 88, 89, 90, 91, 92, 93, 94, 95, 96, 97, 98, 99, 100] (by decide +kernel) (by decide +kernel)
set_option maxRecDepth 20000 in
theorem gX9_about_X9_thoseOut : GoodIn wsX9_about (wsV RX9 544 RX9 yX9_thoseOut wsX9_thoseOut) := goodIn_app (goodIn_of _ (by decide +kernel)) ggX9_about_X9_thoseOut
theorem dX9_about_0 : decode cX9_about 0 = .ok (.iload_n 1, 1) := by decide +kernel
theorem dX9_about_1 : decode cX9_about 1 = .ok (.tableswitch 155 0 13 #[71, 76, 81, 86, 94, 99, 107, 115, 120, 125, 130, 135, 140, 150], 71) := by decide +kernel
theorem dX9_about_72 : decode cX9_about 72 = .ok (.aload_n 0, 1) := by decide +kernel
theorem dX9_about_73 : decode cX9_about 73 = .ok (.invokevirtual 373, 3) := by decide +kernel
theorem dX9_about_76 : decode cX9_about 76 = .ok (.ireturn, 1) := by decide +kernel
theorem dX9_about_77 : decode cX9_about 77 = .ok (.aload_n 0, 1) := by decide +kernel
theorem dX9_about_78 : decode cX9_about 78 = .ok (.invokevirtual 380, 3) := by decide +kernel
theorem dX9_about_81 : decode cX9_about 81 = .ok (.ireturn, 1) := by decide +kernel
theorem dX9_about_82 : decode cX9_about 82 = .ok (.aload_n 0, 1) := by decide +kernel
theorem dX9_about_83 : decode cX9_about 83 = .ok (.invokevirtual 383, 3) := by decide +kernel
theorem dX9_about_86 : decode cX9_about 86 = .ok (.ireturn, 1) := by decide +kernel
theorem dX9_about_87 : decode cX9_about 87 = .ok (.aload_n 0, 1) := by decide +kernel
theorem dX9_about_88 : decode cX9_about 88 = .ok (.getfield 94, 3) := by decide +kernel
theorem dX9_about_91 : decode cX9_about 91 = .ok (.bipush 36, 2) := by decide +kernel
theorem dX9_about_93 : decode cX9_about 93 = .ok (.iaload, 1) := by decide +kernel
theorem dX9_about_94 : decode cX9_about 94 = .ok (.ireturn, 1) := by decide +kernel
theorem dX9_about_95 : decode cX9_about 95 = .ok (.aload_n 0, 1) := by decide +kernel
theorem dX9_about_96 : decode cX9_about 96 = .ok (.invokevirtual 544, 3) := by decide +kernel
theorem dX9_about_99 : decode cX9_about 99 = .ok (.ireturn, 1) := by decide +kernel
theorem dX9_about_100 : decode cX9_about 100 = .ok (.aload_n 0, 1) := by decide +kernel
theorem dX9_about_101 : decode cX9_about 101 = .ok (.getfield 94, 3) := by decide +kernel
theorem dX9_about_104 : decode cX9_about 104 = .ok (.bipush 37, 2) := by decide +kernel
theorem dX9_about_106 : decode cX9_about 106 = .ok (.iaload, 1) := by decide +kernel
theorem dX9_about_107 : decode cX9_about 107 = .ok (.ireturn, 1) := by decide +kernel
theorem dX9_about_108 : decode cX9_about 108 = .ok (.aload_n 0, 1) := by decide +kernel
theorem dX9_about_109 : decode cX9_about 109 = .ok (.getfield 94, 3) := by decide +kernel
theorem dX9_about_112 : decode cX9_about 112 = .ok (.bipush 38, 2) := by decide +kernel
theorem dX9_about_114 : decode cX9_about 114 = .ok (.iaload, 1) := by decide +kernel
theorem dX9_about_115 : decode cX9_about 115 = .ok (.ireturn, 1) := by decide +kernel
theorem dX9_about_116 : decode cX9_about 116 = .ok (.aload_n 0, 1) := by decide +kernel
theorem dX9_about_117 : decode cX9_about 117 = .ok (.getfield 398, 3) := by decide +kernel
theorem dX9_about_120 : decode cX9_about 120 = .ok (.ireturn, 1) := by decide +kernel
theorem dX9_about_121 : decode cX9_about 121 = .ok (.aload_n 0, 1) := by decide +kernel
theorem dX9_about_122 : decode cX9_about 122 = .ok (.getfield 401, 3) := by decide +kernel
theorem dX9_about_125 : decode cX9_about 125 = .ok (.ireturn, 1) := by decide +kernel
theorem dX9_about_126 : decode cX9_about 126 = .ok (.aload_n 0, 1) := by decide +kernel
theorem dX9_about_127 : decode cX9_about 127 = .ok (.getfield 404, 3) := by decide +kernel
theorem dX9_about_130 : decode cX9_about 130 = .ok (.ireturn, 1) := by decide +kernel
theorem dX9_about_131 : decode cX9_about 131 = .ok (.aload_n 0, 1) := by decide +kernel
theorem dX9_about_132 : decode cX9_about 132 = .ok (.getfield 532, 3) := by decide +kernel
theorem dX9_about_135 : decode cX9_about 135 = .ok (.ireturn, 1) := by decide +kernel
theorem dX9_about_136 : decode cX9_about 136 = .ok (.aload_n 0, 1) := by decide +kernel
theorem dX9_about_137 : decode cX9_about 137 = .ok (.getfield 265, 3) := by decide +kernel
theorem dX9_about_140 : decode cX9_about 140 = .ok (.ireturn, 1) := by decide +kernel
theorem dX9_about_141 : decode cX9_about 141 = .ok (.aload_n 0, 1) := by decide +kernel
theorem dX9_about_142 : decode cX9_about 142 = .ok (.getfield 30, 3) := by decide +kernel
theorem dX9_about_145 : decode cX9_about 145 = .ok (.aload_n 0, 1) := by decide +kernel
theorem dX9_about_146 : decode cX9_about 146 = .ok (.getfield 268, 3) := by decide +kernel
theorem dX9_about_149 : decode cX9_about 149 = .ok (.iaload, 1) := by decide +kernel
theorem dX9_about_150 : decode cX9_about 150 = .ok (.ireturn, 1) := by decide +kernel
theorem dX9_about_151 : decode cX9_about 151 = .ok (.aload_n 0, 1) := by decide +kernel
theorem dX9_about_152 : decode cX9_about 152 = .ok (.getfield 407, 3) := by decide +kernel
theorem dX9_about_155 : decode cX9_about 155 = .ok (.ireturn, 1) := by decide +kernel
theorem dX9_about_156 : decode cX9_about 156 = .ok (.iconst (-1), 1) := by decide +kernel
theorem dX9_about_157 : decode cX9_about 157 = .ok (.ireturn, 1) := by decide +kernel
theorem dX9_end_0 : decode cX9_end 0 = .ok (.iload_n 1, 1) := by decide +kernel
theorem dX9_end_1 : decode cX9_end 1 = .ok (.ifCond .lt 11, 3) := by decide +kernel
theorem dX9_end_4 : decode cX9_end 4 = .ok (.iload_n 1, 1) := by decide +kernel
theorem dX9_end_5 : decode cX9_end 5 = .ok (.aload_n 0, 1) := by decide +kernel
theorem dX9_end_6 : decode cX9_end 6 = .ok (.getfield 265, 3) := by decide +kernel
theorem dX9_end_9 : decode cX9_end 9 = .ok (.if_icmp .le 5, 3) := by decide +kernel
theorem dX9_end_12 : decode cX9_end 12 = .ok (.iconst (-1), 1) := by decide +kernel
theorem dX9_end_13 : decode cX9_end 13 = .ok (.ireturn, 1) := by decide +kernel
theorem dX9_end_14 : decode cX9_end 14 = .ok (.aload_n 0, 1) := by decide +kernel
theorem dX9_end_15 : decode cX9_end 15 = .ok (.iload_n 1, 1) := by decide +kernel
theorem dX9_end_16 : decode cX9_end 16 = .ok (.putfield 265, 3) := by decide +kernel
theorem dX9_end_19 : decode cX9_end 19 = .ok (.iload_n 1, 1) := by decide +kernel
theorem dX9_end_20 : decode cX9_end 20 = .ok (.ireturn, 1) := by decide +kernel
theorem iX9_many_X9 : ∀ w ∈ wsX90, w ∈ wsX9_many := (fun _ h => List.mem_cons_of_mem _ (List.mem_append_right _ h))
theorem iX9_cattery_X9 : ∀ w ∈ wsX90, w ∈ wsX9_cattery := (fun _ h => List.mem_cons_of_mem _ (List.mem_append_right _ h))
theorem iX9_chambers_X9 : ∀ w ∈ wsX90, w ∈ wsX9_chambers := (fun _ h => List.mem_cons_of_mem _ (List.mem_append_right _ h))
theorem iX9_undo_X9 : ∀ w ∈ wsX90, w ∈ wsX9_undo := (fun _ h => List.mem_cons_of_mem _ (List.mem_append_right _ h))
theorem iX9_redo_X9 : ∀ w ∈ wsX90, w ∈ wsX9_redo := (fun _ h => List.mem_cons_of_mem _ (List.mem_append_right _ h))
theorem iX9_law_X9 : ∀ w ∈ wsX90, w ∈ wsX9_law := (fun _ h => List.mem_cons_of_mem _ (List.mem_append_right _ h))
theorem iX9_bid_X9 : ∀ w ∈ wsX90, w ∈ wsX9_bid := (fun _ h => List.mem_cons_of_mem _ (List.mem_append_right _ h))
theorem iX9_lies_X9 : ∀ w ∈ wsX90, w ∈ wsX9_lies := (fun _ h => List.mem_cons_of_mem _ (List.mem_append_right _ h))
theorem iX9_untell_X9 : ∀ w ∈ wsX90, w ∈ wsX9_untell := (fun _ h => List.mem_cons_of_mem _ (List.mem_append_right _ h))
theorem iX9_later_X9 : ∀ w ∈ wsX90, w ∈ wsX9_later := (fun _ h => List.mem_cons_of_mem _ (List.mem_append_right _ h))
theorem iX9_end_X9 : ∀ w ∈ wsX90, w ∈ wsX9_end := (fun _ h => List.mem_cons_of_mem _ (List.mem_append_right _ h))
theorem iX9_fault_X9 : ∀ w ∈ wsX90, w ∈ wsX9_fault := (fun _ h => List.mem_cons_of_mem _ (List.mem_append_right _ h))
theorem iX9_about_X9 : ∀ w ∈ wsX90, w ∈ wsX9_about := (fun _ h => List.mem_cons_of_mem _ (List.mem_append_right _ h))
theorem iX9_layLet_X9 : ∀ w ∈ wsX90, w ∈ wsX9_layLet := (fun _ h => List.mem_cons_of_mem _ (List.mem_append_right _ h))
theorem iX9_letting_X9 : ∀ w ∈ wsX90, w ∈ wsX9_letting := (fun _ h => List.mem_cons_of_mem _ (List.mem_append_right _ h))
