theorem dX0_current_0 : decode cX0_current 0 = .ok (.aload_n 0, 1) := by decide +kernel
theorem dX0_current_1 : decode cX0_current 1 = .ok (.getfield 20, 3) := by decide +kernel
theorem dX0_current_4 : decode cX0_current 4 = .ok (.aload_n 0, 1) := by decide +kernel
theorem dX0_current_5 : decode cX0_current 5 = .ok (.getfield 24, 3) := by decide +kernel
theorem dX0_current_8 : decode cX0_current 8 = .ok (.aaload, 1) := by decide +kernel
theorem dX0_current_9 : decode cX0_current 9 = .ok (.areturn, 1) := by decide +kernel
theorem dX0_stepBack_0 : decode cX0_stepBack 0 = .ok (.aload_n 0, 1) := by decide +kernel
theorem dX0_stepBack_1 : decode cX0_stepBack 1 = .ok (.getfield 9, 3) := by decide +kernel
theorem dX0_stepBack_4 : decode cX0_stepBack 4 = .ok (.ifCond .ne 5, 3) := by decide +kernel
theorem dX0_stepBack_7 : decode cX0_stepBack 7 = .ok (.iconst 0, 1) := by decide +kernel
theorem dX0_stepBack_8 : decode cX0_stepBack 8 = .ok (.ireturn, 1) := by decide +kernel
theorem dX0_stepForth_0 : decode cX0_stepForth 0 = .ok (.aload_n 0, 1) := by decide +kernel
theorem dX0_stepForth_1 : decode cX0_stepForth 1 = .ok (.getfield 15, 3) := by decide +kernel
theorem dX0_stepForth_4 : decode cX0_stepForth 4 = .ok (.ifCond .ne 5, 3) := by decide +kernel
theorem dX0_stepForth_7 : decode cX0_stepForth 7 = .ok (.iconst 0, 1) := by decide +kernel
theorem dX0_stepForth_8 : decode cX0_stepForth 8 = .ok (.ireturn, 1) := by decide +kernel
theorem dX4_whoIsOut_0 : decode cX4_whoIsOut 0 = .ok (.iconst 0, 1) := by decide +kernel
theorem dX4_whoIsOut_1 : decode cX4_whoIsOut 1 = .ok (.istore_n 2, 1) := by decide +kernel
theorem dX4_whoIsOut_2 : decode cX4_whoIsOut 2 = .ok (.iconst 0, 1) := by decide +kernel
theorem dX4_whoIsOut_3 : decode cX4_whoIsOut 3 = .ok (.istore_n 3, 1) := by decide +kernel
theorem dX4_whoIsOut_4 : decode cX4_whoIsOut 4 = .ok (.iload_n 3, 1) := by decide +kernel
theorem dX4_whoIsOut_5 : decode cX4_whoIsOut 5 = .ok (.aload_n 0, 1) := by decide +kernel
theorem dX4_whoIsOut_6 : decode cX4_whoIsOut 6 = .ok (.getfield 18, 3) := by decide +kernel
theorem dX4_whoIsOut_9 : decode cX4_whoIsOut 9 = .ok (.if_icmp .ge 25, 3) := by decide +kernel
theorem dX4_whoIsOut_34 : decode cX4_whoIsOut 34 = .ok (.iload_n 2, 1) := by decide +kernel
theorem dX4_whoIsOut_35 : decode cX4_whoIsOut 35 = .ok (.ireturn, 1) := by decide +kernel
theorem dX4_thrownOut_0 : decode cX4_thrownOut 0 = .ok (.iconst 0, 1) := by decide +kernel
theorem dX4_thrownOut_1 : decode cX4_thrownOut 1 = .ok (.istore_n 2, 1) := by decide +kernel
theorem dX4_thrownOut_2 : decode cX4_thrownOut 2 = .ok (.iconst 0, 1) := by decide +kernel
theorem dX4_thrownOut_3 : decode cX4_thrownOut 3 = .ok (.istore_n 3, 1) := by decide +kernel
theorem dX4_thrownOut_4 : decode cX4_thrownOut 4 = .ok (.iload_n 3, 1) := by decide +kernel
theorem dX4_thrownOut_5 : decode cX4_thrownOut 5 = .ok (.aload_n 0, 1) := by decide +kernel
theorem dX4_thrownOut_6 : decode cX4_thrownOut 6 = .ok (.getfield 18, 3) := by decide +kernel
theorem dX4_thrownOut_9 : decode cX4_thrownOut 9 = .ok (.if_icmp .ge 43, 3) := by decide +kernel
theorem dX4_thrownOut_52 : decode cX4_thrownOut 52 = .ok (.iload_n 2, 1) := by decide +kernel
theorem dX4_thrownOut_53 : decode cX4_thrownOut 53 = .ok (.ireturn, 1) := by decide +kernel
theorem dX4_thrownOutAt_0 : decode cX4_thrownOutAt 0 = .ok (.iconst 0, 1) := by decide +kernel
theorem dX4_thrownOutAt_1 : decode cX4_thrownOutAt 1 = .ok (.istore_n 3, 1) := by decide +kernel
theorem dX4_thrownOutAt_2 : decode cX4_thrownOutAt 2 = .ok (.iconst 0, 1) := by decide +kernel
theorem dX4_thrownOutAt_3 : decode cX4_thrownOutAt 3 = .ok (.istore 4, 2) := by decide +kernel
theorem dX4_thrownOutAt_5 : decode cX4_thrownOutAt 5 = .ok (.iload 4, 2) := by decide +kernel
theorem dX4_thrownOutAt_7 : decode cX4_thrownOutAt 7 = .ok (.aload_n 0, 1) := by decide +kernel
theorem dX4_thrownOutAt_8 : decode cX4_thrownOutAt 8 = .ok (.getfield 18, 3) := by decide +kernel
theorem dX4_thrownOutAt_11 : decode cX4_thrownOutAt 11 = .ok (.if_icmp .ge 52, 3) := by decide +kernel
theorem dX4_thrownOutAt_63 : decode cX4_thrownOutAt 63 = .ok (.iload_n 3, 1) := by decide +kernel
theorem dX4_thrownOutAt_64 : decode cX4_thrownOutAt 64 = .ok (.ireturn, 1) := by decide +kernel
theorem dX6_takeBack_0 : decode cX6_takeBack 0 = .ok (.iload_n 1, 1) := by decide +kernel
theorem dX6_takeBack_1 : decode cX6_takeBack 1 = .ok (.ifCond .lt 21, 3) := by decide +kernel
theorem dX6_takeBack_4 : decode cX6_takeBack 4 = .ok (.iload_n 1, 1) := by decide +kernel
theorem dX6_takeBack_5 : decode cX6_takeBack 5 = .ok (.aload_n 0, 1) := by decide +kernel
theorem dX6_takeBack_6 : decode cX6_takeBack 6 = .ok (.getfield 9, 3) := by decide +kernel
theorem dX6_takeBack_9 : decode cX6_takeBack 9 = .ok (.if_icmp .ge 13, 3) := by decide +kernel
theorem dX6_takeBack_22 : decode cX6_takeBack 22 = .ok (.iconst 0, 1) := by decide +kernel
theorem dX6_takeBack_23 : decode cX6_takeBack 23 = .ok (.ireturn, 1) := by decide +kernel
theorem dX8_end_0 : decode cX8_end 0 = .ok (.iload_n 1, 1) := by decide +kernel
theorem dX8_end_1 : decode cX8_end 1 = .ok (.ifCond .lt 11, 3) := by decide +kernel
theorem dX8_end_4 : decode cX8_end 4 = .ok (.iload_n 1, 1) := by decide +kernel
theorem dX8_end_5 : decode cX8_end 5 = .ok (.aload_n 0, 1) := by decide +kernel
theorem dX8_end_6 : decode cX8_end 6 = .ok (.getfield 13, 3) := by decide +kernel
theorem dX8_end_9 : decode cX8_end 9 = .ok (.if_icmp .le 5, 3) := by decide +kernel
theorem dX8_end_12 : decode cX8_end 12 = .ok (.iconst (-1), 1) := by decide +kernel
theorem dX8_end_13 : decode cX8_end 13 = .ok (.ireturn, 1) := by decide +kernel
theorem dX8_end_14 : decode cX8_end 14 = .ok (.aload_n 0, 1) := by decide +kernel
theorem dX8_end_15 : decode cX8_end 15 = .ok (.iload_n 1, 1) := by decide +kernel
theorem dX8_end_16 : decode cX8_end 16 = .ok (.putfield 13, 3) := by decide +kernel
theorem dX8_end_19 : decode cX8_end 19 = .ok (.iload_n 1, 1) := by decide +kernel
theorem dX8_end_20 : decode cX8_end 20 = .ok (.ireturn, 1) := by decide +kernel
theorem dX8_fault_0 : decode cX8_fault 0 = .ok (.iload_n 1, 1) := by decide +kernel
theorem dX8_fault_1 : decode cX8_fault 1 = .ok (.lookupswitch 43 #[(0, 27), (1, 35)], 27) := by decide +kernel
theorem dX8_fault_28 : decode cX8_fault 28 = .ok (.aload_n 0, 1) := by decide +kernel
theorem dX8_fault_29 : decode cX8_fault 29 = .ok (.getfield 20, 3) := by decide +kernel
theorem dX8_fault_32 : decode cX8_fault 32 = .ok (.getfield 105, 3) := by decide +kernel
theorem dX8_fault_35 : decode cX8_fault 35 = .ok (.ireturn, 1) := by decide +kernel
theorem dX8_fault_36 : decode cX8_fault 36 = .ok (.aload_n 0, 1) := by decide +kernel
theorem dX8_fault_37 : decode cX8_fault 37 = .ok (.getfield 20, 3) := by decide +kernel
theorem dX8_fault_40 : decode cX8_fault 40 = .ok (.getfield 108, 3) := by decide +kernel
theorem dX8_fault_43 : decode cX8_fault 43 = .ok (.ireturn, 1) := by decide +kernel
theorem dX8_fault_44 : decode cX8_fault 44 = .ok (.iconst (-1), 1) := by decide +kernel
theorem dX8_fault_45 : decode cX8_fault 45 = .ok (.ireturn, 1) := by decide +kernel
set_option maxRecDepth 20000 in
theorem ggX8_cat_X8_isCat : GoodIn wsX8_cat wsX8_isCat := goodIn_r _ [9, 2, 10, 42, 43, 44, 45, 46, 47, 48, 49, 50, 51, 52, 53, 54, 55, 56, 57, 58, 59, 60, 61, 62, 63, 64, 65, 66] (by decide +kernel) (by decide +kernel)
set_option maxRecDepth 20000 in
theorem gX8_cat_X8_isCat : GoodIn wsX8_cat (wsV RX8 111 RX8 yX8_isCat wsX8_isCat) := goodIn_app (goodIn_of _ (by decide +kernel)) ggX8_cat_X8_isCat
theorem dX8_cat_0 : decode cX8_cat 0 = .ok (.aload_n 0, 1) := by decide +kernel
theorem dX8_cat_1 : decode cX8_cat 1 = .ok (.iload_n 1, 1) := by decide +kernel
theorem dX8_cat_2 : decode cX8_cat 2 = .ok (.invokevirtual 111, 3) := by decide +kernel
theorem dX8_cat_5 : decode cX8_cat 5 = .ok (.ifCond .ne 6, 3) := by decide +kernel
theorem dX8_cat_8 : decode cX8_cat 8 = .ok (.bipush (-2), 2) := by decide +kernel
theorem dX8_cat_10 : decode cX8_cat 10 = .ok (.ireturn, 1) := by decide +kernel
set_option maxRecDepth 20000 in
theorem ggX8_room_X8_isRoom : GoodIn wsX8_room wsX8_isRoom := goodIn_r _ [8, 3, 9, 24, 25, 26, 27, 28, 29, 30, 31, 32, 33, 34, 35, 36, 37, 46, 47, 48, 49, 50, 51, 52, 53, 54, 55, 56] (by decide +kernel) (by decide +kernel)
set_option maxRecDepth 20000 in
theorem gX8_room_X8_isRoom : GoodIn wsX8_room (wsV RX8 135 RX8 yX8_isRoom wsX8_isRoom) := goodIn_app (goodIn_of _ (by decide +kernel)) ggX8_room_X8_isRoom
theorem dX8_room_0 : decode cX8_room 0 = .ok (.aload_n 0, 1) := by decide +kernel
theorem dX8_room_1 : decode cX8_room 1 = .ok (.iload_n 1, 1) := by decide +kernel
theorem dX8_room_2 : decode cX8_room 2 = .ok (.invokevirtual 135, 3) := by decide +kernel
theorem dX8_room_5 : decode cX8_room 5 = .ok (.ifCond .ne 6, 3) := by decide +kernel
theorem dX8_room_8 : decode cX8_room 8 = .ok (.bipush (-2), 2) := by decide +kernel
theorem dX8_room_10 : decode cX8_room 10 = .ok (.ireturn, 1) := by decide +kernel
set_option maxRecDepth 20000 in
theorem ggX8_tenant_X8_isTenant : GoodIn wsX8_tenant wsX8_isTenant := goodIn_r _ [12, 4, 13, 21, 22, 23, 24, 25, 26, 27, 28, 29, 30, 31, 32, 33, 34, 43, 44, 45, 46, 47, 48, 49, 50, 51, 52, 53] (by decide +kernel) (by decide +kernel)
set_option maxRecDepth 20000 in
theorem gX8_tenant_X8_isTenant : GoodIn wsX8_tenant (wsV RX8 144 RX8 yX8_isTenant wsX8_isTenant) := goodIn_app (goodIn_of _ (by decide +kernel)) ggX8_tenant_X8_isTenant
theorem dX8_tenant_0 : decode cX8_tenant 0 = .ok (.aload_n 0, 1) := by decide +kernel
theorem dX8_tenant_1 : decode cX8_tenant 1 = .ok (.iload_n 1, 1) := by decide +kernel
theorem dX8_tenant_2 : decode cX8_tenant 2 = .ok (.invokevirtual 144, 3) := by decide +kernel
theorem dX8_tenant_5 : decode cX8_tenant 5 = .ok (.ifCond .ne 6, 3) := by decide +kernel
theorem dX8_tenant_8 : decode cX8_tenant 8 = .ok (.bipush (-2), 2) := by decide +kernel
theorem dX8_tenant_10 : decode cX8_tenant 10 = .ok (.ireturn, 1) := by decide +kernel
set_option maxRecDepth 20000 in
theorem ggX8_liking_X0_current : GoodIn wsX8_liking wsX0_current := goodIn_r _ [8, 9, 10, 81, 82, 83, 84] (by decide +kernel) (by decide +kernel)
set_option maxRecDepth 20000 in
theorem gX8_liking_X0_current : GoodIn wsX8_liking (wsV RX8 115 RX0 yX0_current wsX0_current) := goodIn_app (goodIn_of _ (by decide +kernel)) ggX8_liking_X0_current
set_option maxRecDepth 20000 in
theorem ggX8_liking_X8_isTenant : GoodIn wsX8_liking wsX8_isTenant := goodIn_r _ [15, 3, 16, 67, 68, 69, 70, 71, 72, 73, 74, 75, 76, 77, 78, 79, 80, 85, 86, 87, 88, 89, 90, 91, 92, 93, 94, 95] (by decide +kernel) (by decide +kernel)
set_option maxRecDepth 20000 in
theorem gX8_liking_X8_isTenant : GoodIn wsX8_liking (wsV RX8 144 RX8 yX8_isTenant wsX8_isTenant) := goodIn_app (goodIn_of _ (by decide +kernel)) ggX8_liking_X8_isTenant
theorem dX8_liking_0 : decode cX8_liking 0 = .ok (.aload_n 0, 1) := by decide +kernel
theorem dX8_liking_1 : decode cX8_liking 1 = .ok (.getfield 34, 3) := by decide +kernel
theorem dX8_liking_4 : decode cX8_liking 4 = .ok (.invokevirtual 115, 3) := by decide +kernel
theorem dX8_liking_7 : decode cX8_liking 7 = .ok (.astore_n 3, 1) := by decide +kernel
theorem dX8_liking_8 : decode cX8_liking 8 = .ok (.aload_n 0, 1) := by decide +kernel
theorem dX8_liking_9 : decode cX8_liking 9 = .ok (.iload_n 1, 1) := by decide +kernel
theorem dX8_liking_10 : decode cX8_liking 10 = .ok (.invokevirtual 144, 3) := by decide +kernel
theorem dX8_liking_13 : decode cX8_liking 13 = .ok (.ifCond .eq 19, 3) := by decide +kernel
theorem dX8_liking_32 : decode cX8_liking 32 = .ok (.ldc 165, 2) := by decide +kernel
theorem dX8_liking_34 : decode cX8_liking 34 = .ok (.ireturn, 1) := by decide +kernel
theorem dX8_isCat_0 : decode cX8_isCat 0 = .ok (.iload_n 1, 1) := by decide +kernel
theorem dX8_isCat_1 : decode cX8_isCat 1 = .ok (.ifCond .lt 18, 3) := by decide +kernel
theorem dX8_isCat_4 : decode cX8_isCat 4 = .ok (.iload_n 1, 1) := by decide +kernel
theorem dX8_isCat_5 : decode cX8_isCat 5 = .ok (.aload_n 0, 1) := by decide +kernel
theorem dX8_isCat_6 : decode cX8_isCat 6 = .ok (.getfield 27, 3) := by decide +kernel
theorem dX8_isCat_9 : decode cX8_isCat 9 = .ok (.getfield 170, 3) := by decide +kernel
theorem dX8_isCat_12 : decode cX8_isCat 12 = .ok (.if_icmp .ge 7, 3) := by decide +kernel
theorem dX8_isCat_19 : decode cX8_isCat 19 = .ok (.iconst 0, 1) := by decide +kernel
theorem dX8_isCat_20 : decode cX8_isCat 20 = .ok (.ireturn, 1) := by decide +kernel
set_option maxRecDepth 20000 in
theorem ggX8_isLivingCat_X8_isCat : GoodIn wsX8_isLivingCat wsX8_isCat := goodIn_r _ [6, 7, 8, 22, 23, 24, 25, 26, 27, 28, 29, 30, 31, 32, 33, 34, 35, 36, 37, 38, 39, 40, 41, 42, 43, 44, 45, 46] (by decide +kernel) (by decide +kernel)
set_option maxRecDepth 20000 in
theorem gX8_isLivingCat_X8_isCat : GoodIn wsX8_isLivingCat (wsV RX8 111 RX8 yX8_isCat wsX8_isCat) := goodIn_app (goodIn_of _ (by decide +kernel)) ggX8_isLivingCat_X8_isCat
theorem dX8_isLivingCat_0 : decode cX8_isLivingCat 0 = .ok (.aload_n 0, 1) := by decide +kernel
theorem dX8_isLivingCat_1 : decode cX8_isLivingCat 1 = .ok (.iload_n 1, 1) := by decide +kernel
theorem dX8_isLivingCat_2 : decode cX8_isLivingCat 2 = .ok (.invokevirtual 111, 3) := by decide +kernel
theorem dX8_isLivingCat_5 : decode cX8_isLivingCat 5 = .ok (.ifCond .eq 21, 3) := by decide +kernel
theorem dX8_isLivingCat_26 : decode cX8_isLivingCat 26 = .ok (.iconst 0, 1) := by decide +kernel
theorem dX8_isLivingCat_27 : decode cX8_isLivingCat 27 = .ok (.ireturn, 1) := by decide +kernel
theorem dX8_isRoom_0 : decode cX8_isRoom 0 = .ok (.iload_n 1, 1) := by decide +kernel
theorem dX8_isRoom_1 : decode cX8_isRoom 1 = .ok (.ifCond .lt 18, 3) := by decide +kernel
theorem dX8_isRoom_4 : decode cX8_isRoom 4 = .ok (.iload_n 1, 1) := by decide +kernel
theorem dX8_isRoom_5 : decode cX8_isRoom 5 = .ok (.aload_n 0, 1) := by decide +kernel
theorem dX8_isRoom_6 : decode cX8_isRoom 6 = .ok (.getfield 27, 3) := by decide +kernel
theorem dX8_isRoom_9 : decode cX8_isRoom 9 = .ok (.getfield 173, 3) := by decide +kernel
theorem dX8_isRoom_12 : decode cX8_isRoom 12 = .ok (.if_icmp .ge 7, 3) := by decide +kernel
theorem dX8_isRoom_19 : decode cX8_isRoom 19 = .ok (.iconst 0, 1) := by decide +kernel
theorem dX8_isRoom_20 : decode cX8_isRoom 20 = .ok (.ireturn, 1) := by decide +kernel
theorem dX8_isTenant_0 : decode cX8_isTenant 0 = .ok (.iload_n 1, 1) := by decide +kernel
theorem dX8_isTenant_1 : decode cX8_isTenant 1 = .ok (.ifCond .lt 18, 3) := by decide +kernel
theorem dX8_isTenant_4 : decode cX8_isTenant 4 = .ok (.iload_n 1, 1) := by decide +kernel
theorem dX8_isTenant_5 : decode cX8_isTenant 5 = .ok (.aload_n 0, 1) := by decide +kernel
theorem dX8_isTenant_6 : decode cX8_isTenant 6 = .ok (.getfield 27, 3) := by decide +kernel
theorem dX8_isTenant_9 : decode cX8_isTenant 9 = .ok (.getfield 102, 3) := by decide +kernel
theorem dX8_isTenant_12 : decode cX8_isTenant 12 = .ok (.if_icmp .ge 7, 3) := by decide +kernel
theorem dX8_isTenant_19 : decode cX8_isTenant 19 = .ok (.iconst 0, 1) := by decide +kernel
theorem dX8_isTenant_20 : decode cX8_isTenant 20 = .ok (.ireturn, 1) := by decide +kernel
theorem dX8_areCats_0 : decode cX8_areCats 0 = .ok (.iload_n 1, 1) := by decide +kernel
theorem dX8_areCats_1 : decode cX8_areCats 1 = .ok (.ifCond .lt 20, 3) := by decide +kernel
theorem dX8_areCats_4 : decode cX8_areCats 4 = .ok (.iload_n 1, 1) := by decide +kernel
theorem dX8_areCats_5 : decode cX8_areCats 5 = .ok (.iconst 1, 1) := by decide +kernel
theorem dX8_areCats_6 : decode cX8_areCats 6 = .ok (.aload_n 0, 1) := by decide +kernel
theorem dX8_areCats_7 : decode cX8_areCats 7 = .ok (.getfield 27, 3) := by decide +kernel
theorem dX8_areCats_10 : decode cX8_areCats 10 = .ok (.getfield 170, 3) := by decide +kernel
theorem dX8_areCats_13 : decode cX8_areCats 13 = .ok (.ishl, 1) := by decide +kernel
theorem dX8_areCats_14 : decode cX8_areCats 14 = .ok (.if_icmp .ge 7, 3) := by decide +kernel
theorem dX8_areCats_17 : decode cX8_areCats 17 = .ok (.iconst 1, 1) := by decide +kernel
theorem dX8_areCats_18 : decode cX8_areCats 18 = .ok (.goto 4, 3) := by decide +kernel
theorem dX8_areCats_21 : decode cX8_areCats 21 = .ok (.iconst 0, 1) := by decide +kernel
theorem dX8_areCats_22 : decode cX8_areCats 22 = .ok (.ireturn, 1) := by decide +kernel
set_option maxRecDepth 20000 in
theorem ggX8_isInKeptRoom_X0_current : GoodIn wsX8_isInKeptRoom wsX0_current := goodIn_r _ [7, 8, 9, 45, 46, 47, 48] (by decide +kernel) (by decide +kernel)
set_option maxRecDepth 20000 in
theorem gX8_isInKeptRoom_X0_current : GoodIn wsX8_isInKeptRoom (wsV RX8 115 RX0 yX0_current wsX0_current) := goodIn_app (goodIn_of _ (by decide +kernel)) ggX8_isInKeptRoom_X0_current
set_option maxRecDepth 20000 in
theorem ggX8_isInKeptRoom_X8_isTenant : GoodIn wsX8_isInKeptRoom wsX8_isTenant := goodIn_r _ [14, 15, 16, 23, 24, 25, 26, 27, 28, 29, 30, 31, 32, 33, 34, 35, 36, 49, 50, 51, 52, 53, 54, 55, 56, 57, 58, 59] (by decide +kernel) (by decide +kernel)
set_option maxRecDepth 20000 in
theorem gX8_isInKeptRoom_X8_isTenant : GoodIn wsX8_isInKeptRoom (wsV RX8 144 RX8 yX8_isTenant wsX8_isTenant) := goodIn_app (goodIn_of _ (by decide +kernel)) ggX8_isInKeptRoom_X8_isTenant
theorem dX8_isInKeptRoom_0 : decode cX8_isInKeptRoom 0 = .ok (.aload_n 0, 1) := by decide +kernel
theorem dX8_isInKeptRoom_1 : decode cX8_isInKeptRoom 1 = .ok (.getfield 34, 3) := by decide +kernel
theorem dX8_isInKeptRoom_4 : decode cX8_isInKeptRoom 4 = .ok (.invokevirtual 115, 3) := by decide +kernel
theorem dX8_isInKeptRoom_7 : decode cX8_isInKeptRoom 7 = .ok (.astore_n 2, 1) := by decide +kernel
theorem dX8_isInKeptRoom_8 : decode cX8_isInKeptRoom 8 = .ok (.aload_n 0, 1) := by decide +kernel
theorem dX8_isInKeptRoom_9 : decode cX8_isInKeptRoom 9 = .ok (.iload_n 1, 1) := by decide +kernel
theorem dX8_isInKeptRoom_10 : decode cX8_isInKeptRoom 10 = .ok (.invokevirtual 144, 3) := by decide +kernel
theorem dX8_isInKeptRoom_13 : decode cX8_isInKeptRoom 13 = .ok (.ifCond .eq 20, 3) := by decide +kernel
theorem dX8_isInKeptRoom_33 : decode cX8_isInKeptRoom 33 = .ok (.iconst 0, 1) := by decide +kernel
theorem dX8_isInKeptRoom_34 : decode cX8_isInKeptRoom 34 = .ok (.ireturn, 1) := by decide +kernel
set_option maxRecDepth 20000 in
theorem ggX8_move_X8_isTenant : GoodIn wsX8_move wsX8_isTenant := goodIn_r _ [8, 1, 9, 60, 61, 62, 63, 64, 65, 66, 67, 68, 69, 70, 71, 72, 73, 82, 83, 84, 85, 86, 87, 88, 89, 90, 91, 92] (by decide +kernel) (by decide +kernel)
set_option maxRecDepth 20000 in
theorem gX8_move_X8_isTenant : GoodIn wsX8_move (wsV RX8 144 RX8 yX8_isTenant wsX8_isTenant) := goodIn_app (goodIn_of _ (by decide +kernel)) ggX8_move_X8_isTenant
theorem dX8_move_0 : decode cX8_move 0 = .ok (.aload_n 0, 1) := by decide +kernel
theorem dX8_move_1 : decode cX8_move 1 = .ok (.iload_n 1, 1) := by decide +kernel
theorem dX8_move_2 : decode cX8_move 2 = .ok (.invokevirtual 144, 3) := by decide +kernel
theorem dX8_move_5 : decode cX8_move 5 = .ok (.ifCond .eq 30, 3) := by decide +kernel
theorem dX8_move_35 : decode cX8_move 35 = .ok (.bipush (-2), 2) := by decide +kernel
theorem dX8_move_37 : decode cX8_move 37 = .ok (.ireturn, 1) := by decide +kernel
set_option maxRecDepth 20000 in
theorem ggX8_leave_X8_isHoused : GoodIn wsX8_leave wsX8_isHoused := goodIn_r _ [7, 1, 2, 8, 9, 10, 6, 11, 12, 13, 14, 15, 16, 17, 18, 19, 20, 52, 53, 54, 55, 56, 57, 58, 59, 60, 61, 62, 63, 64, 65, 66, 67, 68, 69, 70, 71, 72, 73, 74, 75, 76, 77, 78, 79, 80, 81, 82, 83, 84, 85, 86, 87, 88] (by decide +kernel) (by decide +kernel)
set_option maxRecDepth 20000 in
theorem gX8_leave_X8_isHoused : GoodIn wsX8_leave (wsV RX8 190 RX8 yX8_isHoused wsX8_isHoused) := goodIn_app (goodIn_of _ (by decide +kernel)) ggX8_leave_X8_isHoused
theorem dX8_leave_0 : decode cX8_leave 0 = .ok (.aload_n 0, 1) := by decide +kernel
theorem dX8_leave_1 : decode cX8_leave 1 = .ok (.iload_n 1, 1) := by decide +kernel
theorem dX8_leave_2 : decode cX8_leave 2 = .ok (.invokevirtual 190, 3) := by decide +kernel
theorem dX8_leave_5 : decode cX8_leave 5 = .ok (.ifCond .ne 5, 3) := by decide +kernel
theorem dX8_leave_8 : decode cX8_leave 8 = .ok (.iconst (-1), 1) := by decide +kernel
theorem dX8_leave_9 : decode cX8_leave 9 = .ok (.ireturn, 1) := by decide +kernel
set_option maxRecDepth 20000 in
theorem ggX8_exchange_X8_isHoused : GoodIn wsX8_exchange wsX8_isHoused := goodIn_r _ [7, 1, 2, 8, 9, 10, 6, 11, 12, 13, 14, 15, 16, 17, 18, 19, 20, 52, 53, 54, 55, 56, 57, 58, 59, 60, 61, 62, 63, 64, 65, 66, 67, 68, 69, 70, 71, 72, 73, 74, 75, 76, 77, 78, 79, 80, 81, 82, 83, 84, 85, 86, 87, 88] (by decide +kernel) (by decide +kernel)
set_option maxRecDepth 20000 in
theorem gX8_exchange_X8_isHoused : GoodIn wsX8_exchange (wsV RX8 190 RX8 yX8_isHoused wsX8_isHoused) := goodIn_app (goodIn_of _ (by decide +kernel)) ggX8_exchange_X8_isHoused
theorem dX8_exchange_0 : decode cX8_exchange 0 = .ok (.iload_n 1, 1) := by decide +kernel
theorem dX8_exchange_1 : decode cX8_exchange 1 = .ok (.iload_n 2, 1) := by decide +kernel
theorem dX8_exchange_2 : decode cX8_exchange 2 = .ok (.if_icmp .eq 19, 3) := by decide +kernel
theorem dX8_exchange_5 : decode cX8_exchange 5 = .ok (.aload_n 0, 1) := by decide +kernel
theorem dX8_exchange_6 : decode cX8_exchange 6 = .ok (.iload_n 1, 1) := by decide +kernel
theorem dX8_exchange_7 : decode cX8_exchange 7 = .ok (.invokevirtual 190, 3) := by decide +kernel
theorem dX8_exchange_10 : decode cX8_exchange 10 = .ok (.ifCond .eq 11, 3) := by decide +kernel
theorem dX8_exchange_21 : decode cX8_exchange 21 = .ok (.iconst (-1), 1) := by decide +kernel
theorem dX8_exchange_22 : decode cX8_exchange 22 = .ok (.ireturn, 1) := by decide +kernel
set_option maxRecDepth 20000 in
theorem ggX8_claim_X8_isRoom : GoodIn wsX8_claim wsX8_isRoom := goodIn_r _ [7, 8, 9, 65, 66, 67, 68, 69, 70, 71, 72, 73, 74, 75, 76, 77, 78, 87, 88, 89, 90, 91, 92, 93, 94, 95, 96, 97] (by decide +kernel) (by decide +kernel)
set_option maxRecDepth 20000 in
theorem gX8_claim_X8_isRoom : GoodIn wsX8_claim (wsV RX8 135 RX8 yX8_isRoom wsX8_isRoom) := goodIn_app (goodIn_of _ (by decide +kernel)) ggX8_claim_X8_isRoom
theorem dX8_claim_0 : decode cX8_claim 0 = .ok (.aload_n 0, 1) := by decide +kernel
theorem dX8_claim_1 : decode cX8_claim 1 = .ok (.iload_n 1, 1) := by decide +kernel
theorem dX8_claim_2 : decode cX8_claim 2 = .ok (.invokevirtual 135, 3) := by decide +kernel
theorem dX8_claim_5 : decode cX8_claim 5 = .ok (.ifCond .eq 25, 3) := by decide +kernel
theorem dX8_claim_30 : decode cX8_claim 30 = .ok (.iconst (-1), 1) := by decide +kernel
theorem dX8_claim_31 : decode cX8_claim 31 = .ok (.ireturn, 1) := by decide +kernel
set_option maxRecDepth 20000 in
theorem ggX8_spend_X8_isTenant : GoodIn wsX8_spend wsX8_isTenant := goodIn_r _ [7, 8, 9, 44, 45, 46, 47, 48, 49, 50, 51, 52, 53, 54, 55, 56, 57, 66, 67, 68, 69, 70, 71, 72, 73, 74, 75, 76] (by decide +kernel) (by decide +kernel)
set_option maxRecDepth 20000 in
theorem gX8_spend_X8_isTenant : GoodIn wsX8_spend (wsV RX8 144 RX8 yX8_isTenant wsX8_isTenant) := goodIn_app (goodIn_of _ (by decide +kernel)) ggX8_spend_X8_isTenant
theorem dX8_spend_0 : decode cX8_spend 0 = .ok (.aload_n 0, 1) := by decide +kernel
theorem dX8_spend_1 : decode cX8_spend 1 = .ok (.iload_n 1, 1) := by decide +kernel
theorem dX8_spend_2 : decode cX8_spend 2 = .ok (.invokevirtual 144, 3) := by decide +kernel
theorem dX8_spend_5 : decode cX8_spend 5 = .ok (.ifCond .eq 13, 3) := by decide +kernel
theorem dX8_spend_18 : decode cX8_spend 18 = .ok (.iconst (-1), 1) := by decide +kernel
theorem dX8_spend_19 : decode cX8_spend 19 = .ok (.ireturn, 1) := by decide +kernel
set_option maxRecDepth 20000 in
theorem ggX8_calm_X8_isTenant : GoodIn wsX8_calm wsX8_isTenant := goodIn_r _ [7, 8, 9, 44, 45, 46, 47, 48, 49, 50, 51, 52, 53, 54, 55, 56, 57, 66, 67, 68, 69, 70, 71, 72, 73, 74, 75, 76] (by decide +kernel) (by decide +kernel)
set_option maxRecDepth 20000 in
theorem gX8_calm_X8_isTenant : GoodIn wsX8_calm (wsV RX8 144 RX8 yX8_isTenant wsX8_isTenant) := goodIn_app (goodIn_of _ (by decide +kernel)) ggX8_calm_X8_isTenant
theorem dX8_calm_0 : decode cX8_calm 0 = .ok (.aload_n 0, 1) := by decide +kernel
theorem dX8_calm_1 : decode cX8_calm 1 = .ok (.iload_n 1, 1) := by decide +kernel
theorem dX8_calm_2 : decode cX8_calm 2 = .ok (.invokevirtual 144, 3) := by decide +kernel
theorem dX8_calm_5 : decode cX8_calm 5 = .ok (.ifCond .eq 13, 3) := by decide +kernel
theorem dX8_calm_18 : decode cX8_calm 18 = .ok (.iconst (-1), 1) := by decide +kernel
theorem dX8_calm_19 : decode cX8_calm 19 = .ok (.ireturn, 1) := by decide +kernel
set_option maxRecDepth 20000 in
theorem ggX8_undo_X0_stepBack : GoodIn wsX8_undo wsX0_stepBack := goodIn_r _ [6, 7, 8, 9, 24, 25, 26, 27] (by decide +kernel) (by decide +kernel)
set_option maxRecDepth 20000 in
theorem gX8_undo_X0_stepBack : GoodIn wsX8_undo (wsV RX8 200 RX0 yX0_stepBack wsX0_stepBack) := goodIn_app (goodIn_of _ (by decide +kernel)) ggX8_undo_X0_stepBack
theorem dX8_undo_0 : decode cX8_undo 0 = .ok (.aload_n 0, 1) := by decide +kernel
theorem dX8_undo_1 : decode cX8_undo 1 = .ok (.getfield 34, 3) := by decide +kernel
theorem dX8_undo_4 : decode cX8_undo 4 = .ok (.invokevirtual 200, 3) := by decide +kernel
theorem dX8_undo_7 : decode cX8_undo 7 = .ok (.ireturn, 1) := by decide +kernel
set_option maxRecDepth 20000 in
theorem ggX8_redo_X0_stepForth : GoodIn wsX8_redo wsX0_stepForth := goodIn_r _ [6, 7, 8, 9, 24, 25, 26, 27] (by decide +kernel) (by decide +kernel)
set_option maxRecDepth 20000 in
theorem gX8_redo_X0_stepForth : GoodIn wsX8_redo (wsV RX8 204 RX0 yX0_stepForth wsX0_stepForth) := goodIn_app (goodIn_of _ (by decide +kernel)) ggX8_redo_X0_stepForth
theorem dX8_redo_0 : decode cX8_redo 0 = .ok (.aload_n 0, 1) := by decide +kernel
theorem dX8_redo_1 : decode cX8_redo 1 = .ok (.getfield 34, 3) := by decide +kernel
theorem dX8_redo_4 : decode cX8_redo 4 = .ok (.invokevirtual 204, 3) := by decide +kernel
theorem dX8_redo_7 : decode cX8_redo 7 = .ok (.ireturn, 1) := by decide +kernel
set_option maxRecDepth 20000 in
theorem ggX8_isHoused_X8_isTenant : GoodIn wsX8_isHoused wsX8_isTenant := goodIn_r _ [7, 8, 9, 17, 18, 19, 20, 21, 22, 23, 24, 25, 26, 27, 28, 29, 30, 39, 40, 41, 42, 43, 44, 45, 46, 47, 48, 49] (by decide +kernel) (by decide +kernel)
set_option maxRecDepth 20000 in
theorem gX8_isHoused_X8_isTenant : GoodIn wsX8_isHoused (wsV RX8 144 RX8 yX8_isTenant wsX8_isTenant) := goodIn_app (goodIn_of _ (by decide +kernel)) ggX8_isHoused_X8_isTenant
theorem dX8_isHoused_0 : decode cX8_isHoused 0 = .ok (.aload_n 0, 1) := by decide +kernel
theorem dX8_isHoused_1 : decode cX8_isHoused 1 = .ok (.iload_n 1, 1) := by decide +kernel
theorem dX8_isHoused_2 : decode cX8_isHoused 2 = .ok (.invokevirtual 144, 3) := by decide +kernel
theorem dX8_isHoused_5 : decode cX8_isHoused 5 = .ok (.ifCond .eq 23, 3) := by decide +kernel
theorem dX8_isHoused_28 : decode cX8_isHoused 28 = .ok (.iconst 0, 1) := by decide +kernel
theorem dX8_isHoused_29 : decode cX8_isHoused 29 = .ok (.ireturn, 1) := by decide +kernel
set_option maxRecDepth 20000 in
theorem ggX8_will_X8_isTenant : GoodIn wsX8_will wsX8_isTenant := goodIn_r _ [9, 2, 10, 123, 124, 125, 126, 127, 128, 129, 130, 131, 132, 133, 134, 135, 136, 145, 146, 147, 148, 149, 150, 151, 152, 153, 154, 155] (by decide +kernel) (by decide +kernel)
set_option maxRecDepth 20000 in
theorem gX8_will_X8_isTenant : GoodIn wsX8_will (wsV RX8 144 RX8 yX8_isTenant wsX8_isTenant) := goodIn_app (goodIn_of _ (by decide +kernel)) ggX8_will_X8_isTenant
theorem dX8_will_0 : decode cX8_will 0 = .ok (.aload_n 0, 1) := by decide +kernel
theorem dX8_will_1 : decode cX8_will 1 = .ok (.iload_n 1, 1) := by decide +kernel
theorem dX8_will_2 : decode cX8_will 2 = .ok (.invokevirtual 144, 3) := by decide +kernel
theorem dX8_will_5 : decode cX8_will 5 = .ok (.ifCond .eq 13, 3) := by decide +kernel
theorem dX8_will_18 : decode cX8_will 18 = .ok (.bipush (-2), 2) := by decide +kernel
theorem dX8_will_20 : decode cX8_will 20 = .ok (.ireturn, 1) := by decide +kernel
set_option maxRecDepth 20000 in
theorem ggX8_lasts_X8_isTenant : GoodIn wsX8_lasts wsX8_isTenant := goodIn_r _ [7, 1, 8, 68, 69, 70, 71, 72, 73, 74, 75, 76, 77, 78, 79, 80, 81, 82, 83, 84, 85, 86, 87, 88, 89, 90, 91, 92] (by decide +kernel) (by decide +kernel)
set_option maxRecDepth 20000 in
theorem gX8_lasts_X8_isTenant : GoodIn wsX8_lasts (wsV RX8 144 RX8 yX8_isTenant wsX8_isTenant) := goodIn_app (goodIn_of _ (by decide +kernel)) ggX8_lasts_X8_isTenant
theorem dX8_lasts_0 : decode cX8_lasts 0 = .ok (.aload_n 0, 1) := by decide +kernel
theorem dX8_lasts_1 : decode cX8_lasts 1 = .ok (.iload_n 1, 1) := by decide +kernel
theorem dX8_lasts_2 : decode cX8_lasts 2 = .ok (.invokevirtual 144, 3) := by decide +kernel
theorem dX8_lasts_5 : decode cX8_lasts 5 = .ok (.ifCond .ne 5, 3) := by decide +kernel
theorem dX8_lasts_8 : decode cX8_lasts 8 = .ok (.iconst (-1), 1) := by decide +kernel
theorem dX8_lasts_9 : decode cX8_lasts 9 = .ok (.ireturn, 1) := by decide +kernel
set_option maxRecDepth 20000 in
theorem ggX8_shaky_X0_current : GoodIn wsX8_shaky wsX0_current := goodIn_r _ [7, 8, 9, 72, 73, 74, 75] (by decide +kernel) (by decide +kernel)
set_option maxRecDepth 20000 in
theorem gX8_shaky_X0_current : GoodIn wsX8_shaky (wsV RX8 115 RX0 yX0_current wsX0_current) := goodIn_app (goodIn_of _ (by decide +kernel)) ggX8_shaky_X0_current
set_option maxRecDepth 20000 in
theorem ggX8_shaky_X4_thrownOut : GoodIn wsX8_shaky wsX4_thrownOut := goodIn_r _ [14, 15, 16, 17, 18, 19, 20, 21, 22, 23, 24, 25, 13, 26, 27, 28, 29, 30, 31, 32, 33, 34, 35, 36, 37, 38, 39, 40, 41, 42, 43, 44, 45, 46, 47, 48, 49, 50, 51, 52, 53, 54, 55, 56, 57, 76, 77, 78, 79, 80, 81, 82, 83, 84, 85, 86, 87, 88, 89, 90, 91, 92, 93, 94, 95, 96, 97] (by decide +kernel) (by decide +kernel)
set_option maxRecDepth 20000 in
theorem gX8_shaky_X4_thrownOut : GoodIn wsX8_shaky (wsV RX8 213 RX4 yX4_thrownOut wsX4_thrownOut) := goodIn_app (goodIn_of _ (by decide +kernel)) ggX8_shaky_X4_thrownOut
theorem dX8_shaky_0 : decode cX8_shaky 0 = .ok (.aload_n 0, 1) := by decide +kernel
theorem dX8_shaky_1 : decode cX8_shaky 1 = .ok (.getfield 27, 3) := by decide +kernel
theorem dX8_shaky_4 : decode cX8_shaky 4 = .ok (.aload_n 0, 1) := by decide +kernel
theorem dX8_shaky_5 : decode cX8_shaky 5 = .ok (.getfield 34, 3) := by decide +kernel
theorem dX8_shaky_8 : decode cX8_shaky 8 = .ok (.invokevirtual 115, 3) := by decide +kernel
theorem dX8_shaky_11 : decode cX8_shaky 11 = .ok (.invokevirtual 213, 3) := by decide +kernel
theorem dX8_shaky_14 : decode cX8_shaky 14 = .ok (.ireturn, 1) := by decide +kernel
set_option maxRecDepth 20000 in
theorem ggX8_housed_X0_current : GoodIn wsX8_housed wsX0_current := goodIn_r _ [8, 9, 10, 93, 94, 95, 96] (by decide +kernel) (by decide +kernel)
set_option maxRecDepth 20000 in
theorem gX8_housed_X0_current : GoodIn wsX8_housed (wsV RX8 115 RX0 yX0_current wsX0_current) := goodIn_app (goodIn_of _ (by decide +kernel)) ggX8_housed_X0_current
set_option maxRecDepth 20000 in
theorem ggX8_housed_X8_outCount : GoodIn wsX8_housed wsX8_outCount := goodIn_r _ [15, 1, 2, 16, 17, 18, 19, 20, 21, 22, 23, 24, 25, 26, 27, 28, 29, 30, 31, 32, 33, 34, 35, 36, 37, 38, 39, 40, 41, 42, 43, 44, 45, 46, 47, 48, 49, 50, 51, 52, 53, 54, 55, 56, 57, 58, 59, 60, 61, 62, 63, 64, 65, 66, 67, 68, 69, 70, 71, 72, 73, 74, 75, 76, 77, 78, 79, 80, 81, 82, 83, 84, 85, 86, 87, 88, 89, 90, 91, 92, 97, 98, 99, 100, 101, 102, 103, 104, 105, 106, 107] (by decide +kernel) (by decide +kernel)
set_option maxRecDepth 20000 in
theorem gX8_housed_X8_outCount : GoodIn wsX8_housed (wsV RX8 216 RX8 yX8_outCount wsX8_outCount) := goodIn_app (goodIn_of _ (by decide +kernel)) ggX8_housed_X8_outCount
theorem dX8_housed_0 : decode cX8_housed 0 = .ok (.iload_n 1, 1) := by decide +kernel
theorem dX8_housed_1 : decode cX8_housed 1 = .ok (.ifCond .lt 9, 3) := by decide +kernel
theorem dX8_housed_4 : decode cX8_housed 4 = .ok (.iload_n 1, 1) := by decide +kernel
theorem dX8_housed_5 : decode cX8_housed 5 = .ok (.bipush 60, 2) := by decide +kernel
theorem dX8_housed_7 : decode cX8_housed 7 = .ok (.if_icmp .le 5, 3) := by decide +kernel
theorem dX8_housed_10 : decode cX8_housed 10 = .ok (.iconst (-1), 1) := by decide +kernel
theorem dX8_housed_11 : decode cX8_housed 11 = .ok (.ireturn, 1) := by decide +kernel
theorem dX8_housed_12 : decode cX8_housed 12 = .ok (.aload_n 0, 1) := by decide +kernel
theorem dX8_housed_13 : decode cX8_housed 13 = .ok (.getfield 27, 3) := by decide +kernel
theorem dX8_housed_16 : decode cX8_housed 16 = .ok (.getfield 102, 3) := by decide +kernel
theorem dX8_housed_19 : decode cX8_housed 19 = .ok (.aload_n 0, 1) := by decide +kernel
theorem dX8_housed_20 : decode cX8_housed 20 = .ok (.aload_n 0, 1) := by decide +kernel
theorem dX8_housed_21 : decode cX8_housed 21 = .ok (.getfield 34, 3) := by decide +kernel
theorem dX8_housed_24 : decode cX8_housed 24 = .ok (.invokevirtual 115, 3) := by decide +kernel
theorem dX8_housed_27 : decode cX8_housed 27 = .ok (.iload_n 1, 1) := by decide +kernel
theorem dX8_housed_28 : decode cX8_housed 28 = .ok (.invokevirtual 216, 3) := by decide +kernel
theorem dX8_housed_31 : decode cX8_housed 31 = .ok (.isub, 1) := by decide +kernel
theorem dX8_housed_32 : decode cX8_housed 32 = .ok (.ireturn, 1) := by decide +kernel
set_option maxRecDepth 20000 in
theorem ggX8_law_X0_current : GoodIn wsX8_law wsX0_current := goodIn_r _ [7, 8, 9, 79, 80, 81, 82] (by decide +kernel) (by decide +kernel)
set_option maxRecDepth 20000 in
theorem gX8_law_X0_current : GoodIn wsX8_law (wsV RX8 115 RX0 yX0_current wsX0_current) := goodIn_app (goodIn_of _ (by decide +kernel)) ggX8_law_X0_current
set_option maxRecDepth 20000 in
theorem ggX8_law_X4_thrownOutAt : GoodIn wsX8_law wsX4_thrownOutAt := goodIn_r _ [14, 15, 16, 17, 18, 19, 13, 20, 21, 22, 23, 24, 25, 26, 27, 28, 29, 30, 31, 32, 33, 34, 35, 36, 37, 38, 39, 40, 41, 42, 43, 44, 45, 46, 47, 48, 49, 50, 51, 52, 53, 54, 55, 56, 57, 83, 84, 85, 86, 87, 88, 89, 90, 91, 92, 93, 94, 95, 96, 97, 98, 99, 100, 101, 102, 103, 104] (by decide +kernel) (by decide +kernel)
set_option maxRecDepth 20000 in
theorem gX8_law_X4_thrownOutAt : GoodIn wsX8_law (wsV RX8 219 RX4 yX4_thrownOutAt wsX4_thrownOutAt) := goodIn_app (goodIn_of _ (by decide +kernel)) ggX8_law_X4_thrownOutAt
set_option maxRecDepth 20000 in
theorem ggX8_law_J6_bitCount_0f7a4 : GoodIn wsX8_law wsJ6_bitCount_0f7a4 := goodIn_r _ [61, 62, 63, 64] (by decide +kernel) (by decide +kernel)
set_option maxRecDepth 20000 in
theorem gX8_law_J6_bitCount_0f7a4 : GoodIn wsX8_law (va_wsS RX8 222 yJ6_bitCount_0f7a4 wsJ6_bitCount_0f7a4) := goodIn_app (goodIn_of _ (by decide +kernel)) ggX8_law_J6_bitCount_0f7a4
theorem dX8_law_0 : decode cX8_law 0 = .ok (.iload_n 1, 1) := by decide +kernel
theorem dX8_law_1 : decode cX8_law 1 = .ok (.ifCond .lt 9, 3) := by decide +kernel
theorem dX8_law_4 : decode cX8_law 4 = .ok (.iload_n 1, 1) := by decide +kernel
theorem dX8_law_5 : decode cX8_law 5 = .ok (.bipush 99, 2) := by decide +kernel
theorem dX8_law_7 : decode cX8_law 7 = .ok (.if_icmp .le 5, 3) := by decide +kernel
theorem dX8_law_10 : decode cX8_law 10 = .ok (.iconst (-1), 1) := by decide +kernel
theorem dX8_law_11 : decode cX8_law 11 = .ok (.ireturn, 1) := by decide +kernel
theorem dX8_law_12 : decode cX8_law 12 = .ok (.aload_n 0, 1) := by decide +kernel
theorem dX8_law_13 : decode cX8_law 13 = .ok (.getfield 27, 3) := by decide +kernel
theorem dX8_law_16 : decode cX8_law 16 = .ok (.aload_n 0, 1) := by decide +kernel
theorem dX8_law_17 : decode cX8_law 17 = .ok (.getfield 34, 3) := by decide +kernel
theorem dX8_law_20 : decode cX8_law 20 = .ok (.invokevirtual 115, 3) := by decide +kernel
theorem dX8_law_23 : decode cX8_law 23 = .ok (.iload_n 1, 1) := by decide +kernel
theorem dX8_law_24 : decode cX8_law 24 = .ok (.invokevirtual 219, 3) := by decide +kernel
theorem dX8_law_27 : decode cX8_law 27 = .ok (.invokestatic 222, 3) := by decide +kernel
theorem dX8_law_30 : decode cX8_law 30 = .ok (.ireturn, 1) := by decide +kernel
set_option maxRecDepth 20000 in
theorem ggX8_grief_X8_isLivingCat : GoodIn wsX8_grief wsX8_isLivingCat := goodIn_r _ [8, 1, 9, 10, 11, 7, 12, 3, 13, 14, 15, 16, 17, 18, 19, 20, 21, 22, 23, 24, 25, 26, 109, 110, 111, 112, 113, 114, 115, 116, 117, 118, 119, 120, 121, 122, 123, 124, 125, 126, 127, 128, 129, 130, 131, 132, 133, 134, 135, 136, 137, 138, 139, 140, 141, 142, 143, 144, 145] (by decide +kernel) (by decide +kernel)
set_option maxRecDepth 20000 in
theorem gX8_grief_X8_isLivingCat : GoodIn wsX8_grief (wsV RX8 193 RX8 yX8_isLivingCat wsX8_isLivingCat) := goodIn_app (goodIn_of _ (by decide +kernel)) ggX8_grief_X8_isLivingCat
theorem dX8_grief_0 : decode cX8_grief 0 = .ok (.aload_n 0, 1) := by decide +kernel
theorem dX8_grief_1 : decode cX8_grief 1 = .ok (.iload_n 1, 1) := by decide +kernel
theorem dX8_grief_2 : decode cX8_grief 2 = .ok (.invokevirtual 193, 3) := by decide +kernel
theorem dX8_grief_5 : decode cX8_grief 5 = .ok (.ifCond .eq 13, 3) := by decide +kernel
theorem dX8_grief_18 : decode cX8_grief 18 = .ok (.sipush (-1000), 3) := by decide +kernel
theorem dX8_grief_21 : decode cX8_grief 21 = .ok (.ireturn, 1) := by decide +kernel
set_option maxRecDepth 20000 in
theorem ggX8_haven_X8_isTenant : GoodIn wsX8_haven wsX8_isTenant := goodIn_r _ [7, 1, 8, 98, 99, 100, 101, 102, 103, 104, 105, 106, 107, 108, 109, 110, 111, 112, 113, 114, 115, 116, 117, 118, 119, 120, 121, 122] (by decide +kernel) (by decide +kernel)
set_option maxRecDepth 20000 in
theorem gX8_haven_X8_isTenant : GoodIn wsX8_haven (wsV RX8 144 RX8 yX8_isTenant wsX8_isTenant) := goodIn_app (goodIn_of _ (by decide +kernel)) ggX8_haven_X8_isTenant
theorem dX8_haven_0 : decode cX8_haven 0 = .ok (.aload_n 0, 1) := by decide +kernel
theorem dX8_haven_1 : decode cX8_haven 1 = .ok (.iload_n 1, 1) := by decide +kernel
theorem dX8_haven_2 : decode cX8_haven 2 = .ok (.invokevirtual 144, 3) := by decide +kernel
theorem dX8_haven_5 : decode cX8_haven 5 = .ok (.ifCond .eq 12, 3) := by decide +kernel
theorem dX8_haven_17 : decode cX8_haven 17 = .ok (.iconst (-1), 1) := by decide +kernel
theorem dX8_haven_18 : decode cX8_haven 18 = .ok (.ireturn, 1) := by decide +kernel
set_option maxRecDepth 20000 in
theorem ggX8_odds_X8_isLivingCat : GoodIn wsX8_odds wsX8_isLivingCat := goodIn_r _ [11, 12, 13, 14, 15, 10, 16, 1, 17, 18, 19, 20, 21, 22, 23, 24, 25, 26, 27, 28, 29, 30, 34, 35, 36, 37, 38, 39, 40, 41, 42, 43, 44, 45, 46, 47, 48, 49, 50, 51, 52, 53, 54, 55, 56, 57, 58, 59, 60, 61, 62, 63, 64, 65, 66, 67, 68, 69, 70] (by decide +kernel) (by decide +kernel)
set_option maxRecDepth 20000 in
theorem gX8_odds_X8_isLivingCat : GoodIn wsX8_odds (wsV RX8 193 RX8 yX8_isLivingCat wsX8_isLivingCat) := goodIn_app (goodIn_of _ (by decide +kernel)) ggX8_odds_X8_isLivingCat
theorem dX8_odds_0 : decode cX8_odds 0 = .ok (.aload_n 0, 1) := by decide +kernel
theorem dX8_odds_1 : decode cX8_odds 1 = .ok (.iload_n 1, 1) := by decide +kernel
theorem dX8_odds_2 : decode cX8_odds 2 = .ok (.invokevirtual 193, 3) := by decide +kernel
theorem dX8_odds_5 : decode cX8_odds 5 = .ok (.ifCond .eq 21, 3) := by decide +kernel
theorem dX8_odds_26 : decode cX8_odds 26 = .ok (.iconst (-1), 1) := by decide +kernel
theorem dX8_odds_27 : decode cX8_odds 27 = .ok (.ireturn, 1) := by decide +kernel
theorem dX8_outCount_0 : decode cX8_outCount 0 = .ok (.iconst 0, 1) := by decide +kernel
theorem dX8_outCount_1 : decode cX8_outCount 1 = .ok (.istore_n 3, 1) := by decide +kernel
theorem dX8_outCount_2 : decode cX8_outCount 2 = .ok (.iconst 0, 1) := by decide +kernel
theorem dX8_outCount_3 : decode cX8_outCount 3 = .ok (.istore 4, 2) := by decide +kernel
theorem dX8_outCount_5 : decode cX8_outCount 5 = .ok (.iload 4, 2) := by decide +kernel
theorem dX8_outCount_7 : decode cX8_outCount 7 = .ok (.aload_n 0, 1) := by decide +kernel
theorem dX8_outCount_8 : decode cX8_outCount 8 = .ok (.getfield 27, 3) := by decide +kernel
theorem dX8_outCount_11 : decode cX8_outCount 11 = .ok (.getfield 102, 3) := by decide +kernel
theorem dX8_outCount_14 : decode cX8_outCount 14 = .ok (.if_icmp .ge 27, 3) := by decide +kernel
theorem dX8_outCount_41 : decode cX8_outCount 41 = .ok (.iload_n 3, 1) := by decide +kernel
theorem dX8_outCount_42 : decode cX8_outCount 42 = .ok (.ireturn, 1) := by decide +kernel
theorem dX8_swaps_0 : decode cX8_swaps 0 = .ok (.iload_n 1, 1) := by decide +kernel
theorem dX8_swaps_1 : decode cX8_swaps 1 = .ok (.ifCond .lt 8, 3) := by decide +kernel
theorem dX8_swaps_4 : decode cX8_swaps 4 = .ok (.iload_n 1, 1) := by decide +kernel
theorem dX8_swaps_5 : decode cX8_swaps 5 = .ok (.iconst 2, 1) := by decide +kernel
theorem dX8_swaps_6 : decode cX8_swaps 6 = .ok (.if_icmp .le 5, 3) := by decide +kernel
theorem dX8_swaps_9 : decode cX8_swaps 9 = .ok (.iconst (-1), 1) := by decide +kernel
theorem dX8_swaps_10 : decode cX8_swaps 10 = .ok (.ireturn, 1) := by decide +kernel
theorem dX8_swaps_11 : decode cX8_swaps 11 = .ok (.iconst 0, 1) := by decide +kernel
theorem dX8_swaps_12 : decode cX8_swaps 12 = .ok (.istore_n 2, 1) := by decide +kernel
theorem dX8_swaps_13 : decode cX8_swaps 13 = .ok (.iconst 0, 1) := by decide +kernel
theorem dX8_swaps_14 : decode cX8_swaps 14 = .ok (.istore_n 3, 1) := by decide +kernel
theorem dX8_swaps_15 : decode cX8_swaps 15 = .ok (.iload_n 3, 1) := by decide +kernel
theorem dX8_swaps_16 : decode cX8_swaps 16 = .ok (.aload_n 0, 1) := by decide +kernel
theorem dX8_swaps_17 : decode cX8_swaps 17 = .ok (.getfield 27, 3) := by decide +kernel
theorem dX8_swaps_20 : decode cX8_swaps 20 = .ok (.getfield 102, 3) := by decide +kernel
theorem dX8_swaps_23 : decode cX8_swaps 23 = .ok (.if_icmp .ge 61, 3) := by decide +kernel
theorem dX8_swaps_84 : decode cX8_swaps 84 = .ok (.iload_n 1, 1) := by decide +kernel
theorem dX8_swaps_85 : decode cX8_swaps 85 = .ok (.ifCond .ne 7, 3) := by decide +kernel
theorem dX8_swaps_88 : decode cX8_swaps 88 = .ok (.iload_n 2, 1) := by decide +kernel
theorem dX8_swaps_89 : decode cX8_swaps 89 = .ok (.goto 4, 3) := by decide +kernel
theorem dX8_swaps_92 : decode cX8_swaps 92 = .ok (.iconst (-1), 1) := by decide +kernel
theorem dX8_swaps_93 : decode cX8_swaps 93 = .ok (.ireturn, 1) := by decide +kernel
set_option maxRecDepth 20000 in
theorem ggX8_pay_X8_isInKeptRoom : GoodIn wsX8_pay wsX8_isInKeptRoom := goodIn_r _ [8, 1, 3, 9, 10, 11, 12, 13, 14, 15, 16, 17, 18, 7, 19, 2, 20, 21, 22, 23, 24, 25, 26, 66, 67, 68, 69, 70, 71, 72, 73, 74, 75, 76, 77, 78, 79, 80, 81, 82, 83, 84, 85, 86, 87, 88, 89, 90, 91, 92, 93, 94, 95, 96, 97, 98, 99, 100, 101, 102] (by decide +kernel) (by decide +kernel)
set_option maxRecDepth 20000 in
theorem gX8_pay_X8_isInKeptRoom : GoodIn wsX8_pay (wsV RX8 268 RX8 yX8_isInKeptRoom wsX8_isInKeptRoom) := goodIn_app (goodIn_of _ (by decide +kernel)) ggX8_pay_X8_isInKeptRoom
theorem dX8_pay_0 : decode cX8_pay 0 = .ok (.aload_n 0, 1) := by decide +kernel
theorem dX8_pay_1 : decode cX8_pay 1 = .ok (.iload_n 1, 1) := by decide +kernel
theorem dX8_pay_2 : decode cX8_pay 2 = .ok (.invokevirtual 268, 3) := by decide +kernel
theorem dX8_pay_5 : decode cX8_pay 5 = .ok (.ifCond .ne 5, 3) := by decide +kernel
theorem dX8_pay_8 : decode cX8_pay 8 = .ok (.iconst (-1), 1) := by decide +kernel
theorem dX8_pay_9 : decode cX8_pay 9 = .ok (.ireturn, 1) := by decide +kernel
set_option maxRecDepth 20000 in
theorem ggX8_borne_X8_isInKeptRoom : GoodIn wsX8_borne wsX8_isInKeptRoom := goodIn_r _ [8, 1, 3, 9, 10, 11, 12, 13, 14, 15, 16, 17, 18, 7, 19, 2, 20, 21, 22, 23, 24, 25, 26, 66, 67, 68, 69, 70, 71, 72, 73, 74, 75, 76, 77, 78, 79, 80, 81, 82, 83, 84, 85, 86, 87, 88, 89, 90, 91, 92, 93, 94, 95, 96, 97, 98, 99, 100, 101, 102] (by decide +kernel) (by decide +kernel)
set_option maxRecDepth 20000 in
theorem gX8_borne_X8_isInKeptRoom : GoodIn wsX8_borne (wsV RX8 268 RX8 yX8_isInKeptRoom wsX8_isInKeptRoom) := goodIn_app (goodIn_of _ (by decide +kernel)) ggX8_borne_X8_isInKeptRoom
theorem dX8_borne_0 : decode cX8_borne 0 = .ok (.aload_n 0, 1) := by decide +kernel
theorem dX8_borne_1 : decode cX8_borne 1 = .ok (.iload_n 1, 1) := by decide +kernel
theorem dX8_borne_2 : decode cX8_borne 2 = .ok (.invokevirtual 268, 3) := by decide +kernel
theorem dX8_borne_5 : decode cX8_borne 5 = .ok (.ifCond .ne 5, 3) := by decide +kernel
theorem dX8_borne_8 : decode cX8_borne 8 = .ok (.iconst (-1), 1) := by decide +kernel
theorem dX8_borne_9 : decode cX8_borne 9 = .ok (.ireturn, 1) := by decide +kernel
set_option maxRecDepth 20000 in
theorem ggX8_bid_X8_isOut : GoodIn wsX8_bid wsX8_isOut := goodIn_r _ [12, 2, 13, 14, 15, 16, 11, 17, 3, 18, 19, 20, 21, 22, 23, 24, 25, 118, 119, 120, 121, 122, 123, 124, 125, 126, 127, 128, 129, 130, 131, 138, 139, 140, 141, 142, 143, 144, 145, 146, 147, 148, 149, 150, 151, 152, 153, 154, 155, 156, 157, 158, 159, 160] (by decide +kernel) (by decide +kernel)
set_option maxRecDepth 20000 in
theorem gX8_bid_X8_isOut : GoodIn wsX8_bid (wsV RX8 280 RX8 yX8_isOut wsX8_isOut) := goodIn_app (goodIn_of _ (by decide +kernel)) ggX8_bid_X8_isOut
theorem dX8_bid_0 : decode cX8_bid 0 = .ok (.aload_n 0, 1) := by decide +kernel
theorem dX8_bid_1 : decode cX8_bid 1 = .ok (.iconst 0, 1) := by decide +kernel
theorem dX8_bid_2 : decode cX8_bid 2 = .ok (.putfield 70, 3) := by decide +kernel
theorem dX8_bid_5 : decode cX8_bid 5 = .ok (.iload_n 1, 1) := by decide +kernel
theorem dX8_bid_6 : decode cX8_bid 6 = .ok (.iload_n 2, 1) := by decide +kernel
theorem dX8_bid_7 : decode cX8_bid 7 = .ok (.if_icmp .eq 27, 3) := by decide +kernel
theorem dX8_bid_10 : decode cX8_bid 10 = .ok (.aload_n 0, 1) := by decide +kernel
theorem dX8_bid_11 : decode cX8_bid 11 = .ok (.iload_n 1, 1) := by decide +kernel
theorem dX8_bid_12 : decode cX8_bid 12 = .ok (.invokevirtual 280, 3) := by decide +kernel
theorem dX8_bid_15 : decode cX8_bid 15 = .ok (.ifCond .eq 19, 3) := by decide +kernel
theorem dX8_bid_34 : decode cX8_bid 34 = .ok (.iconst (-1), 1) := by decide +kernel
theorem dX8_bid_35 : decode cX8_bid 35 = .ok (.ireturn, 1) := by decide +kernel
theorem dX8_lies_0 : decode cX8_lies 0 = .ok (.iload_n 1, 1) := by decide +kernel
theorem dX8_lies_1 : decode cX8_lies 1 = .ok (.ifCond .lt 20, 3) := by decide +kernel
theorem dX8_lies_4 : decode cX8_lies 4 = .ok (.iload_n 1, 1) := by decide +kernel
theorem dX8_lies_5 : decode cX8_lies 5 = .ok (.aload_n 0, 1) := by decide +kernel
theorem dX8_lies_6 : decode cX8_lies 6 = .ok (.getfield 70, 3) := by decide +kernel
theorem dX8_lies_9 : decode cX8_lies 9 = .ok (.if_icmp .ge 12, 3) := by decide +kernel
theorem dX8_lies_21 : decode cX8_lies 21 = .ok (.bipush (-2), 2) := by decide +kernel
theorem dX8_lies_23 : decode cX8_lies 23 = .ok (.ireturn, 1) := by decide +kernel
set_option maxRecDepth 20000 in
theorem ggX8_isOut_X8_isTenant : GoodIn wsX8_isOut wsX8_isTenant := goodIn_r _ [7, 8, 9, 17, 18, 19, 20, 21, 22, 23, 24, 25, 26, 27, 28, 29, 30, 39, 40, 41, 42, 43, 44, 45, 46, 47, 48, 49] (by decide +kernel) (by decide +kernel)
set_option maxRecDepth 20000 in
theorem gX8_isOut_X8_isTenant : GoodIn wsX8_isOut (wsV RX8 144 RX8 yX8_isTenant wsX8_isTenant) := goodIn_app (goodIn_of _ (by decide +kernel)) ggX8_isOut_X8_isTenant
theorem dX8_isOut_0 : decode cX8_isOut 0 = .ok (.aload_n 0, 1) := by decide +kernel
theorem dX8_isOut_1 : decode cX8_isOut 1 = .ok (.iload_n 1, 1) := by decide +kernel
theorem dX8_isOut_2 : decode cX8_isOut 2 = .ok (.invokevirtual 144, 3) := by decide +kernel
theorem dX8_isOut_5 : decode cX8_isOut 5 = .ok (.ifCond .eq 23, 3) := by decide +kernel
theorem dX8_isOut_28 : decode cX8_isOut 28 = .ok (.iconst 0, 1) := by decide +kernel
theorem dX8_isOut_29 : decode cX8_isOut 29 = .ok (.ireturn, 1) := by decide +kernel
set_option maxRecDepth 20000 in
theorem ggX8_keeper_X8_isRoom : GoodIn wsX8_keeper wsX8_isRoom := goodIn_r _ [9, 2, 10, 30, 31, 32, 33, 34, 35, 36, 37, 38, 39, 40, 41, 42, 43, 52, 53, 54, 55, 56, 57, 58, 59, 60, 61, 62] (by decide +kernel) (by decide +kernel)
set_option maxRecDepth 20000 in
theorem gX8_keeper_X8_isRoom : GoodIn wsX8_keeper (wsV RX8 135 RX8 yX8_isRoom wsX8_isRoom) := goodIn_app (goodIn_of _ (by decide +kernel)) ggX8_keeper_X8_isRoom
theorem dX8_keeper_0 : decode cX8_keeper 0 = .ok (.aload_n 0, 1) := by decide +kernel
theorem dX8_keeper_1 : decode cX8_keeper 1 = .ok (.iload_n 1, 1) := by decide +kernel
theorem dX8_keeper_2 : decode cX8_keeper 2 = .ok (.invokevirtual 135, 3) := by decide +kernel
theorem dX8_keeper_5 : decode cX8_keeper 5 = .ok (.ifCond .eq 11, 3) := by decide +kernel
theorem dX8_keeper_16 : decode cX8_keeper 16 = .ok (.bipush (-2), 2) := by decide +kernel
theorem dX8_keeper_18 : decode cX8_keeper 18 = .ok (.ireturn, 1) := by decide +kernel
set_option maxRecDepth 20000 in
theorem ggX8_probate_X8_areCats : GoodIn wsX8_probate wsX8_areCats := goodIn_r _ [10, 2, 11, 26, 27, 28, 29, 30, 31, 32, 33, 34, 35, 36, 37, 38, 39, 40, 41, 42, 43, 44, 45, 46, 47, 48, 49, 50] (by decide +kernel) (by decide +kernel)
set_option maxRecDepth 20000 in
theorem gX8_probate_X8_areCats : GoodIn wsX8_probate (wsV RX8 296 RX8 yX8_areCats wsX8_areCats) := goodIn_app (goodIn_of _ (by decide +kernel)) ggX8_probate_X8_areCats
set_option maxRecDepth 20000 in
theorem ggX8_probate_X0_current : GoodIn wsX8_probate wsX0_current := goodIn_r _ [16, 17, 18, 59, 60, 61, 62] (by decide +kernel) (by decide +kernel)
set_option maxRecDepth 20000 in
theorem gX8_probate_X0_current : GoodIn wsX8_probate (wsV RX8 115 RX0 yX0_current wsX0_current) := goodIn_app (goodIn_of _ (by decide +kernel)) ggX8_probate_X0_current
theorem dX8_probate_0 : decode cX8_probate 0 = .ok (.aload_n 0, 1) := by decide +kernel
theorem dX8_probate_1 : decode cX8_probate 1 = .ok (.iload_n 1, 1) := by decide +kernel
theorem dX8_probate_2 : decode cX8_probate 2 = .ok (.invokevirtual 296, 3) := by decide +kernel
theorem dX8_probate_5 : decode cX8_probate 5 = .ok (.ifCond .ne 5, 3) := by decide +kernel
theorem dX8_probate_8 : decode cX8_probate 8 = .ok (.iconst (-1), 1) := by decide +kernel
theorem dX8_probate_9 : decode cX8_probate 9 = .ok (.ireturn, 1) := by decide +kernel
theorem dX8_probate_10 : decode cX8_probate 10 = .ok (.aload_n 0, 1) := by decide +kernel
theorem dX8_probate_11 : decode cX8_probate 11 = .ok (.getfield 34, 3) := by decide +kernel
theorem dX8_probate_14 : decode cX8_probate 14 = .ok (.invokevirtual 115, 3) := by decide +kernel
theorem dX8_probate_17 : decode cX8_probate 17 = .ok (.astore_n 2, 1) := by decide +kernel
theorem dX8_probate_18 : decode cX8_probate 18 = .ok (.iconst 0, 1) := by decide +kernel
theorem dX8_probate_19 : decode cX8_probate 19 = .ok (.istore_n 3, 1) := by decide +kernel
theorem dX8_probate_20 : decode cX8_probate 20 = .ok (.iconst 0, 1) := by decide +kernel
theorem dX8_probate_21 : decode cX8_probate 21 = .ok (.istore 4, 2) := by decide +kernel
theorem dX8_probate_23 : decode cX8_probate 23 = .ok (.iload 4, 2) := by decide +kernel
theorem dX8_probate_25 : decode cX8_probate 25 = .ok (.aload_n 0, 1) := by decide +kernel
theorem dX8_probate_26 : decode cX8_probate 26 = .ok (.getfield 27, 3) := by decide +kernel
theorem dX8_probate_29 : decode cX8_probate 29 = .ok (.getfield 173, 3) := by decide +kernel
theorem dX8_probate_32 : decode cX8_probate 32 = .ok (.if_icmp .ge 38, 3) := by decide +kernel
theorem dX8_probate_70 : decode cX8_probate 70 = .ok (.iload_n 3, 1) := by decide +kernel
theorem dX8_probate_71 : decode cX8_probate 71 = .ok (.ireturn, 1) := by decide +kernel
set_option maxRecDepth 20000 in
theorem ggX8_crowd_X8_isLivingCat : GoodIn wsX8_crowd wsX8_isLivingCat := goodIn_r _ [5, 6, 7, 8, 9, 4, 10, 11, 12, 13, 14, 15, 16, 17, 18, 19, 20, 21, 22, 23, 24, 25, 79, 80, 81, 82, 83, 84, 85, 86, 87, 88, 89, 90, 91, 92, 93, 94, 95, 96, 97, 98, 99, 100, 101, 102, 103, 104, 105, 106, 107, 108, 109, 110, 111, 112, 113, 114, 115] (by decide +kernel) (by decide +kernel)
set_option maxRecDepth 20000 in
theorem gX8_crowd_X8_isLivingCat : GoodIn wsX8_crowd (wsV RX8 193 RX8 yX8_isLivingCat wsX8_isLivingCat) := goodIn_app (goodIn_of _ (by decide +kernel)) ggX8_crowd_X8_isLivingCat
theorem dX8_crowd_0 : decode cX8_crowd 0 = .ok (.aload_n 0, 1) := by decide +kernel
theorem dX8_crowd_1 : decode cX8_crowd 1 = .ok (.iload_n 1, 1) := by decide +kernel
theorem dX8_crowd_2 : decode cX8_crowd 2 = .ok (.invokevirtual 193, 3) := by decide +kernel
theorem dX8_crowd_5 : decode cX8_crowd 5 = .ok (.ifCond .ne 5, 3) := by decide +kernel
theorem dX8_crowd_8 : decode cX8_crowd 8 = .ok (.iconst (-1), 1) := by decide +kernel
theorem dX8_crowd_9 : decode cX8_crowd 9 = .ok (.ireturn, 1) := by decide +kernel
set_option maxRecDepth 20000 in
theorem ggX8_fondest_X0_current : GoodIn wsX8_fondest wsX0_current := goodIn_r _ [8, 9, 10, 98, 99, 100, 101] (by decide +kernel) (by decide +kernel)
set_option maxRecDepth 20000 in
theorem gX8_fondest_X0_current : GoodIn wsX8_fondest (wsV RX8 115 RX0 yX0_current wsX0_current) := goodIn_app (goodIn_of _ (by decide +kernel)) ggX8_fondest_X0_current
theorem dX8_fondest_0 : decode cX8_fondest 0 = .ok (.aload_n 0, 1) := by decide +kernel
theorem dX8_fondest_1 : decode cX8_fondest 1 = .ok (.getfield 34, 3) := by decide +kernel
theorem dX8_fondest_4 : decode cX8_fondest 4 = .ok (.invokevirtual 115, 3) := by decide +kernel
theorem dX8_fondest_7 : decode cX8_fondest 7 = .ok (.astore_n 1, 1) := by decide +kernel
theorem dX8_fondest_8 : decode cX8_fondest 8 = .ok (.iconst (-1), 1) := by decide +kernel
theorem dX8_fondest_9 : decode cX8_fondest 9 = .ok (.istore_n 2, 1) := by decide +kernel
theorem dX8_fondest_10 : decode cX8_fondest 10 = .ok (.iconst 0, 1) := by decide +kernel
theorem dX8_fondest_11 : decode cX8_fondest 11 = .ok (.istore_n 3, 1) := by decide +kernel
theorem dX8_fondest_12 : decode cX8_fondest 12 = .ok (.iconst 0, 1) := by decide +kernel
theorem dX8_fondest_13 : decode cX8_fondest 13 = .ok (.istore 4, 2) := by decide +kernel
theorem dX8_fondest_15 : decode cX8_fondest 15 = .ok (.iload 4, 2) := by decide +kernel
theorem dX8_fondest_17 : decode cX8_fondest 17 = .ok (.aload_n 0, 1) := by decide +kernel
theorem dX8_fondest_18 : decode cX8_fondest 18 = .ok (.getfield 27, 3) := by decide +kernel
theorem dX8_fondest_21 : decode cX8_fondest 21 = .ok (.getfield 170, 3) := by decide +kernel
theorem dX8_fondest_24 : decode cX8_fondest 24 = .ok (.if_icmp .ge 51, 3) := by decide +kernel
theorem dX8_fondest_75 : decode cX8_fondest 75 = .ok (.iload_n 2, 1) := by decide +kernel
theorem dX8_fondest_76 : decode cX8_fondest 76 = .ok (.ireturn, 1) := by decide +kernel
theorem dX8_nobodys_0 : decode cX8_nobodys 0 = .ok (.iconst 0, 1) := by decide +kernel
theorem dX8_nobodys_1 : decode cX8_nobodys 1 = .ok (.istore_n 1, 1) := by decide +kernel
theorem dX8_nobodys_2 : decode cX8_nobodys 2 = .ok (.iconst 0, 1) := by decide +kernel
theorem dX8_nobodys_3 : decode cX8_nobodys 3 = .ok (.istore_n 2, 1) := by decide +kernel
theorem dX8_nobodys_4 : decode cX8_nobodys 4 = .ok (.iload_n 2, 1) := by decide +kernel
theorem dX8_nobodys_5 : decode cX8_nobodys 5 = .ok (.aload_n 0, 1) := by decide +kernel
theorem dX8_nobodys_6 : decode cX8_nobodys 6 = .ok (.getfield 27, 3) := by decide +kernel
theorem dX8_nobodys_9 : decode cX8_nobodys 9 = .ok (.getfield 102, 3) := by decide +kernel
theorem dX8_nobodys_12 : decode cX8_nobodys 12 = .ok (.if_icmp .ge 23, 3) := by decide +kernel
theorem dX8_nobodys_35 : decode cX8_nobodys 35 = .ok (.iload_n 1, 1) := by decide +kernel
theorem dX8_nobodys_36 : decode cX8_nobodys 36 = .ok (.ireturn, 1) := by decide +kernel
set_option maxRecDepth 20000 in
theorem ggX8_purse_X8_isCat : GoodIn wsX8_purse wsX8_isCat := goodIn_r _ [11, 3, 12, 34, 35, 36, 37, 38, 39, 40, 41, 42, 43, 44, 45, 46, 47, 48, 49, 50, 51, 52, 53, 54, 55, 56, 57, 58] (by decide +kernel) (by decide +kernel)
set_option maxRecDepth 20000 in
theorem gX8_purse_X8_isCat : GoodIn wsX8_purse (wsV RX8 111 RX8 yX8_isCat wsX8_isCat) := goodIn_app (goodIn_of _ (by decide +kernel)) ggX8_purse_X8_isCat
theorem dX8_purse_0 : decode cX8_purse 0 = .ok (.aload_n 0, 1) := by decide +kernel
theorem dX8_purse_1 : decode cX8_purse 1 = .ok (.iload_n 1, 1) := by decide +kernel
theorem dX8_purse_2 : decode cX8_purse 2 = .ok (.invokevirtual 111, 3) := by decide +kernel
theorem dX8_purse_5 : decode cX8_purse 5 = .ok (.ifCond .ne 7, 3) := by decide +kernel
theorem dX8_purse_8 : decode cX8_purse 8 = .ok (.ldc_w 314, 3) := by decide +kernel
theorem dX8_purse_11 : decode cX8_purse 11 = .ok (.ireturn, 1) := by decide +kernel
set_option maxRecDepth 20000 in
theorem ggX8_seen_X8_isSeenQuarter : GoodIn wsX8_seen wsX8_isSeenQuarter := goodIn_r _ [8] (by decide +kernel) (by decide +kernel)
set_option maxRecDepth 20000 in
theorem gX8_seen_X8_isSeenQuarter : GoodIn wsX8_seen (va_wsS RX8 315 yX8_isSeenQuarter wsX8_isSeenQuarter) := goodIn_app (goodIn_of _ (by decide +kernel)) ggX8_seen_X8_isSeenQuarter
set_option maxRecDepth 20000 in
theorem ggX8_seen_X8_isTenant : GoodIn wsX8_seen wsX8_isTenant := goodIn_r _ [12, 1, 13, 25, 26, 27, 28, 29, 30, 31, 32, 33, 34, 35, 36, 37, 38, 39, 40, 41, 42, 43, 44, 45, 46, 47, 48, 49] (by decide +kernel) (by decide +kernel)
set_option maxRecDepth 20000 in
theorem gX8_seen_X8_isTenant : GoodIn wsX8_seen (wsV RX8 144 RX8 yX8_isTenant wsX8_isTenant) := goodIn_app (goodIn_of _ (by decide +kernel)) ggX8_seen_X8_isTenant
theorem dX8_seen_0 : decode cX8_seen 0 = .ok (.iload_n 1, 1) := by decide +kernel
theorem dX8_seen_1 : decode cX8_seen 1 = .ok (.invokestatic 315, 3) := by decide +kernel
theorem dX8_seen_4 : decode cX8_seen 4 = .ok (.ifCond .eq 21, 3) := by decide +kernel
theorem dX8_seen_7 : decode cX8_seen 7 = .ok (.aload_n 0, 1) := by decide +kernel
theorem dX8_seen_8 : decode cX8_seen 8 = .ok (.iload_n 2, 1) := by decide +kernel
theorem dX8_seen_9 : decode cX8_seen 9 = .ok (.invokevirtual 144, 3) := by decide +kernel
theorem dX8_seen_12 : decode cX8_seen 12 = .ok (.ifCond .eq 13, 3) := by decide +kernel
theorem dX8_seen_25 : decode cX8_seen 25 = .ok (.iconst (-1), 1) := by decide +kernel
theorem dX8_seen_26 : decode cX8_seen 26 = .ok (.ireturn, 1) := by decide +kernel
set_option maxRecDepth 20000 in
theorem ggX8_untell_X6_takeBack : GoodIn wsX8_untell wsX6_takeBack := goodIn_r _ [7, 8, 9, 24, 25, 26, 27, 28, 29, 30, 31, 32] (by decide +kernel) (by decide +kernel)
set_option maxRecDepth 20000 in
theorem gX8_untell_X6_takeBack : GoodIn wsX8_untell (wsV RX8 322 RX6 yX6_takeBack wsX6_takeBack) := goodIn_app (goodIn_of _ (by decide +kernel)) ggX8_untell_X6_takeBack
theorem dX8_untell_0 : decode cX8_untell 0 = .ok (.aload_n 0, 1) := by decide +kernel
theorem dX8_untell_1 : decode cX8_untell 1 = .ok (.getfield 76, 3) := by decide +kernel
theorem dX8_untell_4 : decode cX8_untell 4 = .ok (.iload_n 1, 1) := by decide +kernel
theorem dX8_untell_5 : decode cX8_untell 5 = .ok (.aload_n 0, 1) := by decide +kernel
theorem dX8_untell_6 : decode cX8_untell 6 = .ok (.getfield 80, 3) := by decide +kernel
theorem dX8_untell_9 : decode cX8_untell 9 = .ok (.invokevirtual 322, 3) := by decide +kernel
theorem dX8_untell_12 : decode cX8_untell 12 = .ok (.ireturn, 1) := by decide +kernel
theorem dX8_later_0 : decode cX8_later 0 = .ok (.iload_n 1, 1) := by decide +kernel
theorem dX8_later_1 : decode cX8_later 1 = .ok (.ifCond .lt 22, 3) := by decide +kernel
theorem dX8_later_4 : decode cX8_later 4 = .ok (.iload_n 1, 1) := by decide +kernel
theorem dX8_later_5 : decode cX8_later 5 = .ok (.sipush 1000, 3) := by decide +kernel
theorem dX8_later_8 : decode cX8_later 8 = .ok (.if_icmp .gt 15, 3) := by decide +kernel
theorem dX8_later_11 : decode cX8_later 11 = .ok (.aload_n 0, 1) := by decide +kernel
theorem dX8_later_12 : decode cX8_later 12 = .ok (.getfield 80, 3) := by decide +kernel
theorem dX8_later_15 : decode cX8_later 15 = .ok (.iload_n 1, 1) := by decide +kernel
theorem dX8_later_16 : decode cX8_later 16 = .ok (.iadd, 1) := by decide +kernel
theorem dX8_later_17 : decode cX8_later 17 = .ok (.ldc_w 325, 3) := by decide +kernel
theorem dX8_later_20 : decode cX8_later 20 = .ok (.if_icmp .le 5, 3) := by decide +kernel
theorem dX8_later_23 : decode cX8_later 23 = .ok (.iconst (-1), 1) := by decide +kernel
theorem dX8_later_24 : decode cX8_later 24 = .ok (.ireturn, 1) := by decide +kernel
theorem dX8_later_25 : decode cX8_later 25 = .ok (.aload_n 0, 1) := by decide +kernel
theorem dX8_later_26 : decode cX8_later 26 = .ok (.dup, 1) := by decide +kernel
theorem dX8_later_27 : decode cX8_later 27 = .ok (.getfield 80, 3) := by decide +kernel
theorem dX8_later_30 : decode cX8_later 30 = .ok (.iload_n 1, 1) := by decide +kernel
theorem dX8_later_31 : decode cX8_later 31 = .ok (.iadd, 1) := by decide +kernel
theorem dX8_later_32 : decode cX8_later 32 = .ok (.putfield 80, 3) := by decide +kernel
theorem dX8_later_35 : decode cX8_later 35 = .ok (.aload_n 0, 1) := by decide +kernel
theorem dX8_later_36 : decode cX8_later 36 = .ok (.getfield 80, 3) := by decide +kernel
theorem dX8_later_39 : decode cX8_later 39 = .ok (.ireturn, 1) := by decide +kernel
theorem dX8_isSeenQuarter_0 : decode cX8_isSeenQuarter 0 = .ok (.iload_n 0, 1) := by decide +kernel
theorem dX8_isSeenQuarter_1 : decode cX8_isSeenQuarter 1 = .ok (.ifCond .lt 13, 3) := by decide +kernel
theorem dX8_isSeenQuarter_4 : decode cX8_isSeenQuarter 4 = .ok (.iload_n 0, 1) := by decide +kernel
theorem dX8_isSeenQuarter_5 : decode cX8_isSeenQuarter 5 = .ok (.bipush 9, 2) := by decide +kernel
theorem dX8_isSeenQuarter_7 : decode cX8_isSeenQuarter 7 = .ok (.if_icmp .gt 7, 3) := by decide +kernel
theorem dX8_isSeenQuarter_10 : decode cX8_isSeenQuarter 10 = .ok (.iconst 1, 1) := by decide +kernel
theorem dX8_isSeenQuarter_11 : decode cX8_isSeenQuarter 11 = .ok (.goto 4, 3) := by decide +kernel
theorem dX8_isSeenQuarter_14 : decode cX8_isSeenQuarter 14 = .ok (.iconst 0, 1) := by decide +kernel
theorem dX8_isSeenQuarter_15 : decode cX8_isSeenQuarter 15 = .ok (.ireturn, 1) := by decide +kernel
theorem dX8_back_0 : decode cX8_back 0 = .ok (.iload_n 1, 1) := by decide +kernel
theorem dX8_back_1 : decode cX8_back 1 = .ok (.ifCond .lt 23, 3) := by decide +kernel
theorem dX8_back_4 : decode cX8_back 4 = .ok (.iload_n 1, 1) := by decide +kernel
theorem dX8_back_5 : decode cX8_back 5 = .ok (.aload_n 0, 1) := by decide +kernel
theorem dX8_back_6 : decode cX8_back 6 = .ok (.getfield 45, 3) := by decide +kernel
theorem dX8_back_9 : decode cX8_back 9 = .ok (.arraylength, 1) := by decide +kernel
theorem dX8_back_10 : decode cX8_back 10 = .ok (.if_icmp .ge 14, 3) := by decide +kernel
theorem dX8_back_13 : decode cX8_back 13 = .ok (.aload_n 0, 1) := by decide +kernel
theorem dX8_back_14 : decode cX8_back 14 = .ok (.getfield 49, 3) := by decide +kernel
theorem dX8_back_17 : decode cX8_back 17 = .ok (.iload_n 1, 1) := by decide +kernel
theorem dX8_back_18 : decode cX8_back 18 = .ok (.ishr, 1) := by decide +kernel
theorem dX8_back_19 : decode cX8_back 19 = .ok (.iconst 1, 1) := by decide +kernel
theorem dX8_back_20 : decode cX8_back 20 = .ok (.iand, 1) := by decide +kernel
theorem dX8_back_21 : decode cX8_back 21 = .ok (.ifCond .ne 5, 3) := by decide +kernel
theorem dX8_back_24 : decode cX8_back 24 = .ok (.iconst (-1), 1) := by decide +kernel
theorem dX8_back_25 : decode cX8_back 25 = .ok (.ireturn, 1) := by decide +kernel
set_option maxRecDepth 20000 in
theorem ggX8_about_X0_current : GoodIn wsX8_about wsX0_current := goodIn_r _ [21, 22, 23, 64, 65, 66, 67] (by decide +kernel) (by decide +kernel)
set_option maxRecDepth 20000 in
theorem gX8_about_X0_current : GoodIn wsX8_about (wsV RX8 115 RX0 yX0_current wsX0_current) := goodIn_app (goodIn_of _ (by decide +kernel)) ggX8_about_X0_current
set_option maxRecDepth 20000 in
theorem ggX8_about_X4_whoIsOut : GoodIn wsX8_about wsX4_whoIsOut := goodIn_r _ [28, 29, 30, 45, 46, 47, 48, 49, 50, 51, 52, 53, 54, 55, 56, 57, 58, 59, 60, 61, 62, 63] (by decide +kernel) (by decide +kernel)
set_option maxRecDepth 20000 in
theorem gX8_about_X4_whoIsOut : GoodIn wsX8_about (wsV RX8 340 RX4 yX4_whoIsOut wsX4_whoIsOut) := goodIn_app (goodIn_of _ (by decide +kernel)) ggX8_about_X4_whoIsOut
theorem dX8_about_0 : decode cX8_about 0 = .ok (.aload_n 0, 1) := by decide +kernel
theorem dX8_about_1 : decode cX8_about 1 = .ok (.getfield 34, 3) := by decide +kernel
theorem dX8_about_4 : decode cX8_about 4 = .ok (.invokevirtual 115, 3) := by decide +kernel
theorem dX8_about_7 : decode cX8_about 7 = .ok (.astore_n 2, 1) := by decide +kernel
theorem dX8_about_8 : decode cX8_about 8 = .ok (.iload_n 1, 1) := by decide +kernel
theorem dX8_about_9 : decode cX8_about 9 = .ok (.tableswitch 166 0 13 #[71, 79, 87, 95, 100, 109, 114, 119, 127, 135, 143, 148, 153, 161], 71) := by decide +kernel
theorem dX8_about_80 : decode cX8_about 80 = .ok (.aload_n 0, 1) := by decide +kernel
theorem dX8_about_81 : decode cX8_about 81 = .ok (.getfield 27, 3) := by decide +kernel
theorem dX8_about_84 : decode cX8_about 84 = .ok (.getfield 102, 3) := by decide +kernel
theorem dX8_about_87 : decode cX8_about 87 = .ok (.ireturn, 1) := by decide +kernel
theorem dX8_about_88 : decode cX8_about 88 = .ok (.aload_n 0, 1) := by decide +kernel
theorem dX8_about_89 : decode cX8_about 89 = .ok (.getfield 27, 3) := by decide +kernel
theorem dX8_about_92 : decode cX8_about 92 = .ok (.getfield 170, 3) := by decide +kernel
theorem dX8_about_95 : decode cX8_about 95 = .ok (.ireturn, 1) := by decide +kernel
theorem dX8_about_96 : decode cX8_about 96 = .ok (.aload_n 0, 1) := by decide +kernel
theorem dX8_about_97 : decode cX8_about 97 = .ok (.getfield 27, 3) := by decide +kernel
theorem dX8_about_100 : decode cX8_about 100 = .ok (.getfield 173, 3) := by decide +kernel
theorem dX8_about_103 : decode cX8_about 103 = .ok (.ireturn, 1) := by decide +kernel
theorem dX8_about_104 : decode cX8_about 104 = .ok (.aload_n 2, 1) := by decide +kernel
theorem dX8_about_105 : decode cX8_about 105 = .ok (.getfield 299, 3) := by decide +kernel
theorem dX8_about_108 : decode cX8_about 108 = .ok (.ireturn, 1) := by decide +kernel
theorem dX8_about_109 : decode cX8_about 109 = .ok (.aload_n 0, 1) := by decide +kernel
theorem dX8_about_110 : decode cX8_about 110 = .ok (.getfield 27, 3) := by decide +kernel
theorem dX8_about_113 : decode cX8_about 113 = .ok (.aload_n 2, 1) := by decide +kernel
theorem dX8_about_114 : decode cX8_about 114 = .ok (.invokevirtual 340, 3) := by decide +kernel
theorem dX8_about_117 : decode cX8_about 117 = .ok (.ireturn, 1) := by decide +kernel
theorem dX8_about_118 : decode cX8_about 118 = .ok (.aload_n 2, 1) := by decide +kernel
theorem dX8_about_119 : decode cX8_about 119 = .ok (.getfield 176, 3) := by decide +kernel
theorem dX8_about_122 : decode cX8_about 122 = .ok (.ireturn, 1) := by decide +kernel
theorem dX8_about_123 : decode cX8_about 123 = .ok (.aload_n 2, 1) := by decide +kernel
theorem dX8_about_124 : decode cX8_about 124 = .ok (.getfield 343, 3) := by decide +kernel
theorem dX8_about_127 : decode cX8_about 127 = .ok (.ireturn, 1) := by decide +kernel
theorem dX8_about_128 : decode cX8_about 128 = .ok (.aload_n 0, 1) := by decide +kernel
theorem dX8_about_129 : decode cX8_about 129 = .ok (.getfield 34, 3) := by decide +kernel
theorem dX8_about_132 : decode cX8_about 132 = .ok (.getfield 346, 3) := by decide +kernel
theorem dX8_about_135 : decode cX8_about 135 = .ok (.ireturn, 1) := by decide +kernel
theorem dX8_about_136 : decode cX8_about 136 = .ok (.aload_n 0, 1) := by decide +kernel
theorem dX8_about_137 : decode cX8_about 137 = .ok (.getfield 34, 3) := by decide +kernel
theorem dX8_about_140 : decode cX8_about 140 = .ok (.getfield 349, 3) := by decide +kernel
theorem dX8_about_143 : decode cX8_about 143 = .ok (.ireturn, 1) := by decide +kernel
theorem dX8_about_144 : decode cX8_about 144 = .ok (.aload_n 0, 1) := by decide +kernel
theorem dX8_about_145 : decode cX8_about 145 = .ok (.getfield 76, 3) := by decide +kernel
theorem dX8_about_148 : decode cX8_about 148 = .ok (.getfield 352, 3) := by decide +kernel
theorem dX8_about_151 : decode cX8_about 151 = .ok (.ireturn, 1) := by decide +kernel
theorem dX8_about_152 : decode cX8_about 152 = .ok (.aload_n 0, 1) := by decide +kernel
theorem dX8_about_153 : decode cX8_about 153 = .ok (.getfield 80, 3) := by decide +kernel
theorem dX8_about_156 : decode cX8_about 156 = .ok (.ireturn, 1) := by decide +kernel
theorem dX8_about_157 : decode cX8_about 157 = .ok (.aload_n 0, 1) := by decide +kernel
theorem dX8_about_158 : decode cX8_about 158 = .ok (.getfield 13, 3) := by decide +kernel
theorem dX8_about_161 : decode cX8_about 161 = .ok (.ireturn, 1) := by decide +kernel
theorem dX8_about_162 : decode cX8_about 162 = .ok (.aload_n 0, 1) := by decide +kernel
theorem dX8_about_163 : decode cX8_about 163 = .ok (.getfield 27, 3) := by decide +kernel
theorem dX8_about_166 : decode cX8_about 166 = .ok (.getfield 354, 3) := by decide +kernel
theorem dX8_about_169 : decode cX8_about 169 = .ok (.ireturn, 1) := by decide +kernel
theorem dX8_about_170 : decode cX8_about 170 = .ok (.aload_n 0, 1) := by decide +kernel
theorem dX8_about_171 : decode cX8_about 171 = .ok (.getfield 70, 3) := by decide +kernel
theorem dX8_about_174 : decode cX8_about 174 = .ok (.ireturn, 1) := by decide +kernel
theorem dX8_about_175 : decode cX8_about 175 = .ok (.iconst (-1), 1) := by decide +kernel
theorem dX8_about_176 : decode cX8_about 176 = .ok (.ireturn, 1) := by decide +kernel
theorem dJ6_bitCount_0f7a4_0 : decode cJ6_bitCount_0f7a4 0 = .ok (.iload_n 0, 1) := by decide +kernel
theorem dJ6_bitCount_0f7a4_1 : decode cJ6_bitCount_0f7a4 1 = .ok (.iload_n 0, 1) := by decide +kernel
theorem dJ6_bitCount_0f7a4_2 : decode cJ6_bitCount_0f7a4 2 = .ok (.iconst 1, 1) := by decide +kernel
theorem dJ6_bitCount_0f7a4_3 : decode cJ6_bitCount_0f7a4 3 = .ok (.iushr, 1) := by decide +kernel
theorem dJ6_bitCount_0f7a4_4 : decode cJ6_bitCount_0f7a4 4 = .ok (.ldc_w 265, 3) := by decide +kernel
theorem dJ6_bitCount_0f7a4_7 : decode cJ6_bitCount_0f7a4 7 = .ok (.iand, 1) := by decide +kernel
theorem dJ6_bitCount_0f7a4_8 : decode cJ6_bitCount_0f7a4 8 = .ok (.isub, 1) := by decide +kernel
theorem dJ6_bitCount_0f7a4_9 : decode cJ6_bitCount_0f7a4 9 = .ok (.istore_n 0, 1) := by decide +kernel
theorem dJ6_bitCount_0f7a4_10 : decode cJ6_bitCount_0f7a4 10 = .ok (.iload_n 0, 1) := by decide +kernel
theorem dJ6_bitCount_0f7a4_11 : decode cJ6_bitCount_0f7a4 11 = .ok (.ldc_w 266, 3) := by decide +kernel
theorem dJ6_bitCount_0f7a4_14 : decode cJ6_bitCount_0f7a4 14 = .ok (.iand, 1) := by decide +kernel
theorem dJ6_bitCount_0f7a4_15 : decode cJ6_bitCount_0f7a4 15 = .ok (.iload_n 0, 1) := by decide +kernel
theorem dJ6_bitCount_0f7a4_16 : decode cJ6_bitCount_0f7a4 16 = .ok (.iconst 2, 1) := by decide +kernel
theorem dJ6_bitCount_0f7a4_17 : decode cJ6_bitCount_0f7a4 17 = .ok (.iushr, 1) := by decide +kernel
theorem dJ6_bitCount_0f7a4_18 : decode cJ6_bitCount_0f7a4 18 = .ok (.ldc_w 266, 3) := by decide +kernel
theorem dJ6_bitCount_0f7a4_21 : decode cJ6_bitCount_0f7a4 21 = .ok (.iand, 1) := by decide +kernel
theorem dJ6_bitCount_0f7a4_22 : decode cJ6_bitCount_0f7a4 22 = .ok (.iadd, 1) := by decide +kernel
theorem dJ6_bitCount_0f7a4_23 : decode cJ6_bitCount_0f7a4 23 = .ok (.istore_n 0, 1) := by decide +kernel
theorem dJ6_bitCount_0f7a4_24 : decode cJ6_bitCount_0f7a4 24 = .ok (.iload_n 0, 1) := by decide +kernel
theorem dJ6_bitCount_0f7a4_25 : decode cJ6_bitCount_0f7a4 25 = .ok (.iload_n 0, 1) := by decide +kernel
theorem dJ6_bitCount_0f7a4_26 : decode cJ6_bitCount_0f7a4 26 = .ok (.iconst 4, 1) := by decide +kernel
theorem dJ6_bitCount_0f7a4_27 : decode cJ6_bitCount_0f7a4 27 = .ok (.iushr, 1) := by decide +kernel
theorem dJ6_bitCount_0f7a4_28 : decode cJ6_bitCount_0f7a4 28 = .ok (.iadd, 1) := by decide +kernel
theorem dJ6_bitCount_0f7a4_29 : decode cJ6_bitCount_0f7a4 29 = .ok (.ldc_w 267, 3) := by decide +kernel
theorem dJ6_bitCount_0f7a4_32 : decode cJ6_bitCount_0f7a4 32 = .ok (.iand, 1) := by decide +kernel
theorem dJ6_bitCount_0f7a4_33 : decode cJ6_bitCount_0f7a4 33 = .ok (.istore_n 0, 1) := by decide +kernel
theorem dJ6_bitCount_0f7a4_34 : decode cJ6_bitCount_0f7a4 34 = .ok (.iload_n 0, 1) := by decide +kernel
theorem dJ6_bitCount_0f7a4_35 : decode cJ6_bitCount_0f7a4 35 = .ok (.iload_n 0, 1) := by decide +kernel
theorem dJ6_bitCount_0f7a4_36 : decode cJ6_bitCount_0f7a4 36 = .ok (.bipush 8, 2) := by decide +kernel
theorem dJ6_bitCount_0f7a4_38 : decode cJ6_bitCount_0f7a4 38 = .ok (.iushr, 1) := by decide +kernel
theorem dJ6_bitCount_0f7a4_39 : decode cJ6_bitCount_0f7a4 39 = .ok (.iadd, 1) := by decide +kernel
theorem dJ6_bitCount_0f7a4_40 : decode cJ6_bitCount_0f7a4 40 = .ok (.istore_n 0, 1) := by decide +kernel
theorem dJ6_bitCount_0f7a4_41 : decode cJ6_bitCount_0f7a4 41 = .ok (.iload_n 0, 1) := by decide +kernel
theorem dJ6_bitCount_0f7a4_42 : decode cJ6_bitCount_0f7a4 42 = .ok (.iload_n 0, 1) := by decide +kernel
theorem dJ6_bitCount_0f7a4_43 : decode cJ6_bitCount_0f7a4 43 = .ok (.bipush 16, 2) := by decide +kernel
theorem dJ6_bitCount_0f7a4_45 : decode cJ6_bitCount_0f7a4 45 = .ok (.iushr, 1) := by decide +kernel
theorem dJ6_bitCount_0f7a4_46 : decode cJ6_bitCount_0f7a4 46 = .ok (.iadd, 1) := by decide +kernel
theorem dJ6_bitCount_0f7a4_47 : decode cJ6_bitCount_0f7a4 47 = .ok (.istore_n 0, 1) := by decide +kernel
theorem dJ6_bitCount_0f7a4_48 : decode cJ6_bitCount_0f7a4 48 = .ok (.iload_n 0, 1) := by decide +kernel
theorem dJ6_bitCount_0f7a4_49 : decode cJ6_bitCount_0f7a4 49 = .ok (.bipush 63, 2) := by decide +kernel
theorem dJ6_bitCount_0f7a4_51 : decode cJ6_bitCount_0f7a4 51 = .ok (.iand, 1) := by decide +kernel
theorem dJ6_bitCount_0f7a4_52 : decode cJ6_bitCount_0f7a4 52 = .ok (.ireturn, 1) := by decide +kernel
theorem iX8_isCat_X8 : ∀ w ∈ wsX80, w ∈ wsX8_isCat := (fun _ h => List.mem_cons_of_mem _ (List.mem_append_left _ (List.mem_append_right _ h)))
theorem iX8_isCat_X4 : ∀ w ∈ wsX40, w ∈ wsX8_isCat := (fun _ h => List.mem_cons_of_mem _ (List.mem_append_right _ h))
theorem iX8_isRoom_X8 : ∀ w ∈ wsX80, w ∈ wsX8_isRoom := (fun _ h => List.mem_cons_of_mem _ (List.mem_append_left _ (List.mem_append_right _ h)))
theorem iX8_isRoom_X4 : ∀ w ∈ wsX40, w ∈ wsX8_isRoom := (fun _ h => List.mem_cons_of_mem _ (List.mem_append_right _ h))
theorem iX8_isTenant_X8 : ∀ w ∈ wsX80, w ∈ wsX8_isTenant := (fun _ h => List.mem_cons_of_mem _ (List.mem_append_left _ (List.mem_append_right _ h)))
theorem iX8_isTenant_X4 : ∀ w ∈ wsX40, w ∈ wsX8_isTenant := (fun _ h => List.mem_cons_of_mem _ (List.mem_append_right _ h))
theorem iX0_current_X0 : ∀ w ∈ wsX00, w ∈ wsX0_current := (fun _ h => List.mem_cons_of_mem _ (List.mem_append_right _ h))
theorem iX8_isInKeptRoom_X8 : ∀ w ∈ wsX80, w ∈ wsX8_isInKeptRoom := (fun _ h => List.mem_cons_of_mem _ (List.mem_append_left _ (List.mem_append_left _ (List.mem_append_left _ (List.mem_append_right _ h)))))
theorem iX8_liking_X8 : ∀ w ∈ wsX80, w ∈ wsX8_liking := (fun _ h => List.mem_cons_of_mem _ (List.mem_append_left _ (List.mem_append_left _ (List.mem_append_left _ (List.mem_append_left _ (List.mem_append_right _ h))))))
theorem iX0_stepBack_X0 : ∀ w ∈ wsX00, w ∈ wsX0_stepBack := (fun _ h => List.mem_cons_of_mem _ (List.mem_append_right _ h))
theorem iX0_stepForth_X0 : ∀ w ∈ wsX00, w ∈ wsX0_stepForth := (fun _ h => List.mem_cons_of_mem _ (List.mem_append_right _ h))
theorem iX8_undo_X8 : ∀ w ∈ wsX80, w ∈ wsX8_undo := (fun _ h => List.mem_cons_of_mem _ (List.mem_append_left _ (List.mem_append_right _ h)))
theorem iX8_redo_X8 : ∀ w ∈ wsX80, w ∈ wsX8_redo := (fun _ h => List.mem_cons_of_mem _ (List.mem_append_left _ (List.mem_append_right _ h)))
theorem iX4_thrownOut_X4 : ∀ w ∈ wsX40, w ∈ wsX4_thrownOut := (fun _ h => List.mem_cons_of_mem _ (List.mem_append_left _ (List.mem_append_left _ (List.mem_append_right _ h))))
theorem iX4_thrownOutAt_X4 : ∀ w ∈ wsX40, w ∈ wsX4_thrownOutAt := (fun _ h => List.mem_cons_of_mem _ (List.mem_append_left _ (List.mem_append_left _ (List.mem_append_right _ h))))
theorem iX8_shaky_X8 : ∀ w ∈ wsX80, w ∈ wsX8_shaky := (fun _ h => List.mem_cons_of_mem _ (List.mem_append_left _ (List.mem_append_left _ (List.mem_append_left _ (List.mem_append_left _ (List.mem_append_right _ h))))))
theorem iX8_outCount_X8 : ∀ w ∈ wsX80, w ∈ wsX8_outCount := (fun _ h => List.mem_cons_of_mem _ (List.mem_append_left _ (List.mem_append_left _ (List.mem_append_left _ (List.mem_append_right _ h)))))
theorem iX8_outCount_X4 : ∀ w ∈ wsX40, w ∈ wsX8_outCount := (fun _ h => List.mem_cons_of_mem _ (List.mem_append_left _ (List.mem_append_left _ (List.mem_append_right _ h))))
theorem iX8_housed_X8 : ∀ w ∈ wsX80, w ∈ wsX8_housed := (fun _ h => List.mem_cons_of_mem _ (List.mem_append_left _ (List.mem_append_left _ (List.mem_append_left _ (List.mem_append_left _ (List.mem_append_right _ h))))))
theorem iX8_housed_X4 : ∀ w ∈ wsX40, w ∈ wsX8_housed := (fun _ h => List.mem_cons_of_mem _ (List.mem_append_left _ (List.mem_append_left _ (List.mem_append_left _ (List.mem_append_right _ h)))))
theorem iX8_law_X8 : ∀ w ∈ wsX80, w ∈ wsX8_law := (fun _ h => List.mem_cons_of_mem _ (List.mem_append_left _ (List.mem_append_left _ (List.mem_append_left _ (List.mem_append_left _ (List.mem_append_right _ h))))))
theorem iX8_swaps_X8 : ∀ w ∈ wsX80, w ∈ wsX8_swaps := (fun _ h => List.mem_cons_of_mem _ (List.mem_append_left _ (List.mem_append_left _ (List.mem_append_left _ (List.mem_append_left _ (List.mem_append_right _ h))))))
theorem iX8_swaps_X4 : ∀ w ∈ wsX40, w ∈ wsX8_swaps := (fun _ h => List.mem_cons_of_mem _ (List.mem_append_left _ (List.mem_append_left _ (List.mem_append_left _ (List.mem_append_right _ h)))))
theorem iX8_bid_X8 : ∀ w ∈ wsX80, w ∈ wsX8_bid := (fun _ h => List.mem_cons_of_mem _ (List.mem_append_left _ (List.mem_append_left _ (List.mem_append_left _ (List.mem_append_left _ (List.mem_append_left _ (List.mem_append_right _ h)))))))
theorem iX8_lies_X8 : ∀ w ∈ wsX80, w ∈ wsX8_lies := (fun _ h => List.mem_cons_of_mem _ (List.mem_append_right _ h))
theorem iX8_areCats_X8 : ∀ w ∈ wsX80, w ∈ wsX8_areCats := (fun _ h => List.mem_cons_of_mem _ (List.mem_append_left _ (List.mem_append_right _ h)))
theorem iX8_areCats_X4 : ∀ w ∈ wsX40, w ∈ wsX8_areCats := (fun _ h => List.mem_cons_of_mem _ (List.mem_append_right _ h))
theorem iX8_probate_X8 : ∀ w ∈ wsX80, w ∈ wsX8_probate := (fun _ h => List.mem_cons_of_mem _ (List.mem_append_left _ (List.mem_append_left _ (List.mem_append_left _ (List.mem_append_right _ h)))))
theorem iX8_probate_X4 : ∀ w ∈ wsX40, w ∈ wsX8_probate := (fun _ h => List.mem_cons_of_mem _ (List.mem_append_left _ (List.mem_append_left _ (List.mem_append_right _ h))))
theorem iX8_fondest_X8 : ∀ w ∈ wsX80, w ∈ wsX8_fondest := (fun _ h => List.mem_cons_of_mem _ (List.mem_append_left _ (List.mem_append_left _ (List.mem_append_left _ (List.mem_append_left _ (List.mem_append_right _ h))))))
theorem iX8_fondest_X4 : ∀ w ∈ wsX40, w ∈ wsX8_fondest := (fun _ h => List.mem_cons_of_mem _ (List.mem_append_left _ (List.mem_append_left _ (List.mem_append_left _ (List.mem_append_right _ h)))))
theorem iX8_nobodys_X8 : ∀ w ∈ wsX80, w ∈ wsX8_nobodys := (fun _ h => List.mem_cons_of_mem _ (List.mem_append_left _ (List.mem_append_left _ (List.mem_append_left _ (List.mem_append_left _ (List.mem_append_right _ h))))))
theorem iX8_nobodys_X4 : ∀ w ∈ wsX40, w ∈ wsX8_nobodys := (fun _ h => List.mem_cons_of_mem _ (List.mem_append_left _ (List.mem_append_left _ (List.mem_append_left _ (List.mem_append_right _ h)))))
theorem iX6_takeBack_X6 : ∀ w ∈ wsX60, w ∈ wsX6_takeBack := (fun _ h => List.mem_cons_of_mem _ (List.mem_append_right _ h))
theorem iX8_untell_X8 : ∀ w ∈ wsX80, w ∈ wsX8_untell := (fun _ h => List.mem_cons_of_mem _ (List.mem_append_left _ (List.mem_append_right _ h)))
theorem iX8_later_X8 : ∀ w ∈ wsX80, w ∈ wsX8_later := (fun _ h => List.mem_cons_of_mem _ (List.mem_append_right _ h))
theorem iX8_end_X8 : ∀ w ∈ wsX80, w ∈ wsX8_end := (fun _ h => List.mem_cons_of_mem _ (List.mem_append_right _ h))
theorem iX8_fault_X8 : ∀ w ∈ wsX80, w ∈ wsX8_fault := (fun _ h => List.mem_cons_of_mem _ (List.mem_append_left _ (List.mem_append_right _ h)))
theorem iX8_fault_X5 : ∀ w ∈ wsX50, w ∈ wsX8_fault := (fun _ h => List.mem_cons_of_mem _ (List.mem_append_right _ h))
theorem iX8_back_X8 : ∀ w ∈ wsX80, w ∈ wsX8_back := (fun _ h => List.mem_cons_of_mem _ (List.mem_append_left _ (List.mem_append_left _ (List.mem_append_right _ h))))
theorem iX4_whoIsOut_X4 : ∀ w ∈ wsX40, w ∈ wsX4_whoIsOut := (fun _ h => List.mem_cons_of_mem _ (List.mem_append_left _ (List.mem_append_right _ h)))
theorem iX8_about_X8 : ∀ w ∈ wsX80, w ∈ wsX8_about := (fun _ h => List.mem_cons_of_mem _ (List.mem_append_left _ (List.mem_append_left _ (List.mem_append_left _ (List.mem_append_left _ (List.mem_append_right _ h))))))
theorem iX8_about_X4 : ∀ w ∈ wsX40, w ∈ wsX8_about := (fun _ h => List.mem_cons_of_mem _ (List.mem_append_left _ (List.mem_append_left _ (List.mem_append_left _ (List.mem_append_right _ h)))))
theorem iX8_about_X7 : ∀ w ∈ wsX70, w ∈ wsX8_about := (fun _ h => List.mem_cons_of_mem _ (List.mem_append_left _ (List.mem_append_left _ (List.mem_append_right _ h))))
theorem iX8_about_X0 : ∀ w ∈ wsX00, w ∈ wsX8_about := (fun _ h => List.mem_cons_of_mem _ (List.mem_append_left _ (List.mem_append_right _ h)))
theorem iX8_about_X6 : ∀ w ∈ wsX60, w ∈ wsX8_about := (fun _ h => List.mem_cons_of_mem _ (List.mem_append_right _ h))
