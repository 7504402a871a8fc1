set_option maxRecDepth 20000 in
theorem ggX0_startFrom_X7_copyOf : GoodIn wsX0_startFrom wsX7_copyOf := goodIn_r _ [9, 10, 11, 12, 13, 14, 15, 16, 17, 18, 19, 20, 21, 26, 27, 28, 29, 30, 31, 32, 33] (by decide +kernel) (by decide +kernel)
set_option maxRecDepth 20000 in
theorem gX0_startFrom_X7_copyOf : GoodIn wsX0_startFrom (wsV RX0 28 RX7 yX7_copyOf wsX7_copyOf) := goodIn_app (goodIn_of _ (by decide +kernel)) ggX0_startFrom_X7_copyOf
theorem dX0_startFrom_0 : decode cX0_startFrom 0 = .ok (.aload_n 0, 1) := by decide +kernel
theorem dX0_startFrom_1 : decode cX0_startFrom 1 = .ok (.getfield 20, 3) := by decide +kernel
theorem dX0_startFrom_4 : decode cX0_startFrom 4 = .ok (.aload_n 0, 1) := by decide +kernel
theorem dX0_startFrom_5 : decode cX0_startFrom 5 = .ok (.getfield 24, 3) := by decide +kernel
theorem dX0_startFrom_8 : decode cX0_startFrom 8 = .ok (.aaload, 1) := by decide +kernel
theorem dX0_startFrom_9 : decode cX0_startFrom 9 = .ok (.aload_n 1, 1) := by decide +kernel
theorem dX0_startFrom_10 : decode cX0_startFrom 10 = .ok (.invokevirtual 28, 3) := by decide +kernel
theorem dX0_startFrom_13 : decode cX0_startFrom 13 = .ok (.aload_n 0, 1) := by decide +kernel
theorem dX0_startFrom_14 : decode cX0_startFrom 14 = .ok (.iconst 0, 1) := by decide +kernel
theorem dX0_startFrom_15 : decode cX0_startFrom 15 = .ok (.putfield 9, 3) := by decide +kernel
theorem dX0_startFrom_18 : decode cX0_startFrom 18 = .ok (.aload_n 0, 1) := by decide +kernel
theorem dX0_startFrom_19 : decode cX0_startFrom 19 = .ok (.iconst 0, 1) := by decide +kernel
theorem dX0_startFrom_20 : decode cX0_startFrom 20 = .ok (.putfield 15, 3) := by decide +kernel
theorem dX0_startFrom_23 : decode cX0_startFrom 23 = .ok (.return_, 1) := by decide +kernel
theorem dX2_empty_0 : decode cX2_empty 0 = .ok (.aload_n 0, 1) := by decide +kernel
theorem dX2_empty_1 : decode cX2_empty 1 = .ok (.iconst 0, 1) := by decide +kernel
theorem dX2_empty_2 : decode cX2_empty 2 = .ok (.putfield 16, 3) := by decide +kernel
theorem dX2_empty_5 : decode cX2_empty 5 = .ok (.return_, 1) := by decide +kernel
set_option maxRecDepth 20000 in
theorem ggX2_addNumber_X2_addStep : GoodIn wsX2_addNumber wsX2_addStep := goodIn_r _ [5, 6, 7, 8, 9, 10] (by decide +kernel) (by decide +kernel)
set_option maxRecDepth 20000 in
theorem gX2_addNumber_X2_addStep : GoodIn wsX2_addNumber (wsV RX2 20 RX2 yX2_addStep wsX2_addStep) := goodIn_app (goodIn_of _ (by decide +kernel)) ggX2_addNumber_X2_addStep
theorem dX2_addNumber_0 : decode cX2_addNumber 0 = .ok (.aload_n 0, 1) := by decide +kernel
theorem dX2_addNumber_1 : decode cX2_addNumber 1 = .ok (.iload_n 1, 1) := by decide +kernel
theorem dX2_addNumber_2 : decode cX2_addNumber 2 = .ok (.invokevirtual 20, 3) := by decide +kernel
theorem dX2_addNumber_5 : decode cX2_addNumber 5 = .ok (.return_, 1) := by decide +kernel
set_option maxRecDepth 20000 in
theorem ggX2_addTerm_X2_addStep : GoodIn wsX2_addTerm wsX2_addStep := goodIn_r _ [5, 6, 7, 8, 9, 10] (by decide +kernel) (by decide +kernel)
set_option maxRecDepth 20000 in
theorem gX2_addTerm_X2_addStep : GoodIn wsX2_addTerm (wsV RX2 20 RX2 yX2_addStep wsX2_addStep) := goodIn_app (goodIn_of _ (by decide +kernel)) ggX2_addTerm_X2_addStep
theorem dX2_addTerm_0 : decode cX2_addTerm 0 = .ok (.aload_n 0, 1) := by decide +kernel
theorem dX2_addTerm_1 : decode cX2_addTerm 1 = .ok (.iconst (-1), 1) := by decide +kernel
theorem dX2_addTerm_2 : decode cX2_addTerm 2 = .ok (.iload_n 1, 1) := by decide +kernel
theorem dX2_addTerm_3 : decode cX2_addTerm 3 = .ok (.isub, 1) := by decide +kernel
theorem dX2_addTerm_4 : decode cX2_addTerm 4 = .ok (.invokevirtual 20, 3) := by decide +kernel
theorem dX2_addTerm_7 : decode cX2_addTerm 7 = .ok (.return_, 1) := by decide +kernel
theorem dX2_addStep_0 : decode cX2_addStep 0 = .ok (.aload_n 0, 1) := by decide +kernel
theorem dX2_addStep_1 : decode cX2_addStep 1 = .ok (.getfield 16, 3) := by decide +kernel
theorem dX2_addStep_4 : decode cX2_addStep 4 = .ok (.aload_n 0, 1) := by decide +kernel
theorem dX2_addStep_5 : decode cX2_addStep 5 = .ok (.getfield 9, 3) := by decide +kernel
theorem dX2_addStep_8 : decode cX2_addStep 8 = .ok (.arraylength, 1) := by decide +kernel
theorem dX2_addStep_9 : decode cX2_addStep 9 = .ok (.if_icmp .ge 23, 3) := by decide +kernel
theorem dX2_addStep_12 : decode cX2_addStep 12 = .ok (.aload_n 0, 1) := by decide +kernel
theorem dX2_addStep_13 : decode cX2_addStep 13 = .ok (.getfield 9, 3) := by decide +kernel
theorem dX2_addStep_16 : decode cX2_addStep 16 = .ok (.aload_n 0, 1) := by decide +kernel
theorem dX2_addStep_17 : decode cX2_addStep 17 = .ok (.getfield 16, 3) := by decide +kernel
theorem dX2_addStep_20 : decode cX2_addStep 20 = .ok (.iload_n 1, 1) := by decide +kernel
theorem dX2_addStep_21 : decode cX2_addStep 21 = .ok (.iastore, 1) := by decide +kernel
theorem dX2_addStep_22 : decode cX2_addStep 22 = .ok (.aload_n 0, 1) := by decide +kernel
theorem dX2_addStep_23 : decode cX2_addStep 23 = .ok (.dup, 1) := by decide +kernel
theorem dX2_addStep_24 : decode cX2_addStep 24 = .ok (.getfield 16, 3) := by decide +kernel
theorem dX2_addStep_27 : decode cX2_addStep 27 = .ok (.iconst 1, 1) := by decide +kernel
theorem dX2_addStep_28 : decode cX2_addStep 28 = .ok (.iadd, 1) := by decide +kernel
theorem dX2_addStep_29 : decode cX2_addStep 29 = .ok (.putfield 16, 3) := by decide +kernel
theorem dX2_addStep_32 : decode cX2_addStep 32 = .ok (.return_, 1) := by decide +kernel
set_option maxRecDepth 20000 in
theorem ggX2_addUntold_X2_addTerm : GoodIn wsX2_addUntold wsX2_addTerm := goodIn_r _ [5, 6, 7, 8, 4, 9, 10, 11, 16, 17, 18] (by decide +kernel) (by decide +kernel)
set_option maxRecDepth 20000 in
theorem gX2_addUntold_X2_addTerm : GoodIn wsX2_addUntold (wsV RX2 24 RX2 yX2_addTerm wsX2_addTerm) := goodIn_app (goodIn_of _ (by decide +kernel)) ggX2_addUntold_X2_addTerm
set_option maxRecDepth 20000 in
theorem ggX2_addUntold_X2_addStep : GoodIn wsX2_addUntold wsX2_addStep := goodIn_r _ [9, 10, 11, 16, 17, 18] (by decide +kernel) (by decide +kernel)
set_option maxRecDepth 20000 in
theorem gX2_addUntold_X2_addStep : GoodIn wsX2_addUntold (wsV RX2 20 RX2 yX2_addStep wsX2_addStep) := goodIn_app (goodIn_of _ (by decide +kernel)) ggX2_addUntold_X2_addStep
set_option maxRecDepth 20000 in
theorem ggX2_addUntold_X2_addNumber : GoodIn wsX2_addUntold wsX2_addNumber := goodIn_r _ [15, 6, 7, 8, 4, 9, 10, 11, 16, 17, 18] (by decide +kernel) (by decide +kernel)
set_option maxRecDepth 20000 in
theorem gX2_addUntold_X2_addNumber : GoodIn wsX2_addUntold (wsV RX2 27 RX2 yX2_addNumber wsX2_addNumber) := goodIn_app (goodIn_of _ (by decide +kernel)) ggX2_addUntold_X2_addNumber
theorem dX2_addUntold_0 : decode cX2_addUntold 0 = .ok (.aload_n 0, 1) := by decide +kernel
theorem dX2_addUntold_1 : decode cX2_addUntold 1 = .ok (.iconst 0, 1) := by decide +kernel
theorem dX2_addUntold_2 : decode cX2_addUntold 2 = .ok (.invokevirtual 24, 3) := by decide +kernel
theorem dX2_addUntold_5 : decode cX2_addUntold 5 = .ok (.aload_n 0, 1) := by decide +kernel
theorem dX2_addUntold_6 : decode cX2_addUntold 6 = .ok (.iconst 1, 1) := by decide +kernel
theorem dX2_addUntold_7 : decode cX2_addUntold 7 = .ok (.invokevirtual 24, 3) := by decide +kernel
theorem dX2_addUntold_10 : decode cX2_addUntold 10 = .ok (.aload_n 0, 1) := by decide +kernel
theorem dX2_addUntold_11 : decode cX2_addUntold 11 = .ok (.bipush (-27), 2) := by decide +kernel
theorem dX2_addUntold_13 : decode cX2_addUntold 13 = .ok (.invokevirtual 20, 3) := by decide +kernel
theorem dX2_addUntold_16 : decode cX2_addUntold 16 = .ok (.aload_n 0, 1) := by decide +kernel
theorem dX2_addUntold_17 : decode cX2_addUntold 17 = .ok (.iconst 2, 1) := by decide +kernel
theorem dX2_addUntold_18 : decode cX2_addUntold 18 = .ok (.invokevirtual 24, 3) := by decide +kernel
theorem dX2_addUntold_21 : decode cX2_addUntold 21 = .ok (.aload_n 0, 1) := by decide +kernel
theorem dX2_addUntold_22 : decode cX2_addUntold 22 = .ok (.iconst 3, 1) := by decide +kernel
theorem dX2_addUntold_23 : decode cX2_addUntold 23 = .ok (.invokevirtual 27, 3) := by decide +kernel
theorem dX2_addUntold_26 : decode cX2_addUntold 26 = .ok (.aload_n 0, 1) := by decide +kernel
theorem dX2_addUntold_27 : decode cX2_addUntold 27 = .ok (.bipush (-28), 2) := by decide +kernel
theorem dX2_addUntold_29 : decode cX2_addUntold 29 = .ok (.invokevirtual 20, 3) := by decide +kernel
theorem dX2_addUntold_32 : decode cX2_addUntold 32 = .ok (.aload_n 0, 1) := by decide +kernel
theorem dX2_addUntold_33 : decode cX2_addUntold 33 = .ok (.bipush (-26), 2) := by decide +kernel
theorem dX2_addUntold_35 : decode cX2_addUntold 35 = .ok (.invokevirtual 20, 3) := by decide +kernel
theorem dX2_addUntold_38 : decode cX2_addUntold 38 = .ok (.aload_n 0, 1) := by decide +kernel
theorem dX2_addUntold_39 : decode cX2_addUntold 39 = .ok (.iconst 3, 1) := by decide +kernel
theorem dX2_addUntold_40 : decode cX2_addUntold 40 = .ok (.invokevirtual 24, 3) := by decide +kernel
theorem dX2_addUntold_43 : decode cX2_addUntold 43 = .ok (.aload_n 0, 1) := by decide +kernel
theorem dX2_addUntold_44 : decode cX2_addUntold 44 = .ok (.bipush (-27), 2) := by decide +kernel
theorem dX2_addUntold_46 : decode cX2_addUntold 46 = .ok (.invokevirtual 20, 3) := by decide +kernel
theorem dX2_addUntold_49 : decode cX2_addUntold 49 = .ok (.return_, 1) := by decide +kernel
set_option maxRecDepth 20000 in
theorem ggX4_empty_X7_empty : GoodIn wsX4_empty wsX7_empty := goodIn_r _ [12, 13, 14, 15, 16, 17, 18, 19, 20, 21, 22, 23, 24, 42, 43, 44, 45, 46, 47, 48, 49] (by decide +kernel) (by decide +kernel)
set_option maxRecDepth 20000 in
theorem gX4_empty_X7_empty : GoodIn wsX4_empty (wsV RX4 54 RX7 yX7_empty wsX7_empty) := goodIn_app (goodIn_of _ (by decide +kernel)) ggX4_empty_X7_empty
set_option maxRecDepth 20000 in
theorem ggX4_empty_X2_empty : GoodIn wsX4_empty wsX2_empty := goodIn_r _ [29, 30, 50, 51, 52] (by decide +kernel) (by decide +kernel)
set_option maxRecDepth 20000 in
theorem gX4_empty_X2_empty : GoodIn wsX4_empty (wsV RX4 57 RX2 yX2_empty wsX2_empty) := goodIn_app (goodIn_of _ (by decide +kernel)) ggX4_empty_X2_empty
theorem dX4_empty_0 : decode cX4_empty 0 = .ok (.aload_n 0, 1) := by decide +kernel
theorem dX4_empty_1 : decode cX4_empty 1 = .ok (.iconst 0, 1) := by decide +kernel
theorem dX4_empty_2 : decode cX4_empty 2 = .ok (.putfield 9, 3) := by decide +kernel
theorem dX4_empty_5 : decode cX4_empty 5 = .ok (.aload_n 0, 1) := by decide +kernel
theorem dX4_empty_6 : decode cX4_empty 6 = .ok (.iconst 0, 1) := by decide +kernel
theorem dX4_empty_7 : decode cX4_empty 7 = .ok (.putfield 15, 3) := by decide +kernel
theorem dX4_empty_10 : decode cX4_empty 10 = .ok (.aload_n 0, 1) := by decide +kernel
theorem dX4_empty_11 : decode cX4_empty 11 = .ok (.iconst 0, 1) := by decide +kernel
theorem dX4_empty_12 : decode cX4_empty 12 = .ok (.putfield 18, 3) := by decide +kernel
theorem dX4_empty_15 : decode cX4_empty 15 = .ok (.aload_n 0, 1) := by decide +kernel
theorem dX4_empty_16 : decode cX4_empty 16 = .ok (.iconst 0, 1) := by decide +kernel
theorem dX4_empty_17 : decode cX4_empty 17 = .ok (.putfield 21, 3) := by decide +kernel
theorem dX4_empty_20 : decode cX4_empty 20 = .ok (.aload_n 0, 1) := by decide +kernel
theorem dX4_empty_21 : decode cX4_empty 21 = .ok (.iconst 0, 1) := by decide +kernel
theorem dX4_empty_22 : decode cX4_empty 22 = .ok (.putfield 24, 3) := by decide +kernel
theorem dX4_empty_25 : decode cX4_empty 25 = .ok (.aload_n 0, 1) := by decide +kernel
theorem dX4_empty_26 : decode cX4_empty 26 = .ok (.getfield 40, 3) := by decide +kernel
theorem dX4_empty_29 : decode cX4_empty 29 = .ok (.invokevirtual 54, 3) := by decide +kernel
theorem dX4_empty_32 : decode cX4_empty 32 = .ok (.aload_n 0, 1) := by decide +kernel
theorem dX4_empty_33 : decode cX4_empty 33 = .ok (.getfield 47, 3) := by decide +kernel
theorem dX4_empty_36 : decode cX4_empty 36 = .ok (.invokevirtual 57, 3) := by decide +kernel
theorem dX4_empty_39 : decode cX4_empty 39 = .ok (.return_, 1) := by decide +kernel
set_option maxRecDepth 20000 in
theorem ggX5_read_X4_empty : GoodIn wsX5_read wsX4_empty := goodIn_r _ [17, 18, 19, 20, 21, 22, 23, 24, 25, 26, 27, 28, 29, 30, 31, 32, 33, 34, 35, 36, 37, 38, 39, 40, 41, 42, 43, 44, 45, 46, 47, 332, 333, 334, 335, 336, 337, 338, 339, 340, 341, 342, 343, 344, 345, 346, 347, 348, 349, 350, 351, 352, 353] (by decide +kernel) (by decide +kernel)
set_option maxRecDepth 20000 in
theorem gX5_read_X4_empty : GoodIn wsX5_read (wsV RX5 87 RX4 yX4_empty wsX4_empty) := goodIn_app (goodIn_of _ (by decide +kernel)) ggX5_read_X4_empty
set_option maxRecDepth 20000 in
theorem ggX5_read_X5_advance : GoodIn wsX5_read wsX5_advance := goodIn_r _ [52, 11, 53, 12, 54, 55, 56, 51, 57, 6, 1, 58, 59, 60, 61, 62, 63, 64, 65, 66, 67, 68, 69, 70, 71, 72, 73, 74, 75, 76, 77, 78, 79, 80, 81, 82, 83, 84, 85, 86, 87, 88, 89, 90, 91, 92, 93, 94, 95, 96, 97, 98, 99, 100, 101, 102, 103, 104, 105, 106, 107, 108, 109, 110, 111, 112, 113, 114, 115, 4, 116, 117, 3, 5, 118, 119, 120, 121, 122, 123, 124, 125, 126, 127, 128, 129, 130, 131, 132, 133, 134, 135, 136, 137, 138, 139, 140, 141, 142, 143, 144, 145, 146, 147, 148, 149, 150, 151, 152, 153, 154, 155, 156, 157, 158, 159, 160, 161, 162, 163, 164, 165, 166, 167, 168, 169, 170, 171, 317, 318, 319, 320, 321, 322, 323, 324, 325, 326, 327, 328, 329, 330, 331] (by decide +kernel) (by decide +kernel)
set_option maxRecDepth 20000 in
theorem gX5_read_X5_advance : GoodIn wsX5_read (wsV RX5 90 RX5 yX5_advance wsX5_advance) := goodIn_app (goodIn_of _ (by decide +kernel)) ggX5_read_X5_advance
set_option maxRecDepth 20000 in
theorem ggX5_read_X5_finish : GoodIn wsX5_read wsX5_finish := goodIn_r _ [309, 7, 222, 180, 310, 8, 247, 311, 312, 313, 45, 314, 315, 288, 289, 290, 291, 252, 253, 254, 47, 255, 316, 293, 294, 295, 317, 318, 319, 320, 321, 322, 323, 324, 325, 326, 327, 328, 329, 330, 331, 332, 333, 334, 335, 336, 337, 338, 339, 340, 341, 342, 343, 344, 345, 346, 347, 348, 349, 350, 351, 352, 353] (by decide +kernel) (by decide +kernel)
set_option maxRecDepth 20000 in
theorem gX5_read_X5_finish : GoodIn wsX5_read (wsV RX5 97 RX5 yX5_finish wsX5_finish) := goodIn_app (goodIn_of _ (by decide +kernel)) ggX5_read_X5_finish
theorem dX5_read_0 : decode cX5_read 0 = .ok (.aload_n 0, 1) := by decide +kernel
theorem dX5_read_1 : decode cX5_read 1 = .ok (.aload_n 1, 1) := by decide +kernel
theorem dX5_read_2 : decode cX5_read 2 = .ok (.putfield 38, 3) := by decide +kernel
theorem dX5_read_5 : decode cX5_read 5 = .ok (.aload_n 0, 1) := by decide +kernel
theorem dX5_read_6 : decode cX5_read 6 = .ok (.iload_n 2, 1) := by decide +kernel
theorem dX5_read_7 : decode cX5_read 7 = .ok (.aload_n 1, 1) := by decide +kernel
theorem dX5_read_8 : decode cX5_read 8 = .ok (.arraylength, 1) := by decide +kernel
theorem dX5_read_9 : decode cX5_read 9 = .ok (.invokestatic 81, 3) := by decide +kernel
theorem dX5_read_12 : decode cX5_read 12 = .ok (.putfield 42, 3) := by decide +kernel
theorem dX5_read_15 : decode cX5_read 15 = .ok (.aload_n 0, 1) := by decide +kernel
theorem dX5_read_16 : decode cX5_read 16 = .ok (.getfield 12, 3) := by decide +kernel
theorem dX5_read_19 : decode cX5_read 19 = .ok (.invokevirtual 87, 3) := by decide +kernel
theorem dX5_read_22 : decode cX5_read 22 = .ok (.aload_n 0, 1) := by decide +kernel
theorem dX5_read_23 : decode cX5_read 23 = .ok (.iconst 0, 1) := by decide +kernel
theorem dX5_read_24 : decode cX5_read 24 = .ok (.putfield 45, 3) := by decide +kernel
theorem dX5_read_27 : decode cX5_read 27 = .ok (.aload_n 0, 1) := by decide +kernel
theorem dX5_read_28 : decode cX5_read 28 = .ok (.iconst 0, 1) := by decide +kernel
theorem dX5_read_29 : decode cX5_read 29 = .ok (.putfield 18, 3) := by decide +kernel
theorem dX5_read_32 : decode cX5_read 32 = .ok (.aload_n 0, 1) := by decide +kernel
theorem dX5_read_33 : decode cX5_read 33 = .ok (.iconst (-1), 1) := by decide +kernel
theorem dX5_read_34 : decode cX5_read 34 = .ok (.putfield 22, 3) := by decide +kernel
theorem dX5_read_37 : decode cX5_read 37 = .ok (.aload_n 0, 1) := by decide +kernel
theorem dX5_read_38 : decode cX5_read 38 = .ok (.iconst 0, 1) := by decide +kernel
theorem dX5_read_39 : decode cX5_read 39 = .ok (.putfield 48, 3) := by decide +kernel
theorem dX5_read_42 : decode cX5_read 42 = .ok (.aload_n 0, 1) := by decide +kernel
theorem dX5_read_43 : decode cX5_read 43 = .ok (.invokevirtual 90, 3) := by decide +kernel
theorem dX5_read_46 : decode cX5_read 46 = .ok (.iconst 1, 1) := by decide +kernel
theorem dX5_read_47 : decode cX5_read 47 = .ok (.istore_n 3, 1) := by decide +kernel
theorem dX5_read_48 : decode cX5_read 48 = .ok (.iconst 0, 1) := by decide +kernel
theorem dX5_read_49 : decode cX5_read 49 = .ok (.istore 4, 2) := by decide +kernel
theorem dX5_read_51 : decode cX5_read 51 = .ok (.iload 4, 2) := by decide +kernel
theorem dX5_read_53 : decode cX5_read 53 = .ok (.aload_n 0, 1) := by decide +kernel
theorem dX5_read_54 : decode cX5_read 54 = .ok (.getfield 42, 3) := by decide +kernel
theorem dX5_read_57 : decode cX5_read 57 = .ok (.if_icmp .gt 28, 3) := by decide +kernel
theorem dX5_read_60 : decode cX5_read 60 = .ok (.iload_n 3, 1) := by decide +kernel
theorem dX5_read_61 : decode cX5_read 61 = .ok (.ifCond .eq 24, 3) := by decide +kernel
theorem dX5_read_64 : decode cX5_read 64 = .ok (.aload_n 0, 1) := by decide +kernel
theorem dX5_read_65 : decode cX5_read 65 = .ok (.getfield 54, 3) := by decide +kernel
theorem dX5_read_68 : decode cX5_read 68 = .ok (.sipush 258, 3) := by decide +kernel
theorem dX5_read_71 : decode cX5_read 71 = .ok (.if_icmp .eq 14, 3) := by decide +kernel
theorem dX5_read_85 : decode cX5_read 85 = .ok (.iload_n 3, 1) := by decide +kernel
theorem dX5_read_86 : decode cX5_read 86 = .ok (.ifCond .eq 7, 3) := by decide +kernel
theorem dX5_read_89 : decode cX5_read 89 = .ok (.aload_n 0, 1) := by decide +kernel
theorem dX5_read_90 : decode cX5_read 90 = .ok (.invokevirtual 97, 3) := by decide +kernel
theorem dX5_read_93 : decode cX5_read 93 = .ok (.iload_n 3, 1) := by decide +kernel
theorem dX5_read_94 : decode cX5_read 94 = .ok (.ireturn, 1) := by decide +kernel
set_option maxRecDepth 20000 in
theorem ggX5_finish_X2_addUntold : GoodIn wsX5_finish wsX2_addUntold := goodIn_r _ [11, 12, 13, 14, 10, 15, 16, 17, 18, 19, 20, 21, 22, 23, 24, 25, 60, 61, 62] (by decide +kernel) (by decide +kernel)
set_option maxRecDepth 20000 in
theorem gX5_finish_X2_addUntold : GoodIn wsX5_finish (wsV RX5 116 RX2 yX2_addUntold wsX2_addUntold) := goodIn_app (goodIn_of _ (by decide +kernel)) ggX5_finish_X2_addUntold
theorem dX5_finish_0 : decode cX5_finish 0 = .ok (.aload_n 0, 1) := by decide +kernel
theorem dX5_finish_1 : decode cX5_finish 1 = .ok (.getfield 12, 3) := by decide +kernel
theorem dX5_finish_4 : decode cX5_finish 4 = .ok (.getfield 100, 3) := by decide +kernel
theorem dX5_finish_7 : decode cX5_finish 7 = .ok (.iconst 1, 1) := by decide +kernel
theorem dX5_finish_8 : decode cX5_finish 8 = .ok (.aload_n 0, 1) := by decide +kernel
theorem dX5_finish_9 : decode cX5_finish 9 = .ok (.getfield 12, 3) := by decide +kernel
theorem dX5_finish_12 : decode cX5_finish 12 = .ok (.getfield 104, 3) := by decide +kernel
theorem dX5_finish_15 : decode cX5_finish 15 = .ok (.ishl, 1) := by decide +kernel
theorem dX5_finish_16 : decode cX5_finish 16 = .ok (.iconst 1, 1) := by decide +kernel
theorem dX5_finish_17 : decode cX5_finish 17 = .ok (.isub, 1) := by decide +kernel
theorem dX5_finish_18 : decode cX5_finish 18 = .ok (.putfield 107, 3) := by decide +kernel
theorem dX5_finish_21 : decode cX5_finish 21 = .ok (.aload_n 0, 1) := by decide +kernel
theorem dX5_finish_22 : decode cX5_finish 22 = .ok (.getfield 45, 3) := by decide +kernel
theorem dX5_finish_25 : decode cX5_finish 25 = .ok (.iconst 3, 1) := by decide +kernel
theorem dX5_finish_26 : decode cX5_finish 26 = .ok (.ishr, 1) := by decide +kernel
theorem dX5_finish_27 : decode cX5_finish 27 = .ok (.iconst 1, 1) := by decide +kernel
theorem dX5_finish_28 : decode cX5_finish 28 = .ok (.iand, 1) := by decide +kernel
theorem dX5_finish_29 : decode cX5_finish 29 = .ok (.ifCond .ne 13, 3) := by decide +kernel
theorem dX5_finish_32 : decode cX5_finish 32 = .ok (.aload_n 0, 1) := by decide +kernel
theorem dX5_finish_33 : decode cX5_finish 33 = .ok (.getfield 12, 3) := by decide +kernel
theorem dX5_finish_36 : decode cX5_finish 36 = .ok (.getfield 112, 3) := by decide +kernel
theorem dX5_finish_39 : decode cX5_finish 39 = .ok (.invokevirtual 116, 3) := by decide +kernel
theorem dX5_finish_42 : decode cX5_finish 42 = .ok (.return_, 1) := by decide +kernel
set_option maxRecDepth 20000 in
theorem ggX5_advance_X5_byteAt : GoodIn wsX5_advance wsX5_byteAt := goodIn_r _ [8, 9, 10, 128, 129, 130, 131, 132, 133, 134, 135, 136, 137, 138, 139, 140, 141, 142] (by decide +kernel) (by decide +kernel)
set_option maxRecDepth 20000 in
theorem gX5_advance_X5_byteAt : GoodIn wsX5_advance (wsV RX5 252 RX5 yX5_byteAt wsX5_byteAt) := goodIn_app (goodIn_of _ (by decide +kernel)) ggX5_advance_X5_byteAt
set_option maxRecDepth 20000 in
theorem ggX5_advance_X5_isBlank : GoodIn wsX5_advance wsX5_isBlank := goodIn_r _ [13] (by decide +kernel) (by decide +kernel)
set_option maxRecDepth 20000 in
theorem gX5_advance_X5_isBlank : GoodIn wsX5_advance (va_wsS RX5 255 yX5_isBlank wsX5_isBlank) := goodIn_app (goodIn_of _ (by decide +kernel)) ggX5_advance_X5_isBlank
theorem dX5_advance_0 : decode cX5_advance 0 = .ok (.iconst 0, 1) := by decide +kernel
theorem dX5_advance_1 : decode cX5_advance 1 = .ok (.istore_n 1, 1) := by decide +kernel
theorem dX5_advance_2 : decode cX5_advance 2 = .ok (.iload_n 1, 1) := by decide +kernel
theorem dX5_advance_3 : decode cX5_advance 3 = .ok (.sipush 1600, 3) := by decide +kernel
theorem dX5_advance_6 : decode cX5_advance 6 = .ok (.if_icmp .ge 33, 3) := by decide +kernel
theorem dX5_advance_9 : decode cX5_advance 9 = .ok (.aload_n 0, 1) := by decide +kernel
theorem dX5_advance_10 : decode cX5_advance 10 = .ok (.aload_n 0, 1) := by decide +kernel
theorem dX5_advance_11 : decode cX5_advance 11 = .ok (.getfield 48, 3) := by decide +kernel
theorem dX5_advance_14 : decode cX5_advance 14 = .ok (.invokevirtual 252, 3) := by decide +kernel
theorem dX5_advance_17 : decode cX5_advance 17 = .ok (.invokestatic 255, 3) := by decide +kernel
theorem dX5_advance_20 : decode cX5_advance 20 = .ok (.ifCond .eq 19, 3) := by decide +kernel
theorem dX5_advance_39 : decode cX5_advance 39 = .ok (.aload_n 0, 1) := by decide +kernel
theorem dX5_advance_40 : decode cX5_advance 40 = .ok (.aload_n 0, 1) := by decide +kernel
theorem dX5_advance_41 : decode cX5_advance 41 = .ok (.getfield 48, 3) := by decide +kernel
theorem dX5_advance_44 : decode cX5_advance 44 = .ok (.putfield 51, 3) := by decide +kernel
theorem dX5_advance_47 : decode cX5_advance 47 = .ok (.aload_n 0, 1) := by decide +kernel
theorem dX5_advance_48 : decode cX5_advance 48 = .ok (.aload_n 0, 1) := by decide +kernel
theorem dX5_advance_49 : decode cX5_advance 49 = .ok (.getfield 48, 3) := by decide +kernel
theorem dX5_advance_52 : decode cX5_advance 52 = .ok (.invokevirtual 252, 3) := by decide +kernel
theorem dX5_advance_55 : decode cX5_advance 55 = .ok (.istore_n 1, 1) := by decide +kernel
theorem dX5_advance_56 : decode cX5_advance 56 = .ok (.iload_n 1, 1) := by decide +kernel
theorem dX5_advance_57 : decode cX5_advance 57 = .ok (.ifCond .ge 13, 3) := by decide +kernel
theorem dX5_advance_60 : decode cX5_advance 60 = .ok (.aload_n 0, 1) := by decide +kernel
theorem dX5_advance_61 : decode cX5_advance 61 = .ok (.sipush 258, 3) := by decide +kernel
theorem dX5_advance_64 : decode cX5_advance 64 = .ok (.putfield 54, 3) := by decide +kernel
theorem dX5_advance_67 : decode cX5_advance 67 = .ok (.goto 67, 3) := by decide +kernel
theorem dX5_advance_134 : decode cX5_advance 134 = .ok (.return_, 1) := by decide +kernel
theorem dX5_byteAt_0 : decode cX5_byteAt 0 = .ok (.iload_n 1, 1) := by decide +kernel
theorem dX5_byteAt_1 : decode cX5_byteAt 1 = .ok (.ifCond .lt 33, 3) := by decide +kernel
theorem dX5_byteAt_4 : decode cX5_byteAt 4 = .ok (.iload_n 1, 1) := by decide +kernel
theorem dX5_byteAt_5 : decode cX5_byteAt 5 = .ok (.aload_n 0, 1) := by decide +kernel
theorem dX5_byteAt_6 : decode cX5_byteAt 6 = .ok (.getfield 42, 3) := by decide +kernel
theorem dX5_byteAt_9 : decode cX5_byteAt 9 = .ok (.if_icmp .ge 25, 3) := by decide +kernel
theorem dX5_byteAt_34 : decode cX5_byteAt 34 = .ok (.iconst (-1), 1) := by decide +kernel
theorem dX5_byteAt_35 : decode cX5_byteAt 35 = .ok (.ireturn, 1) := by decide +kernel
theorem dX5_isBlank_0 : decode cX5_isBlank 0 = .ok (.iload_n 0, 1) := by decide +kernel
theorem dX5_isBlank_1 : decode cX5_isBlank 1 = .ok (.bipush 32, 2) := by decide +kernel
theorem dX5_isBlank_3 : decode cX5_isBlank 3 = .ok (.if_icmp .eq 9, 3) := by decide +kernel
theorem dX5_isBlank_6 : decode cX5_isBlank 6 = .ok (.iload_n 0, 1) := by decide +kernel
theorem dX5_isBlank_7 : decode cX5_isBlank 7 = .ok (.bipush 10, 2) := by decide +kernel
theorem dX5_isBlank_9 : decode cX5_isBlank 9 = .ok (.if_icmp .ne 7, 3) := by decide +kernel
theorem dX5_isBlank_16 : decode cX5_isBlank 16 = .ok (.iconst 0, 1) := by decide +kernel
theorem dX5_isBlank_17 : decode cX5_isBlank 17 = .ok (.ireturn, 1) := by decide +kernel
theorem dX6_forget_0 : decode cX6_forget 0 = .ok (.aload_n 0, 1) := by decide +kernel
theorem dX6_forget_1 : decode cX6_forget 1 = .ok (.iconst 0, 1) := by decide +kernel
theorem dX6_forget_2 : decode cX6_forget 2 = .ok (.putfield 9, 3) := by decide +kernel
theorem dX6_forget_5 : decode cX6_forget 5 = .ok (.aload_n 0, 1) := by decide +kernel
theorem dX6_forget_6 : decode cX6_forget 6 = .ok (.iconst 0, 1) := by decide +kernel
theorem dX6_forget_7 : decode cX6_forget 7 = .ok (.putfield 35, 3) := by decide +kernel
theorem dX6_forget_10 : decode cX6_forget 10 = .ok (.return_, 1) := by decide +kernel
set_option maxRecDepth 20000 in
theorem ggX7_empty_J7_fill_53178 : GoodIn wsX7_empty wsJ7_fill_53178 := goodIn_r _ [12] (by decide +kernel) (by decide +kernel)
set_option maxRecDepth 20000 in
theorem gX7_empty_J7_fill_53178 : GoodIn wsX7_empty (va_wsS RX7 37 yJ7_fill_53178 wsJ7_fill_53178) := goodIn_app (goodIn_of _ (by decide +kernel)) ggX7_empty_J7_fill_53178
theorem dX7_empty_0 : decode cX7_empty 0 = .ok (.aload_n 0, 1) := by decide +kernel
theorem dX7_empty_1 : decode cX7_empty 1 = .ok (.getfield 9, 3) := by decide +kernel
theorem dX7_empty_4 : decode cX7_empty 4 = .ok (.iconst (-1), 1) := by decide +kernel
theorem dX7_empty_5 : decode cX7_empty 5 = .ok (.invokestatic 37, 3) := by decide +kernel
theorem dX7_empty_8 : decode cX7_empty 8 = .ok (.aload_n 0, 1) := by decide +kernel
theorem dX7_empty_9 : decode cX7_empty 9 = .ok (.getfield 15, 3) := by decide +kernel
theorem dX7_empty_12 : decode cX7_empty 12 = .ok (.iconst (-1), 1) := by decide +kernel
theorem dX7_empty_13 : decode cX7_empty 13 = .ok (.invokestatic 37, 3) := by decide +kernel
theorem dX7_empty_16 : decode cX7_empty 16 = .ok (.aload_n 0, 1) := by decide +kernel
theorem dX7_empty_17 : decode cX7_empty 17 = .ok (.getfield 18, 3) := by decide +kernel
theorem dX7_empty_20 : decode cX7_empty 20 = .ok (.iconst 0, 1) := by decide +kernel
theorem dX7_empty_21 : decode cX7_empty 21 = .ok (.invokestatic 37, 3) := by decide +kernel
theorem dX7_empty_24 : decode cX7_empty 24 = .ok (.aload_n 0, 1) := by decide +kernel
theorem dX7_empty_25 : decode cX7_empty 25 = .ok (.getfield 21, 3) := by decide +kernel
theorem dX7_empty_28 : decode cX7_empty 28 = .ok (.iconst 0, 1) := by decide +kernel
theorem dX7_empty_29 : decode cX7_empty 29 = .ok (.invokestatic 37, 3) := by decide +kernel
theorem dX7_empty_32 : decode cX7_empty 32 = .ok (.aload_n 0, 1) := by decide +kernel
theorem dX7_empty_33 : decode cX7_empty 33 = .ok (.getfield 24, 3) := by decide +kernel
theorem dX7_empty_36 : decode cX7_empty 36 = .ok (.iconst 0, 1) := by decide +kernel
theorem dX7_empty_37 : decode cX7_empty 37 = .ok (.invokestatic 37, 3) := by decide +kernel
theorem dX7_empty_40 : decode cX7_empty 40 = .ok (.aload_n 0, 1) := by decide +kernel
theorem dX7_empty_41 : decode cX7_empty 41 = .ok (.iconst 0, 1) := by decide +kernel
theorem dX7_empty_42 : decode cX7_empty 42 = .ok (.putfield 27, 3) := by decide +kernel
theorem dX7_empty_45 : decode cX7_empty 45 = .ok (.aload_n 0, 1) := by decide +kernel
theorem dX7_empty_46 : decode cX7_empty 46 = .ok (.iconst 0, 1) := by decide +kernel
theorem dX7_empty_47 : decode cX7_empty 47 = .ok (.putfield 31, 3) := by decide +kernel
theorem dX7_empty_50 : decode cX7_empty 50 = .ok (.aload_n 0, 1) := by decide +kernel
theorem dX7_empty_51 : decode cX7_empty 51 = .ok (.iconst 0, 1) := by decide +kernel
theorem dX7_empty_52 : decode cX7_empty 52 = .ok (.putfield 34, 3) := by decide +kernel
theorem dX7_empty_55 : decode cX7_empty 55 = .ok (.return_, 1) := by decide +kernel
set_option maxRecDepth 20000 in
theorem ggX8_mews_X5_read : GoodIn wsX8_mews wsX5_read := goodIn_r _ [16, 17, 18, 19, 20, 21, 22, 23, 24, 25, 26, 27, 28, 29, 30, 31, 32, 33, 34, 35, 36, 37, 38, 39, 40, 41, 42, 43, 44, 45, 46, 47, 48, 49, 50, 51, 52, 53, 54, 55, 56, 57, 58, 59, 60, 61, 62, 63, 64, 65, 66, 15, 67, 68, 69, 70, 71, 72, 73, 74, 75, 76, 77, 78, 79, 80, 81, 82, 83, 84, 85, 86, 87, 88, 89, 90, 91, 92, 93, 94, 95, 96, 97, 98, 99, 100, 101, 102, 103, 104, 105, 106, 107, 108, 109, 110, 111, 112, 113, 114, 115, 116, 117, 118, 119, 120, 121, 122, 123, 124, 125, 126, 127, 128, 129, 130, 131, 132, 133, 134, 135, 136, 137, 138, 139, 140, 141, 142, 143, 144, 145, 146, 147, 148, 149, 150, 151, 152, 153, 154, 155, 156, 157, 158, 159, 160, 161, 162, 163, 164, 165, 166, 167, 168, 169, 170, 171, 172, 173, 174, 175, 176, 177, 178, 179, 180, 181, 182, 183, 184, 185, 186, 187, 188, 189, 190, 191, 192, 193, 194, 195, 196, 197, 198, 199, 200, 201, 202, 203, 204, 205, 206, 207, 208, 209, 210, 211, 212, 213, 214, 215, 216, 217, 218, 219, 220, 221, 222, 223, 224, 225, 226, 227, 228, 229, 230, 231, 232, 233, 234, 235, 236, 237, 238, 239, 240, 241, 242, 243, 244, 245, 246, 247, 248, 249, 250, 251, 252, 253, 254, 255, 256, 257, 258, 259, 260, 261, 262, 263, 264, 265, 266, 267, 268, 269, 270, 271, 272, 273, 274, 275, 276, 277, 278, 279, 280, 281, 282, 283, 284, 285, 286, 287, 288, 289, 290, 291, 292, 293, 294, 295, 296, 297, 298, 299, 300, 301, 302, 303, 304, 305, 306, 307, 308, 309, 310, 311, 312, 313, 314, 315, 316, 317, 318, 319, 320, 321, 322, 323, 324, 325, 326, 327, 328, 329, 330, 331, 370, 371, 372, 373, 374, 375, 376, 377, 378, 379, 380, 381, 382, 383, 384, 385, 386, 387, 388, 389, 390, 391, 392, 393, 394, 395, 396, 397, 398, 399, 400, 401, 402, 403, 404, 405, 406] (by decide +kernel) (by decide +kernel)
set_option maxRecDepth 20000 in
theorem gX8_mews_X5_read : GoodIn wsX8_mews (wsV RX8 87 RX5 yX5_read wsX5_read) := goodIn_app (goodIn_of _ (by decide +kernel)) ggX8_mews_X5_read
set_option maxRecDepth 20000 in
theorem ggX8_mews_X0_startFrom : GoodIn wsX8_mews wsX0_startFrom := goodIn_r _ [336, 337, 338, 339, 340, 341, 342, 343, 44, 344, 46, 345, 346, 347, 348, 47, 48, 49, 50, 51, 52, 53, 407, 408, 409, 410, 396, 397, 398, 399, 400, 401, 402, 403] (by decide +kernel) (by decide +kernel)
set_option maxRecDepth 20000 in
theorem gX8_mews_X0_startFrom : GoodIn wsX8_mews (wsV RX8 95 RX0 yX0_startFrom wsX0_startFrom) := goodIn_app (goodIn_of _ (by decide +kernel)) ggX8_mews_X0_startFrom
set_option maxRecDepth 20000 in
theorem ggX8_mews_X6_forget : GoodIn wsX8_mews wsX6_forget := goodIn_r _ [353, 354, 355, 411, 412, 413, 414, 415, 416, 417, 418, 419] (by decide +kernel) (by decide +kernel)
set_option maxRecDepth 20000 in
theorem gX8_mews_X6_forget : GoodIn wsX8_mews (wsV RX8 99 RX6 yX6_forget wsX6_forget) := goodIn_app (goodIn_of _ (by decide +kernel)) ggX8_mews_X6_forget
theorem dX8_mews_0 : decode cX8_mews 0 = .ok (.aload_n 0, 1) := by decide +kernel
theorem dX8_mews_1 : decode cX8_mews 1 = .ok (.getfield 20, 3) := by decide +kernel
theorem dX8_mews_4 : decode cX8_mews 4 = .ok (.aload_n 0, 1) := by decide +kernel
theorem dX8_mews_5 : decode cX8_mews 5 = .ok (.getfield 9, 3) := by decide +kernel
theorem dX8_mews_8 : decode cX8_mews 8 = .ok (.aload_n 0, 1) := by decide +kernel
theorem dX8_mews_9 : decode cX8_mews 9 = .ok (.getfield 13, 3) := by decide +kernel
theorem dX8_mews_12 : decode cX8_mews 12 = .ok (.invokevirtual 87, 3) := by decide +kernel
theorem dX8_mews_15 : decode cX8_mews 15 = .ok (.ifCond .ne 5, 3) := by decide +kernel
theorem dX8_mews_20 : decode cX8_mews 20 = .ok (.aload_n 0, 1) := by decide +kernel
theorem dX8_mews_21 : decode cX8_mews 21 = .ok (.getfield 27, 3) := by decide +kernel
theorem dX8_mews_24 : decode cX8_mews 24 = .ok (.astore_n 1, 1) := by decide +kernel
theorem dX8_mews_25 : decode cX8_mews 25 = .ok (.aload_n 0, 1) := by decide +kernel
theorem dX8_mews_26 : decode cX8_mews 26 = .ok (.aload_n 0, 1) := by decide +kernel
theorem dX8_mews_27 : decode cX8_mews 27 = .ok (.getfield 20, 3) := by decide +kernel
theorem dX8_mews_30 : decode cX8_mews 30 = .ok (.getfield 91, 3) := by decide +kernel
theorem dX8_mews_33 : decode cX8_mews 33 = .ok (.putfield 27, 3) := by decide +kernel
theorem dX8_mews_36 : decode cX8_mews 36 = .ok (.aload_n 0, 1) := by decide +kernel
theorem dX8_mews_37 : decode cX8_mews 37 = .ok (.getfield 20, 3) := by decide +kernel
theorem dX8_mews_40 : decode cX8_mews 40 = .ok (.aload_n 1, 1) := by decide +kernel
theorem dX8_mews_41 : decode cX8_mews 41 = .ok (.putfield 91, 3) := by decide +kernel
theorem dX8_mews_44 : decode cX8_mews 44 = .ok (.aload_n 0, 1) := by decide +kernel
theorem dX8_mews_45 : decode cX8_mews 45 = .ok (.iconst 0, 1) := by decide +kernel
theorem dX8_mews_46 : decode cX8_mews 46 = .ok (.putfield 13, 3) := by decide +kernel
theorem dX8_mews_49 : decode cX8_mews 49 = .ok (.aload_n 0, 1) := by decide +kernel
theorem dX8_mews_50 : decode cX8_mews 50 = .ok (.getfield 34, 3) := by decide +kernel
theorem dX8_mews_53 : decode cX8_mews 53 = .ok (.aload_n 0, 1) := by decide +kernel
theorem dX8_mews_54 : decode cX8_mews 54 = .ok (.getfield 27, 3) := by decide +kernel
theorem dX8_mews_57 : decode cX8_mews 57 = .ok (.getfield 92, 3) := by decide +kernel
theorem dX8_mews_60 : decode cX8_mews 60 = .ok (.invokevirtual 95, 3) := by decide +kernel
theorem dX8_mews_63 : decode cX8_mews 63 = .ok (.aload_n 0, 1) := by decide +kernel
theorem dX8_mews_64 : decode cX8_mews 64 = .ok (.getfield 76, 3) := by decide +kernel
theorem dX8_mews_67 : decode cX8_mews 67 = .ok (.invokevirtual 99, 3) := by decide +kernel
theorem dX8_mews_70 : decode cX8_mews 70 = .ok (.aload_n 0, 1) := by decide +kernel
theorem dX8_mews_71 : decode cX8_mews 71 = .ok (.iconst 0, 1) := by decide +kernel
theorem dX8_mews_72 : decode cX8_mews 72 = .ok (.putfield 70, 3) := by decide +kernel
theorem dX8_mews_75 : decode cX8_mews 75 = .ok (.aload_n 0, 1) := by decide +kernel
theorem dX8_mews_76 : decode cX8_mews 76 = .ok (.iconst 0, 1) := by decide +kernel
theorem dX8_mews_77 : decode cX8_mews 77 = .ok (.putfield 49, 3) := by decide +kernel
theorem dX8_mews_80 : decode cX8_mews 80 = .ok (.aload_n 0, 1) := by decide +kernel
theorem dX8_mews_81 : decode cX8_mews 81 = .ok (.getfield 27, 3) := by decide +kernel
theorem dX8_mews_84 : decode cX8_mews 84 = .ok (.getfield 102, 3) := by decide +kernel
theorem dX8_mews_87 : decode cX8_mews 87 = .ok (.ireturn, 1) := by decide +kernel
set_option maxRecDepth 20000 in
theorem ggX8_image_X0_current : GoodIn wsX8_image wsX0_current := goodIn_r _ [9, 10, 11, 51, 52, 53, 54] (by decide +kernel) (by decide +kernel)
set_option maxRecDepth 20000 in
theorem gX8_image_X0_current : GoodIn wsX8_image (wsV RX8 115 RX0 yX0_current wsX0_current) := goodIn_app (goodIn_of _ (by decide +kernel)) ggX8_image_X0_current
set_option maxRecDepth 20000 in
theorem ggX8_image_X7_copyOf : GoodIn wsX8_image wsX7_copyOf := goodIn_r _ [16, 17, 18, 19, 20, 21, 22, 23, 24, 25, 26, 27, 28, 43, 44, 45, 46, 47, 48, 49, 50] (by decide +kernel) (by decide +kernel)
set_option maxRecDepth 20000 in
theorem gX8_image_X7_copyOf : GoodIn wsX8_image (wsV RX8 210 RX7 yX7_copyOf wsX7_copyOf) := goodIn_app (goodIn_of _ (by decide +kernel)) ggX8_image_X7_copyOf
theorem dX8_image_0 : decode cX8_image 0 = .ok (.iload_n 1, 1) := by decide +kernel
theorem dX8_image_1 : decode cX8_image 1 = .ok (.ifCond .lt 12, 3) := by decide +kernel
theorem dX8_image_4 : decode cX8_image 4 = .ok (.iload_n 1, 1) := by decide +kernel
theorem dX8_image_5 : decode cX8_image 5 = .ok (.aload_n 0, 1) := by decide +kernel
theorem dX8_image_6 : decode cX8_image 6 = .ok (.getfield 45, 3) := by decide +kernel
theorem dX8_image_9 : decode cX8_image 9 = .ok (.arraylength, 1) := by decide +kernel
theorem dX8_image_10 : decode cX8_image 10 = .ok (.if_icmp .lt 5, 3) := by decide +kernel
theorem dX8_image_13 : decode cX8_image 13 = .ok (.iconst (-1), 1) := by decide +kernel
theorem dX8_image_14 : decode cX8_image 14 = .ok (.ireturn, 1) := by decide +kernel
theorem dX8_image_15 : decode cX8_image 15 = .ok (.aload_n 0, 1) := by decide +kernel
theorem dX8_image_16 : decode cX8_image 16 = .ok (.getfield 34, 3) := by decide +kernel
theorem dX8_image_19 : decode cX8_image 19 = .ok (.invokevirtual 115, 3) := by decide +kernel
theorem dX8_image_22 : decode cX8_image 22 = .ok (.astore_n 2, 1) := by decide +kernel
theorem dX8_image_23 : decode cX8_image 23 = .ok (.aload_n 0, 1) := by decide +kernel
theorem dX8_image_24 : decode cX8_image 24 = .ok (.getfield 45, 3) := by decide +kernel
theorem dX8_image_27 : decode cX8_image 27 = .ok (.iload_n 1, 1) := by decide +kernel
theorem dX8_image_28 : decode cX8_image 28 = .ok (.aaload, 1) := by decide +kernel
theorem dX8_image_29 : decode cX8_image 29 = .ok (.aload_n 2, 1) := by decide +kernel
theorem dX8_image_30 : decode cX8_image 30 = .ok (.invokevirtual 210, 3) := by decide +kernel
theorem dX8_image_33 : decode cX8_image 33 = .ok (.aload_n 0, 1) := by decide +kernel
theorem dX8_image_34 : decode cX8_image 34 = .ok (.dup, 1) := by decide +kernel
theorem dX8_image_35 : decode cX8_image 35 = .ok (.getfield 49, 3) := by decide +kernel
theorem dX8_image_38 : decode cX8_image 38 = .ok (.iconst 1, 1) := by decide +kernel
theorem dX8_image_39 : decode cX8_image 39 = .ok (.iload_n 1, 1) := by decide +kernel
theorem dX8_image_40 : decode cX8_image 40 = .ok (.ishl, 1) := by decide +kernel
theorem dX8_image_41 : decode cX8_image 41 = .ok (.ior, 1) := by decide +kernel
theorem dX8_image_42 : decode cX8_image 42 = .ok (.putfield 49, 3) := by decide +kernel
theorem dX8_image_45 : decode cX8_image 45 = .ok (.aload_n 2, 1) := by decide +kernel
theorem dX8_image_46 : decode cX8_image 46 = .ok (.getfield 176, 3) := by decide +kernel
theorem dX8_image_49 : decode cX8_image 49 = .ok (.ireturn, 1) := by decide +kernel
theorem dJ7_fill_53178_0 : decode cJ7_fill_53178 0 = .ok (.iconst 0, 1) := by decide +kernel
theorem dJ7_fill_53178_1 : decode cJ7_fill_53178 1 = .ok (.istore_n 2, 1) := by decide +kernel
theorem dJ7_fill_53178_2 : decode cJ7_fill_53178 2 = .ok (.aload_n 0, 1) := by decide +kernel
theorem dJ7_fill_53178_3 : decode cJ7_fill_53178 3 = .ok (.arraylength, 1) := by decide +kernel
theorem dJ7_fill_53178_4 : decode cJ7_fill_53178 4 = .ok (.istore_n 3, 1) := by decide +kernel
theorem dJ7_fill_53178_5 : decode cJ7_fill_53178 5 = .ok (.iload_n 2, 1) := by decide +kernel
theorem dJ7_fill_53178_6 : decode cJ7_fill_53178 6 = .ok (.iload_n 3, 1) := by decide +kernel
theorem dJ7_fill_53178_7 : decode cJ7_fill_53178 7 = .ok (.if_icmp .ge 13, 3) := by decide +kernel
theorem dJ7_fill_53178_10 : decode cJ7_fill_53178 10 = .ok (.aload_n 0, 1) := by decide +kernel
theorem dJ7_fill_53178_11 : decode cJ7_fill_53178 11 = .ok (.iload_n 2, 1) := by decide +kernel
theorem dJ7_fill_53178_12 : decode cJ7_fill_53178 12 = .ok (.iload_n 1, 1) := by decide +kernel
theorem dJ7_fill_53178_13 : decode cJ7_fill_53178 13 = .ok (.iastore, 1) := by decide +kernel
theorem dJ7_fill_53178_14 : decode cJ7_fill_53178 14 = .ok (.iinc 2 1, 3) := by decide +kernel
theorem dJ7_fill_53178_17 : decode cJ7_fill_53178 17 = .ok (.goto (-12), 3) := by decide +kernel
theorem dJ7_fill_53178_20 : decode cJ7_fill_53178 20 = .ok (.return_, 1) := by decide +kernel
theorem iX8_image_X8 : ∀ w ∈ wsX80, w ∈ wsX8_image := (fun _ h => List.mem_cons_of_mem _ (List.mem_append_left _ (List.mem_append_left _ (List.mem_append_right _ h))))
theorem iX8_image_X7 : ∀ w ∈ wsX70, w ∈ wsX8_image := (fun _ h => List.mem_cons_of_mem _ (List.mem_append_left _ (List.mem_append_right _ h)))
theorem iX7_empty_X7 : ∀ w ∈ wsX70, w ∈ wsX7_empty := (fun _ h => List.mem_cons_of_mem _ (List.mem_append_right _ h))
theorem iX2_empty_X2 : ∀ w ∈ wsX20, w ∈ wsX2_empty := (fun _ h => List.mem_cons_of_mem _ (List.mem_append_right _ h))
theorem iX2_addStep_X2 : ∀ w ∈ wsX20, w ∈ wsX2_addStep := (fun _ h => List.mem_cons_of_mem _ (List.mem_append_right _ h))
theorem iX4_empty_X4 : ∀ w ∈ wsX40, w ∈ wsX4_empty := (fun _ h => List.mem_cons_of_mem _ (List.mem_append_left _ (List.mem_append_left _ (List.mem_append_right _ h))))
theorem iX5_byteAt_X5 : ∀ w ∈ wsX50, w ∈ wsX5_byteAt := (fun _ h => List.mem_cons_of_mem _ (List.mem_append_right _ h))
theorem iX5_advance_X5 : ∀ w ∈ wsX50, w ∈ wsX5_advance := (fun _ h => List.mem_cons_of_mem _ (List.mem_append_right _ h))
theorem iX5_finish_X5 : ∀ w ∈ wsX50, w ∈ wsX5_finish := (fun _ h => List.mem_cons_of_mem _ (List.mem_append_left _ (List.mem_append_left _ (List.mem_append_left _ (List.mem_append_right _ h)))))
theorem iX5_finish_X4 : ∀ w ∈ wsX40, w ∈ wsX5_finish := (fun _ h => List.mem_cons_of_mem _ (List.mem_append_left _ (List.mem_append_left _ (List.mem_append_right _ h))))
theorem iX5_finish_X7 : ∀ w ∈ wsX70, w ∈ wsX5_finish := (fun _ h => List.mem_cons_of_mem _ (List.mem_append_left _ (List.mem_append_right _ h)))
theorem iX5_read_X5 : ∀ w ∈ wsX50, w ∈ wsX5_read := (fun _ h => List.mem_cons_of_mem _ (List.mem_append_left _ (List.mem_append_left _ (List.mem_append_left _ (List.mem_append_right _ h)))))
theorem iX0_startFrom_X0 : ∀ w ∈ wsX00, w ∈ wsX0_startFrom := (fun _ h => List.mem_cons_of_mem _ (List.mem_append_left _ (List.mem_append_right _ h)))
theorem iX6_forget_X6 : ∀ w ∈ wsX60, w ∈ wsX6_forget := (fun _ h => List.mem_cons_of_mem _ (List.mem_append_right _ h))
theorem iX8_mews_X8 : ∀ w ∈ wsX80, w ∈ wsX8_mews := (fun _ h => List.mem_cons_of_mem _ (List.mem_append_left _ (List.mem_append_left _ (List.mem_append_left _ (List.mem_append_left _ (List.mem_append_left _ (List.mem_append_left _ (List.mem_append_right _ h))))))))
theorem iX8_mews_X5 : ∀ w ∈ wsX50, w ∈ wsX8_mews := (fun _ h => List.mem_cons_of_mem _ (List.mem_append_left _ (List.mem_append_left _ (List.mem_append_left _ (List.mem_append_left _ (List.mem_append_left _ (List.mem_append_right _ h)))))))
theorem iX8_mews_X4 : ∀ w ∈ wsX40, w ∈ wsX8_mews := (fun _ h => List.mem_cons_of_mem _ (List.mem_append_left _ (List.mem_append_left _ (List.mem_append_left _ (List.mem_append_left _ (List.mem_append_right _ h))))))
