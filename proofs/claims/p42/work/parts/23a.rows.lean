theorem kc_m30 : iv (-30 : Int32) (-30) (-30) := ⟨by decide, by decide⟩
theorem kc_m29 : iv (-29 : Int32) (-29) (-29) := ⟨by decide, by decide⟩
theorem kc_m28 : iv (-28 : Int32) (-28) (-28) := ⟨by decide, by decide⟩
theorem kc_m27 : iv (-27 : Int32) (-27) (-27) := ⟨by decide, by decide⟩
theorem kc_m26 : iv (-26 : Int32) (-26) (-26) := ⟨by decide, by decide⟩
theorem kc_m25 : iv (-25 : Int32) (-25) (-25) := ⟨by decide, by decide⟩
theorem kc_m24 : iv (-24 : Int32) (-24) (-24) := ⟨by decide, by decide⟩
theorem kc_m23 : iv (-23 : Int32) (-23) (-23) := ⟨by decide, by decide⟩
theorem kc_m22 : iv (-22 : Int32) (-22) (-22) := ⟨by decide, by decide⟩
theorem kc_m21 : iv (-21 : Int32) (-21) (-21) := ⟨by decide, by decide⟩
theorem kc_m20 : iv (-20 : Int32) (-20) (-20) := ⟨by decide, by decide⟩
theorem kc_m1 : iv (-1 : Int32) (-1) (-1) := ⟨by decide, by decide⟩
theorem kc_0 : iv (0 : Int32) 0 0 := ⟨by decide, by decide⟩
theorem kc_1 : iv (1 : Int32) 1 1 := ⟨by decide, by decide⟩
theorem kc_2 : iv (2 : Int32) 2 2 := ⟨by decide, by decide⟩
theorem kc_7 : iv (7 : Int32) 7 7 := ⟨by decide, by decide⟩
theorem kc_8 : iv (8 : Int32) 8 8 := ⟨by decide, by decide⟩
theorem kc_30 : iv (30 : Int32) 30 30 := ⟨by decide, by decide⟩
theorem kc_40 : iv (40 : Int32) 40 40 := ⟨by decide, by decide⟩
theorem kc_41 : iv (41 : Int32) 41 41 := ⟨by decide, by decide⟩
theorem kc_270 : iv (270 : Int32) 270 270 := ⟨by decide, by decide⟩
theorem ki_m1 : iv (Int32.ofInt (-1)) (-1) (-1) := ⟨by decide, by decide⟩
theorem ki_1 : iv (Int32.ofInt 1) 1 1 := ⟨by decide, by decide⟩
theorem dX0_current_0 : decode cX0_current 0 = .ok (.aload_n 0, 1) := by decide +kernel
theorem dX0_current_1 : decode cX0_current 1 = .ok (.getfield 20, 3) := by decide +kernel
theorem dX0_current_4 : decode cX0_current 4 = .ok (.aload_n 0, 1) := by decide +kernel
theorem dX0_current_5 : decode cX0_current 5 = .ok (.getfield 24, 3) := by decide +kernel
theorem dX0_current_8 : decode cX0_current 8 = .ok (.aaload, 1) := by decide +kernel
theorem dX0_current_9 : decode cX0_current 9 = .ok (.areturn, 1) := by decide +kernel
set_option maxRecDepth 20000 in
theorem ggX0_begin_X7_copyOf : GoodIn wsX0_begin wsX7_copyOf := goodIn_r _ [13, 14, 15, 16, 17, 18, 19, 20, 21, 22, 23, 24, 25, 30, 31, 32, 33, 34, 35, 36, 37] (by decide +kernel) (by decide +kernel)
set_option maxRecDepth 20000 in
theorem gX0_begin_X7_copyOf : GoodIn wsX0_begin (wsV RX0 28 RX7 yX7_copyOf wsX7_copyOf) := goodIn_app (goodIn_of _ (by decide +kernel)) ggX0_begin_X7_copyOf
theorem dX0_begin_0 : decode cX0_begin 0 = .ok (.aload_n 0, 1) := by decide +kernel
theorem dX0_begin_1 : decode cX0_begin 1 = .ok (.getfield 20, 3) := by decide +kernel
theorem dX0_begin_4 : decode cX0_begin 4 = .ok (.aload_n 0, 1) := by decide +kernel
theorem dX0_begin_5 : decode cX0_begin 5 = .ok (.getfield 24, 3) := by decide +kernel
theorem dX0_begin_8 : decode cX0_begin 8 = .ok (.aaload, 1) := by decide +kernel
theorem dX0_begin_9 : decode cX0_begin 9 = .ok (.astore_n 1, 1) := by decide +kernel
theorem dX0_begin_10 : decode cX0_begin 10 = .ok (.aload_n 0, 1) := by decide +kernel
theorem dX0_begin_11 : decode cX0_begin 11 = .ok (.aload_n 0, 1) := by decide +kernel
theorem dX0_begin_12 : decode cX0_begin 12 = .ok (.getfield 24, 3) := by decide +kernel
theorem dX0_begin_15 : decode cX0_begin 15 = .ok (.iconst 1, 1) := by decide +kernel
theorem dX0_begin_16 : decode cX0_begin 16 = .ok (.iadd, 1) := by decide +kernel
theorem dX0_begin_17 : decode cX0_begin 17 = .ok (.bipush 41, 2) := by decide +kernel
theorem dX0_begin_19 : decode cX0_begin 19 = .ok (.irem, 1) := by decide +kernel
theorem dX0_begin_20 : decode cX0_begin 20 = .ok (.putfield 24, 3) := by decide +kernel
theorem dX0_begin_23 : decode cX0_begin 23 = .ok (.aload_n 0, 1) := by decide +kernel
theorem dX0_begin_24 : decode cX0_begin 24 = .ok (.getfield 20, 3) := by decide +kernel
theorem dX0_begin_27 : decode cX0_begin 27 = .ok (.aload_n 0, 1) := by decide +kernel
theorem dX0_begin_28 : decode cX0_begin 28 = .ok (.getfield 24, 3) := by decide +kernel
theorem dX0_begin_31 : decode cX0_begin 31 = .ok (.aaload, 1) := by decide +kernel
theorem dX0_begin_32 : decode cX0_begin 32 = .ok (.aload_n 1, 1) := by decide +kernel
theorem dX0_begin_33 : decode cX0_begin 33 = .ok (.invokevirtual 28, 3) := by decide +kernel
theorem dX0_begin_36 : decode cX0_begin 36 = .ok (.aload_n 0, 1) := by decide +kernel
theorem dX0_begin_37 : decode cX0_begin 37 = .ok (.bipush 40, 2) := by decide +kernel
theorem dX0_begin_39 : decode cX0_begin 39 = .ok (.aload_n 0, 1) := by decide +kernel
theorem dX0_begin_40 : decode cX0_begin 40 = .ok (.getfield 9, 3) := by decide +kernel
theorem dX0_begin_43 : decode cX0_begin 43 = .ok (.iconst 1, 1) := by decide +kernel
theorem dX0_begin_44 : decode cX0_begin 44 = .ok (.iadd, 1) := by decide +kernel
theorem dX0_begin_45 : decode cX0_begin 45 = .ok (.invokestatic 32, 3) := by decide +kernel
theorem dX0_begin_48 : decode cX0_begin 48 = .ok (.putfield 9, 3) := by decide +kernel
theorem dX0_begin_51 : decode cX0_begin 51 = .ok (.aload_n 0, 1) := by decide +kernel
theorem dX0_begin_52 : decode cX0_begin 52 = .ok (.iconst 0, 1) := by decide +kernel
theorem dX0_begin_53 : decode cX0_begin 53 = .ok (.putfield 15, 3) := by decide +kernel
theorem dX0_begin_56 : decode cX0_begin 56 = .ok (.aload_n 0, 1) := by decide +kernel
theorem dX0_begin_57 : decode cX0_begin 57 = .ok (.getfield 20, 3) := by decide +kernel
theorem dX0_begin_60 : decode cX0_begin 60 = .ok (.aload_n 0, 1) := by decide +kernel
theorem dX0_begin_61 : decode cX0_begin 61 = .ok (.getfield 24, 3) := by decide +kernel
theorem dX0_begin_64 : decode cX0_begin 64 = .ok (.aaload, 1) := by decide +kernel
theorem dX0_begin_65 : decode cX0_begin 65 = .ok (.areturn, 1) := by decide +kernel
theorem dX0_stepBack_0 : decode cX0_stepBack 0 = .ok (.aload_n 0, 1) := by decide +kernel
theorem dX0_stepBack_1 : decode cX0_stepBack 1 = .ok (.getfield 9, 3) := by decide +kernel
theorem dX0_stepBack_4 : decode cX0_stepBack 4 = .ok (.ifCond .ne 5, 3) := by decide +kernel
theorem dX0_stepBack_7 : decode cX0_stepBack 7 = .ok (.iconst 0, 1) := by decide +kernel
theorem dX0_stepBack_8 : decode cX0_stepBack 8 = .ok (.ireturn, 1) := by decide +kernel
theorem dX0_stepBack_9 : decode cX0_stepBack 9 = .ok (.aload_n 0, 1) := by decide +kernel
theorem dX0_stepBack_10 : decode cX0_stepBack 10 = .ok (.aload_n 0, 1) := by decide +kernel
theorem dX0_stepBack_11 : decode cX0_stepBack 11 = .ok (.getfield 24, 3) := by decide +kernel
theorem dX0_stepBack_14 : decode cX0_stepBack 14 = .ok (.bipush 41, 2) := by decide +kernel
theorem dX0_stepBack_16 : decode cX0_stepBack 16 = .ok (.iadd, 1) := by decide +kernel
theorem dX0_stepBack_17 : decode cX0_stepBack 17 = .ok (.iconst 1, 1) := by decide +kernel
theorem dX0_stepBack_18 : decode cX0_stepBack 18 = .ok (.isub, 1) := by decide +kernel
theorem dX0_stepBack_19 : decode cX0_stepBack 19 = .ok (.bipush 41, 2) := by decide +kernel
theorem dX0_stepBack_21 : decode cX0_stepBack 21 = .ok (.irem, 1) := by decide +kernel
theorem dX0_stepBack_22 : decode cX0_stepBack 22 = .ok (.putfield 24, 3) := by decide +kernel
theorem dX0_stepBack_25 : decode cX0_stepBack 25 = .ok (.aload_n 0, 1) := by decide +kernel
theorem dX0_stepBack_26 : decode cX0_stepBack 26 = .ok (.dup, 1) := by decide +kernel
theorem dX0_stepBack_27 : decode cX0_stepBack 27 = .ok (.getfield 9, 3) := by decide +kernel
theorem dX0_stepBack_30 : decode cX0_stepBack 30 = .ok (.iconst 1, 1) := by decide +kernel
theorem dX0_stepBack_31 : decode cX0_stepBack 31 = .ok (.isub, 1) := by decide +kernel
theorem dX0_stepBack_32 : decode cX0_stepBack 32 = .ok (.putfield 9, 3) := by decide +kernel
theorem dX0_stepBack_35 : decode cX0_stepBack 35 = .ok (.aload_n 0, 1) := by decide +kernel
theorem dX0_stepBack_36 : decode cX0_stepBack 36 = .ok (.dup, 1) := by decide +kernel
theorem dX0_stepBack_37 : decode cX0_stepBack 37 = .ok (.getfield 15, 3) := by decide +kernel
theorem dX0_stepBack_40 : decode cX0_stepBack 40 = .ok (.iconst 1, 1) := by decide +kernel
theorem dX0_stepBack_41 : decode cX0_stepBack 41 = .ok (.iadd, 1) := by decide +kernel
theorem dX0_stepBack_42 : decode cX0_stepBack 42 = .ok (.putfield 15, 3) := by decide +kernel
theorem dX0_stepBack_45 : decode cX0_stepBack 45 = .ok (.iconst 1, 1) := by decide +kernel
theorem dX0_stepBack_46 : decode cX0_stepBack 46 = .ok (.ireturn, 1) := by decide +kernel
theorem dX0_stepForth_0 : decode cX0_stepForth 0 = .ok (.aload_n 0, 1) := by decide +kernel
theorem dX0_stepForth_1 : decode cX0_stepForth 1 = .ok (.getfield 15, 3) := by decide +kernel
theorem dX0_stepForth_4 : decode cX0_stepForth 4 = .ok (.ifCond .ne 5, 3) := by decide +kernel
theorem dX0_stepForth_7 : decode cX0_stepForth 7 = .ok (.iconst 0, 1) := by decide +kernel
theorem dX0_stepForth_8 : decode cX0_stepForth 8 = .ok (.ireturn, 1) := by decide +kernel
theorem dX0_stepForth_9 : decode cX0_stepForth 9 = .ok (.aload_n 0, 1) := by decide +kernel
theorem dX0_stepForth_10 : decode cX0_stepForth 10 = .ok (.aload_n 0, 1) := by decide +kernel
theorem dX0_stepForth_11 : decode cX0_stepForth 11 = .ok (.getfield 24, 3) := by decide +kernel
theorem dX0_stepForth_14 : decode cX0_stepForth 14 = .ok (.iconst 1, 1) := by decide +kernel
theorem dX0_stepForth_15 : decode cX0_stepForth 15 = .ok (.iadd, 1) := by decide +kernel
theorem dX0_stepForth_16 : decode cX0_stepForth 16 = .ok (.bipush 41, 2) := by decide +kernel
theorem dX0_stepForth_18 : decode cX0_stepForth 18 = .ok (.irem, 1) := by decide +kernel
theorem dX0_stepForth_19 : decode cX0_stepForth 19 = .ok (.putfield 24, 3) := by decide +kernel
theorem dX0_stepForth_22 : decode cX0_stepForth 22 = .ok (.aload_n 0, 1) := by decide +kernel
theorem dX0_stepForth_23 : decode cX0_stepForth 23 = .ok (.dup, 1) := by decide +kernel
theorem dX0_stepForth_24 : decode cX0_stepForth 24 = .ok (.getfield 9, 3) := by decide +kernel
theorem dX0_stepForth_27 : decode cX0_stepForth 27 = .ok (.iconst 1, 1) := by decide +kernel
theorem dX0_stepForth_28 : decode cX0_stepForth 28 = .ok (.iadd, 1) := by decide +kernel
theorem dX0_stepForth_29 : decode cX0_stepForth 29 = .ok (.putfield 9, 3) := by decide +kernel
theorem dX0_stepForth_32 : decode cX0_stepForth 32 = .ok (.aload_n 0, 1) := by decide +kernel
theorem dX0_stepForth_33 : decode cX0_stepForth 33 = .ok (.dup, 1) := by decide +kernel
theorem dX0_stepForth_34 : decode cX0_stepForth 34 = .ok (.getfield 15, 3) := by decide +kernel
theorem dX0_stepForth_37 : decode cX0_stepForth 37 = .ok (.iconst 1, 1) := by decide +kernel
theorem dX0_stepForth_38 : decode cX0_stepForth 38 = .ok (.isub, 1) := by decide +kernel
theorem dX0_stepForth_39 : decode cX0_stepForth 39 = .ok (.putfield 15, 3) := by decide +kernel
theorem dX0_stepForth_42 : decode cX0_stepForth 42 = .ok (.iconst 1, 1) := by decide +kernel
theorem dX0_stepForth_43 : decode cX0_stepForth 43 = .ok (.ireturn, 1) := by decide +kernel
set_option maxRecDepth 20000 in
theorem ggX0_startFrom_X7_copyOf : GoodIn wsX0_startFrom wsX7_copyOf := goodIn_r _ [9, 10, 11, 12, 13, 14, 15, 16, 17, 18, 19, 20, 21, 26, 27, 28, 29, 30, 31, 32, 33] (by decide +kernel) (by decide +kernel)
set_option maxRecDepth 20000 in
theorem gX0_startFrom_X7_copyOf : GoodIn wsX0_startFrom (wsV RX0 28 RX7 yX7_copyOf wsX7_copyOf) := goodIn_app (goodIn_of _ (by decide +kernel)) ggX0_startFrom_X7_copyOf
theorem dX0_startFrom_0 : decode cX0_startFrom 0 = .ok (.aload_n 0, 1) := by decide +kernel
theorem dX0_startFrom_1 : decode cX0_startFrom 1 = .ok (.getfield 20, 3) := by decide +kernel
theorem dX0_startFrom_4 : decode cX0_startFrom 4 = .ok (.aload_n 0, 1) := by decide +kernel
theorem dX0_startFrom_5 : decode cX0_startFrom 5 = .ok (.getfield 24, 3) := by decide +kernel
theorem dX0_startFrom_8 : decode cX0_startFrom 8 = .ok (.aaload, 1) := by decide +kernel
theorem dX0_startFrom_9 : decode cX0_startFrom 9 = .ok (.aload_n 1, 1) := by decide +kernel
theorem dX0_startFrom_10 : decode cX0_startFrom 10 = .ok (.invokevirtual 28, 3) := by decide +kernel
theorem dX0_startFrom_13 : decode cX0_startFrom 13 = .ok (.aload_n 0, 1) := by decide +kernel
theorem dX0_startFrom_14 : decode cX0_startFrom 14 = .ok (.iconst 0, 1) := by decide +kernel
theorem dX0_startFrom_15 : decode cX0_startFrom 15 = .ok (.putfield 9, 3) := by decide +kernel
theorem dX0_startFrom_18 : decode cX0_startFrom 18 = .ok (.aload_n 0, 1) := by decide +kernel
theorem dX0_startFrom_19 : decode cX0_startFrom 19 = .ok (.iconst 0, 1) := by decide +kernel
theorem dX0_startFrom_20 : decode cX0_startFrom 20 = .ok (.putfield 15, 3) := by decide +kernel
theorem dX0_startFrom_23 : decode cX0_startFrom 23 = .ok (.return_, 1) := by decide +kernel
theorem dX2_empty_0 : decode cX2_empty 0 = .ok (.aload_n 0, 1) := by decide +kernel
theorem dX2_empty_1 : decode cX2_empty 1 = .ok (.iconst 0, 1) := by decide +kernel
theorem dX2_empty_2 : decode cX2_empty 2 = .ok (.putfield 16, 3) := by decide +kernel
theorem dX2_empty_5 : decode cX2_empty 5 = .ok (.return_, 1) := by decide +kernel
set_option maxRecDepth 20000 in
theorem ggX2_addNumber_X2_addStep : GoodIn wsX2_addNumber wsX2_addStep := goodIn_r _ [5, 6, 7, 8, 9, 10] (by decide +kernel) (by decide +kernel)
set_option maxRecDepth 20000 in
theorem gX2_addNumber_X2_addStep : GoodIn wsX2_addNumber (wsV RX2 20 RX2 yX2_addStep wsX2_addStep) := goodIn_app (goodIn_of _ (by decide +kernel)) ggX2_addNumber_X2_addStep
theorem dX2_addNumber_0 : decode cX2_addNumber 0 = .ok (.aload_n 0, 1) := by decide +kernel
theorem dX2_addNumber_1 : decode cX2_addNumber 1 = .ok (.iload_n 1, 1) := by decide +kernel
theorem dX2_addNumber_2 : decode cX2_addNumber 2 = .ok (.invokevirtual 20, 3) := by decide +kernel
theorem dX2_addNumber_5 : decode cX2_addNumber 5 = .ok (.return_, 1) := by decide +kernel
set_option maxRecDepth 20000 in
theorem ggX2_addTerm_X2_addStep : GoodIn wsX2_addTerm wsX2_addStep := goodIn_r _ [5, 6, 7, 8, 9, 10] (by decide +kernel) (by decide +kernel)
set_option maxRecDepth 20000 in
theorem gX2_addTerm_X2_addStep : GoodIn wsX2_addTerm (wsV RX2 20 RX2 yX2_addStep wsX2_addStep) := goodIn_app (goodIn_of _ (by decide +kernel)) ggX2_addTerm_X2_addStep
theorem dX2_addTerm_0 : decode cX2_addTerm 0 = .ok (.aload_n 0, 1) := by decide +kernel
theorem dX2_addTerm_1 : decode cX2_addTerm 1 = .ok (.iconst (-1), 1) := by decide +kernel
theorem dX2_addTerm_2 : decode cX2_addTerm 2 = .ok (.iload_n 1, 1) := by decide +kernel
theorem dX2_addTerm_3 : decode cX2_addTerm 3 = .ok (.isub, 1) := by decide +kernel
theorem dX2_addTerm_4 : decode cX2_addTerm 4 = .ok (.invokevirtual 20, 3) := by decide +kernel
theorem dX2_addTerm_7 : decode cX2_addTerm 7 = .ok (.return_, 1) := by decide +kernel
theorem dX2_addStep_0 : decode cX2_addStep 0 = .ok (.aload_n 0, 1) := by decide +kernel
theorem dX2_addStep_1 : decode cX2_addStep 1 = .ok (.getfield 16, 3) := by decide +kernel
theorem dX2_addStep_4 : decode cX2_addStep 4 = .ok (.aload_n 0, 1) := by decide +kernel
theorem dX2_addStep_5 : decode cX2_addStep 5 = .ok (.getfield 9, 3) := by decide +kernel
theorem dX2_addStep_8 : decode cX2_addStep 8 = .ok (.arraylength, 1) := by decide +kernel
theorem dX2_addStep_9 : decode cX2_addStep 9 = .ok (.if_icmp .ge 23, 3) := by decide +kernel
theorem dX2_addStep_12 : decode cX2_addStep 12 = .ok (.aload_n 0, 1) := by decide +kernel
theorem dX2_addStep_13 : decode cX2_addStep 13 = .ok (.getfield 9, 3) := by decide +kernel
theorem dX2_addStep_16 : decode cX2_addStep 16 = .ok (.aload_n 0, 1) := by decide +kernel
theorem dX2_addStep_17 : decode cX2_addStep 17 = .ok (.getfield 16, 3) := by decide +kernel
theorem dX2_addStep_20 : decode cX2_addStep 20 = .ok (.iload_n 1, 1) := by decide +kernel
theorem dX2_addStep_21 : decode cX2_addStep 21 = .ok (.iastore, 1) := by decide +kernel
theorem dX2_addStep_22 : decode cX2_addStep 22 = .ok (.aload_n 0, 1) := by decide +kernel
theorem dX2_addStep_23 : decode cX2_addStep 23 = .ok (.dup, 1) := by decide +kernel
theorem dX2_addStep_24 : decode cX2_addStep 24 = .ok (.getfield 16, 3) := by decide +kernel
theorem dX2_addStep_27 : decode cX2_addStep 27 = .ok (.iconst 1, 1) := by decide +kernel
theorem dX2_addStep_28 : decode cX2_addStep 28 = .ok (.iadd, 1) := by decide +kernel
theorem dX2_addStep_29 : decode cX2_addStep 29 = .ok (.putfield 16, 3) := by decide +kernel
theorem dX2_addStep_32 : decode cX2_addStep 32 = .ok (.return_, 1) := by decide +kernel
set_option maxRecDepth 20000 in
theorem ggX2_addUntold_X2_addTerm : GoodIn wsX2_addUntold wsX2_addTerm := goodIn_r _ [5, 6, 7, 8, 4, 9, 10, 11, 16, 17, 18] (by decide +kernel) (by decide +kernel)
set_option maxRecDepth 20000 in
theorem gX2_addUntold_X2_addTerm : GoodIn wsX2_addUntold (wsV RX2 24 RX2 yX2_addTerm wsX2_addTerm) := goodIn_app (goodIn_of _ (by decide +kernel)) ggX2_addUntold_X2_addTerm
set_option maxRecDepth 20000 in
theorem ggX2_addUntold_X2_addStep : GoodIn wsX2_addUntold wsX2_addStep := goodIn_r _ [9, 10, 11, 16, 17, 18] (by decide +kernel) (by decide +kernel)
set_option maxRecDepth 20000 in
theorem gX2_addUntold_X2_addStep : GoodIn wsX2_addUntold (wsV RX2 20 RX2 yX2_addStep wsX2_addStep) := goodIn_app (goodIn_of _ (by decide +kernel)) ggX2_addUntold_X2_addStep
set_option maxRecDepth 20000 in
theorem ggX2_addUntold_X2_addNumber : GoodIn wsX2_addUntold wsX2_addNumber := goodIn_r _ [15, 6, 7, 8, 4, 9, 10, 11, 16, 17, 18] (by decide +kernel) (by decide +kernel)
set_option maxRecDepth 20000 in
theorem gX2_addUntold_X2_addNumber : GoodIn wsX2_addUntold (wsV RX2 27 RX2 yX2_addNumber wsX2_addNumber) := goodIn_app (goodIn_of _ (by decide +kernel)) ggX2_addUntold_X2_addNumber
theorem dX2_addUntold_0 : decode cX2_addUntold 0 = .ok (.aload_n 0, 1) := by decide +kernel
theorem dX2_addUntold_1 : decode cX2_addUntold 1 = .ok (.iconst 0, 1) := by decide +kernel
theorem dX2_addUntold_2 : decode cX2_addUntold 2 = .ok (.invokevirtual 24, 3) := by decide +kernel
theorem dX2_addUntold_5 : decode cX2_addUntold 5 = .ok (.aload_n 0, 1) := by decide +kernel
theorem dX2_addUntold_6 : decode cX2_addUntold 6 = .ok (.iconst 1, 1) := by decide +kernel
theorem dX2_addUntold_7 : decode cX2_addUntold 7 = .ok (.invokevirtual 24, 3) := by decide +kernel
theorem dX2_addUntold_10 : decode cX2_addUntold 10 = .ok (.aload_n 0, 1) := by decide +kernel
theorem dX2_addUntold_11 : decode cX2_addUntold 11 = .ok (.bipush (-27), 2) := by decide +kernel
theorem dX2_addUntold_13 : decode cX2_addUntold 13 = .ok (.invokevirtual 20, 3) := by decide +kernel
theorem dX2_addUntold_16 : decode cX2_addUntold 16 = .ok (.aload_n 0, 1) := by decide +kernel
theorem dX2_addUntold_17 : decode cX2_addUntold 17 = .ok (.iconst 2, 1) := by decide +kernel
theorem dX2_addUntold_18 : decode cX2_addUntold 18 = .ok (.invokevirtual 24, 3) := by decide +kernel
theorem dX2_addUntold_21 : decode cX2_addUntold 21 = .ok (.aload_n 0, 1) := by decide +kernel
theorem dX2_addUntold_22 : decode cX2_addUntold 22 = .ok (.iconst 3, 1) := by decide +kernel
theorem dX2_addUntold_23 : decode cX2_addUntold 23 = .ok (.invokevirtual 27, 3) := by decide +kernel
theorem dX2_addUntold_26 : decode cX2_addUntold 26 = .ok (.aload_n 0, 1) := by decide +kernel
theorem dX2_addUntold_27 : decode cX2_addUntold 27 = .ok (.bipush (-28), 2) := by decide +kernel
theorem dX2_addUntold_29 : decode cX2_addUntold 29 = .ok (.invokevirtual 20, 3) := by decide +kernel
theorem dX2_addUntold_32 : decode cX2_addUntold 32 = .ok (.aload_n 0, 1) := by decide +kernel
theorem dX2_addUntold_33 : decode cX2_addUntold 33 = .ok (.bipush (-26), 2) := by decide +kernel
theorem dX2_addUntold_35 : decode cX2_addUntold 35 = .ok (.invokevirtual 20, 3) := by decide +kernel
theorem dX2_addUntold_38 : decode cX2_addUntold 38 = .ok (.aload_n 0, 1) := by decide +kernel
theorem dX2_addUntold_39 : decode cX2_addUntold 39 = .ok (.iconst 3, 1) := by decide +kernel
theorem dX2_addUntold_40 : decode cX2_addUntold 40 = .ok (.invokevirtual 24, 3) := by decide +kernel
theorem dX2_addUntold_43 : decode cX2_addUntold 43 = .ok (.aload_n 0, 1) := by decide +kernel
theorem dX2_addUntold_44 : decode cX2_addUntold 44 = .ok (.bipush (-27), 2) := by decide +kernel
theorem dX2_addUntold_46 : decode cX2_addUntold 46 = .ok (.invokevirtual 20, 3) := by decide +kernel
theorem dX2_addUntold_49 : decode cX2_addUntold 49 = .ok (.return_, 1) := by decide +kernel
set_option maxRecDepth 20000 in
theorem ggX2_value_X2_unitValue : GoodIn wsX2_value wsX2_unitValue := goodIn_r _ [7] (by decide +kernel) (by decide +kernel)
set_option maxRecDepth 20000 in
theorem gX2_value_X2_unitValue : GoodIn wsX2_value (va_wsS RX2 30 yX2_unitValue wsX2_unitValue) := goodIn_app (goodIn_of _ (by decide +kernel)) ggX2_value_X2_unitValue
set_option maxRecDepth 20000 in
theorem ggX2_value_X2_joined : GoodIn wsX2_value wsX2_joined := goodIn_r _ [10] (by decide +kernel) (by decide +kernel)
set_option maxRecDepth 20000 in
theorem gX2_value_X2_joined : GoodIn wsX2_value (va_wsS RX2 34 yX2_joined wsX2_joined) := goodIn_app (goodIn_of _ (by decide +kernel)) ggX2_value_X2_joined
theorem dX2_value_0 : decode cX2_value 0 = .ok (.iconst 0, 1) := by decide +kernel
theorem dX2_value_1 : decode cX2_value 1 = .ok (.istore_n 2, 1) := by decide +kernel
theorem dX2_value_2 : decode cX2_value 2 = .ok (.iconst 0, 1) := by decide +kernel
theorem dX2_value_3 : decode cX2_value 3 = .ok (.istore_n 3, 1) := by decide +kernel
theorem dX2_value_4 : decode cX2_value 4 = .ok (.iload_n 3, 1) := by decide +kernel
theorem dX2_value_5 : decode cX2_value 5 = .ok (.aload_n 0, 1) := by decide +kernel
theorem dX2_value_6 : decode cX2_value 6 = .ok (.getfield 16, 3) := by decide +kernel
theorem dX2_value_9 : decode cX2_value 9 = .ok (.if_icmp .ge 125, 3) := by decide +kernel
theorem dX2_value_12 : decode cX2_value 12 = .ok (.aload_n 0, 1) := by decide +kernel
theorem dX2_value_13 : decode cX2_value 13 = .ok (.getfield 9, 3) := by decide +kernel
theorem dX2_value_16 : decode cX2_value 16 = .ok (.iload_n 3, 1) := by decide +kernel
theorem dX2_value_17 : decode cX2_value 17 = .ok (.iaload, 1) := by decide +kernel
theorem dX2_value_18 : decode cX2_value 18 = .ok (.istore 4, 2) := by decide +kernel
theorem dX2_value_20 : decode cX2_value 20 = .ok (.iload 4, 2) := by decide +kernel
theorem dX2_value_22 : decode cX2_value 22 = .ok (.bipush (-20), 2) := by decide +kernel
theorem dX2_value_24 : decode cX2_value 24 = .ok (.if_icmp .le 30, 3) := by decide +kernel
theorem dX2_value_27 : decode cX2_value 27 = .ok (.iload_n 2, 1) := by decide +kernel
theorem dX2_value_28 : decode cX2_value 28 = .ok (.aload_n 0, 1) := by decide +kernel
theorem dX2_value_29 : decode cX2_value 29 = .ok (.getfield 13, 3) := by decide +kernel
theorem dX2_value_32 : decode cX2_value 32 = .ok (.arraylength, 1) := by decide +kernel
theorem dX2_value_33 : decode cX2_value 33 = .ok (.if_icmp .ge 95, 3) := by decide +kernel
theorem dX2_value_36 : decode cX2_value 36 = .ok (.aload_n 0, 1) := by decide +kernel
theorem dX2_value_37 : decode cX2_value 37 = .ok (.getfield 13, 3) := by decide +kernel
theorem dX2_value_40 : decode cX2_value 40 = .ok (.iload_n 2, 1) := by decide +kernel
theorem dX2_value_41 : decode cX2_value 41 = .ok (.iload 4, 2) := by decide +kernel
theorem dX2_value_43 : decode cX2_value 43 = .ok (.aload_n 1, 1) := by decide +kernel
theorem dX2_value_44 : decode cX2_value 44 = .ok (.invokestatic 30, 3) := by decide +kernel
theorem dX2_value_47 : decode cX2_value 47 = .ok (.iastore, 1) := by decide +kernel
theorem dX2_value_48 : decode cX2_value 48 = .ok (.iinc 2 1, 3) := by decide +kernel
theorem dX2_value_51 : decode cX2_value 51 = .ok (.goto 77, 3) := by decide +kernel
theorem dX2_value_54 : decode cX2_value 54 = .ok (.iload 4, 2) := by decide +kernel
theorem dX2_value_56 : decode cX2_value 56 = .ok (.bipush (-20), 2) := by decide +kernel
theorem dX2_value_58 : decode cX2_value 58 = .ok (.if_icmp .ne 35, 3) := by decide +kernel
theorem dX2_value_61 : decode cX2_value 61 = .ok (.iload_n 2, 1) := by decide +kernel
theorem dX2_value_62 : decode cX2_value 62 = .ok (.iconst 1, 1) := by decide +kernel
theorem dX2_value_63 : decode cX2_value 63 = .ok (.if_icmp .lt 65, 3) := by decide +kernel
theorem dX2_value_66 : decode cX2_value 66 = .ok (.aload_n 0, 1) := by decide +kernel
theorem dX2_value_67 : decode cX2_value 67 = .ok (.getfield 13, 3) := by decide +kernel
theorem dX2_value_70 : decode cX2_value 70 = .ok (.iload_n 2, 1) := by decide +kernel
theorem dX2_value_71 : decode cX2_value 71 = .ok (.iconst 1, 1) := by decide +kernel
theorem dX2_value_72 : decode cX2_value 72 = .ok (.isub, 1) := by decide +kernel
theorem dX2_value_73 : decode cX2_value 73 = .ok (.aload_n 0, 1) := by decide +kernel
theorem dX2_value_74 : decode cX2_value 74 = .ok (.getfield 13, 3) := by decide +kernel
theorem dX2_value_77 : decode cX2_value 77 = .ok (.iload_n 2, 1) := by decide +kernel
theorem dX2_value_78 : decode cX2_value 78 = .ok (.iconst 1, 1) := by decide +kernel
theorem dX2_value_79 : decode cX2_value 79 = .ok (.isub, 1) := by decide +kernel
theorem dX2_value_80 : decode cX2_value 80 = .ok (.iaload, 1) := by decide +kernel
theorem dX2_value_81 : decode cX2_value 81 = .ok (.ifCond .ne 7, 3) := by decide +kernel
theorem dX2_value_84 : decode cX2_value 84 = .ok (.iconst 1, 1) := by decide +kernel
theorem dX2_value_85 : decode cX2_value 85 = .ok (.goto 4, 3) := by decide +kernel
theorem dX2_value_88 : decode cX2_value 88 = .ok (.iconst 0, 1) := by decide +kernel
theorem dX2_value_89 : decode cX2_value 89 = .ok (.iastore, 1) := by decide +kernel
theorem dX2_value_90 : decode cX2_value 90 = .ok (.goto 38, 3) := by decide +kernel
theorem dX2_value_93 : decode cX2_value 93 = .ok (.iload_n 2, 1) := by decide +kernel
theorem dX2_value_94 : decode cX2_value 94 = .ok (.iconst 2, 1) := by decide +kernel
theorem dX2_value_95 : decode cX2_value 95 = .ok (.if_icmp .lt 33, 3) := by decide +kernel
theorem dX2_value_98 : decode cX2_value 98 = .ok (.iinc 2 (-1), 3) := by decide +kernel
theorem dX2_value_101 : decode cX2_value 101 = .ok (.aload_n 0, 1) := by decide +kernel
theorem dX2_value_102 : decode cX2_value 102 = .ok (.getfield 13, 3) := by decide +kernel
theorem dX2_value_105 : decode cX2_value 105 = .ok (.iload_n 2, 1) := by decide +kernel
theorem dX2_value_106 : decode cX2_value 106 = .ok (.iconst 1, 1) := by decide +kernel
theorem dX2_value_107 : decode cX2_value 107 = .ok (.isub, 1) := by decide +kernel
theorem dX2_value_108 : decode cX2_value 108 = .ok (.iload 4, 2) := by decide +kernel
theorem dX2_value_110 : decode cX2_value 110 = .ok (.aload_n 0, 1) := by decide +kernel
theorem dX2_value_111 : decode cX2_value 111 = .ok (.getfield 13, 3) := by decide +kernel
theorem dX2_value_114 : decode cX2_value 114 = .ok (.iload_n 2, 1) := by decide +kernel
theorem dX2_value_115 : decode cX2_value 115 = .ok (.iconst 1, 1) := by decide +kernel
theorem dX2_value_116 : decode cX2_value 116 = .ok (.isub, 1) := by decide +kernel
theorem dX2_value_117 : decode cX2_value 117 = .ok (.iaload, 1) := by decide +kernel
theorem dX2_value_118 : decode cX2_value 118 = .ok (.aload_n 0, 1) := by decide +kernel
theorem dX2_value_119 : decode cX2_value 119 = .ok (.getfield 13, 3) := by decide +kernel
theorem dX2_value_122 : decode cX2_value 122 = .ok (.iload_n 2, 1) := by decide +kernel
theorem dX2_value_123 : decode cX2_value 123 = .ok (.iaload, 1) := by decide +kernel
theorem dX2_value_124 : decode cX2_value 124 = .ok (.invokestatic 34, 3) := by decide +kernel
theorem dX2_value_127 : decode cX2_value 127 = .ok (.iastore, 1) := by decide +kernel
theorem dX2_value_128 : decode cX2_value 128 = .ok (.iinc 3 1, 3) := by decide +kernel
theorem dX2_value_131 : decode cX2_value 131 = .ok (.goto (-127), 3) := by decide +kernel
theorem dX2_value_134 : decode cX2_value 134 = .ok (.iload_n 2, 1) := by decide +kernel
theorem dX2_value_135 : decode cX2_value 135 = .ok (.ifCond .le 12, 3) := by decide +kernel
theorem dX2_value_138 : decode cX2_value 138 = .ok (.aload_n 0, 1) := by decide +kernel
theorem dX2_value_139 : decode cX2_value 139 = .ok (.getfield 13, 3) := by decide +kernel
theorem dX2_value_142 : decode cX2_value 142 = .ok (.iconst 0, 1) := by decide +kernel
theorem dX2_value_143 : decode cX2_value 143 = .ok (.iaload, 1) := by decide +kernel
theorem dX2_value_144 : decode cX2_value 144 = .ok (.goto 4, 3) := by decide +kernel
theorem dX2_value_147 : decode cX2_value 147 = .ok (.iconst 0, 1) := by decide +kernel
theorem dX2_value_148 : decode cX2_value 148 = .ok (.ireturn, 1) := by decide +kernel
theorem dX2_unitValue_0 : decode cX2_unitValue 0 = .ok (.iload_n 0, 1) := by decide +kernel
theorem dX2_unitValue_1 : decode cX2_unitValue 1 = .ok (.ifCond .lt 5, 3) := by decide +kernel
theorem dX2_unitValue_4 : decode cX2_unitValue 4 = .ok (.iload_n 0, 1) := by decide +kernel
theorem dX2_unitValue_5 : decode cX2_unitValue 5 = .ok (.ireturn, 1) := by decide +kernel
theorem dX2_unitValue_6 : decode cX2_unitValue 6 = .ok (.iconst (-1), 1) := by decide +kernel
theorem dX2_unitValue_7 : decode cX2_unitValue 7 = .ok (.iload_n 0, 1) := by decide +kernel
theorem dX2_unitValue_8 : decode cX2_unitValue 8 = .ok (.isub, 1) := by decide +kernel
theorem dX2_unitValue_9 : decode cX2_unitValue 9 = .ok (.istore_n 2, 1) := by decide +kernel
theorem dX2_unitValue_10 : decode cX2_unitValue 10 = .ok (.iload_n 2, 1) := by decide +kernel
theorem dX2_unitValue_11 : decode cX2_unitValue 11 = .ok (.aload_n 1, 1) := by decide +kernel
theorem dX2_unitValue_12 : decode cX2_unitValue 12 = .ok (.arraylength, 1) := by decide +kernel
theorem dX2_unitValue_13 : decode cX2_unitValue 13 = .ok (.if_icmp .ge 9, 3) := by decide +kernel
theorem dX2_unitValue_16 : decode cX2_unitValue 16 = .ok (.aload_n 1, 1) := by decide +kernel
theorem dX2_unitValue_17 : decode cX2_unitValue 17 = .ok (.iload_n 2, 1) := by decide +kernel
theorem dX2_unitValue_18 : decode cX2_unitValue 18 = .ok (.iaload, 1) := by decide +kernel
theorem dX2_unitValue_19 : decode cX2_unitValue 19 = .ok (.goto 4, 3) := by decide +kernel
theorem dX2_unitValue_22 : decode cX2_unitValue 22 = .ok (.iconst 0, 1) := by decide +kernel
theorem dX2_unitValue_23 : decode cX2_unitValue 23 = .ok (.ireturn, 1) := by decide +kernel
theorem dX2_joined_0 : decode cX2_joined 0 = .ok (.iload_n 0, 1) := by decide +kernel
theorem dX2_joined_1 : decode cX2_joined 1 = .ok (.tableswitch 152 (-30) (-21) #[140, 128, 124, 120, 116, 105, 94, 83, 69, 55], 55) := by decide +kernel
theorem dX2_joined_56 : decode cX2_joined 56 = .ok (.iload_n 1, 1) := by decide +kernel
theorem dX2_joined_57 : decode cX2_joined 57 = .ok (.ifCond .ne 7, 3) := by decide +kernel
theorem dX2_joined_60 : decode cX2_joined 60 = .ok (.iload_n 2, 1) := by decide +kernel
theorem dX2_joined_61 : decode cX2_joined 61 = .ok (.ifCond .eq 7, 3) := by decide +kernel
theorem dX2_joined_64 : decode cX2_joined 64 = .ok (.iconst 1, 1) := by decide +kernel
theorem dX2_joined_65 : decode cX2_joined 65 = .ok (.goto 4, 3) := by decide +kernel
theorem dX2_joined_68 : decode cX2_joined 68 = .ok (.iconst 0, 1) := by decide +kernel
theorem dX2_joined_69 : decode cX2_joined 69 = .ok (.ireturn, 1) := by decide +kernel
theorem dX2_joined_70 : decode cX2_joined 70 = .ok (.iload_n 1, 1) := by decide +kernel
theorem dX2_joined_71 : decode cX2_joined 71 = .ok (.ifCond .eq 11, 3) := by decide +kernel
theorem dX2_joined_74 : decode cX2_joined 74 = .ok (.iload_n 2, 1) := by decide +kernel
theorem dX2_joined_75 : decode cX2_joined 75 = .ok (.ifCond .eq 7, 3) := by decide +kernel
theorem dX2_joined_78 : decode cX2_joined 78 = .ok (.iconst 1, 1) := by decide +kernel
theorem dX2_joined_79 : decode cX2_joined 79 = .ok (.goto 4, 3) := by decide +kernel
theorem dX2_joined_82 : decode cX2_joined 82 = .ok (.iconst 0, 1) := by decide +kernel
theorem dX2_joined_83 : decode cX2_joined 83 = .ok (.ireturn, 1) := by decide +kernel
theorem dX2_joined_84 : decode cX2_joined 84 = .ok (.iload_n 1, 1) := by decide +kernel
theorem dX2_joined_85 : decode cX2_joined 85 = .ok (.iload_n 2, 1) := by decide +kernel
theorem dX2_joined_86 : decode cX2_joined 86 = .ok (.if_icmp .ge 7, 3) := by decide +kernel
theorem dX2_joined_89 : decode cX2_joined 89 = .ok (.iconst 1, 1) := by decide +kernel
theorem dX2_joined_90 : decode cX2_joined 90 = .ok (.goto 4, 3) := by decide +kernel
theorem dX2_joined_93 : decode cX2_joined 93 = .ok (.iconst 0, 1) := by decide +kernel
theorem dX2_joined_94 : decode cX2_joined 94 = .ok (.ireturn, 1) := by decide +kernel
theorem dX2_joined_95 : decode cX2_joined 95 = .ok (.iload_n 1, 1) := by decide +kernel
theorem dX2_joined_96 : decode cX2_joined 96 = .ok (.iload_n 2, 1) := by decide +kernel
theorem dX2_joined_97 : decode cX2_joined 97 = .ok (.if_icmp .le 7, 3) := by decide +kernel
theorem dX2_joined_100 : decode cX2_joined 100 = .ok (.iconst 1, 1) := by decide +kernel
theorem dX2_joined_101 : decode cX2_joined 101 = .ok (.goto 4, 3) := by decide +kernel
theorem dX2_joined_104 : decode cX2_joined 104 = .ok (.iconst 0, 1) := by decide +kernel
theorem dX2_joined_105 : decode cX2_joined 105 = .ok (.ireturn, 1) := by decide +kernel
theorem dX2_joined_106 : decode cX2_joined 106 = .ok (.iload_n 1, 1) := by decide +kernel
theorem dX2_joined_107 : decode cX2_joined 107 = .ok (.iload_n 2, 1) := by decide +kernel
theorem dX2_joined_108 : decode cX2_joined 108 = .ok (.if_icmp .ne 7, 3) := by decide +kernel
theorem dX2_joined_111 : decode cX2_joined 111 = .ok (.iconst 1, 1) := by decide +kernel
theorem dX2_joined_112 : decode cX2_joined 112 = .ok (.goto 4, 3) := by decide +kernel
theorem dX2_joined_115 : decode cX2_joined 115 = .ok (.iconst 0, 1) := by decide +kernel
theorem dX2_joined_116 : decode cX2_joined 116 = .ok (.ireturn, 1) := by decide +kernel
theorem dX2_joined_117 : decode cX2_joined 117 = .ok (.iload_n 1, 1) := by decide +kernel
theorem dX2_joined_118 : decode cX2_joined 118 = .ok (.iload_n 2, 1) := by decide +kernel
theorem dX2_joined_119 : decode cX2_joined 119 = .ok (.iadd, 1) := by decide +kernel
theorem dX2_joined_120 : decode cX2_joined 120 = .ok (.ireturn, 1) := by decide +kernel
theorem dX2_joined_121 : decode cX2_joined 121 = .ok (.iload_n 1, 1) := by decide +kernel
theorem dX2_joined_122 : decode cX2_joined 122 = .ok (.iload_n 2, 1) := by decide +kernel
theorem dX2_joined_123 : decode cX2_joined 123 = .ok (.isub, 1) := by decide +kernel
theorem dX2_joined_124 : decode cX2_joined 124 = .ok (.ireturn, 1) := by decide +kernel
theorem dX2_joined_125 : decode cX2_joined 125 = .ok (.iload_n 1, 1) := by decide +kernel
theorem dX2_joined_126 : decode cX2_joined 126 = .ok (.iload_n 2, 1) := by decide +kernel
theorem dX2_joined_127 : decode cX2_joined 127 = .ok (.imul, 1) := by decide +kernel
theorem dX2_joined_128 : decode cX2_joined 128 = .ok (.ireturn, 1) := by decide +kernel
theorem dX2_joined_129 : decode cX2_joined 129 = .ok (.iload_n 2, 1) := by decide +kernel
theorem dX2_joined_130 : decode cX2_joined 130 = .ok (.ifCond .ne 7, 3) := by decide +kernel
theorem dX2_joined_133 : decode cX2_joined 133 = .ok (.iconst 0, 1) := by decide +kernel
theorem dX2_joined_134 : decode cX2_joined 134 = .ok (.goto 6, 3) := by decide +kernel
theorem dX2_joined_137 : decode cX2_joined 137 = .ok (.iload_n 1, 1) := by decide +kernel
theorem dX2_joined_138 : decode cX2_joined 138 = .ok (.iload_n 2, 1) := by decide +kernel
theorem dX2_joined_139 : decode cX2_joined 139 = .ok (.idiv, 1) := by decide +kernel
theorem dX2_joined_140 : decode cX2_joined 140 = .ok (.ireturn, 1) := by decide +kernel
theorem dX2_joined_141 : decode cX2_joined 141 = .ok (.iload_n 2, 1) := by decide +kernel
theorem dX2_joined_142 : decode cX2_joined 142 = .ok (.ifCond .ne 7, 3) := by decide +kernel
theorem dX2_joined_145 : decode cX2_joined 145 = .ok (.iconst 0, 1) := by decide +kernel
theorem dX2_joined_146 : decode cX2_joined 146 = .ok (.goto 6, 3) := by decide +kernel
theorem dX2_joined_149 : decode cX2_joined 149 = .ok (.iload_n 1, 1) := by decide +kernel
theorem dX2_joined_150 : decode cX2_joined 150 = .ok (.iload_n 2, 1) := by decide +kernel
theorem dX2_joined_151 : decode cX2_joined 151 = .ok (.irem, 1) := by decide +kernel
theorem dX2_joined_152 : decode cX2_joined 152 = .ok (.ireturn, 1) := by decide +kernel
theorem dX2_joined_153 : decode cX2_joined 153 = .ok (.iconst 0, 1) := by decide +kernel
theorem dX2_joined_154 : decode cX2_joined 154 = .ok (.ireturn, 1) := by decide +kernel
theorem dX7_copyOf_0 : decode cX7_copyOf 0 = .ok (.aload_n 1, 1) := by decide +kernel
theorem dX7_copyOf_1 : decode cX7_copyOf 1 = .ok (.getfield 9, 3) := by decide +kernel
theorem dX7_copyOf_4 : decode cX7_copyOf 4 = .ok (.iconst 0, 1) := by decide +kernel
theorem dX7_copyOf_5 : decode cX7_copyOf 5 = .ok (.aload_n 0, 1) := by decide +kernel
theorem dX7_copyOf_6 : decode cX7_copyOf 6 = .ok (.getfield 9, 3) := by decide +kernel
theorem dX7_copyOf_9 : decode cX7_copyOf 9 = .ok (.iconst 0, 1) := by decide +kernel
theorem dX7_copyOf_10 : decode cX7_copyOf 10 = .ok (.bipush 8, 2) := by decide +kernel
theorem dX7_copyOf_12 : decode cX7_copyOf 12 = .ok (.invokestatic 43, 3) := by decide +kernel
theorem dX7_copyOf_15 : decode cX7_copyOf 15 = .ok (.aload_n 1, 1) := by decide +kernel
theorem dX7_copyOf_16 : decode cX7_copyOf 16 = .ok (.getfield 15, 3) := by decide +kernel
theorem dX7_copyOf_19 : decode cX7_copyOf 19 = .ok (.iconst 0, 1) := by decide +kernel
theorem dX7_copyOf_20 : decode cX7_copyOf 20 = .ok (.aload_n 0, 1) := by decide +kernel
theorem dX7_copyOf_21 : decode cX7_copyOf 21 = .ok (.getfield 15, 3) := by decide +kernel
theorem dX7_copyOf_24 : decode cX7_copyOf 24 = .ok (.iconst 0, 1) := by decide +kernel
theorem dX7_copyOf_25 : decode cX7_copyOf 25 = .ok (.bipush 7, 2) := by decide +kernel
theorem dX7_copyOf_27 : decode cX7_copyOf 27 = .ok (.invokestatic 43, 3) := by decide +kernel
theorem dX7_copyOf_30 : decode cX7_copyOf 30 = .ok (.aload_n 1, 1) := by decide +kernel
theorem dX7_copyOf_31 : decode cX7_copyOf 31 = .ok (.getfield 18, 3) := by decide +kernel
theorem dX7_copyOf_34 : decode cX7_copyOf 34 = .ok (.iconst 0, 1) := by decide +kernel
theorem dX7_copyOf_35 : decode cX7_copyOf 35 = .ok (.aload_n 0, 1) := by decide +kernel
theorem dX7_copyOf_36 : decode cX7_copyOf 36 = .ok (.getfield 18, 3) := by decide +kernel
theorem dX7_copyOf_39 : decode cX7_copyOf 39 = .ok (.iconst 0, 1) := by decide +kernel
theorem dX7_copyOf_40 : decode cX7_copyOf 40 = .ok (.bipush 7, 2) := by decide +kernel
theorem dX7_copyOf_42 : decode cX7_copyOf 42 = .ok (.invokestatic 43, 3) := by decide +kernel
theorem dX7_copyOf_45 : decode cX7_copyOf 45 = .ok (.aload_n 1, 1) := by decide +kernel
theorem dX7_copyOf_46 : decode cX7_copyOf 46 = .ok (.getfield 21, 3) := by decide +kernel
theorem dX7_copyOf_49 : decode cX7_copyOf 49 = .ok (.iconst 0, 1) := by decide +kernel
theorem dX7_copyOf_50 : decode cX7_copyOf 50 = .ok (.aload_n 0, 1) := by decide +kernel
theorem dX7_copyOf_51 : decode cX7_copyOf 51 = .ok (.getfield 21, 3) := by decide +kernel
theorem dX7_copyOf_54 : decode cX7_copyOf 54 = .ok (.iconst 0, 1) := by decide +kernel
theorem dX7_copyOf_55 : decode cX7_copyOf 55 = .ok (.bipush 7, 2) := by decide +kernel
theorem dX7_copyOf_57 : decode cX7_copyOf 57 = .ok (.invokestatic 43, 3) := by decide +kernel
theorem dX7_copyOf_60 : decode cX7_copyOf 60 = .ok (.aload_n 1, 1) := by decide +kernel
theorem dX7_copyOf_61 : decode cX7_copyOf 61 = .ok (.getfield 24, 3) := by decide +kernel
theorem dX7_copyOf_64 : decode cX7_copyOf 64 = .ok (.iconst 0, 1) := by decide +kernel
theorem dX7_copyOf_65 : decode cX7_copyOf 65 = .ok (.aload_n 0, 1) := by decide +kernel
theorem dX7_copyOf_66 : decode cX7_copyOf 66 = .ok (.getfield 24, 3) := by decide +kernel
theorem dX7_copyOf_69 : decode cX7_copyOf 69 = .ok (.iconst 0, 1) := by decide +kernel
theorem dX7_copyOf_70 : decode cX7_copyOf 70 = .ok (.bipush 7, 2) := by decide +kernel
theorem dX7_copyOf_72 : decode cX7_copyOf 72 = .ok (.invokestatic 43, 3) := by decide +kernel
theorem dX7_copyOf_75 : decode cX7_copyOf 75 = .ok (.aload_n 0, 1) := by decide +kernel
theorem dX7_copyOf_76 : decode cX7_copyOf 76 = .ok (.aload_n 1, 1) := by decide +kernel
theorem dX7_copyOf_77 : decode cX7_copyOf 77 = .ok (.getfield 27, 3) := by decide +kernel
theorem dX7_copyOf_80 : decode cX7_copyOf 80 = .ok (.putfield 27, 3) := by decide +kernel
theorem dX7_copyOf_83 : decode cX7_copyOf 83 = .ok (.aload_n 0, 1) := by decide +kernel
theorem dX7_copyOf_84 : decode cX7_copyOf 84 = .ok (.aload_n 1, 1) := by decide +kernel
theorem dX7_copyOf_85 : decode cX7_copyOf 85 = .ok (.getfield 31, 3) := by decide +kernel
theorem dX7_copyOf_88 : decode cX7_copyOf 88 = .ok (.putfield 31, 3) := by decide +kernel
theorem dX7_copyOf_91 : decode cX7_copyOf 91 = .ok (.aload_n 0, 1) := by decide +kernel
theorem dX7_copyOf_92 : decode cX7_copyOf 92 = .ok (.aload_n 1, 1) := by decide +kernel
theorem dX7_copyOf_93 : decode cX7_copyOf 93 = .ok (.getfield 34, 3) := by decide +kernel
theorem dX7_copyOf_96 : decode cX7_copyOf 96 = .ok (.putfield 34, 3) := by decide +kernel
theorem dX7_copyOf_99 : decode cX7_copyOf 99 = .ok (.return_, 1) := by decide +kernel
theorem dX7_isLiving_0 : decode cX7_isLiving 0 = .ok (.aload_n 0, 1) := by decide +kernel
theorem dX7_isLiving_1 : decode cX7_isLiving 1 = .ok (.getfield 27, 3) := by decide +kernel
theorem dX7_isLiving_4 : decode cX7_isLiving 4 = .ok (.iload_n 1, 1) := by decide +kernel
theorem dX7_isLiving_5 : decode cX7_isLiving 5 = .ok (.ishr, 1) := by decide +kernel
theorem dX7_isLiving_6 : decode cX7_isLiving 6 = .ok (.iconst 1, 1) := by decide +kernel
theorem dX7_isLiving_7 : decode cX7_isLiving 7 = .ok (.iand, 1) := by decide +kernel
theorem dX7_isLiving_8 : decode cX7_isLiving 8 = .ok (.ifCond .eq 7, 3) := by decide +kernel
theorem dX7_isLiving_11 : decode cX7_isLiving 11 = .ok (.iconst 1, 1) := by decide +kernel
theorem dX7_isLiving_12 : decode cX7_isLiving 12 = .ok (.goto 4, 3) := by decide +kernel
theorem dX7_isLiving_15 : decode cX7_isLiving 15 = .ok (.iconst 0, 1) := by decide +kernel
theorem dX7_isLiving_16 : decode cX7_isLiving 16 = .ok (.ireturn, 1) := by decide +kernel
theorem dX7_isKept_0 : decode cX7_isKept 0 = .ok (.iload_n 1, 1) := by decide +kernel
theorem dX7_isKept_1 : decode cX7_isKept 1 = .ok (.ifCond .lt 26, 3) := by decide +kernel
theorem dX7_isKept_4 : decode cX7_isKept 4 = .ok (.iload_n 1, 1) := by decide +kernel
theorem dX7_isKept_5 : decode cX7_isKept 5 = .ok (.aload_n 0, 1) := by decide +kernel
theorem dX7_isKept_6 : decode cX7_isKept 6 = .ok (.getfield 9, 3) := by decide +kernel
theorem dX7_isKept_9 : decode cX7_isKept 9 = .ok (.arraylength, 1) := by decide +kernel
theorem dX7_isKept_10 : decode cX7_isKept 10 = .ok (.if_icmp .ge 17, 3) := by decide +kernel
theorem dX7_isKept_13 : decode cX7_isKept 13 = .ok (.aload_n 0, 1) := by decide +kernel
theorem dX7_isKept_14 : decode cX7_isKept 14 = .ok (.getfield 9, 3) := by decide +kernel
theorem dX7_isKept_17 : decode cX7_isKept 17 = .ok (.iload_n 1, 1) := by decide +kernel
theorem dX7_isKept_18 : decode cX7_isKept 18 = .ok (.iaload, 1) := by decide +kernel
theorem dX7_isKept_19 : decode cX7_isKept 19 = .ok (.iconst (-1), 1) := by decide +kernel
theorem dX7_isKept_20 : decode cX7_isKept 20 = .ok (.if_icmp .eq 7, 3) := by decide +kernel
theorem dX7_isKept_23 : decode cX7_isKept 23 = .ok (.iconst 1, 1) := by decide +kernel
theorem dX7_isKept_24 : decode cX7_isKept 24 = .ok (.goto 4, 3) := by decide +kernel
theorem dX7_isKept_27 : decode cX7_isKept 27 = .ok (.iconst 0, 1) := by decide +kernel
theorem dX7_isKept_28 : decode cX7_isKept 28 = .ok (.ireturn, 1) := by decide +kernel
theorem dX7_roomCount_0 : decode cX7_roomCount 0 = .ok (.iconst 0, 1) := by decide +kernel
theorem dX7_roomCount_1 : decode cX7_roomCount 1 = .ok (.istore_n 2, 1) := by decide +kernel
theorem dX7_roomCount_2 : decode cX7_roomCount 2 = .ok (.iconst 0, 1) := by decide +kernel
theorem dX7_roomCount_3 : decode cX7_roomCount 3 = .ok (.istore_n 3, 1) := by decide +kernel
theorem dX7_roomCount_4 : decode cX7_roomCount 4 = .ok (.iload_n 3, 1) := by decide +kernel
theorem dX7_roomCount_5 : decode cX7_roomCount 5 = .ok (.aload_n 0, 1) := by decide +kernel
theorem dX7_roomCount_6 : decode cX7_roomCount 6 = .ok (.getfield 9, 3) := by decide +kernel
theorem dX7_roomCount_9 : decode cX7_roomCount 9 = .ok (.arraylength, 1) := by decide +kernel
theorem dX7_roomCount_10 : decode cX7_roomCount 10 = .ok (.if_icmp .ge 22, 3) := by decide +kernel
theorem dX7_roomCount_13 : decode cX7_roomCount 13 = .ok (.aload_n 0, 1) := by decide +kernel
theorem dX7_roomCount_14 : decode cX7_roomCount 14 = .ok (.getfield 9, 3) := by decide +kernel
theorem dX7_roomCount_17 : decode cX7_roomCount 17 = .ok (.iload_n 3, 1) := by decide +kernel
theorem dX7_roomCount_18 : decode cX7_roomCount 18 = .ok (.iaload, 1) := by decide +kernel
theorem dX7_roomCount_19 : decode cX7_roomCount 19 = .ok (.iload_n 1, 1) := by decide +kernel
theorem dX7_roomCount_20 : decode cX7_roomCount 20 = .ok (.if_icmp .ne 6, 3) := by decide +kernel
theorem dX7_roomCount_23 : decode cX7_roomCount 23 = .ok (.iinc 2 1, 3) := by decide +kernel
theorem dX7_roomCount_26 : decode cX7_roomCount 26 = .ok (.iinc 3 1, 3) := by decide +kernel
theorem dX7_roomCount_29 : decode cX7_roomCount 29 = .ok (.goto (-25), 3) := by decide +kernel
theorem dX7_roomCount_32 : decode cX7_roomCount 32 = .ok (.iload_n 2, 1) := by decide +kernel
theorem dX7_roomCount_33 : decode cX7_roomCount 33 = .ok (.ireturn, 1) := by decide +kernel
theorem dX7_place_0 : decode cX7_place 0 = .ok (.iload_n 1, 1) := by decide +kernel
theorem dX7_place_1 : decode cX7_place 1 = .ok (.ifCond .lt 26, 3) := by decide +kernel
theorem dX7_place_4 : decode cX7_place 4 = .ok (.iload_n 1, 1) := by decide +kernel
theorem dX7_place_5 : decode cX7_place 5 = .ok (.aload_n 0, 1) := by decide +kernel
theorem dX7_place_6 : decode cX7_place 6 = .ok (.getfield 15, 3) := by decide +kernel
theorem dX7_place_9 : decode cX7_place 9 = .ok (.arraylength, 1) := by decide +kernel
theorem dX7_place_10 : decode cX7_place 10 = .ok (.if_icmp .ge 17, 3) := by decide +kernel
theorem dX7_place_13 : decode cX7_place 13 = .ok (.aload_n 0, 1) := by decide +kernel
theorem dX7_place_14 : decode cX7_place 14 = .ok (.getfield 15, 3) := by decide +kernel
theorem dX7_place_17 : decode cX7_place 17 = .ok (.iload_n 1, 1) := by decide +kernel
theorem dX7_place_18 : decode cX7_place 18 = .ok (.iload_n 2, 1) := by decide +kernel
theorem dX7_place_19 : decode cX7_place 19 = .ok (.iastore, 1) := by decide +kernel
theorem dX7_place_20 : decode cX7_place 20 = .ok (.aload_n 0, 1) := by decide +kernel
theorem dX7_place_21 : decode cX7_place 21 = .ok (.getfield 18, 3) := by decide +kernel
theorem dX7_place_24 : decode cX7_place 24 = .ok (.iload_n 1, 1) := by decide +kernel
theorem dX7_place_25 : decode cX7_place 25 = .ok (.iconst 0, 1) := by decide +kernel
theorem dX7_place_26 : decode cX7_place 26 = .ok (.iastore, 1) := by decide +kernel
theorem dX7_place_27 : decode cX7_place 27 = .ok (.return_, 1) := by decide +kernel
theorem iX7_isLiving_X7 : ∀ w ∈ wsX70, w ∈ wsX7_isLiving := (fun _ h => List.mem_cons_of_mem _ (List.mem_append_right _ h))
theorem iX7_isKept_X7 : ∀ w ∈ wsX70, w ∈ wsX7_isKept := (fun _ h => List.mem_cons_of_mem _ (List.mem_append_right _ h))
theorem iX7_roomCount_X7 : ∀ w ∈ wsX70, w ∈ wsX7_roomCount := (fun _ h => List.mem_cons_of_mem _ (List.mem_append_right _ h))
theorem iX7_place_X7 : ∀ w ∈ wsX70, w ∈ wsX7_place := (fun _ h => List.mem_cons_of_mem _ (List.mem_append_right _ h))
theorem iX7_copyOf_X7 : ∀ w ∈ wsX70, w ∈ wsX7_copyOf := (fun _ h => List.mem_cons_of_mem _ (List.mem_append_right _ h))
theorem iX0_current_X0 : ∀ w ∈ wsX00, w ∈ wsX0_current := (fun _ h => List.mem_cons_of_mem _ (List.mem_append_right _ h))
theorem iX0_begin_X0 : ∀ w ∈ wsX00, w ∈ wsX0_begin := (fun _ h => List.mem_cons_of_mem _ (List.mem_append_left _ (List.mem_append_right _ h)))
theorem iX0_stepBack_X0 : ∀ w ∈ wsX00, w ∈ wsX0_stepBack := (fun _ h => List.mem_cons_of_mem _ (List.mem_append_right _ h))
theorem iX0_stepForth_X0 : ∀ w ∈ wsX00, w ∈ wsX0_stepForth := (fun _ h => List.mem_cons_of_mem _ (List.mem_append_right _ h))
theorem iX0_startFrom_X0 : ∀ w ∈ wsX00, w ∈ wsX0_startFrom := (fun _ h => List.mem_cons_of_mem _ (List.mem_append_left _ (List.mem_append_right _ h)))
theorem iX2_empty_X2 : ∀ w ∈ wsX20, w ∈ wsX2_empty := (fun _ h => List.mem_cons_of_mem _ (List.mem_append_right _ h))
theorem iX2_addStep_X2 : ∀ w ∈ wsX20, w ∈ wsX2_addStep := (fun _ h => List.mem_cons_of_mem _ (List.mem_append_right _ h))
theorem iX2_value_X2 : ∀ w ∈ wsX20, w ∈ wsX2_value := (fun _ h => List.mem_cons_of_mem _ (List.mem_append_right _ h))
