theorem dX4_empty_5 : decode cX4_empty 5 = .ok (.aload_n 0, 1) := by decide +kernel
theorem dX4_empty_6 : decode cX4_empty 6 = .ok (.iconst 0, 1) := by decide +kernel
theorem dX4_empty_7 : decode cX4_empty 7 = .ok (.putfield 15, 3) := by decide +kernel
theorem dX4_empty_10 : decode cX4_empty 10 = .ok (.aload_n 0, 1) := by decide +kernel
theorem dX4_empty_11 : decode cX4_empty 11 = .ok (.iconst 0, 1) := by decide +kernel
theorem dX4_empty_12 : decode cX4_empty 12 = .ok (.putfield 18, 3) := by decide +kernel
theorem dX4_empty_15 : decode cX4_empty 15 = .ok (.aload_n 0, 1) := by decide +kernel
theorem dX4_empty_16 : decode cX4_empty 16 = .ok (.iconst 0, 1) := by decide +kernel
theorem dX4_empty_17 : decode cX4_empty 17 = .ok (.putfield 21, 3) := by decide +kernel
theorem dX4_empty_20 : decode cX4_empty 20 = .ok (.aload_n 0, 1) := by decide +kernel
theorem dX4_empty_21 : decode cX4_empty 21 = .ok (.iconst 0, 1) := by decide +kernel
theorem dX4_empty_22 : decode cX4_empty 22 = .ok (.putfield 24, 3) := by decide +kernel
theorem dX4_empty_25 : decode cX4_empty 25 = .ok (.aload_n 0, 1) := by decide +kernel
theorem dX4_empty_26 : decode cX4_empty 26 = .ok (.getfield 40, 3) := by decide +kernel
theorem dX4_empty_29 : decode cX4_empty 29 = .ok (.invokevirtual 54, 3) := by decide +kernel
theorem dX4_empty_32 : decode cX4_empty 32 = .ok (.aload_n 0, 1) := by decide +kernel
theorem dX4_empty_33 : decode cX4_empty 33 = .ok (.getfield 47, 3) := by decide +kernel
theorem dX4_empty_36 : decode cX4_empty 36 = .ok (.invokevirtual 57, 3) := by decide +kernel
theorem dX4_empty_39 : decode cX4_empty 39 = .ok (.return_, 1) := by decide +kernel
theorem dX4_roomsOf_0 : decode cX4_roomsOf 0 = .ok (.iconst 0, 1) := by decide +kernel
theorem dX4_roomsOf_1 : decode cX4_roomsOf 1 = .ok (.istore_n 3, 1) := by decide +kernel
theorem dX4_roomsOf_2 : decode cX4_roomsOf 2 = .ok (.iconst 0, 1) := by decide +kernel
theorem dX4_roomsOf_3 : decode cX4_roomsOf 3 = .ok (.istore 4, 2) := by decide +kernel
theorem dX4_roomsOf_5 : decode cX4_roomsOf 5 = .ok (.iload 4, 2) := by decide +kernel
theorem dX4_roomsOf_7 : decode cX4_roomsOf 7 = .ok (.aload_n 0, 1) := by decide +kernel
theorem dX4_roomsOf_8 : decode cX4_roomsOf 8 = .ok (.getfield 15, 3) := by decide +kernel
theorem dX4_roomsOf_11 : decode cX4_roomsOf 11 = .ok (.if_icmp .ge 27, 3) := by decide +kernel
theorem dX4_roomsOf_14 : decode cX4_roomsOf 14 = .ok (.aload_n 1, 1) := by decide +kernel
theorem dX4_roomsOf_15 : decode cX4_roomsOf 15 = .ok (.getfield 58, 3) := by decide +kernel
theorem dX4_roomsOf_18 : decode cX4_roomsOf 18 = .ok (.iload 4, 2) := by decide +kernel
theorem dX4_roomsOf_20 : decode cX4_roomsOf 20 = .ok (.iaload, 1) := by decide +kernel
theorem dX4_roomsOf_21 : decode cX4_roomsOf 21 = .ok (.iload_n 2, 1) := by decide +kernel
theorem dX4_roomsOf_22 : decode cX4_roomsOf 22 = .ok (.if_icmp .ne 10, 3) := by decide +kernel
theorem dX4_roomsOf_25 : decode cX4_roomsOf 25 = .ok (.iload_n 3, 1) := by decide +kernel
theorem dX4_roomsOf_26 : decode cX4_roomsOf 26 = .ok (.iconst 1, 1) := by decide +kernel
theorem dX4_roomsOf_27 : decode cX4_roomsOf 27 = .ok (.iload 4, 2) := by decide +kernel
theorem dX4_roomsOf_29 : decode cX4_roomsOf 29 = .ok (.ishl, 1) := by decide +kernel
theorem dX4_roomsOf_30 : decode cX4_roomsOf 30 = .ok (.ior, 1) := by decide +kernel
theorem dX4_roomsOf_31 : decode cX4_roomsOf 31 = .ok (.istore_n 3, 1) := by decide +kernel
theorem dX4_roomsOf_32 : decode cX4_roomsOf 32 = .ok (.iinc 4 1, 3) := by decide +kernel
theorem dX4_roomsOf_35 : decode cX4_roomsOf 35 = .ok (.goto (-30), 3) := by decide +kernel
theorem dX4_roomsOf_38 : decode cX4_roomsOf 38 = .ok (.iload_n 3, 1) := by decide +kernel
theorem dX4_roomsOf_39 : decode cX4_roomsOf 39 = .ok (.ireturn, 1) := by decide +kernel
set_option maxRecDepth 20000 in
theorem ggX4_tenantsOf_X7_isKept : GoodIn wsX4_tenantsOf wsX7_isKept := goodIn_r _ [8, 9, 21, 22, 23, 24, 25, 26, 27, 28] rfl (by decide +kernel)
set_option maxRecDepth 20000 in
theorem gX4_tenantsOf_X7_isKept : GoodIn wsX4_tenantsOf (wsV RX4 64 RX7 yX7_isKept wsX7_isKept) := goodIn_app (goodIn_r _ [4, 5, 6, 7] rfl (by decide +kernel)) ggX4_tenantsOf_X7_isKept
theorem dX4_tenantsOf_0 : decode cX4_tenantsOf 0 = .ok (.iconst 0, 1) := by decide +kernel
theorem dX4_tenantsOf_1 : decode cX4_tenantsOf 1 = .ok (.istore_n 3, 1) := by decide +kernel
theorem dX4_tenantsOf_2 : decode cX4_tenantsOf 2 = .ok (.iconst 0, 1) := by decide +kernel
theorem dX4_tenantsOf_3 : decode cX4_tenantsOf 3 = .ok (.istore 4, 2) := by decide +kernel
theorem dX4_tenantsOf_5 : decode cX4_tenantsOf 5 = .ok (.iload 4, 2) := by decide +kernel
theorem dX4_tenantsOf_7 : decode cX4_tenantsOf 7 = .ok (.aload_n 0, 1) := by decide +kernel
theorem dX4_tenantsOf_8 : decode cX4_tenantsOf 8 = .ok (.getfield 18, 3) := by decide +kernel
theorem dX4_tenantsOf_11 : decode cX4_tenantsOf 11 = .ok (.if_icmp .ge 45, 3) := by decide +kernel
theorem dX4_tenantsOf_14 : decode cX4_tenantsOf 14 = .ok (.aload_n 1, 1) := by decide +kernel
theorem dX4_tenantsOf_15 : decode cX4_tenantsOf 15 = .ok (.getfield 61, 3) := by decide +kernel
theorem dX4_tenantsOf_18 : decode cX4_tenantsOf 18 = .ok (.iload 4, 2) := by decide +kernel
theorem dX4_tenantsOf_20 : decode cX4_tenantsOf 20 = .ok (.iaload, 1) := by decide +kernel
theorem dX4_tenantsOf_21 : decode cX4_tenantsOf 21 = .ok (.istore 5, 2) := by decide +kernel
theorem dX4_tenantsOf_23 : decode cX4_tenantsOf 23 = .ok (.aload_n 1, 1) := by decide +kernel
theorem dX4_tenantsOf_24 : decode cX4_tenantsOf 24 = .ok (.iload 5, 2) := by decide +kernel
theorem dX4_tenantsOf_26 : decode cX4_tenantsOf 26 = .ok (.invokevirtual 64, 3) := by decide +kernel
theorem dX4_tenantsOf_29 : decode cX4_tenantsOf 29 = .ok (.ifCond .eq 21, 3) := by decide +kernel
theorem dX4_tenantsOf_32 : decode cX4_tenantsOf 32 = .ok (.aload_n 1, 1) := by decide +kernel
theorem dX4_tenantsOf_33 : decode cX4_tenantsOf 33 = .ok (.getfield 58, 3) := by decide +kernel
theorem dX4_tenantsOf_36 : decode cX4_tenantsOf 36 = .ok (.iload 5, 2) := by decide +kernel
theorem dX4_tenantsOf_38 : decode cX4_tenantsOf 38 = .ok (.iaload, 1) := by decide +kernel
theorem dX4_tenantsOf_39 : decode cX4_tenantsOf 39 = .ok (.iload_n 2, 1) := by decide +kernel
theorem dX4_tenantsOf_40 : decode cX4_tenantsOf 40 = .ok (.if_icmp .ne 10, 3) := by decide +kernel
theorem dX4_tenantsOf_43 : decode cX4_tenantsOf 43 = .ok (.iload_n 3, 1) := by decide +kernel
theorem dX4_tenantsOf_44 : decode cX4_tenantsOf 44 = .ok (.iconst 1, 1) := by decide +kernel
theorem dX4_tenantsOf_45 : decode cX4_tenantsOf 45 = .ok (.iload 4, 2) := by decide +kernel
theorem dX4_tenantsOf_47 : decode cX4_tenantsOf 47 = .ok (.ishl, 1) := by decide +kernel
theorem dX4_tenantsOf_48 : decode cX4_tenantsOf 48 = .ok (.ior, 1) := by decide +kernel
theorem dX4_tenantsOf_49 : decode cX4_tenantsOf 49 = .ok (.istore_n 3, 1) := by decide +kernel
theorem dX4_tenantsOf_50 : decode cX4_tenantsOf 50 = .ok (.iinc 4 1, 3) := by decide +kernel
theorem dX4_tenantsOf_53 : decode cX4_tenantsOf 53 = .ok (.goto (-48), 3) := by decide +kernel
theorem dX4_tenantsOf_56 : decode cX4_tenantsOf 56 = .ok (.iload_n 3, 1) := by decide +kernel
theorem dX4_tenantsOf_57 : decode cX4_tenantsOf 57 = .ok (.ireturn, 1) := by decide +kernel
theorem dX4_whoIsIn_0 : decode cX4_whoIsIn 0 = .ok (.iconst 0, 1) := by decide +kernel
theorem dX4_whoIsIn_1 : decode cX4_whoIsIn 1 = .ok (.istore_n 3, 1) := by decide +kernel
theorem dX4_whoIsIn_2 : decode cX4_whoIsIn 2 = .ok (.iload_n 3, 1) := by decide +kernel
theorem dX4_whoIsIn_3 : decode cX4_whoIsIn 3 = .ok (.aload_n 0, 1) := by decide +kernel
theorem dX4_whoIsIn_4 : decode cX4_whoIsIn 4 = .ok (.getfield 18, 3) := by decide +kernel
theorem dX4_whoIsIn_7 : decode cX4_whoIsIn 7 = .ok (.if_icmp .ge 21, 3) := by decide +kernel
theorem dX4_whoIsIn_10 : decode cX4_whoIsIn 10 = .ok (.aload_n 1, 1) := by decide +kernel
theorem dX4_whoIsIn_11 : decode cX4_whoIsIn 11 = .ok (.getfield 61, 3) := by decide +kernel
theorem dX4_whoIsIn_14 : decode cX4_whoIsIn 14 = .ok (.iload_n 3, 1) := by decide +kernel
theorem dX4_whoIsIn_15 : decode cX4_whoIsIn 15 = .ok (.iaload, 1) := by decide +kernel
theorem dX4_whoIsIn_16 : decode cX4_whoIsIn 16 = .ok (.iload_n 2, 1) := by decide +kernel
theorem dX4_whoIsIn_17 : decode cX4_whoIsIn 17 = .ok (.if_icmp .ne 5, 3) := by decide +kernel
theorem dX4_whoIsIn_20 : decode cX4_whoIsIn 20 = .ok (.iload_n 3, 1) := by decide +kernel
theorem dX4_whoIsIn_21 : decode cX4_whoIsIn 21 = .ok (.ireturn, 1) := by decide +kernel
theorem dX4_whoIsIn_22 : decode cX4_whoIsIn 22 = .ok (.iinc 3 1, 3) := by decide +kernel
theorem dX4_whoIsIn_25 : decode cX4_whoIsIn 25 = .ok (.goto (-23), 3) := by decide +kernel
theorem dX4_whoIsIn_28 : decode cX4_whoIsIn 28 = .ok (.iconst (-1), 1) := by decide +kernel
theorem dX4_whoIsIn_29 : decode cX4_whoIsIn 29 = .ok (.ireturn, 1) := by decide +kernel
theorem dX4_whoIsOut_0 : decode cX4_whoIsOut 0 = .ok (.iconst 0, 1) := by decide +kernel
theorem dX4_whoIsOut_1 : decode cX4_whoIsOut 1 = .ok (.istore_n 2, 1) := by decide +kernel
theorem dX4_whoIsOut_2 : decode cX4_whoIsOut 2 = .ok (.iconst 0, 1) := by decide +kernel
theorem dX4_whoIsOut_3 : decode cX4_whoIsOut 3 = .ok (.istore_n 3, 1) := by decide +kernel
theorem dX4_whoIsOut_4 : decode cX4_whoIsOut 4 = .ok (.iload_n 3, 1) := by decide +kernel
theorem dX4_whoIsOut_5 : decode cX4_whoIsOut 5 = .ok (.aload_n 0, 1) := by decide +kernel
theorem dX4_whoIsOut_6 : decode cX4_whoIsOut 6 = .ok (.getfield 18, 3) := by decide +kernel
theorem dX4_whoIsOut_9 : decode cX4_whoIsOut 9 = .ok (.if_icmp .ge 25, 3) := by decide +kernel
theorem dX4_whoIsOut_12 : decode cX4_whoIsOut 12 = .ok (.aload_n 1, 1) := by decide +kernel
theorem dX4_whoIsOut_13 : decode cX4_whoIsOut 13 = .ok (.getfield 61, 3) := by decide +kernel
theorem dX4_whoIsOut_16 : decode cX4_whoIsOut 16 = .ok (.iload_n 3, 1) := by decide +kernel
theorem dX4_whoIsOut_17 : decode cX4_whoIsOut 17 = .ok (.iaload, 1) := by decide +kernel
theorem dX4_whoIsOut_18 : decode cX4_whoIsOut 18 = .ok (.iconst (-1), 1) := by decide +kernel
theorem dX4_whoIsOut_19 : decode cX4_whoIsOut 19 = .ok (.if_icmp .ne 9, 3) := by decide +kernel
theorem dX4_whoIsOut_22 : decode cX4_whoIsOut 22 = .ok (.iload_n 2, 1) := by decide +kernel
theorem dX4_whoIsOut_23 : decode cX4_whoIsOut 23 = .ok (.iconst 1, 1) := by decide +kernel
theorem dX4_whoIsOut_24 : decode cX4_whoIsOut 24 = .ok (.iload_n 3, 1) := by decide +kernel
theorem dX4_whoIsOut_25 : decode cX4_whoIsOut 25 = .ok (.ishl, 1) := by decide +kernel
theorem dX4_whoIsOut_26 : decode cX4_whoIsOut 26 = .ok (.ior, 1) := by decide +kernel
theorem dX4_whoIsOut_27 : decode cX4_whoIsOut 27 = .ok (.istore_n 2, 1) := by decide +kernel
theorem dX4_whoIsOut_28 : decode cX4_whoIsOut 28 = .ok (.iinc 3 1, 3) := by decide +kernel
theorem dX4_whoIsOut_31 : decode cX4_whoIsOut 31 = .ok (.goto (-27), 3) := by decide +kernel
theorem dX4_whoIsOut_34 : decode cX4_whoIsOut 34 = .ok (.iload_n 2, 1) := by decide +kernel
theorem dX4_whoIsOut_35 : decode cX4_whoIsOut 35 = .ok (.ireturn, 1) := by decide +kernel
set_option maxRecDepth 20000 in
theorem ggX4_consider_X7_isKept : GoodIn wsX4_consider wsX7_isKept := goodIn_r _ [15, 16, 32, 33, 34, 35, 36, 37, 38, 39] rfl (by decide +kernel)
set_option maxRecDepth 20000 in
theorem gX4_consider_X7_isKept : GoodIn wsX4_consider (wsV RX4 64 RX7 yX7_isKept wsX7_isKept) := goodIn_app (goodIn_r _ [11, 12, 13, 14] rfl (by decide +kernel)) ggX4_consider_X7_isKept
set_option maxRecDepth 20000 in
theorem ggX4_consider_X7_roomCount : GoodIn wsX4_consider wsX7_roomCount := goodIn_r _ [20, 16, 32, 33, 34, 35, 36, 37, 38, 39] rfl (by decide +kernel)
set_option maxRecDepth 20000 in
theorem gX4_consider_X7_roomCount : GoodIn wsX4_consider (wsV RX4 77 RX7 yX7_roomCount wsX7_roomCount) := goodIn_app (goodIn_r _ [17, 18, 19, 14] rfl (by decide +kernel)) ggX4_consider_X7_roomCount
theorem dX4_consider_0 : decode cX4_consider 0 = .ok (.iload_n 2, 1) := by decide +kernel
theorem dX4_consider_1 : decode cX4_consider 1 = .ok (.ifCond .lt 19, 3) := by decide +kernel
theorem dX4_consider_4 : decode cX4_consider 4 = .ok (.iload_n 2, 1) := by decide +kernel
theorem dX4_consider_5 : decode cX4_consider 5 = .ok (.aload_n 0, 1) := by decide +kernel
theorem dX4_consider_6 : decode cX4_consider 6 = .ok (.getfield 18, 3) := by decide +kernel
theorem dX4_consider_9 : decode cX4_consider 9 = .ok (.if_icmp .ge 11, 3) := by decide +kernel
theorem dX4_consider_12 : decode cX4_consider 12 = .ok (.aload_n 1, 1) := by decide +kernel
theorem dX4_consider_13 : decode cX4_consider 13 = .ok (.iload_n 3, 1) := by decide +kernel
theorem dX4_consider_14 : decode cX4_consider 14 = .ok (.invokevirtual 64, 3) := by decide +kernel
theorem dX4_consider_17 : decode cX4_consider 17 = .ok (.ifCond .ne 4, 3) := by decide +kernel
theorem dX4_consider_20 : decode cX4_consider 20 = .ok (.return_, 1) := by decide +kernel
theorem dX4_consider_21 : decode cX4_consider 21 = .ok (.aload_n 1, 1) := by decide +kernel
theorem dX4_consider_22 : decode cX4_consider 22 = .ok (.getfield 58, 3) := by decide +kernel
theorem dX4_consider_25 : decode cX4_consider 25 = .ok (.iload_n 3, 1) := by decide +kernel
theorem dX4_consider_26 : decode cX4_consider 26 = .ok (.iaload, 1) := by decide +kernel
theorem dX4_consider_27 : decode cX4_consider 27 = .ok (.istore 4, 2) := by decide +kernel
theorem dX4_consider_29 : decode cX4_consider 29 = .ok (.aload_n 0, 1) := by decide +kernel
theorem dX4_consider_30 : decode cX4_consider 30 = .ok (.getfield 51, 3) := by decide +kernel
theorem dX4_consider_33 : decode cX4_consider 33 = .ok (.iconst 0, 1) := by decide +kernel
theorem dX4_consider_34 : decode cX4_consider 34 = .ok (.aload_n 1, 1) := by decide +kernel
theorem dX4_consider_35 : decode cX4_consider 35 = .ok (.getfield 68, 3) := by decide +kernel
theorem dX4_consider_38 : decode cX4_consider 38 = .ok (.iload_n 2, 1) := by decide +kernel
theorem dX4_consider_39 : decode cX4_consider 39 = .ok (.iaload, 1) := by decide +kernel
theorem dX4_consider_40 : decode cX4_consider 40 = .ok (.iastore, 1) := by decide +kernel
theorem dX4_consider_41 : decode cX4_consider 41 = .ok (.aload_n 0, 1) := by decide +kernel
theorem dX4_consider_42 : decode cX4_consider 42 = .ok (.getfield 51, 3) := by decide +kernel
theorem dX4_consider_45 : decode cX4_consider 45 = .ok (.iconst 1, 1) := by decide +kernel
theorem dX4_consider_46 : decode cX4_consider 46 = .ok (.iload 4, 2) := by decide +kernel
theorem dX4_consider_48 : decode cX4_consider 48 = .ok (.aload_n 0, 1) := by decide +kernel
theorem dX4_consider_49 : decode cX4_consider 49 = .ok (.getfield 27, 3) := by decide +kernel
theorem dX4_consider_52 : decode cX4_consider 52 = .ok (.arraylength, 1) := by decide +kernel
theorem dX4_consider_53 : decode cX4_consider 53 = .ok (.if_icmp .ge 13, 3) := by decide +kernel
theorem dX4_consider_56 : decode cX4_consider 56 = .ok (.aload_n 0, 1) := by decide +kernel
theorem dX4_consider_57 : decode cX4_consider 57 = .ok (.getfield 27, 3) := by decide +kernel
theorem dX4_consider_60 : decode cX4_consider 60 = .ok (.iload 4, 2) := by decide +kernel
theorem dX4_consider_62 : decode cX4_consider 62 = .ok (.iaload, 1) := by decide +kernel
theorem dX4_consider_63 : decode cX4_consider 63 = .ok (.goto 4, 3) := by decide +kernel
theorem dX4_consider_67 : decode cX4_consider 67 = .ok (.iastore, 1) := by decide +kernel
theorem dX4_consider_68 : decode cX4_consider 68 = .ok (.aload_n 0, 1) := by decide +kernel
theorem dX4_consider_69 : decode cX4_consider 69 = .ok (.getfield 51, 3) := by decide +kernel
theorem dX4_consider_72 : decode cX4_consider 72 = .ok (.iconst 2, 1) := by decide +kernel
theorem dX4_consider_73 : decode cX4_consider 73 = .ok (.aload_n 0, 1) := by decide +kernel
theorem dX4_consider_74 : decode cX4_consider 74 = .ok (.getfield 34, 3) := by decide +kernel
theorem dX4_consider_77 : decode cX4_consider 77 = .ok (.iload_n 2, 1) := by decide +kernel
theorem dX4_consider_78 : decode cX4_consider 78 = .ok (.iaload, 1) := by decide +kernel
theorem dX4_consider_79 : decode cX4_consider 79 = .ok (.iastore, 1) := by decide +kernel
theorem dX4_consider_80 : decode cX4_consider 80 = .ok (.aload_n 0, 1) := by decide +kernel
theorem dX4_consider_81 : decode cX4_consider 81 = .ok (.getfield 51, 3) := by decide +kernel
theorem dX4_consider_84 : decode cX4_consider 84 = .ok (.iconst 3, 1) := by decide +kernel
theorem dX4_consider_85 : decode cX4_consider 85 = .ok (.aload_n 1, 1) := by decide +kernel
theorem dX4_consider_86 : decode cX4_consider 86 = .ok (.getfield 71, 3) := by decide +kernel
theorem dX4_consider_89 : decode cX4_consider 89 = .ok (.iload_n 2, 1) := by decide +kernel
theorem dX4_consider_90 : decode cX4_consider 90 = .ok (.iaload, 1) := by decide +kernel
theorem dX4_consider_91 : decode cX4_consider 91 = .ok (.iastore, 1) := by decide +kernel
theorem dX4_consider_92 : decode cX4_consider 92 = .ok (.aload_n 0, 1) := by decide +kernel
theorem dX4_consider_93 : decode cX4_consider 93 = .ok (.getfield 51, 3) := by decide +kernel
theorem dX4_consider_96 : decode cX4_consider 96 = .ok (.iconst 4, 1) := by decide +kernel
theorem dX4_consider_97 : decode cX4_consider 97 = .ok (.aload_n 1, 1) := by decide +kernel
theorem dX4_consider_98 : decode cX4_consider 98 = .ok (.getfield 61, 3) := by decide +kernel
theorem dX4_consider_101 : decode cX4_consider 101 = .ok (.iload_n 2, 1) := by decide +kernel
theorem dX4_consider_102 : decode cX4_consider 102 = .ok (.iaload, 1) := by decide +kernel
theorem dX4_consider_103 : decode cX4_consider 103 = .ok (.iload_n 3, 1) := by decide +kernel
theorem dX4_consider_104 : decode cX4_consider 104 = .ok (.if_icmp .ne 12, 3) := by decide +kernel
theorem dX4_consider_107 : decode cX4_consider 107 = .ok (.aload_n 1, 1) := by decide +kernel
theorem dX4_consider_108 : decode cX4_consider 108 = .ok (.getfield 74, 3) := by decide +kernel
theorem dX4_consider_111 : decode cX4_consider 111 = .ok (.iload_n 2, 1) := by decide +kernel
theorem dX4_consider_112 : decode cX4_consider 112 = .ok (.iaload, 1) := by decide +kernel
theorem dX4_consider_113 : decode cX4_consider 113 = .ok (.goto 4, 3) := by decide +kernel
theorem dX4_consider_116 : decode cX4_consider 116 = .ok (.iconst 0, 1) := by decide +kernel
theorem dX4_consider_117 : decode cX4_consider 117 = .ok (.iastore, 1) := by decide +kernel
theorem dX4_consider_118 : decode cX4_consider 118 = .ok (.aload_n 0, 1) := by decide +kernel
theorem dX4_consider_119 : decode cX4_consider 119 = .ok (.getfield 51, 3) := by decide +kernel
theorem dX4_consider_122 : decode cX4_consider 122 = .ok (.iconst 5, 1) := by decide +kernel
theorem dX4_consider_123 : decode cX4_consider 123 = .ok (.aload_n 1, 1) := by decide +kernel
theorem dX4_consider_124 : decode cX4_consider 124 = .ok (.iload 4, 2) := by decide +kernel
theorem dX4_consider_126 : decode cX4_consider 126 = .ok (.invokevirtual 77, 3) := by decide +kernel
theorem dX4_consider_129 : decode cX4_consider 129 = .ok (.iastore, 1) := by decide +kernel
theorem dX4_consider_130 : decode cX4_consider 130 = .ok (.aload_n 0, 1) := by decide +kernel
theorem dX4_consider_131 : decode cX4_consider 131 = .ok (.getfield 51, 3) := by decide +kernel
theorem dX4_consider_134 : decode cX4_consider 134 = .ok (.bipush 6, 2) := by decide +kernel
theorem dX4_consider_136 : decode cX4_consider 136 = .ok (.aload_n 1, 1) := by decide +kernel
theorem dX4_consider_137 : decode cX4_consider 137 = .ok (.getfield 81, 3) := by decide +kernel
theorem dX4_consider_140 : decode cX4_consider 140 = .ok (.iastore, 1) := by decide +kernel
theorem dX4_consider_141 : decode cX4_consider 141 = .ok (.return_, 1) := by decide +kernel
set_option maxRecDepth 20000 in
theorem ggX4_likes_X4_consider : GoodIn wsX4_likes wsX4_consider := goodIn_r _ [7, 8, 9, 2, 10, 11, 12, 13, 14, 15, 16, 17, 18, 19, 20, 21, 22, 23, 24, 25, 26, 41, 42, 43, 44, 45, 46, 47, 48, 49, 50, 51, 52, 53, 54, 55, 56, 57, 58, 59] rfl (by decide +kernel)
set_option maxRecDepth 20000 in
theorem gX4_likes_X4_consider : GoodIn wsX4_likes (wsV RX4 84 RX4 yX4_consider wsX4_consider) := goodIn_app (goodIn_r _ [3, 4, 5, 6] rfl (by decide +kernel)) ggX4_likes_X4_consider
set_option maxRecDepth 20000 in
theorem ggX4_likes_X2_value : GoodIn wsX4_likes wsX2_value := goodIn_r _ [31, 32, 33, 34, 35, 36, 30, 37, 38, 39, 40, 60, 61, 62] rfl (by decide +kernel)
set_option maxRecDepth 20000 in
theorem gX4_likes_X2_value : GoodIn wsX4_likes (wsV RX4 88 RX2 yX2_value wsX2_value) := goodIn_app (goodIn_r _ [27, 28, 29, 30] rfl (by decide +kernel)) ggX4_likes_X2_value
theorem dX4_likes_0 : decode cX4_likes 0 = .ok (.aload_n 0, 1) := by decide +kernel
theorem dX4_likes_1 : decode cX4_likes 1 = .ok (.aload_n 1, 1) := by decide +kernel
theorem dX4_likes_2 : decode cX4_likes 2 = .ok (.iload_n 2, 1) := by decide +kernel
theorem dX4_likes_3 : decode cX4_likes 3 = .ok (.iload_n 3, 1) := by decide +kernel
theorem dX4_likes_4 : decode cX4_likes 4 = .ok (.invokevirtual 84, 3) := by decide +kernel
theorem dX4_likes_7 : decode cX4_likes 7 = .ok (.aload_n 0, 1) := by decide +kernel
theorem dX4_likes_8 : decode cX4_likes 8 = .ok (.getfield 47, 3) := by decide +kernel
theorem dX4_likes_11 : decode cX4_likes 11 = .ok (.aload_n 0, 1) := by decide +kernel
theorem dX4_likes_12 : decode cX4_likes 12 = .ok (.getfield 51, 3) := by decide +kernel
theorem dX4_likes_15 : decode cX4_likes 15 = .ok (.invokevirtual 88, 3) := by decide +kernel
theorem dX4_likes_18 : decode cX4_likes 18 = .ok (.ireturn, 1) := by decide +kernel
set_option maxRecDepth 20000 in
theorem ggX4_likesBy_X2_value : GoodIn wsX4_likesBy wsX2_value := goodIn_r _ [7, 8, 9, 10, 11, 12, 6, 13, 14, 15, 16, 28, 29, 30] rfl (by decide +kernel)
set_option maxRecDepth 20000 in
theorem gX4_likesBy_X2_value : GoodIn wsX4_likesBy (wsV RX4 88 RX2 yX2_value wsX2_value) := goodIn_app (goodIn_r _ [3, 4, 5, 6] rfl (by decide +kernel)) ggX4_likesBy_X2_value
theorem dX4_likesBy_0 : decode cX4_likesBy 0 = .ok (.iload_n 1, 1) := by decide +kernel
theorem dX4_likesBy_1 : decode cX4_likesBy 1 = .ok (.ifCond .lt 19, 3) := by decide +kernel
theorem dX4_likesBy_4 : decode cX4_likesBy 4 = .ok (.iload_n 1, 1) := by decide +kernel
theorem dX4_likesBy_5 : decode cX4_likesBy 5 = .ok (.aload_n 0, 1) := by decide +kernel
theorem dX4_likesBy_6 : decode cX4_likesBy 6 = .ok (.getfield 51, 3) := by decide +kernel
theorem dX4_likesBy_9 : decode cX4_likesBy 9 = .ok (.arraylength, 1) := by decide +kernel
theorem dX4_likesBy_10 : decode cX4_likesBy 10 = .ok (.if_icmp .ge 10, 3) := by decide +kernel
theorem dX4_likesBy_13 : decode cX4_likesBy 13 = .ok (.aload_n 0, 1) := by decide +kernel
theorem dX4_likesBy_14 : decode cX4_likesBy 14 = .ok (.getfield 51, 3) := by decide +kernel
theorem dX4_likesBy_17 : decode cX4_likesBy 17 = .ok (.iload_n 1, 1) := by decide +kernel
theorem dX4_likesBy_18 : decode cX4_likesBy 18 = .ok (.iload_n 2, 1) := by decide +kernel
theorem dX4_likesBy_19 : decode cX4_likesBy 19 = .ok (.iastore, 1) := by decide +kernel
theorem dX4_likesBy_20 : decode cX4_likesBy 20 = .ok (.aload_n 0, 1) := by decide +kernel
theorem dX4_likesBy_21 : decode cX4_likesBy 21 = .ok (.getfield 47, 3) := by decide +kernel
theorem dX4_likesBy_24 : decode cX4_likesBy 24 = .ok (.aload_n 0, 1) := by decide +kernel
theorem dX4_likesBy_25 : decode cX4_likesBy 25 = .ok (.getfield 51, 3) := by decide +kernel
theorem dX4_likesBy_28 : decode cX4_likesBy 28 = .ok (.invokevirtual 88, 3) := by decide +kernel
theorem dX4_likesBy_31 : decode cX4_likesBy 31 = .ok (.ireturn, 1) := by decide +kernel
set_option maxRecDepth 20000 in
theorem ggX4_thrownOut_X7_isKept : GoodIn wsX4_thrownOut wsX7_isKept := goodIn_r _ [7, 8, 56, 57, 58, 59, 60, 61, 62, 63] rfl (by decide +kernel)
set_option maxRecDepth 20000 in
theorem gX4_thrownOut_X7_isKept : GoodIn wsX4_thrownOut (wsV RX4 64 RX7 yX7_isKept wsX7_isKept) := goodIn_app (goodIn_r _ [3, 4, 5, 6] rfl (by decide +kernel)) ggX4_thrownOut_X7_isKept
set_option maxRecDepth 20000 in
theorem ggX4_thrownOut_X4_likes : GoodIn wsX4_thrownOut wsX4_likes := goodIn_r _ [13, 14, 15, 16, 17, 18, 12, 19, 1, 20, 21, 22, 23, 24, 2, 25, 26, 3, 4, 5, 6, 7, 8, 27, 28, 29, 30, 31, 32, 33, 34, 35, 36, 37, 38, 39, 40, 41, 42, 43, 44, 45, 46, 47, 48, 49, 50, 51, 52, 53, 54, 55, 56, 57, 58, 59, 60, 61, 62, 63, 64, 65, 66] rfl (by decide +kernel)
set_option maxRecDepth 20000 in
theorem gX4_thrownOut_X4_likes : GoodIn wsX4_thrownOut (wsV RX4 92 RX4 yX4_likes wsX4_likes) := goodIn_app (goodIn_r _ [9, 10, 11, 12] rfl (by decide +kernel)) ggX4_thrownOut_X4_likes
theorem dX4_thrownOut_0 : decode cX4_thrownOut 0 = .ok (.iconst 0, 1) := by decide +kernel
theorem dX4_thrownOut_1 : decode cX4_thrownOut 1 = .ok (.istore_n 2, 1) := by decide +kernel
theorem dX4_thrownOut_2 : decode cX4_thrownOut 2 = .ok (.iconst 0, 1) := by decide +kernel
theorem dX4_thrownOut_3 : decode cX4_thrownOut 3 = .ok (.istore_n 3, 1) := by decide +kernel
theorem dX4_thrownOut_4 : decode cX4_thrownOut 4 = .ok (.iload_n 3, 1) := by decide +kernel
theorem dX4_thrownOut_5 : decode cX4_thrownOut 5 = .ok (.aload_n 0, 1) := by decide +kernel
theorem dX4_thrownOut_6 : decode cX4_thrownOut 6 = .ok (.getfield 18, 3) := by decide +kernel
theorem dX4_thrownOut_9 : decode cX4_thrownOut 9 = .ok (.if_icmp .ge 43, 3) := by decide +kernel
theorem dX4_thrownOut_12 : decode cX4_thrownOut 12 = .ok (.aload_n 1, 1) := by decide +kernel
theorem dX4_thrownOut_13 : decode cX4_thrownOut 13 = .ok (.getfield 61, 3) := by decide +kernel
theorem dX4_thrownOut_16 : decode cX4_thrownOut 16 = .ok (.iload_n 3, 1) := by decide +kernel
theorem dX4_thrownOut_17 : decode cX4_thrownOut 17 = .ok (.iaload, 1) := by decide +kernel
theorem dX4_thrownOut_18 : decode cX4_thrownOut 18 = .ok (.istore 4, 2) := by decide +kernel
theorem dX4_thrownOut_20 : decode cX4_thrownOut 20 = .ok (.aload_n 1, 1) := by decide +kernel
theorem dX4_thrownOut_21 : decode cX4_thrownOut 21 = .ok (.iload 4, 2) := by decide +kernel
theorem dX4_thrownOut_23 : decode cX4_thrownOut 23 = .ok (.invokevirtual 64, 3) := by decide +kernel
theorem dX4_thrownOut_26 : decode cX4_thrownOut 26 = .ok (.ifCond .eq 20, 3) := by decide +kernel
theorem dX4_thrownOut_29 : decode cX4_thrownOut 29 = .ok (.aload_n 0, 1) := by decide +kernel
theorem dX4_thrownOut_30 : decode cX4_thrownOut 30 = .ok (.aload_n 1, 1) := by decide +kernel
theorem dX4_thrownOut_31 : decode cX4_thrownOut 31 = .ok (.iload_n 3, 1) := by decide +kernel
theorem dX4_thrownOut_32 : decode cX4_thrownOut 32 = .ok (.iload 4, 2) := by decide +kernel
theorem dX4_thrownOut_34 : decode cX4_thrownOut 34 = .ok (.invokevirtual 92, 3) := by decide +kernel
theorem dX4_thrownOut_37 : decode cX4_thrownOut 37 = .ok (.ifCond .gt 9, 3) := by decide +kernel
theorem dX4_thrownOut_40 : decode cX4_thrownOut 40 = .ok (.iload_n 2, 1) := by decide +kernel
theorem dX4_thrownOut_41 : decode cX4_thrownOut 41 = .ok (.iconst 1, 1) := by decide +kernel
theorem dX4_thrownOut_42 : decode cX4_thrownOut 42 = .ok (.iload_n 3, 1) := by decide +kernel
theorem dX4_thrownOut_43 : decode cX4_thrownOut 43 = .ok (.ishl, 1) := by decide +kernel
theorem dX4_thrownOut_44 : decode cX4_thrownOut 44 = .ok (.ior, 1) := by decide +kernel
theorem dX4_thrownOut_45 : decode cX4_thrownOut 45 = .ok (.istore_n 2, 1) := by decide +kernel
theorem dX4_thrownOut_46 : decode cX4_thrownOut 46 = .ok (.iinc 3 1, 3) := by decide +kernel
theorem dX4_thrownOut_49 : decode cX4_thrownOut 49 = .ok (.goto (-45), 3) := by decide +kernel
theorem dX4_thrownOut_52 : decode cX4_thrownOut 52 = .ok (.iload_n 2, 1) := by decide +kernel
theorem dX4_thrownOut_53 : decode cX4_thrownOut 53 = .ok (.ireturn, 1) := by decide +kernel
set_option maxRecDepth 20000 in
theorem ggX4_thrownOutAt_X4_consider : GoodIn wsX4_thrownOutAt wsX4_consider := goodIn_r _ [7, 1, 8, 9, 10, 11, 12, 13, 2, 14, 15, 16, 17, 18, 19, 20, 21, 22, 23, 24, 25, 45, 46, 47, 48, 49, 50, 51, 52, 53, 54, 55, 56, 57, 58, 59, 60, 61, 62, 63] rfl (by decide +kernel)
set_option maxRecDepth 20000 in
theorem gX4_thrownOutAt_X4_consider : GoodIn wsX4_thrownOutAt (wsV RX4 84 RX4 yX4_consider wsX4_consider) := goodIn_app (goodIn_r _ [3, 4, 5, 6] rfl (by decide +kernel)) ggX4_thrownOutAt_X4_consider
set_option maxRecDepth 20000 in
theorem ggX4_thrownOutAt_X7_isKept : GoodIn wsX4_thrownOutAt wsX7_isKept := goodIn_r _ [20, 21, 56, 57, 58, 59, 60, 61, 62, 63] rfl (by decide +kernel)
set_option maxRecDepth 20000 in
theorem gX4_thrownOutAt_X7_isKept : GoodIn wsX4_thrownOutAt (wsV RX4 64 RX7 yX7_isKept wsX7_isKept) := goodIn_app (goodIn_r _ [16, 17, 18, 19] rfl (by decide +kernel)) ggX4_thrownOutAt_X7_isKept
set_option maxRecDepth 20000 in
theorem ggX4_thrownOutAt_X4_likesBy : GoodIn wsX4_thrownOutAt wsX4_likesBy := goodIn_r _ [29, 9, 30, 31, 32, 33, 34, 35, 36, 37, 38, 39, 40, 41, 42, 43, 44, 45, 46, 47, 48, 49, 50, 51, 52, 53, 54, 55, 64, 65, 66] rfl (by decide +kernel)
set_option maxRecDepth 20000 in
theorem gX4_thrownOutAt_X4_likesBy : GoodIn wsX4_thrownOutAt (wsV RX4 96 RX4 yX4_likesBy wsX4_likesBy) := goodIn_app (goodIn_r _ [26, 27, 28, 6] rfl (by decide +kernel)) ggX4_thrownOutAt_X4_likesBy
theorem dX4_thrownOutAt_0 : decode cX4_thrownOutAt 0 = .ok (.iconst 0, 1) := by decide +kernel
theorem dX4_thrownOutAt_1 : decode cX4_thrownOutAt 1 = .ok (.istore_n 3, 1) := by decide +kernel
theorem dX4_thrownOutAt_2 : decode cX4_thrownOutAt 2 = .ok (.iconst 0, 1) := by decide +kernel
theorem dX4_thrownOutAt_3 : decode cX4_thrownOutAt 3 = .ok (.istore 4, 2) := by decide +kernel
theorem dX4_thrownOutAt_5 : decode cX4_thrownOutAt 5 = .ok (.iload 4, 2) := by decide +kernel
theorem dX4_thrownOutAt_7 : decode cX4_thrownOutAt 7 = .ok (.aload_n 0, 1) := by decide +kernel
theorem dX4_thrownOutAt_8 : decode cX4_thrownOutAt 8 = .ok (.getfield 18, 3) := by decide +kernel
theorem dX4_thrownOutAt_11 : decode cX4_thrownOutAt 11 = .ok (.if_icmp .ge 52, 3) := by decide +kernel
theorem dX4_thrownOutAt_14 : decode cX4_thrownOutAt 14 = .ok (.aload_n 1, 1) := by decide +kernel
theorem dX4_thrownOutAt_15 : decode cX4_thrownOutAt 15 = .ok (.getfield 61, 3) := by decide +kernel
theorem dX4_thrownOutAt_18 : decode cX4_thrownOutAt 18 = .ok (.iload 4, 2) := by decide +kernel
theorem dX4_thrownOutAt_20 : decode cX4_thrownOutAt 20 = .ok (.iaload, 1) := by decide +kernel
theorem dX4_thrownOutAt_21 : decode cX4_thrownOutAt 21 = .ok (.istore 5, 2) := by decide +kernel
theorem dX4_thrownOutAt_23 : decode cX4_thrownOutAt 23 = .ok (.aload_n 0, 1) := by decide +kernel
theorem dX4_thrownOutAt_24 : decode cX4_thrownOutAt 24 = .ok (.aload_n 1, 1) := by decide +kernel
theorem dX4_thrownOutAt_25 : decode cX4_thrownOutAt 25 = .ok (.iload 4, 2) := by decide +kernel
theorem dX4_thrownOutAt_27 : decode cX4_thrownOutAt 27 = .ok (.iload 5, 2) := by decide +kernel
theorem dX4_thrownOutAt_29 : decode cX4_thrownOutAt 29 = .ok (.invokevirtual 84, 3) := by decide +kernel
theorem dX4_thrownOutAt_32 : decode cX4_thrownOutAt 32 = .ok (.aload_n 1, 1) := by decide +kernel
theorem dX4_thrownOutAt_33 : decode cX4_thrownOutAt 33 = .ok (.iload 5, 2) := by decide +kernel
theorem dX4_thrownOutAt_35 : decode cX4_thrownOutAt 35 = .ok (.invokevirtual 64, 3) := by decide +kernel
theorem dX4_thrownOutAt_38 : decode cX4_thrownOutAt 38 = .ok (.ifCond .eq 19, 3) := by decide +kernel
theorem dX4_thrownOutAt_41 : decode cX4_thrownOutAt 41 = .ok (.aload_n 0, 1) := by decide +kernel
theorem dX4_thrownOutAt_42 : decode cX4_thrownOutAt 42 = .ok (.iconst 1, 1) := by decide +kernel
theorem dX4_thrownOutAt_43 : decode cX4_thrownOutAt 43 = .ok (.iload_n 2, 1) := by decide +kernel
theorem dX4_thrownOutAt_44 : decode cX4_thrownOutAt 44 = .ok (.invokevirtual 96, 3) := by decide +kernel
theorem dX4_thrownOutAt_47 : decode cX4_thrownOutAt 47 = .ok (.ifCond .gt 10, 3) := by decide +kernel
theorem dX4_thrownOutAt_50 : decode cX4_thrownOutAt 50 = .ok (.iload_n 3, 1) := by decide +kernel
theorem dX4_thrownOutAt_51 : decode cX4_thrownOutAt 51 = .ok (.iconst 1, 1) := by decide +kernel
theorem dX4_thrownOutAt_52 : decode cX4_thrownOutAt 52 = .ok (.iload 4, 2) := by decide +kernel
theorem dX4_thrownOutAt_54 : decode cX4_thrownOutAt 54 = .ok (.ishl, 1) := by decide +kernel
theorem dX4_thrownOutAt_55 : decode cX4_thrownOutAt 55 = .ok (.ior, 1) := by decide +kernel
theorem dX4_thrownOutAt_56 : decode cX4_thrownOutAt 56 = .ok (.istore_n 3, 1) := by decide +kernel
theorem dX4_thrownOutAt_57 : decode cX4_thrownOutAt 57 = .ok (.iinc 4 1, 3) := by decide +kernel
theorem dX4_thrownOutAt_60 : decode cX4_thrownOutAt 60 = .ok (.goto (-55), 3) := by decide +kernel
theorem dX4_thrownOutAt_63 : decode cX4_thrownOutAt 63 = .ok (.iload_n 3, 1) := by decide +kernel
theorem dX4_thrownOutAt_64 : decode cX4_thrownOutAt 64 = .ok (.ireturn, 1) := by decide +kernel
set_option maxRecDepth 20000 in
theorem ggX4_pass_X4_thrownOut : GoodIn wsX4_pass wsX4_thrownOut := goodIn_r _ [9, 1, 2, 10, 11, 12, 13, 14, 15, 16, 17, 18, 8, 19, 20, 21, 22, 23, 24, 25, 26, 27, 28, 29, 30, 3, 4, 31, 32, 33, 34, 35, 36, 37, 38, 39, 40, 41, 42, 43, 44, 45, 46, 47, 48, 78, 79, 80, 81, 82, 83, 84, 85, 86, 87, 88, 89, 90, 91, 92, 93, 94, 95, 96, 97, 98, 99] rfl (by decide +kernel)
set_option maxRecDepth 20000 in
theorem gX4_pass_X4_thrownOut : GoodIn wsX4_pass (wsV RX4 100 RX4 yX4_thrownOut wsX4_thrownOut) := goodIn_app (goodIn_r _ [5, 6, 7, 8] rfl (by decide +kernel)) ggX4_pass_X4_thrownOut
set_option maxRecDepth 20000 in
theorem ggX4_pass_X7_place : GoodIn wsX4_pass wsX7_place := goodIn_r _ [52, 53, 54, 89, 90, 91, 92, 93, 94, 95, 96] rfl (by decide +kernel)
set_option maxRecDepth 20000 in
theorem gX4_pass_X7_place : GoodIn wsX4_pass (wsV RX4 104 RX7 yX7_place wsX7_place) := goodIn_app (goodIn_r _ [49, 50, 51, 13] rfl (by decide +kernel)) ggX4_pass_X7_place
set_option maxRecDepth 20000 in
theorem ggX4_pass_X4_draw : GoodIn wsX4_pass wsX4_draw := goodIn_r _ [58, 59, 60, 61, 62, 63, 64, 13, 65, 66, 78, 79, 80, 81, 82, 83, 84, 85, 86, 87, 88, 89, 90, 91, 92, 93, 94, 95, 96] rfl (by decide +kernel)
set_option maxRecDepth 20000 in
theorem gX4_pass_X4_draw : GoodIn wsX4_pass (wsV RX4 108 RX4 yX4_draw wsX4_draw) := goodIn_app (goodIn_r _ [55, 56, 57, 8] rfl (by decide +kernel)) ggX4_pass_X4_draw
set_option maxRecDepth 20000 in
theorem ggX4_pass_X4_die : GoodIn wsX4_pass wsX4_die := goodIn_r _ [70, 71, 72, 26, 73, 74, 75, 8, 76, 59, 77, 89, 90, 91, 92, 93, 94, 95, 96, 78, 79, 80, 81, 82, 83, 84, 85, 86, 87, 88] rfl (by decide +kernel)
set_option maxRecDepth 20000 in
theorem gX4_pass_X4_die : GoodIn wsX4_pass (wsV RX4 111 RX4 yX4_die wsX4_die) := goodIn_app (goodIn_r _ [67, 68, 69, 8] rfl (by decide +kernel)) ggX4_pass_X4_die
theorem dX4_pass_0 : decode cX4_pass 0 = .ok (.aload_n 0, 1) := by decide +kernel
theorem dX4_pass_1 : decode cX4_pass 1 = .ok (.aload_n 1, 1) := by decide +kernel
theorem dX4_pass_2 : decode cX4_pass 2 = .ok (.invokevirtual 100, 3) := by decide +kernel
theorem dX4_pass_5 : decode cX4_pass 5 = .ok (.istore_n 2, 1) := by decide +kernel
theorem dX4_pass_6 : decode cX4_pass 6 = .ok (.iconst 0, 1) := by decide +kernel
theorem dX4_pass_7 : decode cX4_pass 7 = .ok (.istore_n 3, 1) := by decide +kernel
theorem dX4_pass_8 : decode cX4_pass 8 = .ok (.iload_n 3, 1) := by decide +kernel
theorem dX4_pass_9 : decode cX4_pass 9 = .ok (.aload_n 0, 1) := by decide +kernel
theorem dX4_pass_10 : decode cX4_pass 10 = .ok (.getfield 18, 3) := by decide +kernel
theorem dX4_pass_13 : decode cX4_pass 13 = .ok (.if_icmp .ge 58, 3) := by decide +kernel
theorem dX4_pass_16 : decode cX4_pass 16 = .ok (.iload_n 2, 1) := by decide +kernel
theorem dX4_pass_17 : decode cX4_pass 17 = .ok (.iload_n 3, 1) := by decide +kernel
theorem dX4_pass_18 : decode cX4_pass 18 = .ok (.ishr, 1) := by decide +kernel
theorem dX4_pass_19 : decode cX4_pass 19 = .ok (.iconst 1, 1) := by decide +kernel
theorem dX4_pass_20 : decode cX4_pass 20 = .ok (.iand, 1) := by decide +kernel
theorem dX4_pass_21 : decode cX4_pass 21 = .ok (.ifCond .eq 12, 3) := by decide +kernel
theorem dX4_pass_24 : decode cX4_pass 24 = .ok (.aload_n 1, 1) := by decide +kernel
theorem dX4_pass_25 : decode cX4_pass 25 = .ok (.iload_n 3, 1) := by decide +kernel
theorem dX4_pass_26 : decode cX4_pass 26 = .ok (.iconst (-1), 1) := by decide +kernel
theorem dX4_pass_27 : decode cX4_pass 27 = .ok (.invokevirtual 104, 3) := by decide +kernel
theorem dX4_pass_30 : decode cX4_pass 30 = .ok (.goto 35, 3) := by decide +kernel
theorem dX4_pass_33 : decode cX4_pass 33 = .ok (.aload_n 1, 1) := by decide +kernel
theorem dX4_pass_34 : decode cX4_pass 34 = .ok (.getfield 61, 3) := by decide +kernel
theorem dX4_pass_37 : decode cX4_pass 37 = .ok (.iload_n 3, 1) := by decide +kernel
theorem dX4_pass_38 : decode cX4_pass 38 = .ok (.iaload, 1) := by decide +kernel
theorem dX4_pass_39 : decode cX4_pass 39 = .ok (.iconst (-1), 1) := by decide +kernel
theorem dX4_pass_40 : decode cX4_pass 40 = .ok (.if_icmp .eq 25, 3) := by decide +kernel
theorem dX4_pass_43 : decode cX4_pass 43 = .ok (.aload_n 1, 1) := by decide +kernel
theorem dX4_pass_44 : decode cX4_pass 44 = .ok (.getfield 74, 3) := by decide +kernel
theorem dX4_pass_47 : decode cX4_pass 47 = .ok (.iload_n 3, 1) := by decide +kernel
theorem dX4_pass_48 : decode cX4_pass 48 = .ok (.iaload, 1) := by decide +kernel
theorem dX4_pass_49 : decode cX4_pass 49 = .ok (.sipush 999, 3) := by decide +kernel
theorem dX4_pass_52 : decode cX4_pass 52 = .ok (.if_icmp .ge 13, 3) := by decide +kernel
theorem dX4_pass_55 : decode cX4_pass 55 = .ok (.aload_n 1, 1) := by decide +kernel
theorem dX4_pass_56 : decode cX4_pass 56 = .ok (.getfield 74, 3) := by decide +kernel
theorem dX4_pass_59 : decode cX4_pass 59 = .ok (.iload_n 3, 1) := by decide +kernel
theorem dX4_pass_60 : decode cX4_pass 60 = .ok (.dup2, 1) := by decide +kernel
theorem dX4_pass_61 : decode cX4_pass 61 = .ok (.iaload, 1) := by decide +kernel
theorem dX4_pass_62 : decode cX4_pass 62 = .ok (.iconst 1, 1) := by decide +kernel
theorem dX4_pass_63 : decode cX4_pass 63 = .ok (.iadd, 1) := by decide +kernel
theorem dX4_pass_64 : decode cX4_pass 64 = .ok (.iastore, 1) := by decide +kernel
theorem dX4_pass_65 : decode cX4_pass 65 = .ok (.iinc 3 1, 3) := by decide +kernel
theorem dX4_pass_68 : decode cX4_pass 68 = .ok (.goto (-60), 3) := by decide +kernel
theorem dX4_pass_71 : decode cX4_pass 71 = .ok (.aload_n 0, 1) := by decide +kernel
theorem dX4_pass_72 : decode cX4_pass 72 = .ok (.aload_n 1, 1) := by decide +kernel
theorem dX4_pass_73 : decode cX4_pass 73 = .ok (.aload_n 0, 1) := by decide +kernel
theorem dX4_pass_74 : decode cX4_pass 74 = .ok (.aload_n 1, 1) := by decide +kernel
theorem dX4_pass_75 : decode cX4_pass 75 = .ok (.invokevirtual 108, 3) := by decide +kernel
theorem dX4_pass_78 : decode cX4_pass 78 = .ok (.invokevirtual 111, 3) := by decide +kernel
theorem dX4_pass_81 : decode cX4_pass 81 = .ok (.aload_n 1, 1) := by decide +kernel
theorem dX4_pass_82 : decode cX4_pass 82 = .ok (.dup, 1) := by decide +kernel
theorem dX4_pass_83 : decode cX4_pass 83 = .ok (.getfield 81, 3) := by decide +kernel
theorem dX4_pass_86 : decode cX4_pass 86 = .ok (.iconst 1, 1) := by decide +kernel
theorem dX4_pass_87 : decode cX4_pass 87 = .ok (.iadd, 1) := by decide +kernel
theorem dX4_pass_88 : decode cX4_pass 88 = .ok (.putfield 81, 3) := by decide +kernel
theorem dX4_pass_91 : decode cX4_pass 91 = .ok (.iload_n 2, 1) := by decide +kernel
theorem dX4_pass_92 : decode cX4_pass 92 = .ok (.ireturn, 1) := by decide +kernel
set_option maxRecDepth 20000 in
theorem ggX4_draw_X7_isLiving : GoodIn wsX4_draw wsX7_isLiving := goodIn_r _ [8, 9, 21, 22, 23, 24, 25, 26, 27, 28] rfl (by decide +kernel)
set_option maxRecDepth 20000 in
theorem gX4_draw_X7_isLiving : GoodIn wsX4_draw (wsV RX4 115 RX7 yX7_isLiving wsX7_isLiving) := goodIn_app (goodIn_r _ [4, 5, 6, 7] rfl (by decide +kernel)) ggX4_draw_X7_isLiving
theorem dX4_draw_0 : decode cX4_draw 0 = .ok (.iconst 0, 1) := by decide +kernel
theorem dX4_draw_1 : decode cX4_draw 1 = .ok (.istore_n 2, 1) := by decide +kernel
theorem dX4_draw_2 : decode cX4_draw 2 = .ok (.iconst 0, 1) := by decide +kernel
theorem dX4_draw_3 : decode cX4_draw 3 = .ok (.istore_n 3, 1) := by decide +kernel
theorem dX4_draw_4 : decode cX4_draw 4 = .ok (.iload_n 3, 1) := by decide +kernel
theorem dX4_draw_5 : decode cX4_draw 5 = .ok (.aload_n 0, 1) := by decide +kernel
theorem dX4_draw_6 : decode cX4_draw 6 = .ok (.getfield 9, 3) := by decide +kernel
theorem dX4_draw_9 : decode cX4_draw 9 = .ok (.if_icmp .ge 56, 3) := by decide +kernel
theorem dX4_draw_12 : decode cX4_draw 12 = .ok (.aload_n 1, 1) := by decide +kernel
theorem dX4_draw_13 : decode cX4_draw 13 = .ok (.iload_n 3, 1) := by decide +kernel
theorem dX4_draw_14 : decode cX4_draw 14 = .ok (.invokevirtual 115, 3) := by decide +kernel
theorem dX4_draw_17 : decode cX4_draw 17 = .ok (.ifCond .eq 42, 3) := by decide +kernel
theorem dX4_draw_20 : decode cX4_draw 20 = .ok (.aload_n 1, 1) := by decide +kernel
theorem dX4_draw_21 : decode cX4_draw 21 = .ok (.aload_n 1, 1) := by decide +kernel
theorem dX4_draw_22 : decode cX4_draw 22 = .ok (.getfield 118, 3) := by decide +kernel
theorem dX4_draw_25 : decode cX4_draw 25 = .ok (.sipush 137, 3) := by decide +kernel
theorem dX4_draw_28 : decode cX4_draw 28 = .ok (.imul, 1) := by decide +kernel
theorem dX4_draw_29 : decode cX4_draw 29 = .ok (.bipush 71, 2) := by decide +kernel
theorem dX4_draw_31 : decode cX4_draw 31 = .ok (.iadd, 1) := by decide +kernel
theorem dX4_draw_32 : decode cX4_draw 32 = .ok (.sipush 1000, 3) := by decide +kernel
theorem dX4_draw_35 : decode cX4_draw 35 = .ok (.irem, 1) := by decide +kernel
theorem dX4_draw_36 : decode cX4_draw 36 = .ok (.putfield 118, 3) := by decide +kernel
theorem dX4_draw_39 : decode cX4_draw 39 = .ok (.aload_n 1, 1) := by decide +kernel
theorem dX4_draw_40 : decode cX4_draw 40 = .ok (.getfield 118, 3) := by decide +kernel
theorem dX4_draw_43 : decode cX4_draw 43 = .ok (.bipush 100, 2) := by decide +kernel
theorem dX4_draw_45 : decode cX4_draw 45 = .ok (.irem, 1) := by decide +kernel
theorem dX4_draw_46 : decode cX4_draw 46 = .ok (.aload_n 0, 1) := by decide +kernel
theorem dX4_draw_47 : decode cX4_draw 47 = .ok (.getfield 21, 3) := by decide +kernel
theorem dX4_draw_50 : decode cX4_draw 50 = .ok (.if_icmp .ge 9, 3) := by decide +kernel
theorem dX4_draw_53 : decode cX4_draw 53 = .ok (.iload_n 2, 1) := by decide +kernel
