theorem dX2_value_41 : decode cX2_value 41 = .ok (.iload 4, 2) := by decide +kernel
theorem dX2_value_43 : decode cX2_value 43 = .ok (.aload_n 1, 1) := by decide +kernel
theorem dX2_value_44 : decode cX2_value 44 = .ok (.invokestatic 30, 3) := by decide +kernel
theorem dX2_value_47 : decode cX2_value 47 = .ok (.iastore, 1) := by decide +kernel
theorem dX2_value_48 : decode cX2_value 48 = .ok (.iinc 2 1, 3) := by decide +kernel
theorem dX2_value_51 : decode cX2_value 51 = .ok (.goto 77, 3) := by decide +kernel
theorem dX2_value_54 : decode cX2_value 54 = .ok (.iload 4, 2) := by decide +kernel
theorem dX2_value_56 : decode cX2_value 56 = .ok (.bipush (-20), 2) := by decide +kernel
theorem dX2_value_58 : decode cX2_value 58 = .ok (.if_icmp .ne 35, 3) := by decide +kernel
theorem dX2_value_61 : decode cX2_value 61 = .ok (.iload_n 2, 1) := by decide +kernel
theorem dX2_value_62 : decode cX2_value 62 = .ok (.iconst 1, 1) := by decide +kernel
theorem dX2_value_63 : decode cX2_value 63 = .ok (.if_icmp .lt 65, 3) := by decide +kernel
theorem dX2_value_66 : decode cX2_value 66 = .ok (.aload_n 0, 1) := by decide +kernel
theorem dX2_value_67 : decode cX2_value 67 = .ok (.getfield 13, 3) := by decide +kernel
theorem dX2_value_70 : decode cX2_value 70 = .ok (.iload_n 2, 1) := by decide +kernel
theorem dX2_value_71 : decode cX2_value 71 = .ok (.iconst 1, 1) := by decide +kernel
theorem dX2_value_72 : decode cX2_value 72 = .ok (.isub, 1) := by decide +kernel
theorem dX2_value_73 : decode cX2_value 73 = .ok (.aload_n 0, 1) := by decide +kernel
theorem dX2_value_74 : decode cX2_value 74 = .ok (.getfield 13, 3) := by decide +kernel
theorem dX2_value_77 : decode cX2_value 77 = .ok (.iload_n 2, 1) := by decide +kernel
theorem dX2_value_78 : decode cX2_value 78 = .ok (.iconst 1, 1) := by decide +kernel
theorem dX2_value_79 : decode cX2_value 79 = .ok (.isub, 1) := by decide +kernel
theorem dX2_value_80 : decode cX2_value 80 = .ok (.iaload, 1) := by decide +kernel
theorem dX2_value_81 : decode cX2_value 81 = .ok (.ifCond .ne 7, 3) := by decide +kernel
theorem dX2_value_84 : decode cX2_value 84 = .ok (.iconst 1, 1) := by decide +kernel
theorem dX2_value_85 : decode cX2_value 85 = .ok (.goto 4, 3) := by decide +kernel
theorem dX2_value_88 : decode cX2_value 88 = .ok (.iconst 0, 1) := by decide +kernel
theorem dX2_value_89 : decode cX2_value 89 = .ok (.iastore, 1) := by decide +kernel
theorem dX2_value_90 : decode cX2_value 90 = .ok (.goto 38, 3) := by decide +kernel
theorem dX2_value_93 : decode cX2_value 93 = .ok (.iload_n 2, 1) := by decide +kernel
theorem dX2_value_94 : decode cX2_value 94 = .ok (.iconst 2, 1) := by decide +kernel
theorem dX2_value_95 : decode cX2_value 95 = .ok (.if_icmp .lt 33, 3) := by decide +kernel
theorem dX2_value_98 : decode cX2_value 98 = .ok (.iinc 2 (-1), 3) := by decide +kernel
theorem dX2_value_101 : decode cX2_value 101 = .ok (.aload_n 0, 1) := by decide +kernel
theorem dX2_value_102 : decode cX2_value 102 = .ok (.getfield 13, 3) := by decide +kernel
theorem dX2_value_105 : decode cX2_value 105 = .ok (.iload_n 2, 1) := by decide +kernel
theorem dX2_value_106 : decode cX2_value 106 = .ok (.iconst 1, 1) := by decide +kernel
theorem dX2_value_107 : decode cX2_value 107 = .ok (.isub, 1) := by decide +kernel
theorem dX2_value_108 : decode cX2_value 108 = .ok (.iload 4, 2) := by decide +kernel
theorem dX2_value_110 : decode cX2_value 110 = .ok (.aload_n 0, 1) := by decide +kernel
theorem dX2_value_111 : decode cX2_value 111 = .ok (.getfield 13, 3) := by decide +kernel
theorem dX2_value_114 : decode cX2_value 114 = .ok (.iload_n 2, 1) := by decide +kernel
theorem dX2_value_115 : decode cX2_value 115 = .ok (.iconst 1, 1) := by decide +kernel
theorem dX2_value_116 : decode cX2_value 116 = .ok (.isub, 1) := by decide +kernel
theorem dX2_value_117 : decode cX2_value 117 = .ok (.iaload, 1) := by decide +kernel
theorem dX2_value_118 : decode cX2_value 118 = .ok (.aload_n 0, 1) := by decide +kernel
theorem dX2_value_119 : decode cX2_value 119 = .ok (.getfield 13, 3) := by decide +kernel
theorem dX2_value_122 : decode cX2_value 122 = .ok (.iload_n 2, 1) := by decide +kernel
theorem dX2_value_123 : decode cX2_value 123 = .ok (.iaload, 1) := by decide +kernel
theorem dX2_value_124 : decode cX2_value 124 = .ok (.invokestatic 34, 3) := by decide +kernel
theorem dX2_value_127 : decode cX2_value 127 = .ok (.iastore, 1) := by decide +kernel
theorem dX2_value_128 : decode cX2_value 128 = .ok (.iinc 3 1, 3) := by decide +kernel
theorem dX2_value_131 : decode cX2_value 131 = .ok (.goto (-127), 3) := by decide +kernel
theorem dX2_value_134 : decode cX2_value 134 = .ok (.iload_n 2, 1) := by decide +kernel
theorem dX2_value_135 : decode cX2_value 135 = .ok (.ifCond .le 12, 3) := by decide +kernel
theorem dX2_value_138 : decode cX2_value 138 = .ok (.aload_n 0, 1) := by decide +kernel
theorem dX2_value_139 : decode cX2_value 139 = .ok (.getfield 13, 3) := by decide +kernel
theorem dX2_value_142 : decode cX2_value 142 = .ok (.iconst 0, 1) := by decide +kernel
theorem dX2_value_143 : decode cX2_value 143 = .ok (.iaload, 1) := by decide +kernel
theorem dX2_value_144 : decode cX2_value 144 = .ok (.goto 4, 3) := by decide +kernel
theorem dX2_value_147 : decode cX2_value 147 = .ok (.iconst 0, 1) := by decide +kernel
theorem dX2_value_148 : decode cX2_value 148 = .ok (.ireturn, 1) := by decide +kernel
theorem dX2_unitValue_0 : decode cX2_unitValue 0 = .ok (.iload_n 0, 1) := by decide +kernel
theorem dX2_unitValue_1 : decode cX2_unitValue 1 = .ok (.ifCond .lt 5, 3) := by decide +kernel
theorem dX2_unitValue_4 : decode cX2_unitValue 4 = .ok (.iload_n 0, 1) := by decide +kernel
theorem dX2_unitValue_5 : decode cX2_unitValue 5 = .ok (.ireturn, 1) := by decide +kernel
theorem dX2_unitValue_6 : decode cX2_unitValue 6 = .ok (.iconst (-1), 1) := by decide +kernel
theorem dX2_unitValue_7 : decode cX2_unitValue 7 = .ok (.iload_n 0, 1) := by decide +kernel
theorem dX2_unitValue_8 : decode cX2_unitValue 8 = .ok (.isub, 1) := by decide +kernel
theorem dX2_unitValue_9 : decode cX2_unitValue 9 = .ok (.istore_n 2, 1) := by decide +kernel
theorem dX2_unitValue_10 : decode cX2_unitValue 10 = .ok (.iload_n 2, 1) := by decide +kernel
theorem dX2_unitValue_11 : decode cX2_unitValue 11 = .ok (.aload_n 1, 1) := by decide +kernel
theorem dX2_unitValue_12 : decode cX2_unitValue 12 = .ok (.arraylength, 1) := by decide +kernel
theorem dX2_unitValue_13 : decode cX2_unitValue 13 = .ok (.if_icmp .ge 9, 3) := by decide +kernel
theorem dX2_unitValue_16 : decode cX2_unitValue 16 = .ok (.aload_n 1, 1) := by decide +kernel
theorem dX2_unitValue_17 : decode cX2_unitValue 17 = .ok (.iload_n 2, 1) := by decide +kernel
theorem dX2_unitValue_18 : decode cX2_unitValue 18 = .ok (.iaload, 1) := by decide +kernel
theorem dX2_unitValue_19 : decode cX2_unitValue 19 = .ok (.goto 4, 3) := by decide +kernel
theorem dX2_unitValue_22 : decode cX2_unitValue 22 = .ok (.iconst 0, 1) := by decide +kernel
theorem dX2_unitValue_23 : decode cX2_unitValue 23 = .ok (.ireturn, 1) := by decide +kernel
theorem dX2_joined_0 : decode cX2_joined 0 = .ok (.iload_n 0, 1) := by decide +kernel
theorem dX2_joined_1 : decode cX2_joined 1 = .ok (.tableswitch 152 (-30) (-21) #[140, 128, 124, 120, 116, 105, 94, 83, 69, 55], 55) := by decide +kernel
theorem dX2_joined_56 : decode cX2_joined 56 = .ok (.iload_n 1, 1) := by decide +kernel
theorem dX2_joined_57 : decode cX2_joined 57 = .ok (.ifCond .ne 7, 3) := by decide +kernel
theorem dX2_joined_60 : decode cX2_joined 60 = .ok (.iload_n 2, 1) := by decide +kernel
theorem dX2_joined_61 : decode cX2_joined 61 = .ok (.ifCond .eq 7, 3) := by decide +kernel
theorem dX2_joined_64 : decode cX2_joined 64 = .ok (.iconst 1, 1) := by decide +kernel
theorem dX2_joined_65 : decode cX2_joined 65 = .ok (.goto 4, 3) := by decide +kernel
theorem dX2_joined_68 : decode cX2_joined 68 = .ok (.iconst 0, 1) := by decide +kernel
theorem dX2_joined_69 : decode cX2_joined 69 = .ok (.ireturn, 1) := by decide +kernel
theorem dX2_joined_70 : decode cX2_joined 70 = .ok (.iload_n 1, 1) := by decide +kernel
theorem dX2_joined_71 : decode cX2_joined 71 = .ok (.ifCond .eq 11, 3) := by decide +kernel
theorem dX2_joined_74 : decode cX2_joined 74 = .ok (.iload_n 2, 1) := by decide +kernel
theorem dX2_joined_75 : decode cX2_joined 75 = .ok (.ifCond .eq 7, 3) := by decide +kernel
theorem dX2_joined_78 : decode cX2_joined 78 = .ok (.iconst 1, 1) := by decide +kernel
theorem dX2_joined_79 : decode cX2_joined 79 = .ok (.goto 4, 3) := by decide +kernel
theorem dX2_joined_82 : decode cX2_joined 82 = .ok (.iconst 0, 1) := by decide +kernel
theorem dX2_joined_83 : decode cX2_joined 83 = .ok (.ireturn, 1) := by decide +kernel
theorem dX2_joined_84 : decode cX2_joined 84 = .ok (.iload_n 1, 1) := by decide +kernel
theorem dX2_joined_85 : decode cX2_joined 85 = .ok (.iload_n 2, 1) := by decide +kernel
theorem dX2_joined_86 : decode cX2_joined 86 = .ok (.if_icmp .ge 7, 3) := by decide +kernel
theorem dX2_joined_89 : decode cX2_joined 89 = .ok (.iconst 1, 1) := by decide +kernel
theorem dX2_joined_90 : decode cX2_joined 90 = .ok (.goto 4, 3) := by decide +kernel
theorem dX2_joined_93 : decode cX2_joined 93 = .ok (.iconst 0, 1) := by decide +kernel
theorem dX2_joined_94 : decode cX2_joined 94 = .ok (.ireturn, 1) := by decide +kernel
theorem dX2_joined_95 : decode cX2_joined 95 = .ok (.iload_n 1, 1) := by decide +kernel
theorem dX2_joined_96 : decode cX2_joined 96 = .ok (.iload_n 2, 1) := by decide +kernel
theorem dX2_joined_97 : decode cX2_joined 97 = .ok (.if_icmp .le 7, 3) := by decide +kernel
theorem dX2_joined_100 : decode cX2_joined 100 = .ok (.iconst 1, 1) := by decide +kernel
theorem dX2_joined_101 : decode cX2_joined 101 = .ok (.goto 4, 3) := by decide +kernel
theorem dX2_joined_104 : decode cX2_joined 104 = .ok (.iconst 0, 1) := by decide +kernel
theorem dX2_joined_105 : decode cX2_joined 105 = .ok (.ireturn, 1) := by decide +kernel
theorem dX2_joined_106 : decode cX2_joined 106 = .ok (.iload_n 1, 1) := by decide +kernel
theorem dX2_joined_107 : decode cX2_joined 107 = .ok (.iload_n 2, 1) := by decide +kernel
theorem dX2_joined_108 : decode cX2_joined 108 = .ok (.if_icmp .ne 7, 3) := by decide +kernel
theorem dX2_joined_111 : decode cX2_joined 111 = .ok (.iconst 1, 1) := by decide +kernel
theorem dX2_joined_112 : decode cX2_joined 112 = .ok (.goto 4, 3) := by decide +kernel
theorem dX2_joined_115 : decode cX2_joined 115 = .ok (.iconst 0, 1) := by decide +kernel
theorem dX2_joined_116 : decode cX2_joined 116 = .ok (.ireturn, 1) := by decide +kernel
theorem dX2_joined_117 : decode cX2_joined 117 = .ok (.iload_n 1, 1) := by decide +kernel
theorem dX2_joined_118 : decode cX2_joined 118 = .ok (.iload_n 2, 1) := by decide +kernel
theorem dX2_joined_119 : decode cX2_joined 119 = .ok (.iadd, 1) := by decide +kernel
theorem dX2_joined_120 : decode cX2_joined 120 = .ok (.ireturn, 1) := by decide +kernel
theorem dX2_joined_121 : decode cX2_joined 121 = .ok (.iload_n 1, 1) := by decide +kernel
theorem dX2_joined_122 : decode cX2_joined 122 = .ok (.iload_n 2, 1) := by decide +kernel
theorem dX2_joined_123 : decode cX2_joined 123 = .ok (.isub, 1) := by decide +kernel
theorem dX2_joined_124 : decode cX2_joined 124 = .ok (.ireturn, 1) := by decide +kernel
theorem dX2_joined_125 : decode cX2_joined 125 = .ok (.iload_n 1, 1) := by decide +kernel
theorem dX2_joined_126 : decode cX2_joined 126 = .ok (.iload_n 2, 1) := by decide +kernel
theorem dX2_joined_127 : decode cX2_joined 127 = .ok (.imul, 1) := by decide +kernel
theorem dX2_joined_128 : decode cX2_joined 128 = .ok (.ireturn, 1) := by decide +kernel
theorem dX2_joined_129 : decode cX2_joined 129 = .ok (.iload_n 2, 1) := by decide +kernel
theorem dX2_joined_130 : decode cX2_joined 130 = .ok (.ifCond .ne 7, 3) := by decide +kernel
theorem dX2_joined_133 : decode cX2_joined 133 = .ok (.iconst 0, 1) := by decide +kernel
theorem dX2_joined_134 : decode cX2_joined 134 = .ok (.goto 6, 3) := by decide +kernel
theorem dX2_joined_137 : decode cX2_joined 137 = .ok (.iload_n 1, 1) := by decide +kernel
theorem dX2_joined_138 : decode cX2_joined 138 = .ok (.iload_n 2, 1) := by decide +kernel
theorem dX2_joined_139 : decode cX2_joined 139 = .ok (.idiv, 1) := by decide +kernel
theorem dX2_joined_140 : decode cX2_joined 140 = .ok (.ireturn, 1) := by decide +kernel
theorem dX2_joined_141 : decode cX2_joined 141 = .ok (.iload_n 2, 1) := by decide +kernel
theorem dX2_joined_142 : decode cX2_joined 142 = .ok (.ifCond .ne 7, 3) := by decide +kernel
theorem dX2_joined_145 : decode cX2_joined 145 = .ok (.iconst 0, 1) := by decide +kernel
theorem dX2_joined_146 : decode cX2_joined 146 = .ok (.goto 6, 3) := by decide +kernel
theorem dX2_joined_149 : decode cX2_joined 149 = .ok (.iload_n 1, 1) := by decide +kernel
theorem dX2_joined_150 : decode cX2_joined 150 = .ok (.iload_n 2, 1) := by decide +kernel
theorem dX2_joined_151 : decode cX2_joined 151 = .ok (.irem, 1) := by decide +kernel
theorem dX2_joined_152 : decode cX2_joined 152 = .ok (.ireturn, 1) := by decide +kernel
theorem dX2_joined_153 : decode cX2_joined 153 = .ok (.iconst 0, 1) := by decide +kernel
theorem dX2_joined_154 : decode cX2_joined 154 = .ok (.ireturn, 1) := by decide +kernel
set_option maxRecDepth 20000 in
theorem ggX3_solve_X3_weigh : GoodIn wsX3_solve wsX3_weigh := goodIn_r _ [10, 2, 4, 11, 12, 13, 14, 15, 16, 17, 18, 19, 20, 21, 22, 23, 24, 25, 26, 27, 28, 29, 30, 31, 32, 33, 34, 35, 36, 37, 38, 39, 40, 41, 42, 43, 44, 45, 46, 47, 48, 49, 50, 51, 52, 53, 54, 55, 56, 57, 58, 59, 60, 61, 62, 63, 84, 85, 86, 87, 88, 89, 90, 91, 92, 93, 94, 95, 73, 74, 75, 76, 77, 78, 79, 80, 81, 82, 83, 96, 97, 98] rfl (by decide +kernel)
set_option maxRecDepth 20000 in
theorem gX3_solve_X3_weigh : GoodIn wsX3_solve (wsV RX3 29 RX3 yX3_weigh wsX3_weigh) := goodIn_app (goodIn_r _ [6, 7, 8, 9] rfl (by decide +kernel)) ggX3_solve_X3_weigh
set_option maxRecDepth 20000 in
theorem ggX3_solve_X3_bestFor : GoodIn wsX3_solve wsX3_bestFor := goodIn_r _ [67, 5, 4, 16, 17, 14, 18, 68, 69, 70, 9, 71, 11, 72, 84, 85, 86, 87] rfl (by decide +kernel)
set_option maxRecDepth 20000 in
theorem gX3_solve_X3_bestFor : GoodIn wsX3_solve (wsV RX3 33 RX3 yX3_bestFor wsX3_bestFor) := goodIn_app (goodIn_r _ [64, 65, 66, 9] rfl (by decide +kernel)) ggX3_solve_X3_bestFor
theorem dX3_solve_0 : decode cX3_solve 0 = .ok (.aload_n 0, 1) := by decide +kernel
theorem dX3_solve_1 : decode cX3_solve 1 = .ok (.aload_n 1, 1) := by decide +kernel
theorem dX3_solve_2 : decode cX3_solve 2 = .ok (.getfield 25, 3) := by decide +kernel
theorem dX3_solve_5 : decode cX3_solve 5 = .ok (.putfield 18, 3) := by decide +kernel
theorem dX3_solve_8 : decode cX3_solve 8 = .ok (.aload_n 0, 1) := by decide +kernel
theorem dX3_solve_9 : decode cX3_solve 9 = .ok (.aload_n 1, 1) := by decide +kernel
theorem dX3_solve_10 : decode cX3_solve 10 = .ok (.getfield 28, 3) := by decide +kernel
theorem dX3_solve_13 : decode cX3_solve 13 = .ok (.putfield 22, 3) := by decide +kernel
theorem dX3_solve_16 : decode cX3_solve 16 = .ok (.aload_n 0, 1) := by decide +kernel
theorem dX3_solve_17 : decode cX3_solve 17 = .ok (.aload_n 1, 1) := by decide +kernel
theorem dX3_solve_18 : decode cX3_solve 18 = .ok (.aload_n 2, 1) := by decide +kernel
theorem dX3_solve_19 : decode cX3_solve 19 = .ok (.invokevirtual 29, 3) := by decide +kernel
theorem dX3_solve_22 : decode cX3_solve 22 = .ok (.iconst 1, 1) := by decide +kernel
theorem dX3_solve_23 : decode cX3_solve 23 = .ok (.aload_n 0, 1) := by decide +kernel
theorem dX3_solve_24 : decode cX3_solve 24 = .ok (.getfield 22, 3) := by decide +kernel
theorem dX3_solve_27 : decode cX3_solve 27 = .ok (.ishl, 1) := by decide +kernel
theorem dX3_solve_28 : decode cX3_solve 28 = .ok (.istore_n 3, 1) := by decide +kernel
theorem dX3_solve_29 : decode cX3_solve 29 = .ok (.iconst 0, 1) := by decide +kernel
theorem dX3_solve_30 : decode cX3_solve 30 = .ok (.istore 4, 2) := by decide +kernel
theorem dX3_solve_32 : decode cX3_solve 32 = .ok (.iload 4, 2) := by decide +kernel
theorem dX3_solve_34 : decode cX3_solve 34 = .ok (.iload_n 3, 1) := by decide +kernel
theorem dX3_solve_35 : decode cX3_solve 35 = .ok (.if_icmp .ge 26, 3) := by decide +kernel
theorem dX3_solve_38 : decode cX3_solve 38 = .ok (.aload_n 0, 1) := by decide +kernel
theorem dX3_solve_39 : decode cX3_solve 39 = .ok (.getfield 15, 3) := by decide +kernel
theorem dX3_solve_42 : decode cX3_solve 42 = .ok (.aload_n 0, 1) := by decide +kernel
theorem dX3_solve_43 : decode cX3_solve 43 = .ok (.getfield 18, 3) := by decide +kernel
theorem dX3_solve_46 : decode cX3_solve 46 = .ok (.sipush 256, 3) := by decide +kernel
theorem dX3_solve_49 : decode cX3_solve 49 = .ok (.imul, 1) := by decide +kernel
theorem dX3_solve_50 : decode cX3_solve 50 = .ok (.iload 4, 2) := by decide +kernel
theorem dX3_solve_52 : decode cX3_solve 52 = .ok (.iadd, 1) := by decide +kernel
theorem dX3_solve_53 : decode cX3_solve 53 = .ok (.iconst 0, 1) := by decide +kernel
theorem dX3_solve_54 : decode cX3_solve 54 = .ok (.iastore, 1) := by decide +kernel
theorem dX3_solve_55 : decode cX3_solve 55 = .ok (.iinc 4 1, 3) := by decide +kernel
theorem dX3_solve_58 : decode cX3_solve 58 = .ok (.goto (-26), 3) := by decide +kernel
theorem dX3_solve_61 : decode cX3_solve 61 = .ok (.aload_n 0, 1) := by decide +kernel
theorem dX3_solve_62 : decode cX3_solve 62 = .ok (.getfield 18, 3) := by decide +kernel
theorem dX3_solve_65 : decode cX3_solve 65 = .ok (.iconst 1, 1) := by decide +kernel
theorem dX3_solve_66 : decode cX3_solve 66 = .ok (.isub, 1) := by decide +kernel
theorem dX3_solve_67 : decode cX3_solve 67 = .ok (.istore 4, 2) := by decide +kernel
theorem dX3_solve_69 : decode cX3_solve 69 = .ok (.iload 4, 2) := by decide +kernel
theorem dX3_solve_71 : decode cX3_solve 71 = .ok (.ifCond .lt 46, 3) := by decide +kernel
theorem dX3_solve_74 : decode cX3_solve 74 = .ok (.iconst 0, 1) := by decide +kernel
theorem dX3_solve_75 : decode cX3_solve 75 = .ok (.istore 5, 2) := by decide +kernel
theorem dX3_solve_77 : decode cX3_solve 77 = .ok (.iload 5, 2) := by decide +kernel
theorem dX3_solve_79 : decode cX3_solve 79 = .ok (.iload_n 3, 1) := by decide +kernel
theorem dX3_solve_80 : decode cX3_solve 80 = .ok (.if_icmp .ge 31, 3) := by decide +kernel
theorem dX3_solve_83 : decode cX3_solve 83 = .ok (.aload_n 0, 1) := by decide +kernel
theorem dX3_solve_84 : decode cX3_solve 84 = .ok (.getfield 15, 3) := by decide +kernel
theorem dX3_solve_87 : decode cX3_solve 87 = .ok (.iload 4, 2) := by decide +kernel
theorem dX3_solve_89 : decode cX3_solve 89 = .ok (.sipush 256, 3) := by decide +kernel
theorem dX3_solve_92 : decode cX3_solve 92 = .ok (.imul, 1) := by decide +kernel
theorem dX3_solve_93 : decode cX3_solve 93 = .ok (.iload 5, 2) := by decide +kernel
theorem dX3_solve_95 : decode cX3_solve 95 = .ok (.iadd, 1) := by decide +kernel
theorem dX3_solve_96 : decode cX3_solve 96 = .ok (.aload_n 0, 1) := by decide +kernel
theorem dX3_solve_97 : decode cX3_solve 97 = .ok (.iload 4, 2) := by decide +kernel
theorem dX3_solve_99 : decode cX3_solve 99 = .ok (.iload 5, 2) := by decide +kernel
theorem dX3_solve_101 : decode cX3_solve 101 = .ok (.invokevirtual 33, 3) := by decide +kernel
theorem dX3_solve_104 : decode cX3_solve 104 = .ok (.iastore, 1) := by decide +kernel
theorem dX3_solve_105 : decode cX3_solve 105 = .ok (.iinc 5 1, 3) := by decide +kernel
theorem dX3_solve_108 : decode cX3_solve 108 = .ok (.goto (-31), 3) := by decide +kernel
theorem dX3_solve_111 : decode cX3_solve 111 = .ok (.iinc 4 (-1), 3) := by decide +kernel
theorem dX3_solve_114 : decode cX3_solve 114 = .ok (.goto (-45), 3) := by decide +kernel
theorem dX3_solve_117 : decode cX3_solve 117 = .ok (.return_, 1) := by decide +kernel
set_option maxRecDepth 20000 in
theorem ggX3_weigh_X7_isKept : GoodIn wsX3_weigh wsX7_isKept := goodIn_r _ [15, 16, 60, 61, 62, 63, 64, 65, 66, 67] rfl (by decide +kernel)
set_option maxRecDepth 20000 in
theorem gX3_weigh_X7_isKept : GoodIn wsX3_weigh (wsV RX3 37 RX7 yX7_isKept wsX7_isKept) := goodIn_app (goodIn_r _ [11, 12, 13, 14] rfl (by decide +kernel)) ggX3_weigh_X7_isKept
set_option maxRecDepth 20000 in
theorem ggX3_weigh_X4_likes : GoodIn wsX3_weigh wsX4_likes := goodIn_r _ [21, 22, 23, 24, 25, 26, 20, 27, 28, 29, 30, 31, 32, 33, 34, 35, 36, 37, 12, 13, 14, 15, 16, 38, 39, 40, 41, 42, 43, 44, 45, 46, 47, 48, 49, 50, 51, 52, 53, 54, 55, 68, 69, 70, 71, 72, 73, 74, 75, 76, 77, 78, 60, 61, 62, 63, 64, 65, 66, 67, 79, 80, 81] rfl (by decide +kernel)
set_option maxRecDepth 20000 in
theorem gX3_weigh_X4_likes : GoodIn wsX3_weigh (wsV RX3 43 RX4 yX4_likes wsX4_likes) := goodIn_app (goodIn_r _ [17, 18, 19, 20] rfl (by decide +kernel)) ggX3_weigh_X4_likes
theorem dX3_weigh_0 : decode cX3_weigh 0 = .ok (.iconst 0, 1) := by decide +kernel
theorem dX3_weigh_1 : decode cX3_weigh 1 = .ok (.istore_n 3, 1) := by decide +kernel
theorem dX3_weigh_2 : decode cX3_weigh 2 = .ok (.iload_n 3, 1) := by decide +kernel
theorem dX3_weigh_3 : decode cX3_weigh 3 = .ok (.aload_n 0, 1) := by decide +kernel
theorem dX3_weigh_4 : decode cX3_weigh 4 = .ok (.getfield 18, 3) := by decide +kernel
theorem dX3_weigh_7 : decode cX3_weigh 7 = .ok (.if_icmp .ge 74, 3) := by decide +kernel
theorem dX3_weigh_10 : decode cX3_weigh 10 = .ok (.iconst 0, 1) := by decide +kernel
theorem dX3_weigh_11 : decode cX3_weigh 11 = .ok (.istore 4, 2) := by decide +kernel
theorem dX3_weigh_13 : decode cX3_weigh 13 = .ok (.iload 4, 2) := by decide +kernel
theorem dX3_weigh_15 : decode cX3_weigh 15 = .ok (.aload_n 0, 1) := by decide +kernel
theorem dX3_weigh_16 : decode cX3_weigh 16 = .ok (.getfield 22, 3) := by decide +kernel
theorem dX3_weigh_19 : decode cX3_weigh 19 = .ok (.if_icmp .ge 56, 3) := by decide +kernel
theorem dX3_weigh_22 : decode cX3_weigh 22 = .ok (.aload_n 2, 1) := by decide +kernel
theorem dX3_weigh_23 : decode cX3_weigh 23 = .ok (.iload 4, 2) := by decide +kernel
theorem dX3_weigh_25 : decode cX3_weigh 25 = .ok (.invokevirtual 37, 3) := by decide +kernel
theorem dX3_weigh_28 : decode cX3_weigh 28 = .ok (.ifCond .eq 14, 3) := by decide +kernel
theorem dX3_weigh_31 : decode cX3_weigh 31 = .ok (.aload_n 1, 1) := by decide +kernel
theorem dX3_weigh_32 : decode cX3_weigh 32 = .ok (.aload_n 2, 1) := by decide +kernel
theorem dX3_weigh_33 : decode cX3_weigh 33 = .ok (.iload_n 3, 1) := by decide +kernel
theorem dX3_weigh_34 : decode cX3_weigh 34 = .ok (.iload 4, 2) := by decide +kernel
theorem dX3_weigh_36 : decode cX3_weigh 36 = .ok (.invokevirtual 43, 3) := by decide +kernel
theorem dX3_weigh_39 : decode cX3_weigh 39 = .ok (.goto 4, 3) := by decide +kernel
theorem dX3_weigh_42 : decode cX3_weigh 42 = .ok (.iconst 0, 1) := by decide +kernel
theorem dX3_weigh_43 : decode cX3_weigh 43 = .ok (.istore 5, 2) := by decide +kernel
theorem dX3_weigh_45 : decode cX3_weigh 45 = .ok (.aload_n 0, 1) := by decide +kernel
theorem dX3_weigh_46 : decode cX3_weigh 46 = .ok (.getfield 9, 3) := by decide +kernel
theorem dX3_weigh_49 : decode cX3_weigh 49 = .ok (.iload_n 3, 1) := by decide +kernel
theorem dX3_weigh_50 : decode cX3_weigh 50 = .ok (.bipush 8, 2) := by decide +kernel
theorem dX3_weigh_52 : decode cX3_weigh 52 = .ok (.imul, 1) := by decide +kernel
theorem dX3_weigh_53 : decode cX3_weigh 53 = .ok (.iload 4, 2) := by decide +kernel
theorem dX3_weigh_55 : decode cX3_weigh 55 = .ok (.iadd, 1) := by decide +kernel
theorem dX3_weigh_56 : decode cX3_weigh 56 = .ok (.iconst 0, 1) := by decide +kernel
theorem dX3_weigh_57 : decode cX3_weigh 57 = .ok (.sipush 9999, 3) := by decide +kernel
theorem dX3_weigh_60 : decode cX3_weigh 60 = .ok (.iload 5, 2) := by decide +kernel
theorem dX3_weigh_62 : decode cX3_weigh 62 = .ok (.invokestatic 47, 3) := by decide +kernel
theorem dX3_weigh_65 : decode cX3_weigh 65 = .ok (.invokestatic 52, 3) := by decide +kernel
theorem dX3_weigh_68 : decode cX3_weigh 68 = .ok (.iastore, 1) := by decide +kernel
theorem dX3_weigh_69 : decode cX3_weigh 69 = .ok (.iinc 4 1, 3) := by decide +kernel
theorem dX3_weigh_72 : decode cX3_weigh 72 = .ok (.goto (-59), 3) := by decide +kernel
theorem dX3_weigh_75 : decode cX3_weigh 75 = .ok (.iinc 3 1, 3) := by decide +kernel
theorem dX3_weigh_78 : decode cX3_weigh 78 = .ok (.goto (-76), 3) := by decide +kernel
theorem dX3_weigh_81 : decode cX3_weigh 81 = .ok (.return_, 1) := by decide +kernel
set_option maxRecDepth 20000 in
theorem ggX3_bestFor_X3_withRoom : GoodIn wsX3_bestFor wsX3_withRoom := goodIn_r _ [11, 12, 1, 13, 14, 15, 16, 17] rfl (by decide +kernel)
set_option maxRecDepth 20000 in
theorem gX3_bestFor_X3_withRoom : GoodIn wsX3_bestFor (wsV RX3 55 RX3 yX3_withRoom wsX3_withRoom) := goodIn_app (goodIn_r _ [7, 8, 9, 10] rfl (by decide +kernel)) ggX3_bestFor_X3_withRoom
theorem dX3_bestFor_0 : decode cX3_bestFor 0 = .ok (.aload_n 0, 1) := by decide +kernel
theorem dX3_bestFor_1 : decode cX3_bestFor 1 = .ok (.getfield 15, 3) := by decide +kernel
theorem dX3_bestFor_4 : decode cX3_bestFor 4 = .ok (.iload_n 1, 1) := by decide +kernel
theorem dX3_bestFor_5 : decode cX3_bestFor 5 = .ok (.iconst 1, 1) := by decide +kernel
theorem dX3_bestFor_6 : decode cX3_bestFor 6 = .ok (.iadd, 1) := by decide +kernel
theorem dX3_bestFor_7 : decode cX3_bestFor 7 = .ok (.sipush 256, 3) := by decide +kernel
theorem dX3_bestFor_10 : decode cX3_bestFor 10 = .ok (.imul, 1) := by decide +kernel
theorem dX3_bestFor_11 : decode cX3_bestFor 11 = .ok (.iload_n 2, 1) := by decide +kernel
theorem dX3_bestFor_12 : decode cX3_bestFor 12 = .ok (.iadd, 1) := by decide +kernel
theorem dX3_bestFor_13 : decode cX3_bestFor 13 = .ok (.iaload, 1) := by decide +kernel
theorem dX3_bestFor_14 : decode cX3_bestFor 14 = .ok (.istore_n 3, 1) := by decide +kernel
theorem dX3_bestFor_15 : decode cX3_bestFor 15 = .ok (.iconst 0, 1) := by decide +kernel
theorem dX3_bestFor_16 : decode cX3_bestFor 16 = .ok (.istore 4, 2) := by decide +kernel
theorem dX3_bestFor_18 : decode cX3_bestFor 18 = .ok (.iload 4, 2) := by decide +kernel
theorem dX3_bestFor_20 : decode cX3_bestFor 20 = .ok (.aload_n 0, 1) := by decide +kernel
theorem dX3_bestFor_21 : decode cX3_bestFor 21 = .ok (.getfield 22, 3) := by decide +kernel
theorem dX3_bestFor_24 : decode cX3_bestFor 24 = .ok (.if_icmp .ge 22, 3) := by decide +kernel
theorem dX3_bestFor_27 : decode cX3_bestFor 27 = .ok (.iload_n 3, 1) := by decide +kernel
theorem dX3_bestFor_28 : decode cX3_bestFor 28 = .ok (.aload_n 0, 1) := by decide +kernel
theorem dX3_bestFor_29 : decode cX3_bestFor 29 = .ok (.iload_n 1, 1) := by decide +kernel
theorem dX3_bestFor_30 : decode cX3_bestFor 30 = .ok (.iload_n 2, 1) := by decide +kernel
theorem dX3_bestFor_31 : decode cX3_bestFor 31 = .ok (.iload 4, 2) := by decide +kernel
theorem dX3_bestFor_33 : decode cX3_bestFor 33 = .ok (.invokevirtual 55, 3) := by decide +kernel
theorem dX3_bestFor_36 : decode cX3_bestFor 36 = .ok (.invokestatic 52, 3) := by decide +kernel
theorem dX3_bestFor_39 : decode cX3_bestFor 39 = .ok (.istore_n 3, 1) := by decide +kernel
theorem dX3_bestFor_40 : decode cX3_bestFor 40 = .ok (.iinc 4 1, 3) := by decide +kernel
theorem dX3_bestFor_43 : decode cX3_bestFor 43 = .ok (.goto (-25), 3) := by decide +kernel
theorem dX3_bestFor_46 : decode cX3_bestFor 46 = .ok (.iload_n 3, 1) := by decide +kernel
theorem dX3_bestFor_47 : decode cX3_bestFor 47 = .ok (.ireturn, 1) := by decide +kernel
theorem dX3_withRoom_0 : decode cX3_withRoom 0 = .ok (.aload_n 0, 1) := by decide +kernel
theorem dX3_withRoom_1 : decode cX3_withRoom 1 = .ok (.getfield 9, 3) := by decide +kernel
theorem dX3_withRoom_4 : decode cX3_withRoom 4 = .ok (.iload_n 1, 1) := by decide +kernel
theorem dX3_withRoom_5 : decode cX3_withRoom 5 = .ok (.bipush 8, 2) := by decide +kernel
theorem dX3_withRoom_7 : decode cX3_withRoom 7 = .ok (.imul, 1) := by decide +kernel
theorem dX3_withRoom_8 : decode cX3_withRoom 8 = .ok (.iload_n 3, 1) := by decide +kernel
theorem dX3_withRoom_9 : decode cX3_withRoom 9 = .ok (.iadd, 1) := by decide +kernel
theorem dX3_withRoom_10 : decode cX3_withRoom 10 = .ok (.iaload, 1) := by decide +kernel
theorem dX3_withRoom_11 : decode cX3_withRoom 11 = .ok (.istore 4, 2) := by decide +kernel
theorem dX3_withRoom_13 : decode cX3_withRoom 13 = .ok (.iload 4, 2) := by decide +kernel
theorem dX3_withRoom_15 : decode cX3_withRoom 15 = .ok (.ifCond .eq 11, 3) := by decide +kernel
theorem dX3_withRoom_18 : decode cX3_withRoom 18 = .ok (.iload_n 2, 1) := by decide +kernel
theorem dX3_withRoom_19 : decode cX3_withRoom 19 = .ok (.iload_n 3, 1) := by decide +kernel
theorem dX3_withRoom_20 : decode cX3_withRoom 20 = .ok (.ishr, 1) := by decide +kernel
theorem dX3_withRoom_21 : decode cX3_withRoom 21 = .ok (.iconst 1, 1) := by decide +kernel
theorem dX3_withRoom_22 : decode cX3_withRoom 22 = .ok (.iand, 1) := by decide +kernel
theorem dX3_withRoom_23 : decode cX3_withRoom 23 = .ok (.ifCond .eq 5, 3) := by decide +kernel
theorem dX3_withRoom_26 : decode cX3_withRoom 26 = .ok (.iconst (-1), 1) := by decide +kernel
theorem dX3_withRoom_27 : decode cX3_withRoom 27 = .ok (.ireturn, 1) := by decide +kernel
theorem dX3_withRoom_28 : decode cX3_withRoom 28 = .ok (.aload_n 0, 1) := by decide +kernel
theorem dX3_withRoom_29 : decode cX3_withRoom 29 = .ok (.getfield 15, 3) := by decide +kernel
theorem dX3_withRoom_32 : decode cX3_withRoom 32 = .ok (.iload_n 1, 1) := by decide +kernel
theorem dX3_withRoom_33 : decode cX3_withRoom 33 = .ok (.iconst 1, 1) := by decide +kernel
theorem dX3_withRoom_34 : decode cX3_withRoom 34 = .ok (.iadd, 1) := by decide +kernel
theorem dX3_withRoom_35 : decode cX3_withRoom 35 = .ok (.sipush 256, 3) := by decide +kernel
theorem dX3_withRoom_38 : decode cX3_withRoom 38 = .ok (.imul, 1) := by decide +kernel
theorem dX3_withRoom_39 : decode cX3_withRoom 39 = .ok (.iload_n 2, 1) := by decide +kernel
theorem dX3_withRoom_40 : decode cX3_withRoom 40 = .ok (.iconst 1, 1) := by decide +kernel
theorem dX3_withRoom_41 : decode cX3_withRoom 41 = .ok (.iload_n 3, 1) := by decide +kernel
theorem dX3_withRoom_42 : decode cX3_withRoom 42 = .ok (.ishl, 1) := by decide +kernel
theorem dX3_withRoom_43 : decode cX3_withRoom 43 = .ok (.ior, 1) := by decide +kernel
theorem dX3_withRoom_44 : decode cX3_withRoom 44 = .ok (.iadd, 1) := by decide +kernel
theorem dX3_withRoom_45 : decode cX3_withRoom 45 = .ok (.iaload, 1) := by decide +kernel
theorem dX3_withRoom_46 : decode cX3_withRoom 46 = .ok (.ldc 59, 2) := by decide +kernel
theorem dX3_withRoom_48 : decode cX3_withRoom 48 = .ok (.iadd, 1) := by decide +kernel
theorem dX3_withRoom_49 : decode cX3_withRoom 49 = .ok (.iload 4, 2) := by decide +kernel
theorem dX3_withRoom_51 : decode cX3_withRoom 51 = .ok (.iadd, 1) := by decide +kernel
theorem dX3_withRoom_52 : decode cX3_withRoom 52 = .ok (.ireturn, 1) := by decide +kernel
theorem dX3_count_0 : decode cX3_count 0 = .ok (.aload_n 0, 1) := by decide +kernel
theorem dX3_count_1 : decode cX3_count 1 = .ok (.getfield 15, 3) := by decide +kernel
theorem dX3_count_4 : decode cX3_count 4 = .ok (.iconst 0, 1) := by decide +kernel
theorem dX3_count_5 : decode cX3_count 5 = .ok (.iaload, 1) := by decide +kernel
theorem dX3_count_6 : decode cX3_count 6 = .ok (.ldc 59, 2) := by decide +kernel
theorem dX3_count_8 : decode cX3_count 8 = .ok (.idiv, 1) := by decide +kernel
theorem dX3_count_9 : decode cX3_count 9 = .ok (.ireturn, 1) := by decide +kernel
theorem dX3_together_0 : decode cX3_together 0 = .ok (.aload_n 0, 1) := by decide +kernel
theorem dX3_together_1 : decode cX3_together 1 = .ok (.getfield 15, 3) := by decide +kernel
theorem dX3_together_4 : decode cX3_together 4 = .ok (.iconst 0, 1) := by decide +kernel
theorem dX3_together_5 : decode cX3_together 5 = .ok (.iaload, 1) := by decide +kernel
theorem dX3_together_6 : decode cX3_together 6 = .ok (.ldc 59, 2) := by decide +kernel
theorem dX3_together_8 : decode cX3_together 8 = .ok (.irem, 1) := by decide +kernel
theorem dX3_together_9 : decode cX3_together 9 = .ok (.ireturn, 1) := by decide +kernel
set_option maxRecDepth 20000 in
theorem ggX3_tell_X3_withRoom : GoodIn wsX3_tell wsX3_withRoom := goodIn_r _ [8, 9, 3, 10, 11, 12, 13, 14] rfl (by decide +kernel)
set_option maxRecDepth 20000 in
theorem gX3_tell_X3_withRoom : GoodIn wsX3_tell (wsV RX3 55 RX3 yX3_withRoom wsX3_withRoom) := goodIn_app (goodIn_r _ [4, 5, 6, 7] rfl (by decide +kernel)) ggX3_tell_X3_withRoom
theorem dX3_tell_0 : decode cX3_tell 0 = .ok (.iconst 0, 1) := by decide +kernel
theorem dX3_tell_1 : decode cX3_tell 1 = .ok (.istore_n 3, 1) := by decide +kernel
theorem dX3_tell_2 : decode cX3_tell 2 = .ok (.iconst 0, 1) := by decide +kernel
theorem dX3_tell_3 : decode cX3_tell 3 = .ok (.istore 4, 2) := by decide +kernel
theorem dX3_tell_5 : decode cX3_tell 5 = .ok (.iload 4, 2) := by decide +kernel
theorem dX3_tell_7 : decode cX3_tell 7 = .ok (.aload_n 0, 1) := by decide +kernel
theorem dX3_tell_8 : decode cX3_tell 8 = .ok (.getfield 18, 3) := by decide +kernel
theorem dX3_tell_11 : decode cX3_tell 11 = .ok (.if_icmp .ge 101, 3) := by decide +kernel
theorem dX3_tell_14 : decode cX3_tell 14 = .ok (.iload 4, 2) := by decide +kernel
theorem dX3_tell_16 : decode cX3_tell 16 = .ok (.iload_n 2, 1) := by decide +kernel
theorem dX3_tell_17 : decode cX3_tell 17 = .ok (.if_icmp .ge 95, 3) := by decide +kernel
theorem dX3_tell_20 : decode cX3_tell 20 = .ok (.iload 4, 2) := by decide +kernel
theorem dX3_tell_22 : decode cX3_tell 22 = .ok (.aload_n 1, 1) := by decide +kernel
theorem dX3_tell_23 : decode cX3_tell 23 = .ok (.arraylength, 1) := by decide +kernel
theorem dX3_tell_24 : decode cX3_tell 24 = .ok (.if_icmp .ge 88, 3) := by decide +kernel
theorem dX3_tell_27 : decode cX3_tell 27 = .ok (.aload_n 1, 1) := by decide +kernel
theorem dX3_tell_28 : decode cX3_tell 28 = .ok (.iload 4, 2) := by decide +kernel
theorem dX3_tell_30 : decode cX3_tell 30 = .ok (.iconst (-1), 1) := by decide +kernel
theorem dX3_tell_31 : decode cX3_tell 31 = .ok (.iastore, 1) := by decide +kernel
theorem dX3_tell_32 : decode cX3_tell 32 = .ok (.iconst 0, 1) := by decide +kernel
theorem dX3_tell_33 : decode cX3_tell 33 = .ok (.istore 5, 2) := by decide +kernel
theorem dX3_tell_35 : decode cX3_tell 35 = .ok (.iload 5, 2) := by decide +kernel
theorem dX3_tell_37 : decode cX3_tell 37 = .ok (.aload_n 0, 1) := by decide +kernel
theorem dX3_tell_38 : decode cX3_tell 38 = .ok (.getfield 22, 3) := by decide +kernel
theorem dX3_tell_41 : decode cX3_tell 41 = .ok (.if_icmp .ge 48, 3) := by decide +kernel
theorem dX3_tell_44 : decode cX3_tell 44 = .ok (.aload_n 1, 1) := by decide +kernel
theorem dX3_tell_45 : decode cX3_tell 45 = .ok (.iload 4, 2) := by decide +kernel
theorem dX3_tell_47 : decode cX3_tell 47 = .ok (.iaload, 1) := by decide +kernel
theorem dX3_tell_48 : decode cX3_tell 48 = .ok (.iconst (-1), 1) := by decide +kernel
theorem dX3_tell_49 : decode cX3_tell 49 = .ok (.if_icmp .ne 40, 3) := by decide +kernel
theorem dX3_tell_52 : decode cX3_tell 52 = .ok (.aload_n 0, 1) := by decide +kernel
theorem dX3_tell_53 : decode cX3_tell 53 = .ok (.iload 4, 2) := by decide +kernel
theorem dX3_tell_55 : decode cX3_tell 55 = .ok (.iload_n 3, 1) := by decide +kernel
theorem dX3_tell_56 : decode cX3_tell 56 = .ok (.iload 5, 2) := by decide +kernel
theorem dX3_tell_58 : decode cX3_tell 58 = .ok (.invokevirtual 55, 3) := by decide +kernel
theorem dX3_tell_61 : decode cX3_tell 61 = .ok (.aload_n 0, 1) := by decide +kernel
theorem dX3_tell_62 : decode cX3_tell 62 = .ok (.getfield 15, 3) := by decide +kernel
theorem dX3_tell_65 : decode cX3_tell 65 = .ok (.iload 4, 2) := by decide +kernel
theorem dX3_tell_67 : decode cX3_tell 67 = .ok (.sipush 256, 3) := by decide +kernel
theorem dX3_tell_70 : decode cX3_tell 70 = .ok (.imul, 1) := by decide +kernel
theorem dX3_tell_71 : decode cX3_tell 71 = .ok (.iload_n 3, 1) := by decide +kernel
theorem dX3_tell_72 : decode cX3_tell 72 = .ok (.iadd, 1) := by decide +kernel
theorem dX3_tell_73 : decode cX3_tell 73 = .ok (.iaload, 1) := by decide +kernel
theorem dX3_tell_74 : decode cX3_tell 74 = .ok (.if_icmp .ne 9, 3) := by decide +kernel
theorem dX3_tell_77 : decode cX3_tell 77 = .ok (.aload_n 1, 1) := by decide +kernel
theorem dX3_tell_78 : decode cX3_tell 78 = .ok (.iload 4, 2) := by decide +kernel
theorem dX3_tell_80 : decode cX3_tell 80 = .ok (.iload 5, 2) := by decide +kernel
theorem dX3_tell_82 : decode cX3_tell 82 = .ok (.iastore, 1) := by decide +kernel
theorem dX3_tell_83 : decode cX3_tell 83 = .ok (.iinc 5 1, 3) := by decide +kernel
theorem dX3_tell_86 : decode cX3_tell 86 = .ok (.goto (-51), 3) := by decide +kernel
theorem dX3_tell_89 : decode cX3_tell 89 = .ok (.aload_n 1, 1) := by decide +kernel
theorem dX3_tell_90 : decode cX3_tell 90 = .ok (.iload 4, 2) := by decide +kernel
theorem dX3_tell_92 : decode cX3_tell 92 = .ok (.iaload, 1) := by decide +kernel
theorem dX3_tell_93 : decode cX3_tell 93 = .ok (.iconst (-1), 1) := by decide +kernel
theorem dX3_tell_94 : decode cX3_tell 94 = .ok (.if_icmp .eq 12, 3) := by decide +kernel
theorem dX3_tell_97 : decode cX3_tell 97 = .ok (.iload_n 3, 1) := by decide +kernel
theorem dX3_tell_98 : decode cX3_tell 98 = .ok (.iconst 1, 1) := by decide +kernel
theorem dX3_tell_99 : decode cX3_tell 99 = .ok (.aload_n 1, 1) := by decide +kernel
theorem dX3_tell_100 : decode cX3_tell 100 = .ok (.iload 4, 2) := by decide +kernel
theorem dX3_tell_102 : decode cX3_tell 102 = .ok (.iaload, 1) := by decide +kernel
theorem dX3_tell_103 : decode cX3_tell 103 = .ok (.ishl, 1) := by decide +kernel
theorem dX3_tell_104 : decode cX3_tell 104 = .ok (.ior, 1) := by decide +kernel
theorem dX3_tell_105 : decode cX3_tell 105 = .ok (.istore_n 3, 1) := by decide +kernel
theorem dX3_tell_106 : decode cX3_tell 106 = .ok (.iinc 4 1, 3) := by decide +kernel
theorem dX3_tell_109 : decode cX3_tell 109 = .ok (.goto (-104), 3) := by decide +kernel
theorem dX3_tell_112 : decode cX3_tell 112 = .ok (.return_, 1) := by decide +kernel
set_option maxRecDepth 20000 in
theorem ggX4_empty_X7_empty : GoodIn wsX4_empty wsX7_empty := goodIn_r _ [12, 13, 14, 15, 16, 17, 18, 19, 20, 21, 22, 23, 24, 42, 43, 44, 45, 46, 47, 48, 49] rfl (by decide +kernel)
set_option maxRecDepth 20000 in
theorem gX4_empty_X7_empty : GoodIn wsX4_empty (wsV RX4 54 RX7 yX7_empty wsX7_empty) := goodIn_app (goodIn_r _ [8, 9, 10, 11] rfl (by decide +kernel)) ggX4_empty_X7_empty
set_option maxRecDepth 20000 in
theorem ggX4_empty_X2_empty : GoodIn wsX4_empty wsX2_empty := goodIn_r _ [29, 30, 50, 51, 52] rfl (by decide +kernel)
set_option maxRecDepth 20000 in
theorem gX4_empty_X2_empty : GoodIn wsX4_empty (wsV RX4 57 RX2 yX2_empty wsX2_empty) := goodIn_app (goodIn_r _ [25, 26, 27, 28] rfl (by decide +kernel)) ggX4_empty_X2_empty
theorem dX4_empty_0 : decode cX4_empty 0 = .ok (.aload_n 0, 1) := by decide +kernel
theorem dX4_empty_1 : decode cX4_empty 1 = .ok (.iconst 0, 1) := by decide +kernel
theorem dX4_empty_2 : decode cX4_empty 2 = .ok (.putfield 9, 3) := by decide +kernel
