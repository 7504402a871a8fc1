theorem dX9_clearBank_0 : decode cX9_clearBank 0 = .ok (.aload_n 0, 1) := by decide +kernel
theorem dX9_clearBank_1 : decode cX9_clearBank 1 = .ok (.getfield 20, 3) := by decide +kernel
theorem dX9_clearBank_4 : decode cX9_clearBank 4 = .ok (.aload_n 0, 1) := by decide +kernel
theorem dX9_clearBank_5 : decode cX9_clearBank 5 = .ok (.getfield 259, 3) := by decide +kernel
theorem dX9_clearBank_8 : decode cX9_clearBank 8 = .ok (.iconst 0, 1) := by decide +kernel
theorem dX9_clearBank_9 : decode cX9_clearBank 9 = .ok (.iastore, 1) := by decide +kernel
theorem dX9_clearBank_10 : decode cX9_clearBank 10 = .ok (.aload_n 0, 1) := by decide +kernel
theorem dX9_clearBank_11 : decode cX9_clearBank 11 = .ok (.getfield 24, 3) := by decide +kernel
theorem dX9_clearBank_14 : decode cX9_clearBank 14 = .ok (.aload_n 0, 1) := by decide +kernel
theorem dX9_clearBank_15 : decode cX9_clearBank 15 = .ok (.getfield 259, 3) := by decide +kernel
theorem dX9_clearBank_18 : decode cX9_clearBank 18 = .ok (.iconst 0, 1) := by decide +kernel
theorem dX9_clearBank_19 : decode cX9_clearBank 19 = .ok (.iastore, 1) := by decide +kernel
theorem dX9_clearBank_20 : decode cX9_clearBank 20 = .ok (.aload_n 0, 1) := by decide +kernel
theorem dX9_clearBank_21 : decode cX9_clearBank 21 = .ok (.getfield 27, 3) := by decide +kernel
theorem dX9_clearBank_24 : decode cX9_clearBank 24 = .ok (.aload_n 0, 1) := by decide +kernel
theorem dX9_clearBank_25 : decode cX9_clearBank 25 = .ok (.getfield 259, 3) := by decide +kernel
theorem dX9_clearBank_28 : decode cX9_clearBank 28 = .ok (.iconst 0, 1) := by decide +kernel
theorem dX9_clearBank_29 : decode cX9_clearBank 29 = .ok (.iastore, 1) := by decide +kernel
theorem dX9_clearBank_30 : decode cX9_clearBank 30 = .ok (.aload_n 0, 1) := by decide +kernel
theorem dX9_clearBank_31 : decode cX9_clearBank 31 = .ok (.getfield 30, 3) := by decide +kernel
theorem dX9_clearBank_34 : decode cX9_clearBank 34 = .ok (.aload_n 0, 1) := by decide +kernel
theorem dX9_clearBank_35 : decode cX9_clearBank 35 = .ok (.getfield 259, 3) := by decide +kernel
theorem dX9_clearBank_38 : decode cX9_clearBank 38 = .ok (.iconst 0, 1) := by decide +kernel
theorem dX9_clearBank_39 : decode cX9_clearBank 39 = .ok (.iastore, 1) := by decide +kernel
theorem dX9_clearBank_40 : decode cX9_clearBank 40 = .ok (.aload_n 0, 1) := by decide +kernel
theorem dX9_clearBank_41 : decode cX9_clearBank 41 = .ok (.getfield 33, 3) := by decide +kernel
theorem dX9_clearBank_44 : decode cX9_clearBank 44 = .ok (.aload_n 0, 1) := by decide +kernel
theorem dX9_clearBank_45 : decode cX9_clearBank 45 = .ok (.getfield 259, 3) := by decide +kernel
theorem dX9_clearBank_48 : decode cX9_clearBank 48 = .ok (.iconst 0, 1) := by decide +kernel
theorem dX9_clearBank_49 : decode cX9_clearBank 49 = .ok (.iastore, 1) := by decide +kernel
theorem dX9_clearBank_50 : decode cX9_clearBank 50 = .ok (.aload_n 0, 1) := by decide +kernel
theorem dX9_clearBank_51 : decode cX9_clearBank 51 = .ok (.getfield 36, 3) := by decide +kernel
theorem dX9_clearBank_54 : decode cX9_clearBank 54 = .ok (.aload_n 0, 1) := by decide +kernel
theorem dX9_clearBank_55 : decode cX9_clearBank 55 = .ok (.getfield 259, 3) := by decide +kernel
theorem dX9_clearBank_58 : decode cX9_clearBank 58 = .ok (.iconst 0, 1) := by decide +kernel
theorem dX9_clearBank_59 : decode cX9_clearBank 59 = .ok (.iastore, 1) := by decide +kernel
theorem dX9_clearBank_60 : decode cX9_clearBank 60 = .ok (.aload_n 0, 1) := by decide +kernel
theorem dX9_clearBank_61 : decode cX9_clearBank 61 = .ok (.getfield 39, 3) := by decide +kernel
theorem dX9_clearBank_64 : decode cX9_clearBank 64 = .ok (.aload_n 0, 1) := by decide +kernel
theorem dX9_clearBank_65 : decode cX9_clearBank 65 = .ok (.getfield 259, 3) := by decide +kernel
theorem dX9_clearBank_68 : decode cX9_clearBank 68 = .ok (.iconst 0, 1) := by decide +kernel
theorem dX9_clearBank_69 : decode cX9_clearBank 69 = .ok (.iastore, 1) := by decide +kernel
theorem dX9_clearBank_70 : decode cX9_clearBank 70 = .ok (.aload_n 0, 1) := by decide +kernel
theorem dX9_clearBank_71 : decode cX9_clearBank 71 = .ok (.sipush 560, 3) := by decide +kernel
theorem dX9_clearBank_74 : decode cX9_clearBank 74 = .ok (.aload_n 0, 1) := by decide +kernel
theorem dX9_clearBank_75 : decode cX9_clearBank 75 = .ok (.getfield 259, 3) := by decide +kernel
theorem dX9_clearBank_78 : decode cX9_clearBank 78 = .ok (.imul, 1) := by decide +kernel
theorem dX9_clearBank_79 : decode cX9_clearBank 79 = .ok (.putfield 262, 3) := by decide +kernel
theorem dX9_clearBank_82 : decode cX9_clearBank 82 = .ok (.return_, 1) := by decide +kernel
set_option maxRecDepth 20000 in
theorem ggX9_startAnew_X9_layTold : GoodIn wsX9_startAnew wsX9_layTold := goodIn_r _ [10, 11, 12, 13, 14, 15, 16, 17, 18, 19, 20, 9, 21, 22, 23, 24, 25, 26, 27, 28, 29, 30, 31, 32, 33, 34, 35, 36, 37, 38, 39, 40, 41, 42, 43, 44, 45, 46, 47, 48, 49, 50, 51, 52, 53, 54, 55, 56, 57, 58, 59, 60, 61, 62, 63, 64, 65, 66, 67, 68, 69, 70, 71, 72, 73, 74, 75, 76, 77, 78, 79, 80, 81, 82, 83, 84, 85, 86, 87, 88, 89, 90, 91, 92, 93, 94, 95, 96, 97, 98, 99] (by decide +kernel) (by decide +kernel)
set_option maxRecDepth 20000 in
theorem gX9_startAnew_X9_layTold : GoodIn wsX9_startAnew (wsV RX9 395 RX9 yX9_layTold wsX9_layTold) := goodIn_app (goodIn_of _ (by decide +kernel)) ggX9_startAnew_X9_layTold
theorem dX9_startAnew_0 : decode cX9_startAnew 0 = .ok (.aload_n 0, 1) := by decide +kernel
theorem dX9_startAnew_1 : decode cX9_startAnew 1 = .ok (.invokevirtual 395, 3) := by decide +kernel
theorem dX9_startAnew_4 : decode cX9_startAnew 4 = .ok (.aload_n 0, 1) := by decide +kernel
theorem dX9_startAnew_5 : decode cX9_startAnew 5 = .ok (.iconst 0, 1) := by decide +kernel
theorem dX9_startAnew_6 : decode cX9_startAnew 6 = .ok (.putfield 398, 3) := by decide +kernel
theorem dX9_startAnew_9 : decode cX9_startAnew 9 = .ok (.aload_n 0, 1) := by decide +kernel
theorem dX9_startAnew_10 : decode cX9_startAnew 10 = .ok (.iconst 0, 1) := by decide +kernel
theorem dX9_startAnew_11 : decode cX9_startAnew 11 = .ok (.putfield 401, 3) := by decide +kernel
theorem dX9_startAnew_14 : decode cX9_startAnew 14 = .ok (.aload_n 0, 1) := by decide +kernel
theorem dX9_startAnew_15 : decode cX9_startAnew 15 = .ok (.iconst 0, 1) := by decide +kernel
theorem dX9_startAnew_16 : decode cX9_startAnew 16 = .ok (.putfield 404, 3) := by decide +kernel
theorem dX9_startAnew_19 : decode cX9_startAnew 19 = .ok (.aload_n 0, 1) := by decide +kernel
theorem dX9_startAnew_20 : decode cX9_startAnew 20 = .ok (.iconst 0, 1) := by decide +kernel
theorem dX9_startAnew_21 : decode cX9_startAnew 21 = .ok (.putfield 407, 3) := by decide +kernel
theorem dX9_startAnew_24 : decode cX9_startAnew 24 = .ok (.iconst 0, 1) := by decide +kernel
theorem dX9_startAnew_25 : decode cX9_startAnew 25 = .ok (.istore_n 1, 1) := by decide +kernel
theorem dX9_startAnew_26 : decode cX9_startAnew 26 = .ok (.iload_n 1, 1) := by decide +kernel
theorem dX9_startAnew_27 : decode cX9_startAnew 27 = .ok (.iconst 3, 1) := by decide +kernel
theorem dX9_startAnew_28 : decode cX9_startAnew 28 = .ok (.if_icmp .ge 16, 3) := by decide +kernel
theorem dX9_startAnew_31 : decode cX9_startAnew 31 = .ok (.aload_n 0, 1) := by decide +kernel
theorem dX9_startAnew_32 : decode cX9_startAnew 32 = .ok (.getfield 142, 3) := by decide +kernel
theorem dX9_startAnew_35 : decode cX9_startAnew 35 = .ok (.iload_n 1, 1) := by decide +kernel
theorem dX9_startAnew_36 : decode cX9_startAnew 36 = .ok (.iconst 0, 1) := by decide +kernel
theorem dX9_startAnew_37 : decode cX9_startAnew 37 = .ok (.bastore, 1) := by decide +kernel
theorem dX9_startAnew_38 : decode cX9_startAnew 38 = .ok (.iinc 1 1, 3) := by decide +kernel
theorem dX9_startAnew_41 : decode cX9_startAnew 41 = .ok (.goto (-15), 3) := by decide +kernel
theorem dX9_startAnew_44 : decode cX9_startAnew 44 = .ok (.return_, 1) := by decide +kernel
set_option maxRecDepth 20000 in
theorem ggX9_layTold_X9_many : GoodIn wsX9_layTold wsX9_many := goodIn_r _ [12, 13, 3, 24, 25, 26, 27, 28, 29, 30, 31, 32, 33, 34, 35, 36, 37, 38, 39, 40, 41, 42, 43, 44, 45, 46, 47, 48, 49, 50, 51, 52, 53, 54, 55, 56, 57, 58, 59, 60, 61, 62, 63, 64, 65, 66, 67, 68, 69, 70, 71, 72, 73, 74, 75, 76, 77, 78, 79, 80, 81, 82, 83, 84, 85, 86, 87, 88, 89, 90] (by decide +kernel) (by decide +kernel)
set_option maxRecDepth 20000 in
theorem gX9_layTold_X9_many : GoodIn wsX9_layTold (wsV RX9 373 RX9 yX9_many wsX9_many) := goodIn_app (goodIn_of _ (by decide +kernel)) ggX9_layTold_X9_many
set_option maxRecDepth 20000 in
theorem ggX9_layTold_X9_chambers : GoodIn wsX9_layTold wsX9_chambers := goodIn_r _ [17, 18, 3, 24, 25, 26, 27, 28, 29, 30, 31, 32, 33, 34, 35, 36, 37, 38, 39, 40, 41, 42, 43, 44, 45, 46, 47, 48, 49, 50, 51, 52, 53, 54, 55, 56, 57, 58, 59, 60, 61, 62, 63, 64, 65, 66, 67, 68, 69, 70, 71, 72, 73, 74, 75, 76, 77, 78, 79, 80, 81, 82, 83, 84, 85, 86, 87, 88, 89, 90] (by decide +kernel) (by decide +kernel)
set_option maxRecDepth 20000 in
theorem gX9_layTold_X9_chambers : GoodIn wsX9_layTold (wsV RX9 383 RX9 yX9_chambers wsX9_chambers) := goodIn_app (goodIn_of _ (by decide +kernel)) ggX9_layTold_X9_chambers
set_option maxRecDepth 20000 in
theorem ggX9_layTold_X9_cattery : GoodIn wsX9_layTold wsX9_cattery := goodIn_r _ [22, 23, 3, 24, 25, 26, 27, 28, 29, 30, 31, 32, 33, 34, 35, 36, 37, 38, 39, 40, 41, 42, 43, 44, 45, 46, 47, 48, 49, 50, 51, 52, 53, 54, 55, 56, 57, 58, 59, 60, 61, 62, 63, 64, 65, 66, 67, 68, 69, 70, 71, 72, 73, 74, 75, 76, 77, 78, 79, 80, 81, 82, 83, 84, 85, 86, 87, 88, 89, 90] (by decide +kernel) (by decide +kernel)
set_option maxRecDepth 20000 in
theorem gX9_layTold_X9_cattery : GoodIn wsX9_layTold (wsV RX9 380 RX9 yX9_cattery wsX9_cattery) := goodIn_app (goodIn_of _ (by decide +kernel)) ggX9_layTold_X9_cattery
theorem dX9_layTold_0 : decode cX9_layTold 0 = .ok (.iconst 0, 1) := by decide +kernel
theorem dX9_layTold_1 : decode cX9_layTold 1 = .ok (.istore_n 1, 1) := by decide +kernel
theorem dX9_layTold_2 : decode cX9_layTold 2 = .ok (.iload_n 1, 1) := by decide +kernel
theorem dX9_layTold_3 : decode cX9_layTold 3 = .ok (.bipush 39, 2) := by decide +kernel
theorem dX9_layTold_5 : decode cX9_layTold 5 = .ok (.if_icmp .ge 16, 3) := by decide +kernel
theorem dX9_layTold_8 : decode cX9_layTold 8 = .ok (.aload_n 0, 1) := by decide +kernel
theorem dX9_layTold_9 : decode cX9_layTold 9 = .ok (.getfield 94, 3) := by decide +kernel
theorem dX9_layTold_12 : decode cX9_layTold 12 = .ok (.iload_n 1, 1) := by decide +kernel
theorem dX9_layTold_13 : decode cX9_layTold 13 = .ok (.iconst 0, 1) := by decide +kernel
theorem dX9_layTold_14 : decode cX9_layTold 14 = .ok (.iastore, 1) := by decide +kernel
theorem dX9_layTold_15 : decode cX9_layTold 15 = .ok (.iinc 1 1, 3) := by decide +kernel
theorem dX9_layTold_18 : decode cX9_layTold 18 = .ok (.goto (-16), 3) := by decide +kernel
theorem dX9_layTold_21 : decode cX9_layTold 21 = .ok (.iconst 0, 1) := by decide +kernel
theorem dX9_layTold_22 : decode cX9_layTold 22 = .ok (.istore_n 1, 1) := by decide +kernel
theorem dX9_layTold_23 : decode cX9_layTold 23 = .ok (.iload_n 1, 1) := by decide +kernel
theorem dX9_layTold_24 : decode cX9_layTold 24 = .ok (.bipush 7, 2) := by decide +kernel
theorem dX9_layTold_26 : decode cX9_layTold 26 = .ok (.if_icmp .ge 115, 3) := by decide +kernel
theorem dX9_layTold_29 : decode cX9_layTold 29 = .ok (.iload_n 1, 1) := by decide +kernel
theorem dX9_layTold_30 : decode cX9_layTold 30 = .ok (.aload_n 0, 1) := by decide +kernel
theorem dX9_layTold_31 : decode cX9_layTold 31 = .ok (.invokevirtual 373, 3) := by decide +kernel
theorem dX9_layTold_34 : decode cX9_layTold 34 = .ok (.if_icmp .ge 7, 3) := by decide +kernel
theorem dX9_layTold_41 : decode cX9_layTold 41 = .ok (.iconst 0, 1) := by decide +kernel
theorem dX9_layTold_42 : decode cX9_layTold 42 = .ok (.istore_n 2, 1) := by decide +kernel
theorem dX9_layTold_43 : decode cX9_layTold 43 = .ok (.aload_n 0, 1) := by decide +kernel
theorem dX9_layTold_44 : decode cX9_layTold 44 = .ok (.getfield 94, 3) := by decide +kernel
theorem dX9_layTold_47 : decode cX9_layTold 47 = .ok (.iconst 0, 1) := by decide +kernel
theorem dX9_layTold_48 : decode cX9_layTold 48 = .ok (.iload_n 1, 1) := by decide +kernel
theorem dX9_layTold_49 : decode cX9_layTold 49 = .ok (.iadd, 1) := by decide +kernel
theorem dX9_layTold_50 : decode cX9_layTold 50 = .ok (.iload_n 2, 1) := by decide +kernel
theorem dX9_layTold_51 : decode cX9_layTold 51 = .ok (.ifCond .eq 20, 3) := by decide +kernel
theorem dX9_layTold_71 : decode cX9_layTold 71 = .ok (.iconst (-1), 1) := by decide +kernel
theorem dX9_layTold_72 : decode cX9_layTold 72 = .ok (.iastore, 1) := by decide +kernel
theorem dX9_layTold_73 : decode cX9_layTold 73 = .ok (.aload_n 0, 1) := by decide +kernel
theorem dX9_layTold_74 : decode cX9_layTold 74 = .ok (.getfield 94, 3) := by decide +kernel
theorem dX9_layTold_77 : decode cX9_layTold 77 = .ok (.bipush 22, 2) := by decide +kernel
theorem dX9_layTold_79 : decode cX9_layTold 79 = .ok (.iload_n 1, 1) := by decide +kernel
theorem dX9_layTold_80 : decode cX9_layTold 80 = .ok (.iadd, 1) := by decide +kernel
theorem dX9_layTold_81 : decode cX9_layTold 81 = .ok (.iload_n 2, 1) := by decide +kernel
theorem dX9_layTold_82 : decode cX9_layTold 82 = .ok (.ifCond .eq 20, 3) := by decide +kernel
theorem dX9_layTold_102 : decode cX9_layTold 102 = .ok (.iconst 0, 1) := by decide +kernel
theorem dX9_layTold_103 : decode cX9_layTold 103 = .ok (.iastore, 1) := by decide +kernel
theorem dX9_layTold_104 : decode cX9_layTold 104 = .ok (.aload_n 0, 1) := by decide +kernel
theorem dX9_layTold_105 : decode cX9_layTold 105 = .ok (.getfield 94, 3) := by decide +kernel
theorem dX9_layTold_108 : decode cX9_layTold 108 = .ok (.bipush 29, 2) := by decide +kernel
theorem dX9_layTold_110 : decode cX9_layTold 110 = .ok (.iload_n 1, 1) := by decide +kernel
theorem dX9_layTold_111 : decode cX9_layTold 111 = .ok (.iadd, 1) := by decide +kernel
theorem dX9_layTold_112 : decode cX9_layTold 112 = .ok (.iload_n 2, 1) := by decide +kernel
theorem dX9_layTold_113 : decode cX9_layTold 113 = .ok (.ifCond .eq 20, 3) := by decide +kernel
theorem dX9_layTold_133 : decode cX9_layTold 133 = .ok (.iconst 0, 1) := by decide +kernel
theorem dX9_layTold_134 : decode cX9_layTold 134 = .ok (.iastore, 1) := by decide +kernel
theorem dX9_layTold_135 : decode cX9_layTold 135 = .ok (.iinc 1 1, 3) := by decide +kernel
theorem dX9_layTold_138 : decode cX9_layTold 138 = .ok (.goto (-115), 3) := by decide +kernel
theorem dX9_layTold_141 : decode cX9_layTold 141 = .ok (.iconst 0, 1) := by decide +kernel
theorem dX9_layTold_142 : decode cX9_layTold 142 = .ok (.istore_n 1, 1) := by decide +kernel
theorem dX9_layTold_143 : decode cX9_layTold 143 = .ok (.iload_n 1, 1) := by decide +kernel
theorem dX9_layTold_144 : decode cX9_layTold 144 = .ok (.bipush 8, 2) := by decide +kernel
theorem dX9_layTold_146 : decode cX9_layTold 146 = .ok (.if_icmp .ge 44, 3) := by decide +kernel
theorem dX9_layTold_149 : decode cX9_layTold 149 = .ok (.aload_n 0, 1) := by decide +kernel
theorem dX9_layTold_150 : decode cX9_layTold 150 = .ok (.getfield 94, 3) := by decide +kernel
theorem dX9_layTold_153 : decode cX9_layTold 153 = .ok (.bipush 14, 2) := by decide +kernel
theorem dX9_layTold_155 : decode cX9_layTold 155 = .ok (.iload_n 1, 1) := by decide +kernel
theorem dX9_layTold_156 : decode cX9_layTold 156 = .ok (.iadd, 1) := by decide +kernel
theorem dX9_layTold_157 : decode cX9_layTold 157 = .ok (.iload_n 1, 1) := by decide +kernel
theorem dX9_layTold_158 : decode cX9_layTold 158 = .ok (.aload_n 0, 1) := by decide +kernel
theorem dX9_layTold_159 : decode cX9_layTold 159 = .ok (.invokevirtual 383, 3) := by decide +kernel
theorem dX9_layTold_162 : decode cX9_layTold 162 = .ok (.if_icmp .ge 20, 3) := by decide +kernel
theorem dX9_layTold_182 : decode cX9_layTold 182 = .ok (.iconst (-1), 1) := by decide +kernel
theorem dX9_layTold_183 : decode cX9_layTold 183 = .ok (.iastore, 1) := by decide +kernel
theorem dX9_layTold_184 : decode cX9_layTold 184 = .ok (.iinc 1 1, 3) := by decide +kernel
theorem dX9_layTold_187 : decode cX9_layTold 187 = .ok (.goto (-44), 3) := by decide +kernel
theorem dX9_layTold_190 : decode cX9_layTold 190 = .ok (.aload_n 0, 1) := by decide +kernel
theorem dX9_layTold_191 : decode cX9_layTold 191 = .ok (.getfield 94, 3) := by decide +kernel
theorem dX9_layTold_194 : decode cX9_layTold 194 = .ok (.bipush 36, 2) := by decide +kernel
theorem dX9_layTold_196 : decode cX9_layTold 196 = .ok (.iconst 1, 1) := by decide +kernel
theorem dX9_layTold_197 : decode cX9_layTold 197 = .ok (.aload_n 0, 1) := by decide +kernel
theorem dX9_layTold_198 : decode cX9_layTold 198 = .ok (.invokevirtual 380, 3) := by decide +kernel
theorem dX9_layTold_201 : decode cX9_layTold 201 = .ok (.ishl, 1) := by decide +kernel
theorem dX9_layTold_202 : decode cX9_layTold 202 = .ok (.iconst 1, 1) := by decide +kernel
theorem dX9_layTold_203 : decode cX9_layTold 203 = .ok (.isub, 1) := by decide +kernel
theorem dX9_layTold_204 : decode cX9_layTold 204 = .ok (.iastore, 1) := by decide +kernel
theorem dX9_layTold_205 : decode cX9_layTold 205 = .ok (.aload_n 0, 1) := by decide +kernel
theorem dX9_layTold_206 : decode cX9_layTold 206 = .ok (.getfield 94, 3) := by decide +kernel
theorem dX9_layTold_209 : decode cX9_layTold 209 = .ok (.bipush 38, 2) := by decide +kernel
theorem dX9_layTold_211 : decode cX9_layTold 211 = .ok (.aload_n 0, 1) := by decide +kernel
theorem dX9_layTold_212 : decode cX9_layTold 212 = .ok (.getfield 36, 3) := by decide +kernel
theorem dX9_layTold_215 : decode cX9_layTold 215 = .ok (.aload_n 0, 1) := by decide +kernel
theorem dX9_layTold_216 : decode cX9_layTold 216 = .ok (.getfield 268, 3) := by decide +kernel
theorem dX9_layTold_219 : decode cX9_layTold 219 = .ok (.iaload, 1) := by decide +kernel
theorem dX9_layTold_220 : decode cX9_layTold 220 = .ok (.iastore, 1) := by decide +kernel
theorem dX9_layTold_221 : decode cX9_layTold 221 = .ok (.return_, 1) := by decide +kernel
theorem iX9_layTold_X9 : ∀ w ∈ wsX90, w ∈ wsX9_layTold := (fun _ h => List.mem_cons_of_mem _ (List.mem_append_right _ h))
theorem iX9_startAnew_X9 : ∀ w ∈ wsX90, w ∈ wsX9_startAnew := (fun _ h => List.mem_cons_of_mem _ (List.mem_append_right _ h))
theorem iX9_clearBank_X9 : ∀ w ∈ wsX90, w ∈ wsX9_clearBank := (fun _ h => List.mem_cons_of_mem _ (List.mem_append_right _ h))
