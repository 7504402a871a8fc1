theorem dX9_odds_80 : decode cX9_odds 80 = .ok (.idiv, 1) := by decide +kernel
theorem dX9_odds_81 : decode cX9_odds 81 = .ok (.ireturn, 1) := by decide +kernel
set_option maxRecDepth 20000 in
theorem ggX9_letIn_X9_keeperOf : GoodIn wsX9_letIn wsX9_keeperOf := goodIn_r _ [6, 7, 73, 74, 75, 76, 77, 78, 79, 80, 81, 82, 83, 84, 85, 86, 87, 88, 89, 90, 91, 92, 93, 94, 95, 96, 97, 98, 99, 100, 101, 102, 103, 104, 105, 106, 107, 108, 109, 110, 111, 112, 113, 114, 115, 116, 117, 118, 119, 120, 121, 122, 123, 124, 125, 126, 127, 128, 129, 130, 131, 132, 133, 134, 135, 136, 137, 138, 139] rfl (by decide +kernel)
set_option maxRecDepth 20000 in
theorem gX9_letIn_X9_keeperOf : GoodIn wsX9_letIn (wsV RX9 392 RX9 yX9_keeperOf wsX9_keeperOf) := goodIn_app (goodIn_r _ [2, 3, 4, 5] rfl (by decide +kernel)) ggX9_letIn_X9_keeperOf
set_option maxRecDepth 20000 in
theorem ggX9_letIn_X9_likingIn : GoodIn wsX9_letIn wsX9_likingIn := goodIn_r _ [11, 7, 12, 13, 14, 5, 15, 16, 17, 18, 19, 20, 21, 22, 23, 2, 3, 4, 6, 24, 25, 26, 27, 28, 29, 30, 31, 32, 33, 34, 35, 36, 37, 38, 39, 40, 41, 42, 43, 44, 45, 46, 47, 48, 49, 50, 51, 52, 53, 54, 55, 56, 57, 58, 59, 60, 61, 62, 63, 64, 65, 66, 67, 68, 69, 73, 74, 75, 76, 77, 78, 79, 80, 81, 82, 83, 84, 85, 86, 87, 88, 89, 90, 91, 92, 93, 94, 95, 96, 97, 98, 99, 100, 101, 102, 103, 104, 105, 106, 107, 108, 109, 110, 111, 112, 113, 114, 115, 116, 117, 118, 119, 120, 121, 122, 123, 124, 125, 126, 127, 128, 129, 130, 131, 132, 133, 134, 135, 136, 137, 138, 139] rfl (by decide +kernel)
set_option maxRecDepth 20000 in
theorem gX9_letIn_X9_likingIn : GoodIn wsX9_letIn (wsV RX9 425 RX9 yX9_likingIn wsX9_likingIn) := goodIn_app (goodIn_r _ [8, 9, 10, 5] rfl (by decide +kernel)) ggX9_letIn_X9_likingIn
set_option maxRecDepth 20000 in
theorem ggX9_letIn_X9_held : GoodIn wsX9_letIn wsX9_held := goodIn_r _ [72] rfl (by decide +kernel)
set_option maxRecDepth 20000 in
theorem gX9_letIn_X9_held : GoodIn wsX9_letIn (va_wsS RX9 470 yX9_held wsX9_held) := goodIn_app (goodIn_r _ [70, 71, 5] rfl (by decide +kernel)) ggX9_letIn_X9_held
theorem dX9_letIn_0 : decode cX9_letIn 0 = .ok (.aload_n 0, 1) := by decide +kernel
theorem dX9_letIn_1 : decode cX9_letIn 1 = .ok (.iload_n 2, 1) := by decide +kernel
theorem dX9_letIn_2 : decode cX9_letIn 2 = .ok (.invokevirtual 392, 3) := by decide +kernel
theorem dX9_letIn_5 : decode cX9_letIn 5 = .ok (.ifCond .ge 5, 3) := by decide +kernel
theorem dX9_letIn_8 : decode cX9_letIn 8 = .ok (.iconst (-1), 1) := by decide +kernel
theorem dX9_letIn_9 : decode cX9_letIn 9 = .ok (.ireturn, 1) := by decide +kernel
theorem dX9_letIn_10 : decode cX9_letIn 10 = .ok (.aload_n 0, 1) := by decide +kernel
theorem dX9_letIn_11 : decode cX9_letIn 11 = .ok (.iload_n 1, 1) := by decide +kernel
theorem dX9_letIn_12 : decode cX9_letIn 12 = .ok (.iload_n 2, 1) := by decide +kernel
theorem dX9_letIn_13 : decode cX9_letIn 13 = .ok (.invokevirtual 425, 3) := by decide +kernel
theorem dX9_letIn_16 : decode cX9_letIn 16 = .ok (.istore_n 3, 1) := by decide +kernel
theorem dX9_letIn_17 : decode cX9_letIn 17 = .ok (.iload_n 3, 1) := by decide +kernel
theorem dX9_letIn_18 : decode cX9_letIn 18 = .ok (.ifCond .gt 7, 3) := by decide +kernel
theorem dX9_letIn_21 : decode cX9_letIn 21 = .ok (.iconst (-1), 1) := by decide +kernel
theorem dX9_letIn_22 : decode cX9_letIn 22 = .ok (.goto 11, 3) := by decide +kernel
theorem dX9_letIn_25 : decode cX9_letIn 25 = .ok (.ldc_w 512, 3) := by decide +kernel
theorem dX9_letIn_28 : decode cX9_letIn 28 = .ok (.iload_n 3, 1) := by decide +kernel
theorem dX9_letIn_29 : decode cX9_letIn 29 = .ok (.invokestatic 470, 3) := by decide +kernel
theorem dX9_letIn_32 : decode cX9_letIn 32 = .ok (.iadd, 1) := by decide +kernel
theorem dX9_letIn_33 : decode cX9_letIn 33 = .ok (.ireturn, 1) := by decide +kernel
set_option maxRecDepth 20000 in
theorem ggX9_layLet_X9_chambers : GoodIn wsX9_layLet wsX9_chambers := goodIn_r _ [6, 7, 8, 83, 84, 85, 86, 87, 88, 89, 90, 91, 92, 93, 94, 95, 96, 97, 98, 99, 100, 101, 102, 103, 104, 105, 106, 107, 108, 109, 110, 111, 112, 113, 114, 115, 116, 117, 118, 119, 120, 121, 122, 123, 124, 125, 126, 127, 128, 129, 130, 131, 132, 133, 134, 135, 136, 137, 138, 139, 140, 141, 142, 143, 144, 145, 146, 147, 148, 149] rfl (by decide +kernel)
set_option maxRecDepth 20000 in
theorem gX9_layLet_X9_chambers : GoodIn wsX9_layLet (wsV RX9 383 RX9 yX9_chambers wsX9_chambers) := goodIn_app (goodIn_r _ [2, 3, 4, 5] rfl (by decide +kernel)) ggX9_layLet_X9_chambers
set_option maxRecDepth 20000 in
theorem ggX9_layLet_X9_many : GoodIn wsX9_layLet wsX9_many := goodIn_r _ [12, 13, 8, 83, 84, 85, 86, 87, 88, 89, 90, 91, 92, 93, 94, 95, 96, 97, 98, 99, 100, 101, 102, 103, 104, 105, 106, 107, 108, 109, 110, 111, 112, 113, 114, 115, 116, 117, 118, 119, 120, 121, 122, 123, 124, 125, 126, 127, 128, 129, 130, 131, 132, 133, 134, 135, 136, 137, 138, 139, 140, 141, 142, 143, 144, 145, 146, 147, 148, 149] rfl (by decide +kernel)
set_option maxRecDepth 20000 in
theorem gX9_layLet_X9_many : GoodIn wsX9_layLet (wsV RX9 373 RX9 yX9_many wsX9_many) := goodIn_app (goodIn_r _ [9, 10, 11, 5] rfl (by decide +kernel)) ggX9_layLet_X9_many
set_option maxRecDepth 20000 in
theorem ggX9_layLet_X9_letIn : GoodIn wsX9_layLet wsX9_letIn := goodIn_r _ [17, 18, 19, 20, 21, 5, 22, 23, 24, 25, 26, 27, 28, 29, 30, 31, 32, 33, 34, 35, 36, 37, 8, 38, 39, 40, 41, 42, 43, 44, 45, 46, 47, 48, 49, 50, 51, 52, 53, 54, 2, 3, 4, 6, 7, 55, 56, 57, 58, 59, 60, 61, 62, 63, 64, 65, 66, 67, 68, 69, 70, 71, 72, 73, 74, 75, 76, 77, 78, 79, 80, 81, 82, 83, 84, 85, 86, 87, 88, 89, 90, 91, 92, 93, 94, 95, 96, 97, 98, 99, 100, 101, 102, 103, 104, 105, 106, 107, 108, 109, 110, 111, 112, 113, 114, 115, 116, 117, 118, 119, 120, 121, 122, 123, 124, 125, 126, 127, 128, 129, 130, 131, 132, 133, 134, 135, 136, 137, 138, 139, 140, 141, 142, 143, 144, 145, 146, 147, 148, 149] rfl (by decide +kernel)
set_option maxRecDepth 20000 in
theorem gX9_layLet_X9_letIn : GoodIn wsX9_layLet (wsV RX9 513 RX9 yX9_letIn wsX9_letIn) := goodIn_app (goodIn_r _ [14, 15, 16, 5] rfl (by decide +kernel)) ggX9_layLet_X9_letIn
set_option maxRecDepth 20000 in
theorem ggX9_layLet_X9_bit : GoodIn wsX9_layLet wsX9_bit := goodIn_r _ [60] rfl (by decide +kernel)
set_option maxRecDepth 20000 in
theorem gX9_layLet_X9_bit : GoodIn wsX9_layLet (va_wsS RX9 274 yX9_bit wsX9_bit) := goodIn_app (goodIn_r _ [58, 59, 5] rfl (by decide +kernel)) ggX9_layLet_X9_bit
theorem dX9_layLet_0 : decode cX9_layLet 0 = .ok (.iconst 1, 1) := by decide +kernel
theorem dX9_layLet_1 : decode cX9_layLet 1 = .ok (.aload_n 0, 1) := by decide +kernel
theorem dX9_layLet_2 : decode cX9_layLet 2 = .ok (.invokevirtual 383, 3) := by decide +kernel
theorem dX9_layLet_5 : decode cX9_layLet 5 = .ok (.ishl, 1) := by decide +kernel
theorem dX9_layLet_6 : decode cX9_layLet 6 = .ok (.istore_n 1, 1) := by decide +kernel
theorem dX9_layLet_7 : decode cX9_layLet 7 = .ok (.iconst 0, 1) := by decide +kernel
theorem dX9_layLet_8 : decode cX9_layLet 8 = .ok (.istore_n 2, 1) := by decide +kernel
theorem dX9_layLet_9 : decode cX9_layLet 9 = .ok (.iload_n 2, 1) := by decide +kernel
theorem dX9_layLet_10 : decode cX9_layLet 10 = .ok (.iload_n 1, 1) := by decide +kernel
theorem dX9_layLet_11 : decode cX9_layLet 11 = .ok (.if_icmp .ge 25, 3) := by decide +kernel
theorem dX9_layLet_14 : decode cX9_layLet 14 = .ok (.aload_n 0, 1) := by decide +kernel
theorem dX9_layLet_15 : decode cX9_layLet 15 = .ok (.getfield 115, 3) := by decide +kernel
theorem dX9_layLet_18 : decode cX9_layLet 18 = .ok (.sipush 256, 3) := by decide +kernel
theorem dX9_layLet_21 : decode cX9_layLet 21 = .ok (.aload_n 0, 1) := by decide +kernel
theorem dX9_layLet_22 : decode cX9_layLet 22 = .ok (.invokevirtual 373, 3) := by decide +kernel
theorem dX9_layLet_25 : decode cX9_layLet 25 = .ok (.imul, 1) := by decide +kernel
theorem dX9_layLet_26 : decode cX9_layLet 26 = .ok (.iload_n 2, 1) := by decide +kernel
theorem dX9_layLet_27 : decode cX9_layLet 27 = .ok (.iadd, 1) := by decide +kernel
theorem dX9_layLet_28 : decode cX9_layLet 28 = .ok (.iconst 0, 1) := by decide +kernel
theorem dX9_layLet_29 : decode cX9_layLet 29 = .ok (.iastore, 1) := by decide +kernel
theorem dX9_layLet_30 : decode cX9_layLet 30 = .ok (.iinc 2 1, 3) := by decide +kernel
theorem dX9_layLet_33 : decode cX9_layLet 33 = .ok (.goto (-24), 3) := by decide +kernel
theorem dX9_layLet_36 : decode cX9_layLet 36 = .ok (.aload_n 0, 1) := by decide +kernel
theorem dX9_layLet_37 : decode cX9_layLet 37 = .ok (.invokevirtual 373, 3) := by decide +kernel
theorem dX9_layLet_40 : decode cX9_layLet 40 = .ok (.iconst 1, 1) := by decide +kernel
theorem dX9_layLet_41 : decode cX9_layLet 41 = .ok (.isub, 1) := by decide +kernel
theorem dX9_layLet_42 : decode cX9_layLet 42 = .ok (.istore_n 2, 1) := by decide +kernel
theorem dX9_layLet_43 : decode cX9_layLet 43 = .ok (.iload_n 2, 1) := by decide +kernel
theorem dX9_layLet_44 : decode cX9_layLet 44 = .ok (.ifCond .lt 161, 3) := by decide +kernel
theorem dX9_layLet_47 : decode cX9_layLet 47 = .ok (.iconst 0, 1) := by decide +kernel
theorem dX9_layLet_48 : decode cX9_layLet 48 = .ok (.istore_n 3, 1) := by decide +kernel
theorem dX9_layLet_49 : decode cX9_layLet 49 = .ok (.iload_n 3, 1) := by decide +kernel
theorem dX9_layLet_50 : decode cX9_layLet 50 = .ok (.iload_n 1, 1) := by decide +kernel
theorem dX9_layLet_51 : decode cX9_layLet 51 = .ok (.if_icmp .ge 35, 3) := by decide +kernel
theorem dX9_layLet_54 : decode cX9_layLet 54 = .ok (.aload_n 0, 1) := by decide +kernel
theorem dX9_layLet_55 : decode cX9_layLet 55 = .ok (.getfield 115, 3) := by decide +kernel
theorem dX9_layLet_58 : decode cX9_layLet 58 = .ok (.sipush 256, 3) := by decide +kernel
theorem dX9_layLet_61 : decode cX9_layLet 61 = .ok (.iload_n 2, 1) := by decide +kernel
theorem dX9_layLet_62 : decode cX9_layLet 62 = .ok (.imul, 1) := by decide +kernel
theorem dX9_layLet_63 : decode cX9_layLet 63 = .ok (.iload_n 3, 1) := by decide +kernel
theorem dX9_layLet_64 : decode cX9_layLet 64 = .ok (.iadd, 1) := by decide +kernel
theorem dX9_layLet_65 : decode cX9_layLet 65 = .ok (.aload_n 0, 1) := by decide +kernel
theorem dX9_layLet_66 : decode cX9_layLet 66 = .ok (.getfield 115, 3) := by decide +kernel
theorem dX9_layLet_69 : decode cX9_layLet 69 = .ok (.sipush 256, 3) := by decide +kernel
theorem dX9_layLet_72 : decode cX9_layLet 72 = .ok (.iload_n 2, 1) := by decide +kernel
theorem dX9_layLet_73 : decode cX9_layLet 73 = .ok (.iconst 1, 1) := by decide +kernel
theorem dX9_layLet_74 : decode cX9_layLet 74 = .ok (.iadd, 1) := by decide +kernel
theorem dX9_layLet_75 : decode cX9_layLet 75 = .ok (.imul, 1) := by decide +kernel
theorem dX9_layLet_76 : decode cX9_layLet 76 = .ok (.iload_n 3, 1) := by decide +kernel
theorem dX9_layLet_77 : decode cX9_layLet 77 = .ok (.iadd, 1) := by decide +kernel
theorem dX9_layLet_78 : decode cX9_layLet 78 = .ok (.iaload, 1) := by decide +kernel
theorem dX9_layLet_79 : decode cX9_layLet 79 = .ok (.iastore, 1) := by decide +kernel
theorem dX9_layLet_80 : decode cX9_layLet 80 = .ok (.iinc 3 1, 3) := by decide +kernel
theorem dX9_layLet_83 : decode cX9_layLet 83 = .ok (.goto (-34), 3) := by decide +kernel
theorem dX9_layLet_86 : decode cX9_layLet 86 = .ok (.iconst 0, 1) := by decide +kernel
theorem dX9_layLet_87 : decode cX9_layLet 87 = .ok (.istore_n 3, 1) := by decide +kernel
theorem dX9_layLet_88 : decode cX9_layLet 88 = .ok (.iload_n 3, 1) := by decide +kernel
theorem dX9_layLet_89 : decode cX9_layLet 89 = .ok (.aload_n 0, 1) := by decide +kernel
theorem dX9_layLet_90 : decode cX9_layLet 90 = .ok (.invokevirtual 383, 3) := by decide +kernel
theorem dX9_layLet_93 : decode cX9_layLet 93 = .ok (.if_icmp .ge 106, 3) := by decide +kernel
theorem dX9_layLet_96 : decode cX9_layLet 96 = .ok (.aload_n 0, 1) := by decide +kernel
theorem dX9_layLet_97 : decode cX9_layLet 97 = .ok (.iload_n 2, 1) := by decide +kernel
theorem dX9_layLet_98 : decode cX9_layLet 98 = .ok (.iload_n 3, 1) := by decide +kernel
theorem dX9_layLet_99 : decode cX9_layLet 99 = .ok (.invokevirtual 513, 3) := by decide +kernel
theorem dX9_layLet_102 : decode cX9_layLet 102 = .ok (.istore 4, 2) := by decide +kernel
theorem dX9_layLet_104 : decode cX9_layLet 104 = .ok (.iconst 0, 1) := by decide +kernel
theorem dX9_layLet_105 : decode cX9_layLet 105 = .ok (.istore 5, 2) := by decide +kernel
theorem dX9_layLet_107 : decode cX9_layLet 107 = .ok (.iload 5, 2) := by decide +kernel
theorem dX9_layLet_109 : decode cX9_layLet 109 = .ok (.iload_n 1, 1) := by decide +kernel
theorem dX9_layLet_110 : decode cX9_layLet 110 = .ok (.if_icmp .ge 83, 3) := by decide +kernel
theorem dX9_layLet_113 : decode cX9_layLet 113 = .ok (.iload 4, 2) := by decide +kernel
theorem dX9_layLet_115 : decode cX9_layLet 115 = .ok (.ifCond .lt 78, 3) := by decide +kernel
theorem dX9_layLet_118 : decode cX9_layLet 118 = .ok (.iload 5, 2) := by decide +kernel
theorem dX9_layLet_120 : decode cX9_layLet 120 = .ok (.iload_n 3, 1) := by decide +kernel
theorem dX9_layLet_121 : decode cX9_layLet 121 = .ok (.invokestatic 274, 3) := by decide +kernel
theorem dX9_layLet_124 : decode cX9_layLet 124 = .ok (.ifCond .eq 6, 3) := by decide +kernel
theorem dX9_layLet_127 : decode cX9_layLet 127 = .ok (.goto 60, 3) := by decide +kernel
theorem dX9_layLet_130 : decode cX9_layLet 130 = .ok (.iload 4, 2) := by decide +kernel
theorem dX9_layLet_132 : decode cX9_layLet 132 = .ok (.aload_n 0, 1) := by decide +kernel
theorem dX9_layLet_133 : decode cX9_layLet 133 = .ok (.getfield 115, 3) := by decide +kernel
theorem dX9_layLet_136 : decode cX9_layLet 136 = .ok (.sipush 256, 3) := by decide +kernel
theorem dX9_layLet_139 : decode cX9_layLet 139 = .ok (.iload_n 2, 1) := by decide +kernel
theorem dX9_layLet_140 : decode cX9_layLet 140 = .ok (.iconst 1, 1) := by decide +kernel
theorem dX9_layLet_141 : decode cX9_layLet 141 = .ok (.iadd, 1) := by decide +kernel
theorem dX9_layLet_142 : decode cX9_layLet 142 = .ok (.imul, 1) := by decide +kernel
theorem dX9_layLet_143 : decode cX9_layLet 143 = .ok (.iload 5, 2) := by decide +kernel
theorem dX9_layLet_145 : decode cX9_layLet 145 = .ok (.iconst 1, 1) := by decide +kernel
theorem dX9_layLet_146 : decode cX9_layLet 146 = .ok (.iload_n 3, 1) := by decide +kernel
theorem dX9_layLet_147 : decode cX9_layLet 147 = .ok (.ishl, 1) := by decide +kernel
theorem dX9_layLet_148 : decode cX9_layLet 148 = .ok (.ior, 1) := by decide +kernel
theorem dX9_layLet_149 : decode cX9_layLet 149 = .ok (.iadd, 1) := by decide +kernel
theorem dX9_layLet_150 : decode cX9_layLet 150 = .ok (.iaload, 1) := by decide +kernel
theorem dX9_layLet_151 : decode cX9_layLet 151 = .ok (.iadd, 1) := by decide +kernel
theorem dX9_layLet_152 : decode cX9_layLet 152 = .ok (.istore 6, 2) := by decide +kernel
theorem dX9_layLet_154 : decode cX9_layLet 154 = .ok (.iload 6, 2) := by decide +kernel
theorem dX9_layLet_156 : decode cX9_layLet 156 = .ok (.aload_n 0, 1) := by decide +kernel
theorem dX9_layLet_157 : decode cX9_layLet 157 = .ok (.getfield 115, 3) := by decide +kernel
theorem dX9_layLet_160 : decode cX9_layLet 160 = .ok (.sipush 256, 3) := by decide +kernel
theorem dX9_layLet_163 : decode cX9_layLet 163 = .ok (.iload_n 2, 1) := by decide +kernel
theorem dX9_layLet_164 : decode cX9_layLet 164 = .ok (.imul, 1) := by decide +kernel
theorem dX9_layLet_165 : decode cX9_layLet 165 = .ok (.iload 5, 2) := by decide +kernel
theorem dX9_layLet_167 : decode cX9_layLet 167 = .ok (.iadd, 1) := by decide +kernel
theorem dX9_layLet_168 : decode cX9_layLet 168 = .ok (.iaload, 1) := by decide +kernel
theorem dX9_layLet_169 : decode cX9_layLet 169 = .ok (.if_icmp .le 18, 3) := by decide +kernel
theorem dX9_layLet_172 : decode cX9_layLet 172 = .ok (.aload_n 0, 1) := by decide +kernel
theorem dX9_layLet_173 : decode cX9_layLet 173 = .ok (.getfield 115, 3) := by decide +kernel
theorem dX9_layLet_176 : decode cX9_layLet 176 = .ok (.sipush 256, 3) := by decide +kernel
theorem dX9_layLet_179 : decode cX9_layLet 179 = .ok (.iload_n 2, 1) := by decide +kernel
theorem dX9_layLet_180 : decode cX9_layLet 180 = .ok (.imul, 1) := by decide +kernel
theorem dX9_layLet_181 : decode cX9_layLet 181 = .ok (.iload 5, 2) := by decide +kernel
theorem dX9_layLet_183 : decode cX9_layLet 183 = .ok (.iadd, 1) := by decide +kernel
theorem dX9_layLet_184 : decode cX9_layLet 184 = .ok (.iload 6, 2) := by decide +kernel
theorem dX9_layLet_186 : decode cX9_layLet 186 = .ok (.iastore, 1) := by decide +kernel
theorem dX9_layLet_187 : decode cX9_layLet 187 = .ok (.iinc 5 1, 3) := by decide +kernel
theorem dX9_layLet_190 : decode cX9_layLet 190 = .ok (.goto (-83), 3) := by decide +kernel
theorem dX9_layLet_193 : decode cX9_layLet 193 = .ok (.iinc 3 1, 3) := by decide +kernel
theorem dX9_layLet_196 : decode cX9_layLet 196 = .ok (.goto (-108), 3) := by decide +kernel
theorem dX9_layLet_199 : decode cX9_layLet 199 = .ok (.iinc 2 (-1), 3) := by decide +kernel
theorem dX9_layLet_202 : decode cX9_layLet 202 = .ok (.goto (-159), 3) := by decide +kernel
theorem dX9_layLet_205 : decode cX9_layLet 205 = .ok (.aload_n 0, 1) := by decide +kernel
theorem dX9_layLet_206 : decode cX9_layLet 206 = .ok (.getfield 115, 3) := by decide +kernel
theorem dX9_layLet_209 : decode cX9_layLet 209 = .ok (.iconst 0, 1) := by decide +kernel
theorem dX9_layLet_210 : decode cX9_layLet 210 = .ok (.iaload, 1) := by decide +kernel
theorem dX9_layLet_211 : decode cX9_layLet 211 = .ok (.ireturn, 1) := by decide +kernel
set_option maxRecDepth 20000 in
theorem ggX9_letting_X9_layLet : GoodIn wsX9_letting wsX9_layLet := goodIn_r _ [9, 1, 10, 11, 12, 8, 13, 14, 15, 16, 17, 18, 19, 20, 21, 22, 23, 24, 4, 25, 26, 27, 28, 29, 30, 31, 32, 33, 34, 35, 36, 37, 38, 39, 40, 41, 42, 43, 44, 45, 46, 47, 48, 49, 50, 51, 52, 53, 54, 55, 56, 57, 58, 59, 60, 61, 62, 63, 64, 65, 66, 67, 68, 69, 70, 71, 72, 73, 74, 75, 76, 77, 78, 79, 80, 81, 82, 83, 84, 85, 86, 87, 88, 89, 90, 91, 92, 93, 94, 95, 96, 97, 98, 99, 100, 101, 102, 103, 104, 105, 106, 107, 108, 109, 110, 111, 112, 113, 114, 115, 116, 117, 118, 119, 120, 121, 122, 123, 124, 125, 126, 127, 128, 129, 130, 131, 132, 133, 134, 135, 136, 137, 138, 139, 140, 141, 142, 143, 144, 145, 146, 147, 148, 149, 150, 151, 152, 153, 154, 155] rfl (by decide +kernel)
set_option maxRecDepth 20000 in
theorem gX9_letting_X9_layLet : GoodIn wsX9_letting (wsV RX9 516 RX9 yX9_layLet wsX9_layLet) := goodIn_app (goodIn_r _ [5, 6, 7, 8] rfl (by decide +kernel)) ggX9_letting_X9_layLet
set_option maxRecDepth 20000 in
theorem ggX9_letting_X9_many : GoodIn wsX9_letting wsX9_many := goodIn_r _ [19, 20, 15, 89, 90, 91, 92, 93, 94, 95, 96, 97, 98, 99, 100, 101, 102, 103, 104, 105, 106, 107, 108, 109, 110, 111, 112, 113, 114, 115, 116, 117, 118, 119, 120, 121, 122, 123, 124, 125, 126, 127, 128, 129, 130, 131, 132, 133, 134, 135, 136, 137, 138, 139, 140, 141, 142, 143, 144, 145, 146, 147, 148, 149, 150, 151, 152, 153, 154, 155] rfl (by decide +kernel)
set_option maxRecDepth 20000 in
theorem gX9_letting_X9_many : GoodIn wsX9_letting (wsV RX9 373 RX9 yX9_many wsX9_many) := goodIn_app (goodIn_r _ [16, 17, 18, 8] rfl (by decide +kernel)) ggX9_letting_X9_many
set_option maxRecDepth 20000 in
theorem ggX9_letting_X9_chambers : GoodIn wsX9_letting wsX9_chambers := goodIn_r _ [13, 14, 15, 89, 90, 91, 92, 93, 94, 95, 96, 97, 98, 99, 100, 101, 102, 103, 104, 105, 106, 107, 108, 109, 110, 111, 112, 113, 114, 115, 116, 117, 118, 119, 120, 121, 122, 123, 124, 125, 126, 127, 128, 129, 130, 131, 132, 133, 134, 135, 136, 137, 138, 139, 140, 141, 142, 143, 144, 145, 146, 147, 148, 149, 150, 151, 152, 153, 154, 155] rfl (by decide +kernel)
set_option maxRecDepth 20000 in
theorem gX9_letting_X9_chambers : GoodIn wsX9_letting (wsV RX9 383 RX9 yX9_chambers wsX9_chambers) := goodIn_app (goodIn_r _ [10, 11, 12, 8] rfl (by decide +kernel)) ggX9_letting_X9_chambers
set_option maxRecDepth 20000 in
theorem ggX9_letting_X9_bit : GoodIn wsX9_letting wsX9_bit := goodIn_r _ [66] rfl (by decide +kernel)
set_option maxRecDepth 20000 in
theorem gX9_letting_X9_bit : GoodIn wsX9_letting (va_wsS RX9 274 yX9_bit wsX9_bit) := goodIn_app (goodIn_r _ [64, 65, 8] rfl (by decide +kernel)) ggX9_letting_X9_bit
set_option maxRecDepth 20000 in
theorem ggX9_letting_X9_letIn : GoodIn wsX9_letting wsX9_letIn := goodIn_r _ [24, 4, 25, 26, 27, 8, 28, 29, 30, 31, 32, 33, 34, 35, 36, 37, 38, 39, 40, 41, 42, 43, 15, 44, 45, 46, 47, 48, 49, 50, 51, 52, 53, 54, 55, 56, 57, 58, 59, 60, 10, 11, 12, 13, 14, 61, 62, 63, 64, 65, 66, 67, 68, 69, 70, 71, 72, 73, 74, 75, 76, 77, 78, 79, 80, 81, 82, 83, 84, 85, 86, 87, 88, 89, 90, 91, 92, 93, 94, 95, 96, 97, 98, 99, 100, 101, 102, 103, 104, 105, 106, 107, 108, 109, 110, 111, 112, 113, 114, 115, 116, 117, 118, 119, 120, 121, 122, 123, 124, 125, 126, 127, 128, 129, 130, 131, 132, 133, 134, 135, 136, 137, 138, 139, 140, 141, 142, 143, 144, 145, 146, 147, 148, 149, 150, 151, 152, 153, 154, 155] rfl (by decide +kernel)
set_option maxRecDepth 20000 in
theorem gX9_letting_X9_letIn : GoodIn wsX9_letting (wsV RX9 513 RX9 yX9_letIn wsX9_letIn) := goodIn_app (goodIn_r _ [21, 22, 23, 8] rfl (by decide +kernel)) ggX9_letting_X9_letIn
theorem dX9_letting_0 : decode cX9_letting 0 = .ok (.aload_n 0, 1) := by decide +kernel
theorem dX9_letting_1 : decode cX9_letting 1 = .ok (.invokevirtual 516, 3) := by decide +kernel
theorem dX9_letting_4 : decode cX9_letting 4 = .ok (.istore_n 1, 1) := by decide +kernel
theorem dX9_letting_5 : decode cX9_letting 5 = .ok (.iconst 0, 1) := by decide +kernel
theorem dX9_letting_6 : decode cX9_letting 6 = .ok (.istore_n 2, 1) := by decide +kernel
theorem dX9_letting_7 : decode cX9_letting 7 = .ok (.iconst 0, 1) := by decide +kernel
theorem dX9_letting_8 : decode cX9_letting 8 = .ok (.istore_n 3, 1) := by decide +kernel
theorem dX9_letting_9 : decode cX9_letting 9 = .ok (.iload_n 3, 1) := by decide +kernel
theorem dX9_letting_10 : decode cX9_letting 10 = .ok (.aload_n 0, 1) := by decide +kernel
theorem dX9_letting_11 : decode cX9_letting 11 = .ok (.invokevirtual 373, 3) := by decide +kernel
theorem dX9_letting_14 : decode cX9_letting 14 = .ok (.if_icmp .ge 125, 3) := by decide +kernel
theorem dX9_letting_17 : decode cX9_letting 17 = .ok (.iconst 0, 1) := by decide +kernel
theorem dX9_letting_18 : decode cX9_letting 18 = .ok (.istore 4, 2) := by decide +kernel
theorem dX9_letting_20 : decode cX9_letting 20 = .ok (.iload 4, 2) := by decide +kernel
theorem dX9_letting_22 : decode cX9_letting 22 = .ok (.aload_n 0, 1) := by decide +kernel
theorem dX9_letting_23 : decode cX9_letting 23 = .ok (.invokevirtual 383, 3) := by decide +kernel
theorem dX9_letting_26 : decode cX9_letting 26 = .ok (.if_icmp .ge 70, 3) := by decide +kernel
theorem dX9_letting_29 : decode cX9_letting 29 = .ok (.iload_n 2, 1) := by decide +kernel
theorem dX9_letting_30 : decode cX9_letting 30 = .ok (.iload 4, 2) := by decide +kernel
theorem dX9_letting_32 : decode cX9_letting 32 = .ok (.invokestatic 274, 3) := by decide +kernel
theorem dX9_letting_35 : decode cX9_letting 35 = .ok (.ifCond .ne 55, 3) := by decide +kernel
theorem dX9_letting_38 : decode cX9_letting 38 = .ok (.aload_n 0, 1) := by decide +kernel
theorem dX9_letting_39 : decode cX9_letting 39 = .ok (.iload_n 3, 1) := by decide +kernel
theorem dX9_letting_40 : decode cX9_letting 40 = .ok (.iload 4, 2) := by decide +kernel
theorem dX9_letting_42 : decode cX9_letting 42 = .ok (.invokevirtual 513, 3) := by decide +kernel
theorem dX9_letting_45 : decode cX9_letting 45 = .ok (.ifCond .lt 45, 3) := by decide +kernel
theorem dX9_letting_48 : decode cX9_letting 48 = .ok (.aload_n 0, 1) := by decide +kernel
theorem dX9_letting_49 : decode cX9_letting 49 = .ok (.iload_n 3, 1) := by decide +kernel
theorem dX9_letting_50 : decode cX9_letting 50 = .ok (.iload 4, 2) := by decide +kernel
theorem dX9_letting_52 : decode cX9_letting 52 = .ok (.invokevirtual 513, 3) := by decide +kernel
theorem dX9_letting_55 : decode cX9_letting 55 = .ok (.aload_n 0, 1) := by decide +kernel
theorem dX9_letting_56 : decode cX9_letting 56 = .ok (.getfield 115, 3) := by decide +kernel
theorem dX9_letting_59 : decode cX9_letting 59 = .ok (.sipush 256, 3) := by decide +kernel
theorem dX9_letting_62 : decode cX9_letting 62 = .ok (.iload_n 3, 1) := by decide +kernel
theorem dX9_letting_63 : decode cX9_letting 63 = .ok (.iconst 1, 1) := by decide +kernel
theorem dX9_letting_64 : decode cX9_letting 64 = .ok (.iadd, 1) := by decide +kernel
theorem dX9_letting_65 : decode cX9_letting 65 = .ok (.imul, 1) := by decide +kernel
theorem dX9_letting_66 : decode cX9_letting 66 = .ok (.iload_n 2, 1) := by decide +kernel
theorem dX9_letting_67 : decode cX9_letting 67 = .ok (.iconst 1, 1) := by decide +kernel
theorem dX9_letting_68 : decode cX9_letting 68 = .ok (.iload 4, 2) := by decide +kernel
theorem dX9_letting_70 : decode cX9_letting 70 = .ok (.ishl, 1) := by decide +kernel
theorem dX9_letting_71 : decode cX9_letting 71 = .ok (.ior, 1) := by decide +kernel
theorem dX9_letting_72 : decode cX9_letting 72 = .ok (.iadd, 1) := by decide +kernel
theorem dX9_letting_73 : decode cX9_letting 73 = .ok (.iaload, 1) := by decide +kernel
theorem dX9_letting_74 : decode cX9_letting 74 = .ok (.iadd, 1) := by decide +kernel
theorem dX9_letting_75 : decode cX9_letting 75 = .ok (.aload_n 0, 1) := by decide +kernel
theorem dX9_letting_76 : decode cX9_letting 76 = .ok (.getfield 115, 3) := by decide +kernel
theorem dX9_letting_79 : decode cX9_letting 79 = .ok (.sipush 256, 3) := by decide +kernel
theorem dX9_letting_82 : decode cX9_letting 82 = .ok (.iload_n 3, 1) := by decide +kernel
theorem dX9_letting_83 : decode cX9_letting 83 = .ok (.imul, 1) := by decide +kernel
theorem dX9_letting_84 : decode cX9_letting 84 = .ok (.iload_n 2, 1) := by decide +kernel
theorem dX9_letting_85 : decode cX9_letting 85 = .ok (.iadd, 1) := by decide +kernel
theorem dX9_letting_86 : decode cX9_letting 86 = .ok (.iaload, 1) := by decide +kernel
theorem dX9_letting_87 : decode cX9_letting 87 = .ok (.if_icmp .ge 9, 3) := by decide +kernel
theorem dX9_letting_90 : decode cX9_letting 90 = .ok (.iinc 4 1, 3) := by decide +kernel
theorem dX9_letting_93 : decode cX9_letting 93 = .ok (.goto (-73), 3) := by decide +kernel
theorem dX9_letting_96 : decode cX9_letting 96 = .ok (.aload_n 0, 1) := by decide +kernel
theorem dX9_letting_97 : decode cX9_letting 97 = .ok (.getfield 112, 3) := by decide +kernel
theorem dX9_letting_100 : decode cX9_letting 100 = .ok (.iload_n 3, 1) := by decide +kernel
theorem dX9_letting_101 : decode cX9_letting 101 = .ok (.iload 4, 2) := by decide +kernel
theorem dX9_letting_103 : decode cX9_letting 103 = .ok (.aload_n 0, 1) := by decide +kernel
theorem dX9_letting_104 : decode cX9_letting 104 = .ok (.invokevirtual 383, 3) := by decide +kernel
theorem dX9_letting_107 : decode cX9_letting 107 = .ok (.if_icmp .ge 8, 3) := by decide +kernel
theorem dX9_letting_110 : decode cX9_letting 110 = .ok (.iload 4, 2) := by decide +kernel
theorem dX9_letting_112 : decode cX9_letting 112 = .ok (.goto 4, 3) := by decide +kernel
theorem dX9_letting_115 : decode cX9_letting 115 = .ok (.iconst (-1), 1) := by decide +kernel
theorem dX9_letting_116 : decode cX9_letting 116 = .ok (.iastore, 1) := by decide +kernel
theorem dX9_letting_117 : decode cX9_letting 117 = .ok (.iload 4, 2) := by decide +kernel
theorem dX9_letting_119 : decode cX9_letting 119 = .ok (.aload_n 0, 1) := by decide +kernel
theorem dX9_letting_120 : decode cX9_letting 120 = .ok (.invokevirtual 383, 3) := by decide +kernel
theorem dX9_letting_123 : decode cX9_letting 123 = .ok (.if_icmp .ge 10, 3) := by decide +kernel
theorem dX9_letting_126 : decode cX9_letting 126 = .ok (.iload_n 2, 1) := by decide +kernel
theorem dX9_letting_127 : decode cX9_letting 127 = .ok (.iconst 1, 1) := by decide +kernel
theorem dX9_letting_128 : decode cX9_letting 128 = .ok (.iload 4, 2) := by decide +kernel
theorem dX9_letting_130 : decode cX9_letting 130 = .ok (.ishl, 1) := by decide +kernel
theorem dX9_letting_131 : decode cX9_letting 131 = .ok (.ior, 1) := by decide +kernel
theorem dX9_letting_132 : decode cX9_letting 132 = .ok (.istore_n 2, 1) := by decide +kernel
theorem dX9_letting_133 : decode cX9_letting 133 = .ok (.iinc 3 1, 3) := by decide +kernel
theorem dX9_letting_136 : decode cX9_letting 136 = .ok (.goto (-127), 3) := by decide +kernel
theorem dX9_letting_139 : decode cX9_letting 139 = .ok (.aload_n 0, 1) := by decide +kernel
theorem dX9_letting_140 : decode cX9_letting 140 = .ok (.aload_n 0, 1) := by decide +kernel
theorem dX9_letting_141 : decode cX9_letting 141 = .ok (.invokevirtual 373, 3) := by decide +kernel
theorem dX9_letting_144 : decode cX9_letting 144 = .ok (.putfield 407, 3) := by decide +kernel
theorem dX9_letting_147 : decode cX9_letting 147 = .ok (.iload_n 1, 1) := by decide +kernel
theorem dX9_letting_148 : decode cX9_letting 148 = .ok (.ldc_w 512, 3) := by decide +kernel
theorem dX9_letting_151 : decode cX9_letting 151 = .ok (.idiv, 1) := by decide +kernel
theorem dX9_letting_152 : decode cX9_letting 152 = .ok (.ireturn, 1) := by decide +kernel
set_option maxRecDepth 20000 in
theorem ggX9_pleasure_X9_layLet : GoodIn wsX9_pleasure wsX9_layLet := goodIn_r _ [6, 7, 8, 9, 10, 5, 11, 12, 13, 14, 15, 16, 17, 18, 19, 20, 21, 22, 1, 23, 24, 25, 26, 27, 28, 29, 30, 31, 32, 33, 34, 35, 36, 37, 38, 39, 40, 41, 42, 43, 44, 45, 46, 47, 48, 49, 50, 51, 52, 53, 54, 55, 56, 57, 58, 59, 60, 61, 62, 63, 64, 65, 66, 67, 68, 69, 70, 71, 72, 73, 74, 75, 76, 77, 78, 79, 80, 81, 82, 83, 84, 85, 86, 87, 88, 89, 90, 91, 92, 93, 94, 95, 96, 97, 98, 99, 100, 101, 102, 103, 104, 105, 106, 107, 108, 109, 110, 111, 112, 113, 114, 115, 116, 117, 118, 119, 120, 121, 122, 123, 124, 125, 126, 127, 128, 129, 130, 131, 132, 133, 134, 135, 136, 137, 138, 139, 140, 141, 142, 143, 144, 145, 146, 147, 148, 149, 150, 151, 152, 153] rfl (by decide +kernel)
set_option maxRecDepth 20000 in
theorem gX9_pleasure_X9_layLet : GoodIn wsX9_pleasure (wsV RX9 516 RX9 yX9_layLet wsX9_layLet) := goodIn_app (goodIn_r _ [2, 3, 4, 5] rfl (by decide +kernel)) ggX9_pleasure_X9_layLet
theorem dX9_pleasure_0 : decode cX9_pleasure 0 = .ok (.aload_n 0, 1) := by decide +kernel
theorem dX9_pleasure_1 : decode cX9_pleasure 1 = .ok (.invokevirtual 516, 3) := by decide +kernel
theorem dX9_pleasure_4 : decode cX9_pleasure 4 = .ok (.ldc_w 512, 3) := by decide +kernel
theorem dX9_pleasure_7 : decode cX9_pleasure 7 = .ok (.irem, 1) := by decide +kernel
theorem dX9_pleasure_8 : decode cX9_pleasure 8 = .ok (.ireturn, 1) := by decide +kernel
set_option maxRecDepth 20000 in
theorem ggX9_swaps_X9_isIn : GoodIn wsX9_swaps wsX9_isIn := goodIn_r _ [5] rfl (by decide +kernel)
set_option maxRecDepth 20000 in
theorem gX9_swaps_X9_isIn : GoodIn wsX9_swaps (va_wsS RX9 376 yX9_isIn wsX9_isIn) := goodIn_app (goodIn_r _ [2, 3, 4] rfl (by decide +kernel)) ggX9_swaps_X9_isIn
set_option maxRecDepth 20000 in
theorem ggX9_swaps_X9_many : GoodIn wsX9_swaps wsX9_many := goodIn_r _ [9, 10, 11, 93, 94, 95, 96, 97, 98, 99, 100, 101, 102, 103, 104, 105, 106, 107, 108, 109, 110, 111, 112, 113, 114, 115, 116, 117, 118, 119, 120, 121, 122, 123, 124, 125, 126, 127, 128, 129, 130, 131, 132, 133, 134, 135, 136, 137, 138, 139, 140, 141, 142, 143, 144, 145, 146, 147, 148, 149, 150, 151, 152, 153, 154, 155, 156, 157, 158, 159] rfl (by decide +kernel)
set_option maxRecDepth 20000 in
theorem gX9_swaps_X9_many : GoodIn wsX9_swaps (wsV RX9 373 RX9 yX9_many wsX9_many) := goodIn_app (goodIn_r _ [6, 7, 8, 4] rfl (by decide +kernel)) ggX9_swaps_X9_many
set_option maxRecDepth 20000 in
theorem ggX9_swaps_X9_isAtHome : GoodIn wsX9_swaps wsX9_isAtHome := goodIn_r _ [15, 1, 16, 17, 18, 4, 19, 6, 7, 8, 9, 10, 11, 2, 3, 5, 20, 21, 22, 23, 24, 25, 26, 27, 93, 94, 95, 96, 97, 98, 99, 100, 101, 102, 103, 104, 105, 106, 107, 108, 109, 110, 111, 112, 113, 114, 115, 116, 117, 118, 119, 120, 121, 122, 123, 124, 125, 126, 127, 128, 129, 130, 131, 132, 133, 134, 135, 136, 137, 138, 139, 140, 141, 142, 143, 144, 145, 146, 147, 148, 149, 150, 151, 152, 153, 154, 155, 156, 157, 158, 159] rfl (by decide +kernel)
set_option maxRecDepth 20000 in
theorem gX9_swaps_X9_isAtHome : GoodIn wsX9_swaps (wsV RX9 428 RX9 yX9_isAtHome wsX9_isAtHome) := goodIn_app (goodIn_r _ [12, 13, 14, 4] rfl (by decide +kernel)) ggX9_swaps_X9_isAtHome
set_option maxRecDepth 20000 in
theorem ggX9_swaps_X9_likingBy : GoodIn wsX9_swaps wsX9_likingBy := goodIn_r _ [31, 32, 33, 34, 35, 36, 37, 11, 1, 38, 24, 25, 26, 4, 27, 39, 40, 41, 42, 43, 44, 45, 46, 47, 48, 49, 50, 51, 52, 53, 54, 55, 56, 57, 58, 59, 60, 61, 62, 63, 64, 65, 66, 67, 68, 69, 70, 71, 72, 73, 74, 75, 76, 77, 78, 79, 80, 81, 82, 83, 84, 93, 94, 95, 96, 97, 98, 99, 100, 101, 102, 103, 104, 105, 106, 107, 108, 109, 110, 111, 112, 113, 114, 115, 116, 117, 118, 119, 120, 121, 122, 123, 124, 125, 126, 127, 128, 129, 130, 131, 132, 133, 134, 135, 136, 137, 138, 139, 140, 141, 142, 143, 144, 145, 146, 147, 148, 149, 150, 151, 152, 153, 154, 155, 156, 157, 158, 159] rfl (by decide +kernel)
set_option maxRecDepth 20000 in
theorem gX9_swaps_X9_likingBy : GoodIn wsX9_swaps (wsV RX9 422 RX9 yX9_likingBy wsX9_likingBy) := goodIn_app (goodIn_r _ [28, 29, 30, 4] rfl (by decide +kernel)) ggX9_swaps_X9_likingBy
set_option maxRecDepth 20000 in
theorem ggX9_swaps_X9_likingNow : GoodIn wsX9_swaps wsX9_likingNow := goodIn_r _ [88, 1, 89, 90, 91, 4, 92, 28, 29, 30, 31, 32, 33, 34, 35, 36, 37, 11, 38, 24, 25, 26, 27, 39, 40, 41, 42, 43, 44, 45, 46, 47, 48, 49, 50, 51, 52, 53, 54, 55, 56, 57, 58, 59, 60, 61, 62, 63, 64, 65, 66, 67, 68, 69, 70, 71, 72, 73, 74, 75, 76, 77, 78, 79, 80, 81, 82, 83, 84, 93, 94, 95, 96, 97, 98, 99, 100, 101, 102, 103, 104, 105, 106, 107, 108, 109, 110, 111, 112, 113, 114, 115, 116, 117, 118, 119, 120, 121, 122, 123, 124, 125, 126, 127, 128, 129, 130, 131, 132, 133, 134, 135, 136, 137, 138, 139, 140, 141, 142, 143, 144, 145, 146, 147, 148, 149, 150, 151, 152, 153, 154, 155, 156, 157, 158, 159] rfl (by decide +kernel)
set_option maxRecDepth 20000 in
theorem gX9_swaps_X9_likingNow : GoodIn wsX9_swaps (wsV RX9 431 RX9 yX9_likingNow wsX9_likingNow) := goodIn_app (goodIn_r _ [85, 86, 87, 4] rfl (by decide +kernel)) ggX9_swaps_X9_likingNow
theorem dX9_swaps_0 : decode cX9_swaps 0 = .ok (.iload_n 1, 1) := by decide +kernel
theorem dX9_swaps_1 : decode cX9_swaps 1 = .ok (.iconst 0, 1) := by decide +kernel
theorem dX9_swaps_2 : decode cX9_swaps 2 = .ok (.iconst 2, 1) := by decide +kernel
theorem dX9_swaps_3 : decode cX9_swaps 3 = .ok (.invokestatic 376, 3) := by decide +kernel
theorem dX9_swaps_6 : decode cX9_swaps 6 = .ok (.ifCond .ne 5, 3) := by decide +kernel
theorem dX9_swaps_9 : decode cX9_swaps 9 = .ok (.iconst (-1), 1) := by decide +kernel
theorem dX9_swaps_10 : decode cX9_swaps 10 = .ok (.ireturn, 1) := by decide +kernel
theorem dX9_swaps_11 : decode cX9_swaps 11 = .ok (.iconst 0, 1) := by decide +kernel
theorem dX9_swaps_12 : decode cX9_swaps 12 = .ok (.istore_n 2, 1) := by decide +kernel
theorem dX9_swaps_13 : decode cX9_swaps 13 = .ok (.iconst (-1), 1) := by decide +kernel
theorem dX9_swaps_14 : decode cX9_swaps 14 = .ok (.istore_n 3, 1) := by decide +kernel
theorem dX9_swaps_15 : decode cX9_swaps 15 = .ok (.iconst 0, 1) := by decide +kernel
theorem dX9_swaps_16 : decode cX9_swaps 16 = .ok (.istore 4, 2) := by decide +kernel
theorem dX9_swaps_18 : decode cX9_swaps 18 = .ok (.iload 4, 2) := by decide +kernel
theorem dX9_swaps_20 : decode cX9_swaps 20 = .ok (.aload_n 0, 1) := by decide +kernel
theorem dX9_swaps_21 : decode cX9_swaps 21 = .ok (.invokevirtual 373, 3) := by decide +kernel
theorem dX9_swaps_24 : decode cX9_swaps 24 = .ok (.if_icmp .ge 124, 3) := by decide +kernel
theorem dX9_swaps_27 : decode cX9_swaps 27 = .ok (.iload 4, 2) := by decide +kernel
theorem dX9_swaps_29 : decode cX9_swaps 29 = .ok (.iconst 1, 1) := by decide +kernel
theorem dX9_swaps_30 : decode cX9_swaps 30 = .ok (.iadd, 1) := by decide +kernel
theorem dX9_swaps_31 : decode cX9_swaps 31 = .ok (.istore 5, 2) := by decide +kernel
theorem dX9_swaps_33 : decode cX9_swaps 33 = .ok (.iload 5, 2) := by decide +kernel
theorem dX9_swaps_35 : decode cX9_swaps 35 = .ok (.aload_n 0, 1) := by decide +kernel
theorem dX9_swaps_36 : decode cX9_swaps 36 = .ok (.invokevirtual 373, 3) := by decide +kernel
theorem dX9_swaps_39 : decode cX9_swaps 39 = .ok (.if_icmp .ge 103, 3) := by decide +kernel
theorem dX9_swaps_42 : decode cX9_swaps 42 = .ok (.aload_n 0, 1) := by decide +kernel
theorem dX9_swaps_43 : decode cX9_swaps 43 = .ok (.iload 4, 2) := by decide +kernel
theorem dX9_swaps_45 : decode cX9_swaps 45 = .ok (.invokevirtual 428, 3) := by decide +kernel
theorem dX9_swaps_48 : decode cX9_swaps 48 = .ok (.ifCond .eq 88, 3) := by decide +kernel
theorem dX9_swaps_51 : decode cX9_swaps 51 = .ok (.aload_n 0, 1) := by decide +kernel
theorem dX9_swaps_52 : decode cX9_swaps 52 = .ok (.iload 5, 2) := by decide +kernel
theorem dX9_swaps_54 : decode cX9_swaps 54 = .ok (.invokevirtual 428, 3) := by decide +kernel
theorem dX9_swaps_57 : decode cX9_swaps 57 = .ok (.ifCond .ne 6, 3) := by decide +kernel
theorem dX9_swaps_60 : decode cX9_swaps 60 = .ok (.goto 76, 3) := by decide +kernel
theorem dX9_swaps_63 : decode cX9_swaps 63 = .ok (.aload_n 0, 1) := by decide +kernel
theorem dX9_swaps_64 : decode cX9_swaps 64 = .ok (.iload 4, 2) := by decide +kernel
theorem dX9_swaps_66 : decode cX9_swaps 66 = .ok (.aload_n 0, 1) := by decide +kernel
theorem dX9_swaps_67 : decode cX9_swaps 67 = .ok (.getfield 94, 3) := by decide +kernel
theorem dX9_swaps_70 : decode cX9_swaps 70 = .ok (.iconst 0, 1) := by decide +kernel
theorem dX9_swaps_71 : decode cX9_swaps 71 = .ok (.iload 5, 2) := by decide +kernel
theorem dX9_swaps_73 : decode cX9_swaps 73 = .ok (.iadd, 1) := by decide +kernel
theorem dX9_swaps_74 : decode cX9_swaps 74 = .ok (.iaload, 1) := by decide +kernel
theorem dX9_swaps_75 : decode cX9_swaps 75 = .ok (.iconst 0, 1) := by decide +kernel
theorem dX9_swaps_76 : decode cX9_swaps 76 = .ok (.invokevirtual 422, 3) := by decide +kernel
theorem dX9_swaps_79 : decode cX9_swaps 79 = .ok (.aload_n 0, 1) := by decide +kernel
theorem dX9_swaps_80 : decode cX9_swaps 80 = .ok (.iload 4, 2) := by decide +kernel
theorem dX9_swaps_82 : decode cX9_swaps 82 = .ok (.invokevirtual 431, 3) := by decide +kernel
theorem dX9_swaps_85 : decode cX9_swaps 85 = .ok (.if_icmp .le 51, 3) := by decide +kernel
theorem dX9_swaps_88 : decode cX9_swaps 88 = .ok (.aload_n 0, 1) := by decide +kernel
theorem dX9_swaps_89 : decode cX9_swaps 89 = .ok (.iload 5, 2) := by decide +kernel
theorem dX9_swaps_91 : decode cX9_swaps 91 = .ok (.aload_n 0, 1) := by decide +kernel
theorem dX9_swaps_92 : decode cX9_swaps 92 = .ok (.getfield 94, 3) := by decide +kernel
theorem dX9_swaps_95 : decode cX9_swaps 95 = .ok (.iconst 0, 1) := by decide +kernel
theorem dX9_swaps_96 : decode cX9_swaps 96 = .ok (.iload 4, 2) := by decide +kernel
theorem dX9_swaps_98 : decode cX9_swaps 98 = .ok (.iadd, 1) := by decide +kernel
theorem dX9_swaps_99 : decode cX9_swaps 99 = .ok (.iaload, 1) := by decide +kernel
theorem dX9_swaps_100 : decode cX9_swaps 100 = .ok (.iconst 0, 1) := by decide +kernel
theorem dX9_swaps_101 : decode cX9_swaps 101 = .ok (.invokevirtual 422, 3) := by decide +kernel
theorem dX9_swaps_104 : decode cX9_swaps 104 = .ok (.aload_n 0, 1) := by decide +kernel
theorem dX9_swaps_105 : decode cX9_swaps 105 = .ok (.iload 5, 2) := by decide +kernel
theorem dX9_swaps_107 : decode cX9_swaps 107 = .ok (.invokevirtual 431, 3) := by decide +kernel
theorem dX9_swaps_110 : decode cX9_swaps 110 = .ok (.if_icmp .gt 6, 3) := by decide +kernel
theorem dX9_swaps_113 : decode cX9_swaps 113 = .ok (.goto 23, 3) := by decide +kernel
theorem dX9_swaps_116 : decode cX9_swaps 116 = .ok (.iload_n 2, 1) := by decide +kernel
theorem dX9_swaps_117 : decode cX9_swaps 117 = .ok (.ifCond .ne 14, 3) := by decide +kernel
theorem dX9_swaps_120 : decode cX9_swaps 120 = .ok (.bipush 7, 2) := by decide +kernel
theorem dX9_swaps_122 : decode cX9_swaps 122 = .ok (.iload 4, 2) := by decide +kernel
theorem dX9_swaps_124 : decode cX9_swaps 124 = .ok (.imul, 1) := by decide +kernel
theorem dX9_swaps_125 : decode cX9_swaps 125 = .ok (.iload 5, 2) := by decide +kernel
theorem dX9_swaps_127 : decode cX9_swaps 127 = .ok (.iadd, 1) := by decide +kernel
theorem dX9_swaps_128 : decode cX9_swaps 128 = .ok (.goto 4, 3) := by decide +kernel
theorem dX9_swaps_131 : decode cX9_swaps 131 = .ok (.iload_n 3, 1) := by decide +kernel
theorem dX9_swaps_132 : decode cX9_swaps 132 = .ok (.istore_n 3, 1) := by decide +kernel
theorem dX9_swaps_133 : decode cX9_swaps 133 = .ok (.iinc 2 1, 3) := by decide +kernel
theorem dX9_swaps_136 : decode cX9_swaps 136 = .ok (.iinc 5 1, 3) := by decide +kernel
theorem dX9_swaps_139 : decode cX9_swaps 139 = .ok (.goto (-106), 3) := by decide +kernel
theorem dX9_swaps_142 : decode cX9_swaps 142 = .ok (.iinc 4 1, 3) := by decide +kernel
theorem dX9_swaps_145 : decode cX9_swaps 145 = .ok (.goto (-127), 3) := by decide +kernel
theorem dX9_swaps_148 : decode cX9_swaps 148 = .ok (.iload_n 1, 1) := by decide +kernel
theorem dX9_swaps_149 : decode cX9_swaps 149 = .ok (.ifCond .ne 7, 3) := by decide +kernel
theorem dX9_swaps_152 : decode cX9_swaps 152 = .ok (.iload_n 2, 1) := by decide +kernel
theorem dX9_swaps_153 : decode cX9_swaps 153 = .ok (.goto 27, 3) := by decide +kernel
theorem dX9_swaps_156 : decode cX9_swaps 156 = .ok (.iload_n 2, 1) := by decide +kernel
theorem dX9_swaps_157 : decode cX9_swaps 157 = .ok (.ifCond .ne 7, 3) := by decide +kernel
theorem dX9_swaps_160 : decode cX9_swaps 160 = .ok (.iconst (-1), 1) := by decide +kernel
theorem dX9_swaps_161 : decode cX9_swaps 161 = .ok (.goto 19, 3) := by decide +kernel
theorem dX9_swaps_164 : decode cX9_swaps 164 = .ok (.iload_n 1, 1) := by decide +kernel
theorem dX9_swaps_165 : decode cX9_swaps 165 = .ok (.iconst 1, 1) := by decide +kernel
theorem dX9_swaps_166 : decode cX9_swaps 166 = .ok (.if_icmp .ne 10, 3) := by decide +kernel
theorem dX9_swaps_169 : decode cX9_swaps 169 = .ok (.iload_n 3, 1) := by decide +kernel
theorem dX9_swaps_170 : decode cX9_swaps 170 = .ok (.bipush 7, 2) := by decide +kernel
theorem dX9_swaps_172 : decode cX9_swaps 172 = .ok (.idiv, 1) := by decide +kernel
theorem dX9_swaps_173 : decode cX9_swaps 173 = .ok (.goto 7, 3) := by decide +kernel
theorem dX9_swaps_176 : decode cX9_swaps 176 = .ok (.iload_n 3, 1) := by decide +kernel
theorem dX9_swaps_177 : decode cX9_swaps 177 = .ok (.bipush 7, 2) := by decide +kernel
theorem dX9_swaps_179 : decode cX9_swaps 179 = .ok (.irem, 1) := by decide +kernel
theorem dX9_swaps_180 : decode cX9_swaps 180 = .ok (.ireturn, 1) := by decide +kernel
set_option maxRecDepth 20000 in
theorem ggX9_isLikedWith_X9_likingNow : GoodIn wsX9_isLikedWith wsX9_likingNow := goodIn_r _ [6, 1, 7, 8, 9, 5, 10, 11, 12, 13, 14, 15, 16, 17, 18, 19, 20, 21, 22, 23, 24, 25, 26, 27, 28, 29, 30, 31, 32, 33, 34, 35, 36, 37, 38, 39, 40, 41, 42, 43, 44, 45, 46, 47, 48, 49, 50, 51, 52, 53, 54, 55, 56, 57, 58, 59, 60, 61, 62, 63, 64, 65, 66, 67, 68, 69, 70, 71, 72, 73, 74, 75, 76, 77, 78, 79, 80, 81, 82, 83, 84, 85, 86, 87, 88, 89, 90, 91, 92, 93, 94, 95, 96, 97, 98, 99, 100, 101, 102, 103, 104, 105, 106, 107, 108, 109, 110, 111, 112, 113, 114, 115, 116, 117, 118, 119, 120, 121, 122, 123, 124, 125, 126, 127, 128, 129, 130, 131, 132, 133, 134, 135, 136, 137, 138, 139] rfl (by decide +kernel)
set_option maxRecDepth 20000 in
theorem gX9_isLikedWith_X9_likingNow : GoodIn wsX9_isLikedWith (wsV RX9 431 RX9 yX9_likingNow wsX9_likingNow) := goodIn_app (goodIn_r _ [2, 3, 4, 5] rfl (by decide +kernel)) ggX9_isLikedWith_X9_likingNow
theorem dX9_isLikedWith_0 : decode cX9_isLikedWith 0 = .ok (.aload_n 0, 1) := by decide +kernel
theorem dX9_isLikedWith_1 : decode cX9_isLikedWith 1 = .ok (.getfield 94, 3) := by decide +kernel
theorem dX9_isLikedWith_4 : decode cX9_isLikedWith 4 = .ok (.iload_n 1, 1) := by decide +kernel
theorem dX9_isLikedWith_5 : decode cX9_isLikedWith 5 = .ok (.iaload, 1) := by decide +kernel
theorem dX9_isLikedWith_6 : decode cX9_isLikedWith 6 = .ok (.istore 4, 2) := by decide +kernel
theorem dX9_isLikedWith_8 : decode cX9_isLikedWith 8 = .ok (.aload_n 0, 1) := by decide +kernel
theorem dX9_isLikedWith_9 : decode cX9_isLikedWith 9 = .ok (.getfield 94, 3) := by decide +kernel
theorem dX9_isLikedWith_12 : decode cX9_isLikedWith 12 = .ok (.iload_n 1, 1) := by decide +kernel
theorem dX9_isLikedWith_13 : decode cX9_isLikedWith 13 = .ok (.iload_n 2, 1) := by decide +kernel
theorem dX9_isLikedWith_14 : decode cX9_isLikedWith 14 = .ok (.iastore, 1) := by decide +kernel
theorem dX9_isLikedWith_15 : decode cX9_isLikedWith 15 = .ok (.aload_n 0, 1) := by decide +kernel
theorem dX9_isLikedWith_16 : decode cX9_isLikedWith 16 = .ok (.iload_n 3, 1) := by decide +kernel
theorem dX9_isLikedWith_17 : decode cX9_isLikedWith 17 = .ok (.invokevirtual 431, 3) := by decide +kernel
theorem dX9_isLikedWith_20 : decode cX9_isLikedWith 20 = .ok (.ifCond .le 7, 3) := by decide +kernel
theorem dX9_isLikedWith_23 : decode cX9_isLikedWith 23 = .ok (.iconst 1, 1) := by decide +kernel
theorem dX9_isLikedWith_24 : decode cX9_isLikedWith 24 = .ok (.goto 4, 3) := by decide +kernel
theorem dX9_isLikedWith_27 : decode cX9_isLikedWith 27 = .ok (.iconst 0, 1) := by decide +kernel
theorem dX9_isLikedWith_28 : decode cX9_isLikedWith 28 = .ok (.istore 5, 2) := by decide +kernel
theorem dX9_isLikedWith_30 : decode cX9_isLikedWith 30 = .ok (.aload_n 0, 1) := by decide +kernel
theorem dX9_isLikedWith_31 : decode cX9_isLikedWith 31 = .ok (.getfield 94, 3) := by decide +kernel
theorem dX9_isLikedWith_34 : decode cX9_isLikedWith 34 = .ok (.iload_n 1, 1) := by decide +kernel
theorem dX9_isLikedWith_35 : decode cX9_isLikedWith 35 = .ok (.iload 4, 2) := by decide +kernel
theorem dX9_isLikedWith_37 : decode cX9_isLikedWith 37 = .ok (.iastore, 1) := by decide +kernel
theorem dX9_isLikedWith_38 : decode cX9_isLikedWith 38 = .ok (.iload 5, 2) := by decide +kernel
theorem dX9_isLikedWith_40 : decode cX9_isLikedWith 40 = .ok (.ireturn, 1) := by decide +kernel
set_option maxRecDepth 20000 in
theorem ggX9_pay_X9_isAtHome : GoodIn wsX9_pay wsX9_isAtHome := goodIn_r _ [5, 6, 7, 8, 9, 4, 10, 11, 12, 13, 14, 15, 16, 17, 18, 19, 20, 21, 22, 23, 24, 25, 26, 27, 97, 98, 99, 100, 101, 102, 103, 104, 105, 106, 107, 108, 109, 110, 111, 112, 113, 114, 115, 116, 117, 118, 119, 120, 121, 122, 123, 124, 125, 126, 127, 128, 129, 130, 131, 132, 133, 134, 135, 136, 137, 138, 139, 140, 141, 142, 143, 144, 145, 146, 147, 148, 149, 150, 151, 152, 153, 154, 155, 156, 157, 158, 159, 160, 161, 162, 163] rfl (by decide +kernel)
set_option maxRecDepth 20000 in
theorem gX9_pay_X9_isAtHome : GoodIn wsX9_pay (wsV RX9 428 RX9 yX9_isAtHome wsX9_isAtHome) := goodIn_app (goodIn_r _ [1, 2, 3, 4] rfl (by decide +kernel)) ggX9_pay_X9_isAtHome
set_option maxRecDepth 20000 in
theorem ggX9_pay_X9_isLikedWith : GoodIn wsX9_pay wsX9_isLikedWith := goodIn_r _ [31, 6, 32, 33, 34, 4, 35, 36, 37, 38, 39, 40, 41, 42, 43, 44, 45, 46, 47, 48, 49, 16, 50, 24, 25, 26, 27, 51, 52, 53, 54, 55, 56, 57, 58, 59, 60, 61, 62, 63, 64, 65, 66, 67, 68, 69, 70, 71, 72, 73, 74, 75, 76, 77, 78, 79, 80, 81, 82, 83, 84, 85, 86, 87, 88, 89, 90, 91, 92, 93, 94, 95, 96, 97, 98, 99, 100, 101, 102, 103, 104, 105, 106, 107, 108, 109, 110, 111, 112, 113, 114, 115, 116, 117, 118, 119, 120, 121, 122, 123, 124, 125, 126, 127, 128, 129, 130, 131, 132, 133, 134, 135, 136, 137, 138, 139, 140, 141, 142, 143, 144, 145, 146, 147, 148, 149, 150, 151, 152, 153, 154, 155, 156, 157, 158, 159, 160, 161, 162, 163] rfl (by decide +kernel)
set_option maxRecDepth 20000 in
theorem gX9_pay_X9_isLikedWith : GoodIn wsX9_pay (wsV RX9 519 RX9 yX9_isLikedWith wsX9_isLikedWith) := goodIn_app (goodIn_r _ [28, 29, 30, 4] rfl (by decide +kernel)) ggX9_pay_X9_isLikedWith
theorem dX9_pay_0 : decode cX9_pay 0 = .ok (.aload_n 0, 1) := by decide +kernel
theorem dX9_pay_1 : decode cX9_pay 1 = .ok (.iload_n 1, 1) := by decide +kernel
theorem dX9_pay_2 : decode cX9_pay 2 = .ok (.invokevirtual 428, 3) := by decide +kernel
theorem dX9_pay_5 : decode cX9_pay 5 = .ok (.ifCond .ne 5, 3) := by decide +kernel
theorem dX9_pay_8 : decode cX9_pay 8 = .ok (.iconst (-1), 1) := by decide +kernel
theorem dX9_pay_9 : decode cX9_pay 9 = .ok (.ireturn, 1) := by decide +kernel
theorem dX9_pay_10 : decode cX9_pay 10 = .ok (.iconst 0, 1) := by decide +kernel
theorem dX9_pay_11 : decode cX9_pay 11 = .ok (.istore_n 2, 1) := by decide +kernel
theorem dX9_pay_12 : decode cX9_pay 12 = .ok (.iload_n 2, 1) := by decide +kernel
theorem dX9_pay_13 : decode cX9_pay 13 = .ok (.bipush 99, 2) := by decide +kernel
theorem dX9_pay_15 : decode cX9_pay 15 = .ok (.if_icmp .gt 24, 3) := by decide +kernel
theorem dX9_pay_18 : decode cX9_pay 18 = .ok (.aload_n 0, 1) := by decide +kernel
theorem dX9_pay_19 : decode cX9_pay 19 = .ok (.bipush 22, 2) := by decide +kernel
theorem dX9_pay_21 : decode cX9_pay 21 = .ok (.iload_n 1, 1) := by decide +kernel
theorem dX9_pay_22 : decode cX9_pay 22 = .ok (.iadd, 1) := by decide +kernel
theorem dX9_pay_23 : decode cX9_pay 23 = .ok (.iload_n 2, 1) := by decide +kernel
theorem dX9_pay_24 : decode cX9_pay 24 = .ok (.iload_n 1, 1) := by decide +kernel
theorem dX9_pay_25 : decode cX9_pay 25 = .ok (.invokevirtual 519, 3) := by decide +kernel
