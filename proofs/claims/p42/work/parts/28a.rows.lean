theorem dX9_isLetter_0 : decode cX9_isLetter 0 = .ok (.iload_n 0, 1) := by decide +kernel
theorem dX9_isLetter_1 : decode cX9_isLetter 1 = .ok (.bipush 97, 2) := by decide +kernel
theorem dX9_isLetter_3 : decode cX9_isLetter 3 = .ok (.if_icmp .lt 13, 3) := by decide +kernel
theorem dX9_isLetter_6 : decode cX9_isLetter 6 = .ok (.iload_n 0, 1) := by decide +kernel
theorem dX9_isLetter_7 : decode cX9_isLetter 7 = .ok (.bipush 122, 2) := by decide +kernel
theorem dX9_isLetter_9 : decode cX9_isLetter 9 = .ok (.if_icmp .gt 7, 3) := by decide +kernel
theorem dX9_isLetter_12 : decode cX9_isLetter 12 = .ok (.iconst 1, 1) := by decide +kernel
theorem dX9_isLetter_13 : decode cX9_isLetter 13 = .ok (.goto 4, 3) := by decide +kernel
theorem dX9_isLetter_16 : decode cX9_isLetter 16 = .ok (.iconst 0, 1) := by decide +kernel
theorem dX9_isLetter_17 : decode cX9_isLetter 17 = .ok (.ireturn, 1) := by decide +kernel
theorem dX9_isDigit_0 : decode cX9_isDigit 0 = .ok (.iload_n 0, 1) := by decide +kernel
theorem dX9_isDigit_1 : decode cX9_isDigit 1 = .ok (.bipush 48, 2) := by decide +kernel
theorem dX9_isDigit_3 : decode cX9_isDigit 3 = .ok (.if_icmp .lt 13, 3) := by decide +kernel
theorem dX9_isDigit_6 : decode cX9_isDigit 6 = .ok (.iload_n 0, 1) := by decide +kernel
theorem dX9_isDigit_7 : decode cX9_isDigit 7 = .ok (.bipush 57, 2) := by decide +kernel
theorem dX9_isDigit_9 : decode cX9_isDigit 9 = .ok (.if_icmp .gt 7, 3) := by decide +kernel
theorem dX9_isDigit_12 : decode cX9_isDigit 12 = .ok (.iconst 1, 1) := by decide +kernel
theorem dX9_isDigit_13 : decode cX9_isDigit 13 = .ok (.goto 4, 3) := by decide +kernel
theorem dX9_isDigit_16 : decode cX9_isDigit 16 = .ok (.iconst 0, 1) := by decide +kernel
theorem dX9_isDigit_17 : decode cX9_isDigit 17 = .ok (.ireturn, 1) := by decide +kernel
theorem dX9_isKept_0 : decode cX9_isKept 0 = .ok (.lload_n 0, 1) := by decide +kernel
theorem dX9_isKept_1 : decode cX9_isKept 1 = .ok (.ldc2_w 158, 3) := by decide +kernel
theorem dX9_isKept_4 : decode cX9_isKept 4 = .ok (.lcmp, 1) := by decide +kernel
theorem dX9_isKept_5 : decode cX9_isKept 5 = .ok (.ifCond .eq 75, 3) := by decide +kernel
theorem dX9_isKept_8 : decode cX9_isKept 8 = .ok (.lload_n 0, 1) := by decide +kernel
theorem dX9_isKept_9 : decode cX9_isKept 9 = .ok (.ldc2_w 160, 3) := by decide +kernel
theorem dX9_isKept_12 : decode cX9_isKept 12 = .ok (.lcmp, 1) := by decide +kernel
theorem dX9_isKept_13 : decode cX9_isKept 13 = .ok (.ifCond .eq 67, 3) := by decide +kernel
theorem dX9_isKept_16 : decode cX9_isKept 16 = .ok (.lload_n 0, 1) := by decide +kernel
theorem dX9_isKept_17 : decode cX9_isKept 17 = .ok (.ldc2_w 162, 3) := by decide +kernel
theorem dX9_isKept_20 : decode cX9_isKept 20 = .ok (.lcmp, 1) := by decide +kernel
theorem dX9_isKept_21 : decode cX9_isKept 21 = .ok (.ifCond .eq 59, 3) := by decide +kernel
theorem dX9_isKept_24 : decode cX9_isKept 24 = .ok (.lload_n 0, 1) := by decide +kernel
theorem dX9_isKept_25 : decode cX9_isKept 25 = .ok (.ldc2_w 164, 3) := by decide +kernel
theorem dX9_isKept_28 : decode cX9_isKept 28 = .ok (.lcmp, 1) := by decide +kernel
theorem dX9_isKept_29 : decode cX9_isKept 29 = .ok (.ifCond .eq 51, 3) := by decide +kernel
theorem dX9_isKept_32 : decode cX9_isKept 32 = .ok (.lload_n 0, 1) := by decide +kernel
theorem dX9_isKept_33 : decode cX9_isKept 33 = .ok (.ldc2_w 166, 3) := by decide +kernel
theorem dX9_isKept_36 : decode cX9_isKept 36 = .ok (.lcmp, 1) := by decide +kernel
theorem dX9_isKept_37 : decode cX9_isKept 37 = .ok (.ifCond .eq 43, 3) := by decide +kernel
theorem dX9_isKept_40 : decode cX9_isKept 40 = .ok (.lload_n 0, 1) := by decide +kernel
theorem dX9_isKept_41 : decode cX9_isKept 41 = .ok (.ldc2_w 168, 3) := by decide +kernel
theorem dX9_isKept_44 : decode cX9_isKept 44 = .ok (.lcmp, 1) := by decide +kernel
theorem dX9_isKept_45 : decode cX9_isKept 45 = .ok (.ifCond .eq 35, 3) := by decide +kernel
theorem dX9_isKept_48 : decode cX9_isKept 48 = .ok (.lload_n 0, 1) := by decide +kernel
theorem dX9_isKept_49 : decode cX9_isKept 49 = .ok (.ldc2_w 170, 3) := by decide +kernel
theorem dX9_isKept_52 : decode cX9_isKept 52 = .ok (.lcmp, 1) := by decide +kernel
theorem dX9_isKept_53 : decode cX9_isKept 53 = .ok (.ifCond .eq 27, 3) := by decide +kernel
theorem dX9_isKept_56 : decode cX9_isKept 56 = .ok (.lload_n 0, 1) := by decide +kernel
theorem dX9_isKept_57 : decode cX9_isKept 57 = .ok (.ldc2_w 172, 3) := by decide +kernel
theorem dX9_isKept_60 : decode cX9_isKept 60 = .ok (.lcmp, 1) := by decide +kernel
theorem dX9_isKept_61 : decode cX9_isKept 61 = .ok (.ifCond .eq 19, 3) := by decide +kernel
theorem dX9_isKept_64 : decode cX9_isKept 64 = .ok (.lload_n 0, 1) := by decide +kernel
theorem dX9_isKept_65 : decode cX9_isKept 65 = .ok (.ldc2_w 174, 3) := by decide +kernel
theorem dX9_isKept_68 : decode cX9_isKept 68 = .ok (.lcmp, 1) := by decide +kernel
theorem dX9_isKept_69 : decode cX9_isKept 69 = .ok (.ifCond .eq 11, 3) := by decide +kernel
theorem dX9_isKept_72 : decode cX9_isKept 72 = .ok (.lload_n 0, 1) := by decide +kernel
theorem dX9_isKept_73 : decode cX9_isKept 73 = .ok (.ldc2_w 176, 3) := by decide +kernel
theorem dX9_isKept_76 : decode cX9_isKept 76 = .ok (.lcmp, 1) := by decide +kernel
theorem dX9_isKept_77 : decode cX9_isKept 77 = .ok (.ifCond .ne 7, 3) := by decide +kernel
theorem dX9_isKept_80 : decode cX9_isKept 80 = .ok (.iconst 1, 1) := by decide +kernel
theorem dX9_isKept_81 : decode cX9_isKept 81 = .ok (.goto 4, 3) := by decide +kernel
theorem dX9_isKept_84 : decode cX9_isKept 84 = .ok (.iconst 0, 1) := by decide +kernel
theorem dX9_isKept_85 : decode cX9_isKept 85 = .ok (.istore_n 2, 1) := by decide +kernel
theorem dX9_isKept_86 : decode cX9_isKept 86 = .ok (.iload_n 2, 1) := by decide +kernel
theorem dX9_isKept_87 : decode cX9_isKept 87 = .ok (.ifCond .ne 75, 3) := by decide +kernel
theorem dX9_isKept_90 : decode cX9_isKept 90 = .ok (.lload_n 0, 1) := by decide +kernel
theorem dX9_isKept_91 : decode cX9_isKept 91 = .ok (.ldc2_w 178, 3) := by decide +kernel
theorem dX9_isKept_94 : decode cX9_isKept 94 = .ok (.lcmp, 1) := by decide +kernel
theorem dX9_isKept_95 : decode cX9_isKept 95 = .ok (.ifCond .eq 67, 3) := by decide +kernel
theorem dX9_isKept_98 : decode cX9_isKept 98 = .ok (.lload_n 0, 1) := by decide +kernel
theorem dX9_isKept_99 : decode cX9_isKept 99 = .ok (.ldc2_w 180, 3) := by decide +kernel
theorem dX9_isKept_102 : decode cX9_isKept 102 = .ok (.lcmp, 1) := by decide +kernel
theorem dX9_isKept_103 : decode cX9_isKept 103 = .ok (.ifCond .eq 59, 3) := by decide +kernel
theorem dX9_isKept_106 : decode cX9_isKept 106 = .ok (.lload_n 0, 1) := by decide +kernel
theorem dX9_isKept_107 : decode cX9_isKept 107 = .ok (.ldc2_w 182, 3) := by decide +kernel
theorem dX9_isKept_110 : decode cX9_isKept 110 = .ok (.lcmp, 1) := by decide +kernel
theorem dX9_isKept_111 : decode cX9_isKept 111 = .ok (.ifCond .eq 51, 3) := by decide +kernel
theorem dX9_isKept_114 : decode cX9_isKept 114 = .ok (.lload_n 0, 1) := by decide +kernel
theorem dX9_isKept_115 : decode cX9_isKept 115 = .ok (.ldc2_w 184, 3) := by decide +kernel
theorem dX9_isKept_118 : decode cX9_isKept 118 = .ok (.lcmp, 1) := by decide +kernel
theorem dX9_isKept_119 : decode cX9_isKept 119 = .ok (.ifCond .eq 43, 3) := by decide +kernel
theorem dX9_isKept_122 : decode cX9_isKept 122 = .ok (.lload_n 0, 1) := by decide +kernel
theorem dX9_isKept_123 : decode cX9_isKept 123 = .ok (.ldc2_w 186, 3) := by decide +kernel
theorem dX9_isKept_126 : decode cX9_isKept 126 = .ok (.lcmp, 1) := by decide +kernel
theorem dX9_isKept_127 : decode cX9_isKept 127 = .ok (.ifCond .eq 35, 3) := by decide +kernel
theorem dX9_isKept_130 : decode cX9_isKept 130 = .ok (.lload_n 0, 1) := by decide +kernel
theorem dX9_isKept_131 : decode cX9_isKept 131 = .ok (.ldc2_w 188, 3) := by decide +kernel
theorem dX9_isKept_134 : decode cX9_isKept 134 = .ok (.lcmp, 1) := by decide +kernel
theorem dX9_isKept_135 : decode cX9_isKept 135 = .ok (.ifCond .eq 27, 3) := by decide +kernel
theorem dX9_isKept_138 : decode cX9_isKept 138 = .ok (.lload_n 0, 1) := by decide +kernel
theorem dX9_isKept_139 : decode cX9_isKept 139 = .ok (.ldc2_w 190, 3) := by decide +kernel
theorem dX9_isKept_142 : decode cX9_isKept 142 = .ok (.lcmp, 1) := by decide +kernel
theorem dX9_isKept_143 : decode cX9_isKept 143 = .ok (.ifCond .eq 19, 3) := by decide +kernel
theorem dX9_isKept_146 : decode cX9_isKept 146 = .ok (.lload_n 0, 1) := by decide +kernel
theorem dX9_isKept_147 : decode cX9_isKept 147 = .ok (.ldc2_w 192, 3) := by decide +kernel
theorem dX9_isKept_150 : decode cX9_isKept 150 = .ok (.lcmp, 1) := by decide +kernel
theorem dX9_isKept_151 : decode cX9_isKept 151 = .ok (.ifCond .eq 11, 3) := by decide +kernel
theorem dX9_isKept_154 : decode cX9_isKept 154 = .ok (.lload_n 0, 1) := by decide +kernel
theorem dX9_isKept_155 : decode cX9_isKept 155 = .ok (.ldc2_w 194, 3) := by decide +kernel
theorem dX9_isKept_158 : decode cX9_isKept 158 = .ok (.lcmp, 1) := by decide +kernel
theorem dX9_isKept_159 : decode cX9_isKept 159 = .ok (.ifCond .ne 7, 3) := by decide +kernel
theorem dX9_isKept_162 : decode cX9_isKept 162 = .ok (.iconst 1, 1) := by decide +kernel
theorem dX9_isKept_163 : decode cX9_isKept 163 = .ok (.goto 4, 3) := by decide +kernel
theorem dX9_isKept_166 : decode cX9_isKept 166 = .ok (.iconst 0, 1) := by decide +kernel
theorem dX9_isKept_167 : decode cX9_isKept 167 = .ok (.ireturn, 1) := by decide +kernel
theorem dX9_isSign_0 : decode cX9_isSign 0 = .ok (.iload_n 0, 1) := by decide +kernel
theorem dX9_isSign_1 : decode cX9_isSign 1 = .ok (.bipush 59, 2) := by decide +kernel
theorem dX9_isSign_3 : decode cX9_isSign 3 = .ok (.if_icmp .eq 63, 3) := by decide +kernel
theorem dX9_isSign_6 : decode cX9_isSign 6 = .ok (.iload_n 0, 1) := by decide +kernel
theorem dX9_isSign_7 : decode cX9_isSign 7 = .ok (.bipush 40, 2) := by decide +kernel
theorem dX9_isSign_9 : decode cX9_isSign 9 = .ok (.if_icmp .eq 57, 3) := by decide +kernel
theorem dX9_isSign_12 : decode cX9_isSign 12 = .ok (.iload_n 0, 1) := by decide +kernel
theorem dX9_isSign_13 : decode cX9_isSign 13 = .ok (.bipush 41, 2) := by decide +kernel
theorem dX9_isSign_15 : decode cX9_isSign 15 = .ok (.if_icmp .eq 51, 3) := by decide +kernel
theorem dX9_isSign_18 : decode cX9_isSign 18 = .ok (.iload_n 0, 1) := by decide +kernel
theorem dX9_isSign_19 : decode cX9_isSign 19 = .ok (.bipush 60, 2) := by decide +kernel
theorem dX9_isSign_21 : decode cX9_isSign 21 = .ok (.if_icmp .eq 45, 3) := by decide +kernel
theorem dX9_isSign_24 : decode cX9_isSign 24 = .ok (.iload_n 0, 1) := by decide +kernel
theorem dX9_isSign_25 : decode cX9_isSign 25 = .ok (.bipush 62, 2) := by decide +kernel
theorem dX9_isSign_27 : decode cX9_isSign 27 = .ok (.if_icmp .eq 39, 3) := by decide +kernel
theorem dX9_isSign_30 : decode cX9_isSign 30 = .ok (.iload_n 0, 1) := by decide +kernel
theorem dX9_isSign_31 : decode cX9_isSign 31 = .ok (.bipush 61, 2) := by decide +kernel
theorem dX9_isSign_33 : decode cX9_isSign 33 = .ok (.if_icmp .eq 33, 3) := by decide +kernel
theorem dX9_isSign_36 : decode cX9_isSign 36 = .ok (.iload_n 0, 1) := by decide +kernel
theorem dX9_isSign_37 : decode cX9_isSign 37 = .ok (.bipush 43, 2) := by decide +kernel
theorem dX9_isSign_39 : decode cX9_isSign 39 = .ok (.if_icmp .eq 27, 3) := by decide +kernel
theorem dX9_isSign_42 : decode cX9_isSign 42 = .ok (.iload_n 0, 1) := by decide +kernel
theorem dX9_isSign_43 : decode cX9_isSign 43 = .ok (.bipush 45, 2) := by decide +kernel
theorem dX9_isSign_45 : decode cX9_isSign 45 = .ok (.if_icmp .eq 21, 3) := by decide +kernel
theorem dX9_isSign_48 : decode cX9_isSign 48 = .ok (.iload_n 0, 1) := by decide +kernel
theorem dX9_isSign_49 : decode cX9_isSign 49 = .ok (.bipush 42, 2) := by decide +kernel
theorem dX9_isSign_51 : decode cX9_isSign 51 = .ok (.if_icmp .eq 15, 3) := by decide +kernel
theorem dX9_isSign_54 : decode cX9_isSign 54 = .ok (.iload_n 0, 1) := by decide +kernel
theorem dX9_isSign_55 : decode cX9_isSign 55 = .ok (.bipush 47, 2) := by decide +kernel
theorem dX9_isSign_57 : decode cX9_isSign 57 = .ok (.if_icmp .eq 9, 3) := by decide +kernel
theorem dX9_isSign_60 : decode cX9_isSign 60 = .ok (.iload_n 0, 1) := by decide +kernel
theorem dX9_isSign_61 : decode cX9_isSign 61 = .ok (.bipush 37, 2) := by decide +kernel
theorem dX9_isSign_63 : decode cX9_isSign 63 = .ok (.if_icmp .ne 7, 3) := by decide +kernel
theorem dX9_isSign_66 : decode cX9_isSign 66 = .ok (.iconst 1, 1) := by decide +kernel
theorem dX9_isSign_67 : decode cX9_isSign 67 = .ok (.goto 4, 3) := by decide +kernel
theorem dX9_isSign_70 : decode cX9_isSign 70 = .ok (.iconst 0, 1) := by decide +kernel
theorem dX9_isSign_71 : decode cX9_isSign 71 = .ok (.ireturn, 1) := by decide +kernel
theorem dX9_clearBank_0 : decode cX9_clearBank 0 = .ok (.aload_n 0, 1) := by decide +kernel
theorem dX9_clearBank_1 : decode cX9_clearBank 1 = .ok (.getfield 20, 3) := by decide +kernel
theorem dX9_clearBank_4 : decode cX9_clearBank 4 = .ok (.aload_n 0, 1) := by decide +kernel
theorem dX9_clearBank_5 : decode cX9_clearBank 5 = .ok (.getfield 259, 3) := by decide +kernel
theorem dX9_clearBank_8 : decode cX9_clearBank 8 = .ok (.iconst 0, 1) := by decide +kernel
theorem dX9_clearBank_9 : decode cX9_clearBank 9 = .ok (.iastore, 1) := by decide +kernel
theorem dX9_clearBank_10 : decode cX9_clearBank 10 = .ok (.aload_n 0, 1) := by decide +kernel
theorem dX9_clearBank_11 : decode cX9_clearBank 11 = .ok (.getfield 24, 3) := by decide +kernel
theorem dX9_clearBank_14 : decode cX9_clearBank 14 = .ok (.aload_n 0, 1) := by decide +kernel
theorem dX9_clearBank_15 : decode cX9_clearBank 15 = .ok (.getfield 259, 3) := by decide +kernel
theorem dX9_clearBank_18 : decode cX9_clearBank 18 = .ok (.iconst 0, 1) := by decide +kernel
theorem dX9_clearBank_19 : decode cX9_clearBank 19 = .ok (.iastore, 1) := by decide +kernel
theorem dX9_clearBank_20 : decode cX9_clearBank 20 = .ok (.aload_n 0, 1) := by decide +kernel
theorem dX9_clearBank_21 : decode cX9_clearBank 21 = .ok (.getfield 27, 3) := by decide +kernel
theorem dX9_clearBank_24 : decode cX9_clearBank 24 = .ok (.aload_n 0, 1) := by decide +kernel
theorem dX9_clearBank_25 : decode cX9_clearBank 25 = .ok (.getfield 259, 3) := by decide +kernel
theorem dX9_clearBank_28 : decode cX9_clearBank 28 = .ok (.iconst 0, 1) := by decide +kernel
theorem dX9_clearBank_29 : decode cX9_clearBank 29 = .ok (.iastore, 1) := by decide +kernel
theorem dX9_clearBank_30 : decode cX9_clearBank 30 = .ok (.aload_n 0, 1) := by decide +kernel
theorem dX9_clearBank_31 : decode cX9_clearBank 31 = .ok (.getfield 30, 3) := by decide +kernel
theorem dX9_clearBank_34 : decode cX9_clearBank 34 = .ok (.aload_n 0, 1) := by decide +kernel
theorem dX9_clearBank_35 : decode cX9_clearBank 35 = .ok (.getfield 259, 3) := by decide +kernel
theorem dX9_clearBank_38 : decode cX9_clearBank 38 = .ok (.iconst 0, 1) := by decide +kernel
theorem dX9_clearBank_39 : decode cX9_clearBank 39 = .ok (.iastore, 1) := by decide +kernel
theorem dX9_clearBank_40 : decode cX9_clearBank 40 = .ok (.aload_n 0, 1) := by decide +kernel
theorem dX9_clearBank_41 : decode cX9_clearBank 41 = .ok (.getfield 33, 3) := by decide +kernel
theorem dX9_clearBank_44 : decode cX9_clearBank 44 = .ok (.aload_n 0, 1) := by decide +kernel
theorem dX9_clearBank_45 : decode cX9_clearBank 45 = .ok (.getfield 259, 3) := by decide +kernel
theorem dX9_clearBank_48 : decode cX9_clearBank 48 = .ok (.iconst 0, 1) := by decide +kernel
theorem dX9_clearBank_49 : decode cX9_clearBank 49 = .ok (.iastore, 1) := by decide +kernel
theorem dX9_clearBank_50 : decode cX9_clearBank 50 = .ok (.aload_n 0, 1) := by decide +kernel
theorem dX9_clearBank_51 : decode cX9_clearBank 51 = .ok (.getfield 36, 3) := by decide +kernel
theorem dX9_clearBank_54 : decode cX9_clearBank 54 = .ok (.aload_n 0, 1) := by decide +kernel
theorem dX9_clearBank_55 : decode cX9_clearBank 55 = .ok (.getfield 259, 3) := by decide +kernel
theorem dX9_clearBank_58 : decode cX9_clearBank 58 = .ok (.iconst 0, 1) := by decide +kernel
theorem dX9_clearBank_59 : decode cX9_clearBank 59 = .ok (.iastore, 1) := by decide +kernel
theorem dX9_clearBank_60 : decode cX9_clearBank 60 = .ok (.aload_n 0, 1) := by decide +kernel
theorem dX9_clearBank_61 : decode cX9_clearBank 61 = .ok (.getfield 39, 3) := by decide +kernel
theorem dX9_clearBank_64 : decode cX9_clearBank 64 = .ok (.aload_n 0, 1) := by decide +kernel
theorem dX9_clearBank_65 : decode cX9_clearBank 65 = .ok (.getfield 259, 3) := by decide +kernel
theorem dX9_clearBank_68 : decode cX9_clearBank 68 = .ok (.iconst 0, 1) := by decide +kernel
theorem dX9_clearBank_69 : decode cX9_clearBank 69 = .ok (.iastore, 1) := by decide +kernel
theorem dX9_clearBank_70 : decode cX9_clearBank 70 = .ok (.aload_n 0, 1) := by decide +kernel
theorem dX9_clearBank_71 : decode cX9_clearBank 71 = .ok (.sipush 560, 3) := by decide +kernel
theorem dX9_clearBank_74 : decode cX9_clearBank 74 = .ok (.aload_n 0, 1) := by decide +kernel
theorem dX9_clearBank_75 : decode cX9_clearBank 75 = .ok (.getfield 259, 3) := by decide +kernel
theorem dX9_clearBank_78 : decode cX9_clearBank 78 = .ok (.imul, 1) := by decide +kernel
theorem dX9_clearBank_79 : decode cX9_clearBank 79 = .ok (.putfield 262, 3) := by decide +kernel
theorem dX9_clearBank_82 : decode cX9_clearBank 82 = .ok (.return_, 1) := by decide +kernel
theorem dX9_two_0 : decode cX9_two 0 = .ok (.iload_n 0, 1) := by decide +kernel
theorem dX9_two_1 : decode cX9_two 1 = .ok (.tableswitch 202 37 62 #[143, 188, 202, 202, 202, 127, 119, 202, 123, 202, 131, 202, 202, 202, 202, 202, 202, 202, 202, 202, 202, 202, 202, 155, 177, 166], 119) := by decide +kernel
theorem dX9_two_120 : decode cX9_two 120 = .ok (.iload_n 1, 1) := by decide +kernel
theorem dX9_two_121 : decode cX9_two 121 = .ok (.iload_n 2, 1) := by decide +kernel
theorem dX9_two_122 : decode cX9_two 122 = .ok (.iadd, 1) := by decide +kernel
theorem dX9_two_123 : decode cX9_two 123 = .ok (.ireturn, 1) := by decide +kernel
theorem dX9_two_124 : decode cX9_two 124 = .ok (.iload_n 1, 1) := by decide +kernel
theorem dX9_two_125 : decode cX9_two 125 = .ok (.iload_n 2, 1) := by decide +kernel
theorem dX9_two_126 : decode cX9_two 126 = .ok (.isub, 1) := by decide +kernel
theorem dX9_two_127 : decode cX9_two 127 = .ok (.ireturn, 1) := by decide +kernel
theorem dX9_two_128 : decode cX9_two 128 = .ok (.iload_n 1, 1) := by decide +kernel
theorem dX9_two_129 : decode cX9_two 129 = .ok (.iload_n 2, 1) := by decide +kernel
theorem dX9_two_130 : decode cX9_two 130 = .ok (.imul, 1) := by decide +kernel
theorem dX9_two_131 : decode cX9_two 131 = .ok (.ireturn, 1) := by decide +kernel
theorem dX9_two_132 : decode cX9_two 132 = .ok (.iload_n 2, 1) := by decide +kernel
theorem dX9_two_133 : decode cX9_two 133 = .ok (.ifCond .ne 7, 3) := by decide +kernel
theorem dX9_two_136 : decode cX9_two 136 = .ok (.iconst 0, 1) := by decide +kernel
theorem dX9_two_137 : decode cX9_two 137 = .ok (.goto 6, 3) := by decide +kernel
theorem dX9_two_140 : decode cX9_two 140 = .ok (.iload_n 1, 1) := by decide +kernel
theorem dX9_two_141 : decode cX9_two 141 = .ok (.iload_n 2, 1) := by decide +kernel
theorem dX9_two_142 : decode cX9_two 142 = .ok (.idiv, 1) := by decide +kernel
theorem dX9_two_143 : decode cX9_two 143 = .ok (.ireturn, 1) := by decide +kernel
theorem dX9_two_144 : decode cX9_two 144 = .ok (.iload_n 2, 1) := by decide +kernel
theorem dX9_two_145 : decode cX9_two 145 = .ok (.ifCond .ne 7, 3) := by decide +kernel
theorem dX9_two_148 : decode cX9_two 148 = .ok (.iconst 0, 1) := by decide +kernel
theorem dX9_two_149 : decode cX9_two 149 = .ok (.goto 6, 3) := by decide +kernel
theorem dX9_two_152 : decode cX9_two 152 = .ok (.iload_n 1, 1) := by decide +kernel
theorem dX9_two_153 : decode cX9_two 153 = .ok (.iload_n 2, 1) := by decide +kernel
theorem dX9_two_154 : decode cX9_two 154 = .ok (.irem, 1) := by decide +kernel
theorem dX9_two_155 : decode cX9_two 155 = .ok (.ireturn, 1) := by decide +kernel
theorem dX9_two_156 : decode cX9_two 156 = .ok (.iload_n 1, 1) := by decide +kernel
theorem dX9_two_157 : decode cX9_two 157 = .ok (.iload_n 2, 1) := by decide +kernel
theorem dX9_two_158 : decode cX9_two 158 = .ok (.if_icmp .ge 7, 3) := by decide +kernel
theorem dX9_two_161 : decode cX9_two 161 = .ok (.iconst 1, 1) := by decide +kernel
theorem dX9_two_162 : decode cX9_two 162 = .ok (.goto 4, 3) := by decide +kernel
theorem dX9_two_165 : decode cX9_two 165 = .ok (.iconst 0, 1) := by decide +kernel
theorem dX9_two_166 : decode cX9_two 166 = .ok (.ireturn, 1) := by decide +kernel
theorem dX9_two_167 : decode cX9_two 167 = .ok (.iload_n 1, 1) := by decide +kernel
theorem dX9_two_168 : decode cX9_two 168 = .ok (.iload_n 2, 1) := by decide +kernel
theorem dX9_two_169 : decode cX9_two 169 = .ok (.if_icmp .le 7, 3) := by decide +kernel
theorem dX9_two_172 : decode cX9_two 172 = .ok (.iconst 1, 1) := by decide +kernel
theorem dX9_two_173 : decode cX9_two 173 = .ok (.goto 4, 3) := by decide +kernel
theorem dX9_two_176 : decode cX9_two 176 = .ok (.iconst 0, 1) := by decide +kernel
theorem dX9_two_177 : decode cX9_two 177 = .ok (.ireturn, 1) := by decide +kernel
theorem dX9_two_178 : decode cX9_two 178 = .ok (.iload_n 1, 1) := by decide +kernel
theorem dX9_two_179 : decode cX9_two 179 = .ok (.iload_n 2, 1) := by decide +kernel
theorem dX9_two_180 : decode cX9_two 180 = .ok (.if_icmp .ne 7, 3) := by decide +kernel
theorem dX9_two_183 : decode cX9_two 183 = .ok (.iconst 1, 1) := by decide +kernel
theorem dX9_two_184 : decode cX9_two 184 = .ok (.goto 4, 3) := by decide +kernel
theorem dX9_two_187 : decode cX9_two 187 = .ok (.iconst 0, 1) := by decide +kernel
theorem dX9_two_188 : decode cX9_two 188 = .ok (.ireturn, 1) := by decide +kernel
theorem dX9_two_189 : decode cX9_two 189 = .ok (.iload_n 1, 1) := by decide +kernel
theorem dX9_two_190 : decode cX9_two 190 = .ok (.ifCond .eq 11, 3) := by decide +kernel
theorem dX9_two_193 : decode cX9_two 193 = .ok (.iload_n 2, 1) := by decide +kernel
theorem dX9_two_194 : decode cX9_two 194 = .ok (.ifCond .eq 7, 3) := by decide +kernel
theorem dX9_two_197 : decode cX9_two 197 = .ok (.iconst 1, 1) := by decide +kernel
theorem dX9_two_198 : decode cX9_two 198 = .ok (.goto 4, 3) := by decide +kernel
theorem dX9_two_201 : decode cX9_two 201 = .ok (.iconst 0, 1) := by decide +kernel
theorem dX9_two_202 : decode cX9_two 202 = .ok (.ireturn, 1) := by decide +kernel
theorem dX9_two_203 : decode cX9_two 203 = .ok (.iload_n 1, 1) := by decide +kernel
theorem dX9_two_204 : decode cX9_two 204 = .ok (.ifCond .ne 7, 3) := by decide +kernel
theorem dX9_two_207 : decode cX9_two 207 = .ok (.iload_n 2, 1) := by decide +kernel
theorem dX9_two_208 : decode cX9_two 208 = .ok (.ifCond .eq 7, 3) := by decide +kernel
theorem dX9_two_211 : decode cX9_two 211 = .ok (.iconst 1, 1) := by decide +kernel
theorem dX9_two_212 : decode cX9_two 212 = .ok (.goto 4, 3) := by decide +kernel
theorem dX9_two_215 : decode cX9_two 215 = .ok (.iconst 0, 1) := by decide +kernel
theorem dX9_two_216 : decode cX9_two 216 = .ok (.ireturn, 1) := by decide +kernel
theorem dX9_asked_0 : decode cX9_asked 0 = .ok (.iload_n 1, 1) := by decide +kernel
theorem dX9_asked_1 : decode cX9_asked 1 = .ok (.tableswitch 154 102 119 #[123, 154, 87, 154, 154, 154, 154, 105, 154, 154, 154, 146, 141, 136, 154, 154, 154, 100], 87) := by decide +kernel
theorem dX9_asked_88 : decode cX9_asked 88 = .ok (.aload_n 0, 1) := by decide +kernel
theorem dX9_asked_89 : decode cX9_asked 89 = .ok (.getfield 94, 3) := by decide +kernel
theorem dX9_asked_92 : decode cX9_asked 92 = .ok (.bipush 22, 2) := by decide +kernel
theorem dX9_asked_94 : decode cX9_asked 94 = .ok (.aload_n 0, 1) := by decide +kernel
theorem dX9_asked_95 : decode cX9_asked 95 = .ok (.getfield 354, 3) := by decide +kernel
theorem dX9_asked_98 : decode cX9_asked 98 = .ok (.iadd, 1) := by decide +kernel
theorem dX9_asked_99 : decode cX9_asked 99 = .ok (.iaload, 1) := by decide +kernel
theorem dX9_asked_100 : decode cX9_asked 100 = .ok (.ireturn, 1) := by decide +kernel
theorem dX9_asked_101 : decode cX9_asked 101 = .ok (.aload_n 0, 1) := by decide +kernel
theorem dX9_asked_102 : decode cX9_asked 102 = .ok (.getfield 357, 3) := by decide +kernel
theorem dX9_asked_105 : decode cX9_asked 105 = .ok (.ireturn, 1) := by decide +kernel
theorem dX9_asked_106 : decode cX9_asked 106 = .ok (.aload_n 0, 1) := by decide +kernel
theorem dX9_asked_107 : decode cX9_asked 107 = .ok (.getfield 54, 3) := by decide +kernel
theorem dX9_asked_110 : decode cX9_asked 110 = .ok (.bipush 7, 2) := by decide +kernel
theorem dX9_asked_112 : decode cX9_asked 112 = .ok (.aload_n 0, 1) := by decide +kernel
theorem dX9_asked_113 : decode cX9_asked 113 = .ok (.getfield 268, 3) := by decide +kernel
theorem dX9_asked_116 : decode cX9_asked 116 = .ok (.imul, 1) := by decide +kernel
theorem dX9_asked_117 : decode cX9_asked 117 = .ok (.aload_n 0, 1) := by decide +kernel
theorem dX9_asked_118 : decode cX9_asked 118 = .ok (.getfield 354, 3) := by decide +kernel
theorem dX9_asked_121 : decode cX9_asked 121 = .ok (.iadd, 1) := by decide +kernel
theorem dX9_asked_122 : decode cX9_asked 122 = .ok (.iaload, 1) := by decide +kernel
theorem dX9_asked_123 : decode cX9_asked 123 = .ok (.ireturn, 1) := by decide +kernel
theorem dX9_asked_124 : decode cX9_asked 124 = .ok (.aload_n 0, 1) := by decide +kernel
theorem dX9_asked_125 : decode cX9_asked 125 = .ok (.getfield 94, 3) := by decide +kernel
theorem dX9_asked_128 : decode cX9_asked 128 = .ok (.bipush 29, 2) := by decide +kernel
theorem dX9_asked_130 : decode cX9_asked 130 = .ok (.aload_n 0, 1) := by decide +kernel
theorem dX9_asked_131 : decode cX9_asked 131 = .ok (.getfield 354, 3) := by decide +kernel
theorem dX9_asked_134 : decode cX9_asked 134 = .ok (.iadd, 1) := by decide +kernel
theorem dX9_asked_135 : decode cX9_asked 135 = .ok (.iaload, 1) := by decide +kernel
theorem dX9_asked_136 : decode cX9_asked 136 = .ok (.ireturn, 1) := by decide +kernel
theorem dX9_asked_137 : decode cX9_asked 137 = .ok (.aload_n 0, 1) := by decide +kernel
theorem dX9_asked_138 : decode cX9_asked 138 = .ok (.getfield 360, 3) := by decide +kernel
theorem dX9_asked_141 : decode cX9_asked 141 = .ok (.ireturn, 1) := by decide +kernel
theorem dX9_asked_142 : decode cX9_asked 142 = .ok (.aload_n 0, 1) := by decide +kernel
theorem dX9_asked_143 : decode cX9_asked 143 = .ok (.getfield 363, 3) := by decide +kernel
theorem dX9_asked_146 : decode cX9_asked 146 = .ok (.ireturn, 1) := by decide +kernel
theorem dX9_asked_147 : decode cX9_asked 147 = .ok (.aload_n 0, 1) := by decide +kernel
theorem dX9_asked_148 : decode cX9_asked 148 = .ok (.getfield 94, 3) := by decide +kernel
theorem dX9_asked_151 : decode cX9_asked 151 = .ok (.bipush 37, 2) := by decide +kernel
theorem dX9_asked_153 : decode cX9_asked 153 = .ok (.iaload, 1) := by decide +kernel
theorem dX9_asked_154 : decode cX9_asked 154 = .ok (.ireturn, 1) := by decide +kernel
theorem dX9_asked_155 : decode cX9_asked 155 = .ok (.iload_n 2, 1) := by decide +kernel
theorem dX9_asked_156 : decode cX9_asked 156 = .ok (.ireturn, 1) := by decide +kernel
set_option maxRecDepth 20000 in
theorem ggX9_comes_X9_isLetter : GoodIn wsX9_comes wsX9_isLetter := goodIn_r _ [10] rfl (by decide +kernel)
set_option maxRecDepth 20000 in
theorem gX9_comes_X9_isLetter : GoodIn wsX9_comes (va_wsS RX9 209 yX9_isLetter wsX9_isLetter) := goodIn_app (goodIn_r _ [7, 8, 9] rfl (by decide +kernel)) ggX9_comes_X9_isLetter
set_option maxRecDepth 20000 in
theorem ggX9_comes_X9_asked : GoodIn wsX9_comes wsX9_asked := goodIn_r _ [14, 15, 16, 17, 18, 2, 19, 20, 24, 25, 26, 27, 28, 29, 30, 31, 32, 33, 34, 35, 36, 37, 38, 39, 40, 41, 42, 43, 44, 45, 46, 47, 48, 49, 50, 51, 52, 53, 54, 55, 56, 57, 58, 59, 60, 61, 62, 63, 64, 65, 66, 67, 68, 69, 70, 71, 72, 73, 74, 75, 76, 77, 78, 79, 80, 81, 82, 83, 84, 85, 86, 87, 88, 89, 90] rfl (by decide +kernel)
set_option maxRecDepth 20000 in
theorem gX9_comes_X9_asked : GoodIn wsX9_comes (wsV RX9 366 RX9 yX9_asked wsX9_asked) := goodIn_app (goodIn_r _ [11, 12, 13, 9] rfl (by decide +kernel)) ggX9_comes_X9_asked
set_option maxRecDepth 20000 in
theorem ggX9_comes_X9_two : GoodIn wsX9_comes wsX9_two := goodIn_r _ [23] rfl (by decide +kernel)
set_option maxRecDepth 20000 in
theorem gX9_comes_X9_two : GoodIn wsX9_comes (va_wsS RX9 369 yX9_two wsX9_two) := goodIn_app (goodIn_r _ [21, 22, 9] rfl (by decide +kernel)) ggX9_comes_X9_two
theorem dX9_comes_0 : decode cX9_comes 0 = .ok (.iconst 0, 1) := by decide +kernel
theorem dX9_comes_1 : decode cX9_comes 1 = .ok (.istore_n 1, 1) := by decide +kernel
theorem dX9_comes_2 : decode cX9_comes 2 = .ok (.aload_n 0, 1) := by decide +kernel
theorem dX9_comes_3 : decode cX9_comes 3 = .ok (.getfield 63, 3) := by decide +kernel
theorem dX9_comes_6 : decode cX9_comes 6 = .ok (.aload_n 0, 1) := by decide +kernel
theorem dX9_comes_7 : decode cX9_comes 7 = .ok (.getfield 268, 3) := by decide +kernel
theorem dX9_comes_10 : decode cX9_comes 10 = .ok (.iaload, 1) := by decide +kernel
theorem dX9_comes_11 : decode cX9_comes 11 = .ok (.istore_n 2, 1) := by decide +kernel
theorem dX9_comes_12 : decode cX9_comes 12 = .ok (.iload_n 2, 1) := by decide +kernel
theorem dX9_comes_13 : decode cX9_comes 13 = .ok (.aload_n 0, 1) := by decide +kernel
theorem dX9_comes_14 : decode cX9_comes 14 = .ok (.getfield 66, 3) := by decide +kernel
theorem dX9_comes_17 : decode cX9_comes 17 = .ok (.aload_n 0, 1) := by decide +kernel
theorem dX9_comes_18 : decode cX9_comes 18 = .ok (.getfield 268, 3) := by decide +kernel
theorem dX9_comes_21 : decode cX9_comes 21 = .ok (.iaload, 1) := by decide +kernel
theorem dX9_comes_22 : decode cX9_comes 22 = .ok (.if_icmp .ge 108, 3) := by decide +kernel
theorem dX9_comes_25 : decode cX9_comes 25 = .ok (.aload_n 0, 1) := by decide +kernel
theorem dX9_comes_26 : decode cX9_comes 26 = .ok (.getfield 79, 3) := by decide +kernel
theorem dX9_comes_29 : decode cX9_comes 29 = .ok (.iload_n 2, 1) := by decide +kernel
theorem dX9_comes_30 : decode cX9_comes 30 = .ok (.iaload, 1) := by decide +kernel
theorem dX9_comes_31 : decode cX9_comes 31 = .ok (.istore_n 3, 1) := by decide +kernel
theorem dX9_comes_32 : decode cX9_comes 32 = .ok (.iload_n 3, 1) := by decide +kernel
theorem dX9_comes_33 : decode cX9_comes 33 = .ok (.bipush 126, 2) := by decide +kernel
theorem dX9_comes_35 : decode cX9_comes 35 = .ok (.if_icmp .ne 30, 3) := by decide +kernel
theorem dX9_comes_38 : decode cX9_comes 38 = .ok (.aload_n 0, 1) := by decide +kernel
theorem dX9_comes_39 : decode cX9_comes 39 = .ok (.getfield 91, 3) := by decide +kernel
theorem dX9_comes_42 : decode cX9_comes 42 = .ok (.iload_n 1, 1) := by decide +kernel
theorem dX9_comes_43 : decode cX9_comes 43 = .ok (.iconst 1, 1) := by decide +kernel
theorem dX9_comes_44 : decode cX9_comes 44 = .ok (.isub, 1) := by decide +kernel
theorem dX9_comes_45 : decode cX9_comes 45 = .ok (.aload_n 0, 1) := by decide +kernel
theorem dX9_comes_46 : decode cX9_comes 46 = .ok (.getfield 91, 3) := by decide +kernel
theorem dX9_comes_49 : decode cX9_comes 49 = .ok (.iload_n 1, 1) := by decide +kernel
theorem dX9_comes_50 : decode cX9_comes 50 = .ok (.iconst 1, 1) := by decide +kernel
theorem dX9_comes_51 : decode cX9_comes 51 = .ok (.isub, 1) := by decide +kernel
theorem dX9_comes_52 : decode cX9_comes 52 = .ok (.iaload, 1) := by decide +kernel
theorem dX9_comes_53 : decode cX9_comes 53 = .ok (.ifCond .ne 7, 3) := by decide +kernel
theorem dX9_comes_56 : decode cX9_comes 56 = .ok (.iconst 1, 1) := by decide +kernel
theorem dX9_comes_57 : decode cX9_comes 57 = .ok (.goto 4, 3) := by decide +kernel
theorem dX9_comes_60 : decode cX9_comes 60 = .ok (.iconst 0, 1) := by decide +kernel
theorem dX9_comes_61 : decode cX9_comes 61 = .ok (.iastore, 1) := by decide +kernel
theorem dX9_comes_62 : decode cX9_comes 62 = .ok (.goto 62, 3) := by decide +kernel
theorem dX9_comes_65 : decode cX9_comes 65 = .ok (.iload_n 3, 1) := by decide +kernel
theorem dX9_comes_66 : decode cX9_comes 66 = .ok (.invokestatic 209, 3) := by decide +kernel
theorem dX9_comes_69 : decode cX9_comes 69 = .ok (.ifCond .eq 26, 3) := by decide +kernel
theorem dX9_comes_72 : decode cX9_comes 72 = .ok (.aload_n 0, 1) := by decide +kernel
theorem dX9_comes_73 : decode cX9_comes 73 = .ok (.getfield 91, 3) := by decide +kernel
theorem dX9_comes_76 : decode cX9_comes 76 = .ok (.iload_n 1, 1) := by decide +kernel
theorem dX9_comes_77 : decode cX9_comes 77 = .ok (.aload_n 0, 1) := by decide +kernel
theorem dX9_comes_78 : decode cX9_comes 78 = .ok (.iload_n 3, 1) := by decide +kernel
theorem dX9_comes_79 : decode cX9_comes 79 = .ok (.aload_n 0, 1) := by decide +kernel
theorem dX9_comes_80 : decode cX9_comes 80 = .ok (.getfield 82, 3) := by decide +kernel
theorem dX9_comes_83 : decode cX9_comes 83 = .ok (.iload_n 2, 1) := by decide +kernel
theorem dX9_comes_84 : decode cX9_comes 84 = .ok (.iaload, 1) := by decide +kernel
theorem dX9_comes_85 : decode cX9_comes 85 = .ok (.invokevirtual 366, 3) := by decide +kernel
theorem dX9_comes_88 : decode cX9_comes 88 = .ok (.iastore, 1) := by decide +kernel
theorem dX9_comes_89 : decode cX9_comes 89 = .ok (.iinc 1 1, 3) := by decide +kernel
theorem dX9_comes_92 : decode cX9_comes 92 = .ok (.goto 32, 3) := by decide +kernel
theorem dX9_comes_95 : decode cX9_comes 95 = .ok (.iinc 1 (-1), 3) := by decide +kernel
theorem dX9_comes_98 : decode cX9_comes 98 = .ok (.aload_n 0, 1) := by decide +kernel
theorem dX9_comes_99 : decode cX9_comes 99 = .ok (.getfield 91, 3) := by decide +kernel
theorem dX9_comes_102 : decode cX9_comes 102 = .ok (.iload_n 1, 1) := by decide +kernel
theorem dX9_comes_103 : decode cX9_comes 103 = .ok (.iconst 1, 1) := by decide +kernel
theorem dX9_comes_104 : decode cX9_comes 104 = .ok (.isub, 1) := by decide +kernel
theorem dX9_comes_105 : decode cX9_comes 105 = .ok (.iload_n 3, 1) := by decide +kernel
theorem dX9_comes_106 : decode cX9_comes 106 = .ok (.aload_n 0, 1) := by decide +kernel
theorem dX9_comes_107 : decode cX9_comes 107 = .ok (.getfield 91, 3) := by decide +kernel
theorem dX9_comes_110 : decode cX9_comes 110 = .ok (.iload_n 1, 1) := by decide +kernel
theorem dX9_comes_111 : decode cX9_comes 111 = .ok (.iconst 1, 1) := by decide +kernel
theorem dX9_comes_112 : decode cX9_comes 112 = .ok (.isub, 1) := by decide +kernel
theorem dX9_comes_113 : decode cX9_comes 113 = .ok (.iaload, 1) := by decide +kernel
theorem dX9_comes_114 : decode cX9_comes 114 = .ok (.aload_n 0, 1) := by decide +kernel
theorem dX9_comes_115 : decode cX9_comes 115 = .ok (.getfield 91, 3) := by decide +kernel
theorem dX9_comes_118 : decode cX9_comes 118 = .ok (.iload_n 1, 1) := by decide +kernel
theorem dX9_comes_119 : decode cX9_comes 119 = .ok (.iaload, 1) := by decide +kernel
theorem dX9_comes_120 : decode cX9_comes 120 = .ok (.invokestatic 369, 3) := by decide +kernel
theorem dX9_comes_123 : decode cX9_comes 123 = .ok (.iastore, 1) := by decide +kernel
theorem dX9_comes_124 : decode cX9_comes 124 = .ok (.iinc 2 1, 3) := by decide +kernel
theorem dX9_comes_127 : decode cX9_comes 127 = .ok (.goto (-115), 3) := by decide +kernel
theorem dX9_comes_130 : decode cX9_comes 130 = .ok (.aload_n 0, 1) := by decide +kernel
theorem dX9_comes_131 : decode cX9_comes 131 = .ok (.getfield 91, 3) := by decide +kernel
theorem dX9_comes_134 : decode cX9_comes 134 = .ok (.iconst 0, 1) := by decide +kernel
theorem dX9_comes_135 : decode cX9_comes 135 = .ok (.iaload, 1) := by decide +kernel
theorem dX9_comes_136 : decode cX9_comes 136 = .ok (.ireturn, 1) := by decide +kernel
theorem dX9_fault_0 : decode cX9_fault 0 = .ok (.iload_n 1, 1) := by decide +kernel
theorem dX9_fault_1 : decode cX9_fault 1 = .ok (.ifCond .ne 10, 3) := by decide +kernel
theorem dX9_fault_4 : decode cX9_fault 4 = .ok (.aload_n 0, 1) := by decide +kernel
theorem dX9_fault_5 : decode cX9_fault 5 = .ok (.getfield 155, 3) := by decide +kernel
theorem dX9_fault_8 : decode cX9_fault 8 = .ok (.goto 16, 3) := by decide +kernel
theorem dX9_fault_11 : decode cX9_fault 11 = .ok (.iload_n 1, 1) := by decide +kernel
theorem dX9_fault_12 : decode cX9_fault 12 = .ok (.iconst 1, 1) := by decide +kernel
theorem dX9_fault_13 : decode cX9_fault 13 = .ok (.if_icmp .ne 10, 3) := by decide +kernel
theorem dX9_fault_16 : decode cX9_fault 16 = .ok (.aload_n 0, 1) := by decide +kernel
theorem dX9_fault_17 : decode cX9_fault 17 = .ok (.getfield 16, 3) := by decide +kernel
theorem dX9_fault_20 : decode cX9_fault 20 = .ok (.goto 4, 3) := by decide +kernel
theorem dX9_fault_23 : decode cX9_fault 23 = .ok (.iconst (-1), 1) := by decide +kernel
theorem dX9_fault_24 : decode cX9_fault 24 = .ok (.ireturn, 1) := by decide +kernel
theorem dX9_isIn_0 : decode cX9_isIn 0 = .ok (.iload_n 0, 1) := by decide +kernel
theorem dX9_isIn_1 : decode cX9_isIn 1 = .ok (.iload_n 1, 1) := by decide +kernel
theorem dX9_isIn_2 : decode cX9_isIn 2 = .ok (.if_icmp .lt 12, 3) := by decide +kernel
theorem dX9_isIn_5 : decode cX9_isIn 5 = .ok (.iload_n 0, 1) := by decide +kernel
theorem dX9_isIn_6 : decode cX9_isIn 6 = .ok (.iload_n 2, 1) := by decide +kernel
theorem dX9_isIn_7 : decode cX9_isIn 7 = .ok (.if_icmp .gt 7, 3) := by decide +kernel
theorem dX9_isIn_10 : decode cX9_isIn 10 = .ok (.iconst 1, 1) := by decide +kernel
theorem dX9_isIn_11 : decode cX9_isIn 11 = .ok (.goto 4, 3) := by decide +kernel
theorem dX9_isIn_14 : decode cX9_isIn 14 = .ok (.iconst 0, 1) := by decide +kernel
theorem dX9_isIn_15 : decode cX9_isIn 15 = .ok (.ireturn, 1) := by decide +kernel
theorem dX9_bit_0 : decode cX9_bit 0 = .ok (.iload_n 0, 1) := by decide +kernel
theorem dX9_bit_1 : decode cX9_bit 1 = .ok (.iload_n 1, 1) := by decide +kernel
theorem dX9_bit_2 : decode cX9_bit 2 = .ok (.ishr, 1) := by decide +kernel
theorem dX9_bit_3 : decode cX9_bit 3 = .ok (.iconst 1, 1) := by decide +kernel
theorem dX9_bit_4 : decode cX9_bit 4 = .ok (.iand, 1) := by decide +kernel
