theorem dX9_readTenant_11 : decode cX9_readTenant 11 = .ok (.aload_n 0, 1) := by decide +kernel
theorem dX9_readTenant_12 : decode cX9_readTenant 12 = .ok (.getfield 259, 3) := by decide +kernel
theorem dX9_readTenant_15 : decode cX9_readTenant 15 = .ok (.iaload, 1) := by decide +kernel
theorem dX9_readTenant_16 : decode cX9_readTenant 16 = .ok (.iadd, 1) := by decide +kernel
theorem dX9_readTenant_17 : decode cX9_readTenant 17 = .ok (.istore_n 1, 1) := by decide +kernel
theorem dX9_readTenant_18 : decode cX9_readTenant 18 = .ok (.aload_n 0, 1) := by decide +kernel
theorem dX9_readTenant_19 : decode cX9_readTenant 19 = .ok (.getfield 76, 3) := by decide +kernel
theorem dX9_readTenant_22 : decode cX9_readTenant 22 = .ok (.iload_n 1, 1) := by decide +kernel
theorem dX9_readTenant_23 : decode cX9_readTenant 23 = .ok (.aload_n 0, 1) := by decide +kernel
theorem dX9_readTenant_24 : decode cX9_readTenant 24 = .ok (.aload_n 0, 1) := by decide +kernel
theorem dX9_readTenant_25 : decode cX9_readTenant 25 = .ok (.aload_n 0, 1) := by decide +kernel
theorem dX9_readTenant_26 : decode cX9_readTenant 26 = .ok (.getfield 76, 3) := by decide +kernel
theorem dX9_readTenant_29 : decode cX9_readTenant 29 = .ok (.bipush 7, 2) := by decide +kernel
theorem dX9_readTenant_31 : decode cX9_readTenant 31 = .ok (.aload_n 0, 1) := by decide +kernel
theorem dX9_readTenant_32 : decode cX9_readTenant 32 = .ok (.getfield 259, 3) := by decide +kernel
theorem dX9_readTenant_35 : decode cX9_readTenant 35 = .ok (.imul, 1) := by decide +kernel
theorem dX9_readTenant_36 : decode cX9_readTenant 36 = .ok (.aload_n 0, 1) := by decide +kernel
theorem dX9_readTenant_37 : decode cX9_readTenant 37 = .ok (.getfield 27, 3) := by decide +kernel
theorem dX9_readTenant_40 : decode cX9_readTenant 40 = .ok (.aload_n 0, 1) := by decide +kernel
theorem dX9_readTenant_41 : decode cX9_readTenant 41 = .ok (.getfield 259, 3) := by decide +kernel
theorem dX9_readTenant_44 : decode cX9_readTenant 44 = .ok (.iaload, 1) := by decide +kernel
theorem dX9_readTenant_45 : decode cX9_readTenant 45 = .ok (.invokevirtual 296, 3) := by decide +kernel
theorem dX9_readTenant_48 : decode cX9_readTenant 48 = .ok (.invokevirtual 304, 3) := by decide +kernel
theorem dX9_readTenant_51 : decode cX9_readTenant 51 = .ok (.lastore, 1) := by decide +kernel
theorem dX9_readTenant_52 : decode cX9_readTenant 52 = .ok (.aload_n 0, 1) := by decide +kernel
theorem dX9_readTenant_53 : decode cX9_readTenant 53 = .ok (.getfield 51, 3) := by decide +kernel
theorem dX9_readTenant_56 : decode cX9_readTenant 56 = .ok (.iload_n 1, 1) := by decide +kernel
theorem dX9_readTenant_57 : decode cX9_readTenant 57 = .ok (.aload_n 0, 1) := by decide +kernel
theorem dX9_readTenant_58 : decode cX9_readTenant 58 = .ok (.ldc2_w 170, 3) := by decide +kernel
theorem dX9_readTenant_61 : decode cX9_readTenant 61 = .ok (.iconst 0, 1) := by decide +kernel
theorem dX9_readTenant_62 : decode cX9_readTenant 62 = .ok (.bipush 99, 2) := by decide +kernel
theorem dX9_readTenant_64 : decode cX9_readTenant 64 = .ok (.invokevirtual 255, 3) := by decide +kernel
theorem dX9_readTenant_67 : decode cX9_readTenant 67 = .ok (.iastore, 1) := by decide +kernel
theorem dX9_readTenant_68 : decode cX9_readTenant 68 = .ok (.aload_n 0, 1) := by decide +kernel
theorem dX9_readTenant_69 : decode cX9_readTenant 69 = .ok (.getfield 54, 3) := by decide +kernel
theorem dX9_readTenant_72 : decode cX9_readTenant 72 = .ok (.iload_n 1, 1) := by decide +kernel
theorem dX9_readTenant_73 : decode cX9_readTenant 73 = .ok (.aload_n 0, 1) := by decide +kernel
theorem dX9_readTenant_74 : decode cX9_readTenant 74 = .ok (.ldc2_w 172, 3) := by decide +kernel
theorem dX9_readTenant_77 : decode cX9_readTenant 77 = .ok (.bipush 9, 2) := by decide +kernel
theorem dX9_readTenant_79 : decode cX9_readTenant 79 = .ok (.invokevirtual 317, 3) := by decide +kernel
theorem dX9_readTenant_82 : decode cX9_readTenant 82 = .ok (.iastore, 1) := by decide +kernel
theorem dX9_readTenant_83 : decode cX9_readTenant 83 = .ok (.aload_n 0, 1) := by decide +kernel
theorem dX9_readTenant_84 : decode cX9_readTenant 84 = .ok (.getfield 57, 3) := by decide +kernel
theorem dX9_readTenant_87 : decode cX9_readTenant 87 = .ok (.iload_n 1, 1) := by decide +kernel
theorem dX9_readTenant_88 : decode cX9_readTenant 88 = .ok (.aload_n 0, 1) := by decide +kernel
theorem dX9_readTenant_89 : decode cX9_readTenant 89 = .ok (.ldc2_w 174, 3) := by decide +kernel
theorem dX9_readTenant_92 : decode cX9_readTenant 92 = .ok (.bipush 9, 2) := by decide +kernel
theorem dX9_readTenant_94 : decode cX9_readTenant 94 = .ok (.invokevirtual 317, 3) := by decide +kernel
theorem dX9_readTenant_97 : decode cX9_readTenant 97 = .ok (.iastore, 1) := by decide +kernel
theorem dX9_readTenant_98 : decode cX9_readTenant 98 = .ok (.aload_n 0, 1) := by decide +kernel
theorem dX9_readTenant_99 : decode cX9_readTenant 99 = .ok (.getfield 60, 3) := by decide +kernel
theorem dX9_readTenant_102 : decode cX9_readTenant 102 = .ok (.iload_n 1, 1) := by decide +kernel
theorem dX9_readTenant_103 : decode cX9_readTenant 103 = .ok (.iconst (-1), 1) := by decide +kernel
theorem dX9_readTenant_104 : decode cX9_readTenant 104 = .ok (.iastore, 1) := by decide +kernel
theorem dX9_readTenant_105 : decode cX9_readTenant 105 = .ok (.aload_n 0, 1) := by decide +kernel
theorem dX9_readTenant_106 : decode cX9_readTenant 106 = .ok (.ldc2_w 176, 3) := by decide +kernel
theorem dX9_readTenant_109 : decode cX9_readTenant 109 = .ok (.invokevirtual 308, 3) := by decide +kernel
theorem dX9_readTenant_112 : decode cX9_readTenant 112 = .ok (.ifCond .eq 89, 3) := by decide +kernel
theorem dX9_readTenant_115 : decode cX9_readTenant 115 = .ok (.aload_n 0, 1) := by decide +kernel
theorem dX9_readTenant_116 : decode cX9_readTenant 116 = .ok (.invokevirtual 234, 3) := by decide +kernel
theorem dX9_readTenant_119 : decode cX9_readTenant 119 = .ok (.ifCond .eq 10, 3) := by decide +kernel
theorem dX9_readTenant_122 : decode cX9_readTenant 122 = .ok (.aload_n 0, 1) := by decide +kernel
theorem dX9_readTenant_123 : decode cX9_readTenant 123 = .ok (.invokevirtual 314, 3) := by decide +kernel
theorem dX9_readTenant_126 : decode cX9_readTenant 126 = .ok (.goto 4, 3) := by decide +kernel
theorem dX9_readTenant_129 : decode cX9_readTenant 129 = .ok (.iconst (-1), 1) := by decide +kernel
theorem dX9_readTenant_130 : decode cX9_readTenant 130 = .ok (.istore_n 2, 1) := by decide +kernel
theorem dX9_readTenant_131 : decode cX9_readTenant 131 = .ok (.iconst 0, 1) := by decide +kernel
theorem dX9_readTenant_132 : decode cX9_readTenant 132 = .ok (.istore_n 3, 1) := by decide +kernel
theorem dX9_readTenant_133 : decode cX9_readTenant 133 = .ok (.iload_n 3, 1) := by decide +kernel
theorem dX9_readTenant_134 : decode cX9_readTenant 134 = .ok (.aload_n 0, 1) := by decide +kernel
theorem dX9_readTenant_135 : decode cX9_readTenant 135 = .ok (.getfield 27, 3) := by decide +kernel
theorem dX9_readTenant_138 : decode cX9_readTenant 138 = .ok (.aload_n 0, 1) := by decide +kernel
theorem dX9_readTenant_139 : decode cX9_readTenant 139 = .ok (.getfield 259, 3) := by decide +kernel
theorem dX9_readTenant_142 : decode cX9_readTenant 142 = .ok (.iaload, 1) := by decide +kernel
theorem dX9_readTenant_143 : decode cX9_readTenant 143 = .ok (.if_icmp .ge 47, 3) := by decide +kernel
theorem dX9_readTenant_146 : decode cX9_readTenant 146 = .ok (.aload_n 0, 1) := by decide +kernel
theorem dX9_readTenant_147 : decode cX9_readTenant 147 = .ok (.invokevirtual 234, 3) := by decide +kernel
theorem dX9_readTenant_150 : decode cX9_readTenant 150 = .ok (.ifCond .eq 34, 3) := by decide +kernel
theorem dX9_readTenant_153 : decode cX9_readTenant 153 = .ok (.iload_n 2, 1) := by decide +kernel
theorem dX9_readTenant_154 : decode cX9_readTenant 154 = .ok (.ifCond .lt 30, 3) := by decide +kernel
theorem dX9_readTenant_157 : decode cX9_readTenant 157 = .ok (.aload_n 0, 1) := by decide +kernel
theorem dX9_readTenant_158 : decode cX9_readTenant 158 = .ok (.getfield 60, 3) := by decide +kernel
theorem dX9_readTenant_161 : decode cX9_readTenant 161 = .ok (.bipush 7, 2) := by decide +kernel
theorem dX9_readTenant_163 : decode cX9_readTenant 163 = .ok (.aload_n 0, 1) := by decide +kernel
theorem dX9_readTenant_164 : decode cX9_readTenant 164 = .ok (.getfield 259, 3) := by decide +kernel
theorem dX9_readTenant_167 : decode cX9_readTenant 167 = .ok (.imul, 1) := by decide +kernel
theorem dX9_readTenant_168 : decode cX9_readTenant 168 = .ok (.iload_n 3, 1) := by decide +kernel
theorem dX9_readTenant_169 : decode cX9_readTenant 169 = .ok (.iadd, 1) := by decide +kernel
theorem dX9_readTenant_170 : decode cX9_readTenant 170 = .ok (.iaload, 1) := by decide +kernel
theorem dX9_readTenant_171 : decode cX9_readTenant 171 = .ok (.iload_n 2, 1) := by decide +kernel
theorem dX9_readTenant_172 : decode cX9_readTenant 172 = .ok (.if_icmp .ne 12, 3) := by decide +kernel
theorem dX9_readTenant_175 : decode cX9_readTenant 175 = .ok (.aload_n 0, 1) := by decide +kernel
theorem dX9_readTenant_176 : decode cX9_readTenant 176 = .ok (.iconst 3, 1) := by decide +kernel
theorem dX9_readTenant_177 : decode cX9_readTenant 177 = .ok (.aload_n 0, 1) := by decide +kernel
theorem dX9_readTenant_178 : decode cX9_readTenant 178 = .ok (.getfield 199, 3) := by decide +kernel
theorem dX9_readTenant_181 : decode cX9_readTenant 181 = .ok (.invokevirtual 230, 3) := by decide +kernel
theorem dX9_readTenant_184 : decode cX9_readTenant 184 = .ok (.iinc 3 1, 3) := by decide +kernel
theorem dX9_readTenant_187 : decode cX9_readTenant 187 = .ok (.goto (-54), 3) := by decide +kernel
theorem dX9_readTenant_190 : decode cX9_readTenant 190 = .ok (.aload_n 0, 1) := by decide +kernel
theorem dX9_readTenant_191 : decode cX9_readTenant 191 = .ok (.getfield 60, 3) := by decide +kernel
theorem dX9_readTenant_194 : decode cX9_readTenant 194 = .ok (.iload_n 1, 1) := by decide +kernel
theorem dX9_readTenant_195 : decode cX9_readTenant 195 = .ok (.aload_n 0, 1) := by decide +kernel
theorem dX9_readTenant_196 : decode cX9_readTenant 196 = .ok (.iload_n 2, 1) := by decide +kernel
theorem dX9_readTenant_197 : decode cX9_readTenant 197 = .ok (.invokevirtual 311, 3) := by decide +kernel
theorem dX9_readTenant_200 : decode cX9_readTenant 200 = .ok (.iastore, 1) := by decide +kernel
theorem dX9_readTenant_201 : decode cX9_readTenant 201 = .ok (.aload_n 0, 1) := by decide +kernel
theorem dX9_readTenant_202 : decode cX9_readTenant 202 = .ok (.getfield 27, 3) := by decide +kernel
theorem dX9_readTenant_205 : decode cX9_readTenant 205 = .ok (.aload_n 0, 1) := by decide +kernel
theorem dX9_readTenant_206 : decode cX9_readTenant 206 = .ok (.getfield 259, 3) := by decide +kernel
theorem dX9_readTenant_209 : decode cX9_readTenant 209 = .ok (.dup2, 1) := by decide +kernel
theorem dX9_readTenant_210 : decode cX9_readTenant 210 = .ok (.iaload, 1) := by decide +kernel
theorem dX9_readTenant_211 : decode cX9_readTenant 211 = .ok (.iconst 1, 1) := by decide +kernel
theorem dX9_readTenant_212 : decode cX9_readTenant 212 = .ok (.iadd, 1) := by decide +kernel
theorem dX9_readTenant_213 : decode cX9_readTenant 213 = .ok (.iastore, 1) := by decide +kernel
theorem dX9_readTenant_214 : decode cX9_readTenant 214 = .ok (.return_, 1) := by decide +kernel
theorem iX9_isFull_X9 : ∀ w ∈ wsX90, w ∈ wsX9_isFull := (fun _ h => List.mem_cons_of_mem _ (List.mem_append_right _ h))
theorem iX9_readCat_X9 : ∀ w ∈ wsX90, w ∈ wsX9_readCat := (fun _ h => List.mem_cons_of_mem _ (List.mem_append_right _ h))
theorem iX9_readRoom_X9 : ∀ w ∈ wsX90, w ∈ wsX9_readRoom := (fun _ h => List.mem_cons_of_mem _ (List.mem_append_right _ h))
theorem iX9_readTenant_X9 : ∀ w ∈ wsX90, w ∈ wsX9_readTenant := (fun _ h => List.mem_cons_of_mem _ (List.mem_append_right _ h))
theorem iX9_readLine_X9 : ∀ w ∈ wsX90, w ∈ wsX9_readLine := (fun _ h => List.mem_cons_of_mem _ (List.mem_append_right _ h))
theorem iX9_mews_X9 : ∀ w ∈ wsX90, w ∈ wsX9_mews := (fun _ h => List.mem_cons_of_mem _ (List.mem_append_right _ h))
