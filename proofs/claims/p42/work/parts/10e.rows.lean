theorem dX5_readCat_77 : decode cX5_readCat 77 = .ok (.iastore, 1) := by decide +kernel
theorem dX5_readCat_78 : decode cX5_readCat 78 = .ok (.aload_n 0, 1) := by decide +kernel
theorem dX5_readCat_79 : decode cX5_readCat 79 = .ok (.bipush 7, 2) := by decide +kernel
theorem dX5_readCat_81 : decode cX5_readCat 81 = .ok (.invokevirtual 166, 3) := by decide +kernel
theorem dX5_readCat_84 : decode cX5_readCat 84 = .ok (.ifCond .eq 29, 3) := by decide +kernel
theorem dX5_readCat_87 : decode cX5_readCat 87 = .ok (.aload_n 0, 1) := by decide +kernel
theorem dX5_readCat_88 : decode cX5_readCat 88 = .ok (.aload_n 0, 1) := by decide +kernel
theorem dX5_readCat_89 : decode cX5_readCat 89 = .ok (.getfield 29, 3) := by decide +kernel
theorem dX5_readCat_92 : decode cX5_readCat 92 = .ok (.iload_n 1, 1) := by decide +kernel
theorem dX5_readCat_93 : decode cX5_readCat 93 = .ok (.invokevirtual 169, 3) := by decide +kernel
theorem dX5_readCat_96 : decode cX5_readCat 96 = .ok (.istore_n 2, 1) := by decide +kernel
theorem dX5_readCat_97 : decode cX5_readCat 97 = .ok (.iload_n 2, 1) := by decide +kernel
theorem dX5_readCat_98 : decode cX5_readCat 98 = .ok (.ifCond .ge 5, 3) := by decide +kernel
theorem dX5_readCat_101 : decode cX5_readCat 101 = .ok (.iconst 0, 1) := by decide +kernel
theorem dX5_readCat_102 : decode cX5_readCat 102 = .ok (.ireturn, 1) := by decide +kernel
theorem dX5_readCat_103 : decode cX5_readCat 103 = .ok (.aload_n 0, 1) := by decide +kernel
theorem dX5_readCat_104 : decode cX5_readCat 104 = .ok (.getfield 12, 3) := by decide +kernel
theorem dX5_readCat_107 : decode cX5_readCat 107 = .ok (.getfield 163, 3) := by decide +kernel
theorem dX5_readCat_110 : decode cX5_readCat 110 = .ok (.iload_n 1, 1) := by decide +kernel
theorem dX5_readCat_111 : decode cX5_readCat 111 = .ok (.iload_n 2, 1) := by decide +kernel
theorem dX5_readCat_112 : decode cX5_readCat 112 = .ok (.iastore, 1) := by decide +kernel
theorem dX5_readCat_113 : decode cX5_readCat 113 = .ok (.aload_n 0, 1) := by decide +kernel
theorem dX5_readCat_114 : decode cX5_readCat 114 = .ok (.getfield 12, 3) := by decide +kernel
theorem dX5_readCat_117 : decode cX5_readCat 117 = .ok (.dup, 1) := by decide +kernel
theorem dX5_readCat_118 : decode cX5_readCat 118 = .ok (.getfield 104, 3) := by decide +kernel
theorem dX5_readCat_121 : decode cX5_readCat 121 = .ok (.iconst 1, 1) := by decide +kernel
theorem dX5_readCat_122 : decode cX5_readCat 122 = .ok (.iadd, 1) := by decide +kernel
theorem dX5_readCat_123 : decode cX5_readCat 123 = .ok (.putfield 104, 3) := by decide +kernel
theorem dX5_readCat_126 : decode cX5_readCat 126 = .ok (.iconst 1, 1) := by decide +kernel
theorem dX5_readCat_127 : decode cX5_readCat 127 = .ok (.ireturn, 1) := by decide +kernel
set_option maxRecDepth 20000 in
theorem ggX5_readRoom_X5_refuse : GoodIn wsX5_readRoom wsX5_refuse := goodIn_r _ [12, 13, 14, 15, 16, 17, 11, 18, 19, 20, 161, 162, 163, 164, 165, 166, 167, 168, 169, 170, 171, 172, 173, 174, 175] rfl (by decide +kernel)
set_option maxRecDepth 20000 in
theorem gX5_readRoom_X5_refuse : GoodIn wsX5_readRoom (wsV RX5 146 RX5 yX5_refuse wsX5_refuse) := goodIn_app (goodIn_r _ [8, 9, 10, 11] rfl (by decide +kernel)) ggX5_readRoom_X5_refuse
set_option maxRecDepth 20000 in
theorem ggX5_readRoom_X5_advance : GoodIn wsX5_readRoom wsX5_advance := goodIn_r _ [24, 25, 14, 13, 26, 27, 28, 11, 29, 30, 31, 32, 33, 34, 35, 36, 37, 38, 39, 40, 41, 42, 43, 44, 45, 46, 47, 48, 49, 50, 51, 52, 53, 54, 55, 56, 57, 58, 59, 60, 61, 62, 63, 64, 65, 66, 67, 68, 69, 70, 71, 72, 73, 74, 75, 76, 77, 78, 79, 80, 81, 82, 83, 84, 85, 86, 87, 88, 89, 90, 91, 92, 93, 94, 95, 96, 97, 98, 99, 100, 101, 102, 103, 104, 105, 106, 107, 108, 109, 110, 111, 112, 113, 114, 115, 116, 117, 118, 119, 120, 121, 122, 123, 124, 125, 126, 127, 128, 129, 130, 131, 132, 133, 134, 135, 136, 137, 138, 139, 140, 141, 142, 143, 144, 145, 146, 147, 148, 161, 162, 163, 164, 165, 166, 167, 168, 169, 170, 171, 172, 173, 174, 175] rfl (by decide +kernel)
set_option maxRecDepth 20000 in
theorem gX5_readRoom_X5_advance : GoodIn wsX5_readRoom (wsV RX5 90 RX5 yX5_advance wsX5_advance) := goodIn_app (goodIn_r _ [21, 22, 23, 11] rfl (by decide +kernel)) ggX5_readRoom_X5_advance
set_option maxRecDepth 20000 in
theorem ggX5_readRoom_X5_readNewName : GoodIn wsX5_readRoom wsX5_readNewName := goodIn_r _ [152, 13, 14, 42, 8, 9, 10, 11, 12, 15, 16, 17, 18, 19, 20, 48, 49, 50, 51, 21, 22, 23, 24, 25, 26, 27, 28, 29, 30, 31, 32, 33, 34, 35, 36, 37, 38, 39, 40, 41, 43, 44, 45, 46, 47, 52, 53, 54, 55, 56, 57, 58, 59, 60, 61, 62, 63, 64, 65, 66, 67, 68, 69, 70, 71, 72, 73, 74, 75, 76, 77, 78, 79, 80, 81, 82, 83, 84, 85, 86, 87, 88, 89, 90, 91, 92, 93, 94, 95, 96, 97, 98, 99, 100, 101, 102, 103, 104, 105, 106, 107, 108, 109, 110, 111, 112, 113, 114, 115, 116, 117, 118, 119, 120, 121, 122, 123, 124, 125, 126, 127, 128, 129, 130, 131, 132, 133, 134, 135, 136, 137, 138, 139, 140, 141, 142, 143, 144, 145, 146, 147, 148, 161, 162, 163, 164, 165, 166, 167, 168, 169, 170, 171, 172, 173, 174, 175] rfl (by decide +kernel)
set_option maxRecDepth 20000 in
theorem gX5_readRoom_X5_readNewName : GoodIn wsX5_readRoom (wsV RX5 149 RX5 yX5_readNewName wsX5_readNewName) := goodIn_app (goodIn_r _ [149, 150, 151, 11] rfl (by decide +kernel)) ggX5_readRoom_X5_readNewName
set_option maxRecDepth 20000 in
theorem ggX5_readRoom_X5_follows : GoodIn wsX5_readRoom wsX5_follows := goodIn_r _ [156, 13, 21, 22, 23, 11, 24, 25, 14, 26, 27, 28, 29, 30, 31, 32, 33, 34, 35, 36, 37, 38, 39, 40, 41, 42, 43, 44, 45, 46, 47, 48, 49, 50, 51, 52, 53, 54, 55, 56, 57, 58, 59, 60, 61, 62, 63, 64, 65, 66, 67, 68, 69, 70, 71, 72, 73, 74, 75, 76, 77, 78, 79, 80, 81, 82, 83, 84, 85, 86, 87, 88, 89, 90, 91, 92, 93, 94, 95, 96, 97, 98, 99, 100, 101, 102, 103, 104, 105, 106, 107, 108, 109, 110, 111, 112, 113, 114, 115, 116, 117, 118, 119, 120, 121, 122, 123, 124, 125, 126, 127, 128, 129, 130, 131, 132, 133, 134, 135, 136, 137, 138, 139, 140, 141, 142, 143, 144, 145, 146, 147, 148, 161, 162, 163, 164, 165, 166, 167, 168, 169, 170, 171, 172, 173, 174, 175] rfl (by decide +kernel)
set_option maxRecDepth 20000 in
theorem gX5_readRoom_X5_follows : GoodIn wsX5_readRoom (wsV RX5 166 RX5 yX5_follows wsX5_follows) := goodIn_app (goodIn_r _ [153, 154, 155, 11] rfl (by decide +kernel)) ggX5_readRoom_X5_follows
set_option maxRecDepth 20000 in
theorem ggX5_readRoom_X5_readKnownName : GoodIn wsX5_readRoom wsX5_readKnownName := goodIn_r _ [160, 13, 14, 8, 9, 10, 11, 12, 15, 16, 17, 18, 19, 20, 48, 49, 50, 51, 42, 21, 22, 23, 24, 25, 26, 27, 28, 29, 30, 31, 32, 33, 34, 35, 36, 37, 38, 39, 40, 41, 43, 44, 45, 46, 47, 52, 53, 54, 55, 56, 57, 58, 59, 60, 61, 62, 63, 64, 65, 66, 67, 68, 69, 70, 71, 72, 73, 74, 75, 76, 77, 78, 79, 80, 81, 82, 83, 84, 85, 86, 87, 88, 89, 90, 91, 92, 93, 94, 95, 96, 97, 98, 99, 100, 101, 102, 103, 104, 105, 106, 107, 108, 109, 110, 111, 112, 113, 114, 115, 116, 117, 118, 119, 120, 121, 122, 123, 124, 125, 126, 127, 128, 129, 130, 131, 132, 133, 134, 135, 136, 137, 138, 139, 140, 141, 142, 143, 144, 145, 146, 147, 148, 161, 162, 163, 164, 165, 166, 167, 168, 169, 170, 171, 172, 173, 174, 175] rfl (by decide +kernel)
set_option maxRecDepth 20000 in
theorem gX5_readRoom_X5_readKnownName : GoodIn wsX5_readRoom (wsV RX5 169 RX5 yX5_readKnownName wsX5_readKnownName) := goodIn_app (goodIn_r _ [157, 158, 159, 11] rfl (by decide +kernel)) ggX5_readRoom_X5_readKnownName
theorem dX5_readRoom_0 : decode cX5_readRoom 0 = .ok (.aload_n 0, 1) := by decide +kernel
theorem dX5_readRoom_1 : decode cX5_readRoom 1 = .ok (.getfield 12, 3) := by decide +kernel
theorem dX5_readRoom_4 : decode cX5_readRoom 4 = .ok (.getfield 173, 3) := by decide +kernel
theorem dX5_readRoom_7 : decode cX5_readRoom 7 = .ok (.istore_n 1, 1) := by decide +kernel
theorem dX5_readRoom_8 : decode cX5_readRoom 8 = .ok (.iload_n 1, 1) := by decide +kernel
theorem dX5_readRoom_9 : decode cX5_readRoom 9 = .ok (.bipush 8, 2) := by decide +kernel
theorem dX5_readRoom_11 : decode cX5_readRoom 11 = .ok (.if_icmp .lt 8, 3) := by decide +kernel
theorem dX5_readRoom_14 : decode cX5_readRoom 14 = .ok (.aload_n 0, 1) := by decide +kernel
theorem dX5_readRoom_15 : decode cX5_readRoom 15 = .ok (.invokevirtual 146, 3) := by decide +kernel
theorem dX5_readRoom_18 : decode cX5_readRoom 18 = .ok (.ireturn, 1) := by decide +kernel
theorem dX5_readRoom_19 : decode cX5_readRoom 19 = .ok (.aload_n 0, 1) := by decide +kernel
theorem dX5_readRoom_20 : decode cX5_readRoom 20 = .ok (.invokevirtual 90, 3) := by decide +kernel
theorem dX5_readRoom_23 : decode cX5_readRoom 23 = .ok (.aload_n 0, 1) := by decide +kernel
theorem dX5_readRoom_24 : decode cX5_readRoom 24 = .ok (.aload_n 0, 1) := by decide +kernel
theorem dX5_readRoom_25 : decode cX5_readRoom 25 = .ok (.getfield 32, 3) := by decide +kernel
theorem dX5_readRoom_28 : decode cX5_readRoom 28 = .ok (.iload_n 1, 1) := by decide +kernel
theorem dX5_readRoom_29 : decode cX5_readRoom 29 = .ok (.invokevirtual 149, 3) := by decide +kernel
theorem dX5_readRoom_32 : decode cX5_readRoom 32 = .ok (.ifCond .ne 5, 3) := by decide +kernel
theorem dX5_readRoom_35 : decode cX5_readRoom 35 = .ok (.iconst 0, 1) := by decide +kernel
theorem dX5_readRoom_36 : decode cX5_readRoom 36 = .ok (.ireturn, 1) := by decide +kernel
theorem dX5_readRoom_37 : decode cX5_readRoom 37 = .ok (.aload_n 0, 1) := by decide +kernel
theorem dX5_readRoom_38 : decode cX5_readRoom 38 = .ok (.bipush 8, 2) := by decide +kernel
theorem dX5_readRoom_40 : decode cX5_readRoom 40 = .ok (.invokevirtual 166, 3) := by decide +kernel
theorem dX5_readRoom_43 : decode cX5_readRoom 43 = .ok (.ifCond .eq 38, 3) := by decide +kernel
theorem dX5_readRoom_46 : decode cX5_readRoom 46 = .ok (.aload_n 0, 1) := by decide +kernel
theorem dX5_readRoom_47 : decode cX5_readRoom 47 = .ok (.aload_n 0, 1) := by decide +kernel
theorem dX5_readRoom_48 : decode cX5_readRoom 48 = .ok (.getfield 29, 3) := by decide +kernel
theorem dX5_readRoom_51 : decode cX5_readRoom 51 = .ok (.aload_n 0, 1) := by decide +kernel
theorem dX5_readRoom_52 : decode cX5_readRoom 52 = .ok (.getfield 12, 3) := by decide +kernel
theorem dX5_readRoom_55 : decode cX5_readRoom 55 = .ok (.getfield 104, 3) := by decide +kernel
theorem dX5_readRoom_58 : decode cX5_readRoom 58 = .ok (.invokevirtual 169, 3) := by decide +kernel
theorem dX5_readRoom_61 : decode cX5_readRoom 61 = .ok (.istore_n 2, 1) := by decide +kernel
theorem dX5_readRoom_62 : decode cX5_readRoom 62 = .ok (.iload_n 2, 1) := by decide +kernel
theorem dX5_readRoom_63 : decode cX5_readRoom 63 = .ok (.ifCond .ge 5, 3) := by decide +kernel
theorem dX5_readRoom_66 : decode cX5_readRoom 66 = .ok (.iconst 0, 1) := by decide +kernel
theorem dX5_readRoom_67 : decode cX5_readRoom 67 = .ok (.ireturn, 1) := by decide +kernel
theorem dX5_readRoom_68 : decode cX5_readRoom 68 = .ok (.aload_n 0, 1) := by decide +kernel
theorem dX5_readRoom_69 : decode cX5_readRoom 69 = .ok (.getfield 12, 3) := by decide +kernel
theorem dX5_readRoom_72 : decode cX5_readRoom 72 = .ok (.getfield 100, 3) := by decide +kernel
theorem dX5_readRoom_75 : decode cX5_readRoom 75 = .ok (.getfield 176, 3) := by decide +kernel
theorem dX5_readRoom_78 : decode cX5_readRoom 78 = .ok (.iload_n 1, 1) := by decide +kernel
theorem dX5_readRoom_79 : decode cX5_readRoom 79 = .ok (.iload_n 2, 1) := by decide +kernel
theorem dX5_readRoom_80 : decode cX5_readRoom 80 = .ok (.iastore, 1) := by decide +kernel
theorem dX5_readRoom_81 : decode cX5_readRoom 81 = .ok (.aload_n 0, 1) := by decide +kernel
theorem dX5_readRoom_82 : decode cX5_readRoom 82 = .ok (.getfield 12, 3) := by decide +kernel
theorem dX5_readRoom_85 : decode cX5_readRoom 85 = .ok (.dup, 1) := by decide +kernel
theorem dX5_readRoom_86 : decode cX5_readRoom 86 = .ok (.getfield 173, 3) := by decide +kernel
theorem dX5_readRoom_89 : decode cX5_readRoom 89 = .ok (.iconst 1, 1) := by decide +kernel
theorem dX5_readRoom_90 : decode cX5_readRoom 90 = .ok (.iadd, 1) := by decide +kernel
theorem dX5_readRoom_91 : decode cX5_readRoom 91 = .ok (.putfield 173, 3) := by decide +kernel
theorem dX5_readRoom_94 : decode cX5_readRoom 94 = .ok (.iconst 1, 1) := by decide +kernel
theorem dX5_readRoom_95 : decode cX5_readRoom 95 = .ok (.ireturn, 1) := by decide +kernel
set_option maxRecDepth 20000 in
theorem ggX5_readTenant_X5_refuse : GoodIn wsX5_readTenant wsX5_refuse := goodIn_r _ [17, 18, 9, 19, 20, 21, 16, 22, 23, 24, 179, 180, 181, 182, 183, 184, 185, 186, 187, 188, 189, 190, 191, 192, 193] rfl (by decide +kernel)
set_option maxRecDepth 20000 in
theorem gX5_readTenant_X5_refuse : GoodIn wsX5_readTenant (wsV RX5 146 RX5 yX5_refuse wsX5_refuse) := goodIn_app (goodIn_r _ [13, 14, 15, 16] rfl (by decide +kernel)) ggX5_readTenant_X5_refuse
set_option maxRecDepth 20000 in
theorem ggX5_readTenant_X5_advance : GoodIn wsX5_readTenant wsX5_advance := goodIn_r _ [28, 29, 9, 18, 30, 31, 32, 16, 33, 34, 35, 36, 37, 38, 39, 40, 41, 42, 43, 44, 45, 46, 47, 48, 49, 50, 51, 52, 53, 54, 55, 56, 57, 58, 59, 60, 61, 62, 6, 63, 64, 65, 66, 67, 68, 69, 70, 71, 72, 73, 74, 75, 76, 77, 78, 79, 80, 81, 82, 83, 84, 85, 86, 87, 88, 89, 90, 91, 92, 93, 94, 95, 96, 97, 98, 99, 100, 101, 102, 103, 104, 105, 106, 107, 108, 109, 110, 111, 112, 113, 114, 115, 116, 117, 118, 119, 120, 121, 122, 123, 124, 125, 126, 127, 128, 129, 130, 131, 132, 133, 134, 135, 136, 137, 138, 139, 140, 141, 142, 143, 144, 145, 146, 147, 148, 149, 150, 151, 179, 180, 181, 182, 183, 184, 185, 186, 187, 188, 189, 190, 191, 192, 193] rfl (by decide +kernel)
set_option maxRecDepth 20000 in
theorem gX5_readTenant_X5_advance : GoodIn wsX5_readTenant (wsV RX5 90 RX5 yX5_advance wsX5_advance) := goodIn_app (goodIn_r _ [25, 26, 27, 16] rfl (by decide +kernel)) ggX5_readTenant_X5_advance
set_option maxRecDepth 20000 in
theorem ggX5_readTenant_X5_readNewName : GoodIn wsX5_readTenant wsX5_readNewName := goodIn_r _ [155, 18, 9, 46, 13, 14, 15, 16, 17, 19, 20, 21, 22, 23, 24, 52, 53, 54, 55, 25, 26, 27, 28, 29, 30, 31, 32, 33, 34, 35, 36, 37, 38, 39, 40, 41, 42, 43, 44, 45, 47, 48, 49, 50, 51, 56, 57, 58, 59, 60, 61, 62, 6, 63, 64, 65, 66, 67, 68, 69, 70, 71, 72, 73, 74, 75, 76, 77, 78, 79, 80, 81, 82, 83, 84, 85, 86, 87, 88, 89, 90, 91, 92, 93, 94, 95, 96, 97, 98, 99, 100, 101, 102, 103, 104, 105, 106, 107, 108, 109, 110, 111, 112, 113, 114, 115, 116, 117, 118, 119, 120, 121, 122, 123, 124, 125, 126, 127, 128, 129, 130, 131, 132, 133, 134, 135, 136, 137, 138, 139, 140, 141, 142, 143, 144, 145, 146, 147, 148, 149, 150, 151, 179, 180, 181, 182, 183, 184, 185, 186, 187, 188, 189, 190, 191, 192, 193] rfl (by decide +kernel)
set_option maxRecDepth 20000 in
theorem gX5_readTenant_X5_readNewName : GoodIn wsX5_readTenant (wsV RX5 149 RX5 yX5_readNewName wsX5_readNewName) := goodIn_app (goodIn_r _ [152, 153, 154, 16] rfl (by decide +kernel)) ggX5_readTenant_X5_readNewName
set_option maxRecDepth 20000 in
theorem ggX5_readTenant_X5_readWord : GoodIn wsX5_readTenant wsX5_readWord := goodIn_r _ [159, 18, 13, 14, 15, 16, 17, 9, 19, 20, 21, 22, 23, 24, 25, 26, 27, 28, 29, 30, 31, 32, 33, 34, 35, 36, 37, 38, 39, 40, 41, 42, 43, 44, 45, 46, 47, 48, 49, 50, 51, 52, 53, 54, 55, 56, 57, 58, 59, 60, 61, 62, 6, 63, 64, 65, 66, 67, 68, 69, 70, 71, 72, 73, 74, 75, 76, 77, 78, 79, 80, 81, 82, 83, 84, 85, 86, 87, 88, 89, 90, 91, 92, 93, 94, 95, 96, 97, 98, 99, 100, 101, 102, 103, 104, 105, 106, 107, 108, 109, 110, 111, 112, 113, 114, 115, 116, 117, 118, 119, 120, 121, 122, 123, 124, 125, 126, 127, 128, 129, 130, 131, 132, 133, 134, 135, 136, 137, 138, 139, 140, 141, 142, 143, 144, 145, 146, 147, 148, 149, 150, 151, 179, 180, 181, 182, 183, 184, 185, 186, 187, 188, 189, 190, 191, 192, 193] rfl (by decide +kernel)
set_option maxRecDepth 20000 in
theorem gX5_readTenant_X5_readWord : GoodIn wsX5_readTenant (wsV RX5 153 RX5 yX5_readWord wsX5_readWord) := goodIn_app (goodIn_r _ [156, 157, 158, 16] rfl (by decide +kernel)) ggX5_readTenant_X5_readWord
set_option maxRecDepth 20000 in
theorem ggX5_readTenant_X5_readNumber : GoodIn wsX5_readTenant wsX5_readNumber := goodIn_r _ [163, 18, 6, 9, 13, 14, 15, 16, 17, 19, 20, 21, 22, 23, 24, 25, 26, 27, 28, 29, 30, 31, 32, 33, 34, 35, 36, 37, 38, 39, 40, 41, 42, 43, 44, 45, 46, 47, 48, 49, 50, 51, 52, 53, 54, 55, 56, 57, 58, 59, 60, 61, 62, 63, 64, 65, 66, 67, 68, 69, 70, 71, 72, 73, 74, 75, 76, 77, 78, 79, 80, 81, 82, 83, 84, 85, 86, 87, 88, 89, 90, 91, 92, 93, 94, 95, 96, 97, 98, 99, 100, 101, 102, 103, 104, 105, 106, 107, 108, 109, 110, 111, 112, 113, 114, 115, 116, 117, 118, 119, 120, 121, 122, 123, 124, 125, 126, 127, 128, 129, 130, 131, 132, 133, 134, 135, 136, 137, 138, 139, 140, 141, 142, 143, 144, 145, 146, 147, 148, 149, 150, 151, 179, 180, 181, 182, 183, 184, 185, 186, 187, 188, 189, 190, 191, 192, 193] rfl (by decide +kernel)
set_option maxRecDepth 20000 in
theorem gX5_readTenant_X5_readNumber : GoodIn wsX5_readTenant (wsV RX5 156 RX5 yX5_readNumber wsX5_readNumber) := goodIn_app (goodIn_r _ [160, 161, 162, 16] rfl (by decide +kernel)) ggX5_readTenant_X5_readNumber
set_option maxRecDepth 20000 in
theorem ggX5_readTenant_X5_follows : GoodIn wsX5_readTenant wsX5_follows := goodIn_r _ [167, 18, 25, 26, 27, 16, 28, 29, 9, 30, 31, 32, 33, 34, 35, 36, 37, 38, 39, 40, 41, 42, 43, 44, 45, 46, 47, 48, 49, 50, 51, 52, 53, 54, 55, 56, 57, 58, 59, 60, 61, 62, 6, 63, 64, 65, 66, 67, 68, 69, 70, 71, 72, 73, 74, 75, 76, 77, 78, 79, 80, 81, 82, 83, 84, 85, 86, 87, 88, 89, 90, 91, 92, 93, 94, 95, 96, 97, 98, 99, 100, 101, 102, 103, 104, 105, 106, 107, 108, 109, 110, 111, 112, 113, 114, 115, 116, 117, 118, 119, 120, 121, 122, 123, 124, 125, 126, 127, 128, 129, 130, 131, 132, 133, 134, 135, 136, 137, 138, 139, 140, 141, 142, 143, 144, 145, 146, 147, 148, 149, 150, 151, 179, 180, 181, 182, 183, 184, 185, 186, 187, 188, 189, 190, 191, 192, 193] rfl (by decide +kernel)
set_option maxRecDepth 20000 in
theorem gX5_readTenant_X5_follows : GoodIn wsX5_readTenant (wsV RX5 166 RX5 yX5_follows wsX5_follows) := goodIn_app (goodIn_r _ [164, 165, 166, 16] rfl (by decide +kernel)) ggX5_readTenant_X5_follows
set_option maxRecDepth 20000 in
theorem ggX5_readTenant_X5_readKnownName : GoodIn wsX5_readTenant wsX5_readKnownName := goodIn_r _ [171, 18, 9, 13, 14, 15, 16, 17, 19, 20, 21, 22, 23, 24, 52, 53, 54, 55, 46, 25, 26, 27, 28, 29, 30, 31, 32, 33, 34, 35, 36, 37, 38, 39, 40, 41, 42, 43, 44, 45, 47, 48, 49, 50, 51, 56, 57, 58, 59, 60, 61, 62, 6, 63, 64, 65, 66, 67, 68, 69, 70, 71, 72, 73, 74, 75, 76, 77, 78, 79, 80, 81, 82, 83, 84, 85, 86, 87, 88, 89, 90, 91, 92, 93, 94, 95, 96, 97, 98, 99, 100, 101, 102, 103, 104, 105, 106, 107, 108, 109, 110, 111, 112, 113, 114, 115, 116, 117, 118, 119, 120, 121, 122, 123, 124, 125, 126, 127, 128, 129, 130, 131, 132, 133, 134, 135, 136, 137, 138, 139, 140, 141, 142, 143, 144, 145, 146, 147, 148, 149, 150, 151, 179, 180, 181, 182, 183, 184, 185, 186, 187, 188, 189, 190, 191, 192, 193] rfl (by decide +kernel)
set_option maxRecDepth 20000 in
theorem gX5_readTenant_X5_readKnownName : GoodIn wsX5_readTenant (wsV RX5 169 RX5 yX5_readKnownName wsX5_readKnownName) := goodIn_app (goodIn_r _ [168, 169, 170, 16] rfl (by decide +kernel)) ggX5_readTenant_X5_readKnownName
set_option maxRecDepth 20000 in
theorem ggX5_readTenant_X4_whoIsIn : GoodIn wsX5_readTenant wsX4_whoIsIn := goodIn_r _ [176, 177, 178, 194, 195, 196, 197, 198, 199, 200, 201, 202, 203, 204, 205, 206, 207, 208, 209, 210, 211, 212] rfl (by decide +kernel)
set_option maxRecDepth 20000 in
theorem gX5_readTenant_X4_whoIsIn : GoodIn wsX5_readTenant (wsV RX5 191 RX4 yX4_whoIsIn wsX4_whoIsIn) := goodIn_app (goodIn_r _ [172, 173, 174, 175] rfl (by decide +kernel)) ggX5_readTenant_X4_whoIsIn
set_option maxRecDepth 20000 in
theorem ggX5_readTenant_X5_fail : GoodIn wsX5_readTenant wsX5_fail := goodIn_r _ [22, 23, 24, 179, 180, 181, 182, 183, 184, 185, 186, 187, 188, 189, 190, 191, 192, 193] rfl (by decide +kernel)
set_option maxRecDepth 20000 in
theorem gX5_readTenant_X5_fail : GoodIn wsX5_readTenant (wsV RX5 195 RX5 yX5_fail wsX5_fail) := goodIn_app (goodIn_r _ [19, 20, 21, 16] rfl (by decide +kernel)) ggX5_readTenant_X5_fail
theorem dX5_readTenant_0 : decode cX5_readTenant 0 = .ok (.aload_n 0, 1) := by decide +kernel
theorem dX5_readTenant_1 : decode cX5_readTenant 1 = .ok (.getfield 12, 3) := by decide +kernel
theorem dX5_readTenant_4 : decode cX5_readTenant 4 = .ok (.getfield 179, 3) := by decide +kernel
theorem dX5_readTenant_7 : decode cX5_readTenant 7 = .ok (.istore_n 1, 1) := by decide +kernel
theorem dX5_readTenant_8 : decode cX5_readTenant 8 = .ok (.iload_n 1, 1) := by decide +kernel
theorem dX5_readTenant_9 : decode cX5_readTenant 9 = .ok (.bipush 7, 2) := by decide +kernel
theorem dX5_readTenant_11 : decode cX5_readTenant 11 = .ok (.if_icmp .lt 8, 3) := by decide +kernel
theorem dX5_readTenant_14 : decode cX5_readTenant 14 = .ok (.aload_n 0, 1) := by decide +kernel
theorem dX5_readTenant_15 : decode cX5_readTenant 15 = .ok (.invokevirtual 146, 3) := by decide +kernel
theorem dX5_readTenant_18 : decode cX5_readTenant 18 = .ok (.ireturn, 1) := by decide +kernel
theorem dX5_readTenant_19 : decode cX5_readTenant 19 = .ok (.aload_n 0, 1) := by decide +kernel
theorem dX5_readTenant_20 : decode cX5_readTenant 20 = .ok (.invokevirtual 90, 3) := by decide +kernel
theorem dX5_readTenant_23 : decode cX5_readTenant 23 = .ok (.aload_n 0, 1) := by decide +kernel
theorem dX5_readTenant_24 : decode cX5_readTenant 24 = .ok (.aload_n 0, 1) := by decide +kernel
theorem dX5_readTenant_25 : decode cX5_readTenant 25 = .ok (.getfield 35, 3) := by decide +kernel
theorem dX5_readTenant_28 : decode cX5_readTenant 28 = .ok (.iload_n 1, 1) := by decide +kernel
theorem dX5_readTenant_29 : decode cX5_readTenant 29 = .ok (.invokevirtual 149, 3) := by decide +kernel
theorem dX5_readTenant_32 : decode cX5_readTenant 32 = .ok (.ifCond .eq 21, 3) := by decide +kernel
theorem dX5_readTenant_35 : decode cX5_readTenant 35 = .ok (.aload_n 0, 1) := by decide +kernel
theorem dX5_readTenant_36 : decode cX5_readTenant 36 = .ok (.bipush 10, 2) := by decide +kernel
theorem dX5_readTenant_38 : decode cX5_readTenant 38 = .ok (.invokevirtual 153, 3) := by decide +kernel
theorem dX5_readTenant_41 : decode cX5_readTenant 41 = .ok (.ifCond .eq 12, 3) := by decide +kernel
theorem dX5_readTenant_44 : decode cX5_readTenant 44 = .ok (.aload_n 0, 1) := by decide +kernel
theorem dX5_readTenant_45 : decode cX5_readTenant 45 = .ok (.bipush 99, 2) := by decide +kernel
theorem dX5_readTenant_47 : decode cX5_readTenant 47 = .ok (.invokevirtual 156, 3) := by decide +kernel
theorem dX5_readTenant_50 : decode cX5_readTenant 50 = .ok (.ifCond .ne 5, 3) := by decide +kernel
theorem dX5_readTenant_53 : decode cX5_readTenant 53 = .ok (.iconst 0, 1) := by decide +kernel
theorem dX5_readTenant_54 : decode cX5_readTenant 54 = .ok (.ireturn, 1) := by decide +kernel
theorem dX5_readTenant_55 : decode cX5_readTenant 55 = .ok (.aload_n 0, 1) := by decide +kernel
theorem dX5_readTenant_56 : decode cX5_readTenant 56 = .ok (.getfield 12, 3) := by decide +kernel
theorem dX5_readTenant_59 : decode cX5_readTenant 59 = .ok (.getfield 100, 3) := by decide +kernel
theorem dX5_readTenant_62 : decode cX5_readTenant 62 = .ok (.getfield 182, 3) := by decide +kernel
theorem dX5_readTenant_65 : decode cX5_readTenant 65 = .ok (.iload_n 1, 1) := by decide +kernel
theorem dX5_readTenant_66 : decode cX5_readTenant 66 = .ok (.aload_n 0, 1) := by decide +kernel
theorem dX5_readTenant_67 : decode cX5_readTenant 67 = .ok (.getfield 57, 3) := by decide +kernel
theorem dX5_readTenant_70 : decode cX5_readTenant 70 = .ok (.iastore, 1) := by decide +kernel
theorem dX5_readTenant_71 : decode cX5_readTenant 71 = .ok (.aload_n 0, 1) := by decide +kernel
theorem dX5_readTenant_72 : decode cX5_readTenant 72 = .ok (.getfield 12, 3) := by decide +kernel
theorem dX5_readTenant_75 : decode cX5_readTenant 75 = .ok (.getfield 185, 3) := by decide +kernel
theorem dX5_readTenant_78 : decode cX5_readTenant 78 = .ok (.iload_n 1, 1) := by decide +kernel
theorem dX5_readTenant_79 : decode cX5_readTenant 79 = .ok (.iconst 0, 1) := by decide +kernel
theorem dX5_readTenant_80 : decode cX5_readTenant 80 = .ok (.iastore, 1) := by decide +kernel
theorem dX5_readTenant_81 : decode cX5_readTenant 81 = .ok (.aload_n 0, 1) := by decide +kernel
theorem dX5_readTenant_82 : decode cX5_readTenant 82 = .ok (.bipush 11, 2) := by decide +kernel
theorem dX5_readTenant_84 : decode cX5_readTenant 84 = .ok (.invokevirtual 166, 3) := by decide +kernel
theorem dX5_readTenant_87 : decode cX5_readTenant 87 = .ok (.ifCond .eq 27, 3) := by decide +kernel
theorem dX5_readTenant_90 : decode cX5_readTenant 90 = .ok (.aload_n 0, 1) := by decide +kernel
theorem dX5_readTenant_91 : decode cX5_readTenant 91 = .ok (.bipush 9, 2) := by decide +kernel
theorem dX5_readTenant_93 : decode cX5_readTenant 93 = .ok (.invokevirtual 156, 3) := by decide +kernel
theorem dX5_readTenant_96 : decode cX5_readTenant 96 = .ok (.ifCond .ne 5, 3) := by decide +kernel
theorem dX5_readTenant_99 : decode cX5_readTenant 99 = .ok (.iconst 0, 1) := by decide +kernel
theorem dX5_readTenant_100 : decode cX5_readTenant 100 = .ok (.ireturn, 1) := by decide +kernel
theorem dX5_readTenant_101 : decode cX5_readTenant 101 = .ok (.aload_n 0, 1) := by decide +kernel
theorem dX5_readTenant_102 : decode cX5_readTenant 102 = .ok (.getfield 12, 3) := by decide +kernel
theorem dX5_readTenant_105 : decode cX5_readTenant 105 = .ok (.getfield 185, 3) := by decide +kernel
theorem dX5_readTenant_108 : decode cX5_readTenant 108 = .ok (.iload_n 1, 1) := by decide +kernel
theorem dX5_readTenant_109 : decode cX5_readTenant 109 = .ok (.aload_n 0, 1) := by decide +kernel
theorem dX5_readTenant_110 : decode cX5_readTenant 110 = .ok (.getfield 57, 3) := by decide +kernel
theorem dX5_readTenant_113 : decode cX5_readTenant 113 = .ok (.iastore, 1) := by decide +kernel
theorem dX5_readTenant_114 : decode cX5_readTenant 114 = .ok (.aload_n 0, 1) := by decide +kernel
theorem dX5_readTenant_115 : decode cX5_readTenant 115 = .ok (.bipush 12, 2) := by decide +kernel
theorem dX5_readTenant_117 : decode cX5_readTenant 117 = .ok (.invokevirtual 166, 3) := by decide +kernel
theorem dX5_readTenant_120 : decode cX5_readTenant 120 = .ok (.ifCond .eq 30, 3) := by decide +kernel
theorem dX5_readTenant_123 : decode cX5_readTenant 123 = .ok (.aload_n 0, 1) := by decide +kernel
theorem dX5_readTenant_124 : decode cX5_readTenant 124 = .ok (.bipush 9, 2) := by decide +kernel
theorem dX5_readTenant_126 : decode cX5_readTenant 126 = .ok (.invokevirtual 156, 3) := by decide +kernel
theorem dX5_readTenant_129 : decode cX5_readTenant 129 = .ok (.ifCond .ne 5, 3) := by decide +kernel
theorem dX5_readTenant_132 : decode cX5_readTenant 132 = .ok (.iconst 0, 1) := by decide +kernel
theorem dX5_readTenant_133 : decode cX5_readTenant 133 = .ok (.ireturn, 1) := by decide +kernel
theorem dX5_readTenant_134 : decode cX5_readTenant 134 = .ok (.aload_n 0, 1) := by decide +kernel
theorem dX5_readTenant_135 : decode cX5_readTenant 135 = .ok (.getfield 12, 3) := by decide +kernel
theorem dX5_readTenant_138 : decode cX5_readTenant 138 = .ok (.getfield 100, 3) := by decide +kernel
theorem dX5_readTenant_141 : decode cX5_readTenant 141 = .ok (.getfield 188, 3) := by decide +kernel
theorem dX5_readTenant_144 : decode cX5_readTenant 144 = .ok (.iload_n 1, 1) := by decide +kernel
theorem dX5_readTenant_145 : decode cX5_readTenant 145 = .ok (.aload_n 0, 1) := by decide +kernel
theorem dX5_readTenant_146 : decode cX5_readTenant 146 = .ok (.getfield 57, 3) := by decide +kernel
theorem dX5_readTenant_149 : decode cX5_readTenant 149 = .ok (.iastore, 1) := by decide +kernel
theorem dX5_readTenant_150 : decode cX5_readTenant 150 = .ok (.aload_n 0, 1) := by decide +kernel
theorem dX5_readTenant_151 : decode cX5_readTenant 151 = .ok (.bipush 9, 2) := by decide +kernel
theorem dX5_readTenant_153 : decode cX5_readTenant 153 = .ok (.invokevirtual 166, 3) := by decide +kernel
theorem dX5_readTenant_156 : decode cX5_readTenant 156 = .ok (.ifCond .eq 69, 3) := by decide +kernel
theorem dX5_readTenant_159 : decode cX5_readTenant 159 = .ok (.aload_n 0, 1) := by decide +kernel
theorem dX5_readTenant_160 : decode cX5_readTenant 160 = .ok (.getfield 51, 3) := by decide +kernel
theorem dX5_readTenant_163 : decode cX5_readTenant 163 = .ok (.istore_n 2, 1) := by decide +kernel
theorem dX5_readTenant_164 : decode cX5_readTenant 164 = .ok (.aload_n 0, 1) := by decide +kernel
theorem dX5_readTenant_165 : decode cX5_readTenant 165 = .ok (.aload_n 0, 1) := by decide +kernel
theorem dX5_readTenant_166 : decode cX5_readTenant 166 = .ok (.getfield 32, 3) := by decide +kernel
theorem dX5_readTenant_169 : decode cX5_readTenant 169 = .ok (.aload_n 0, 1) := by decide +kernel
theorem dX5_readTenant_170 : decode cX5_readTenant 170 = .ok (.getfield 12, 3) := by decide +kernel
theorem dX5_readTenant_173 : decode cX5_readTenant 173 = .ok (.getfield 173, 3) := by decide +kernel
theorem dX5_readTenant_176 : decode cX5_readTenant 176 = .ok (.invokevirtual 169, 3) := by decide +kernel
theorem dX5_readTenant_179 : decode cX5_readTenant 179 = .ok (.istore_n 3, 1) := by decide +kernel
theorem dX5_readTenant_180 : decode cX5_readTenant 180 = .ok (.iload_n 3, 1) := by decide +kernel
theorem dX5_readTenant_181 : decode cX5_readTenant 181 = .ok (.ifCond .ge 5, 3) := by decide +kernel
theorem dX5_readTenant_184 : decode cX5_readTenant 184 = .ok (.iconst 0, 1) := by decide +kernel
theorem dX5_readTenant_185 : decode cX5_readTenant 185 = .ok (.ireturn, 1) := by decide +kernel
theorem dX5_readTenant_186 : decode cX5_readTenant 186 = .ok (.aload_n 0, 1) := by decide +kernel
theorem dX5_readTenant_187 : decode cX5_readTenant 187 = .ok (.getfield 12, 3) := by decide +kernel
theorem dX5_readTenant_190 : decode cX5_readTenant 190 = .ok (.aload_n 0, 1) := by decide +kernel
theorem dX5_readTenant_191 : decode cX5_readTenant 191 = .ok (.getfield 12, 3) := by decide +kernel
theorem dX5_readTenant_194 : decode cX5_readTenant 194 = .ok (.getfield 100, 3) := by decide +kernel
theorem dX5_readTenant_197 : decode cX5_readTenant 197 = .ok (.iload_n 3, 1) := by decide +kernel
theorem dX5_readTenant_198 : decode cX5_readTenant 198 = .ok (.invokevirtual 191, 3) := by decide +kernel
theorem dX5_readTenant_201 : decode cX5_readTenant 201 = .ok (.iconst (-1), 1) := by decide +kernel
theorem dX5_readTenant_202 : decode cX5_readTenant 202 = .ok (.if_icmp .eq 10, 3) := by decide +kernel
theorem dX5_readTenant_205 : decode cX5_readTenant 205 = .ok (.aload_n 0, 1) := by decide +kernel
theorem dX5_readTenant_206 : decode cX5_readTenant 206 = .ok (.iconst 3, 1) := by decide +kernel
theorem dX5_readTenant_207 : decode cX5_readTenant 207 = .ok (.iload_n 2, 1) := by decide +kernel
theorem dX5_readTenant_208 : decode cX5_readTenant 208 = .ok (.invokevirtual 195, 3) := by decide +kernel
theorem dX5_readTenant_211 : decode cX5_readTenant 211 = .ok (.ireturn, 1) := by decide +kernel
theorem dX5_readTenant_212 : decode cX5_readTenant 212 = .ok (.aload_n 0, 1) := by decide +kernel
theorem dX5_readTenant_213 : decode cX5_readTenant 213 = .ok (.getfield 12, 3) := by decide +kernel
theorem dX5_readTenant_216 : decode cX5_readTenant 216 = .ok (.getfield 100, 3) := by decide +kernel
theorem dX5_readTenant_219 : decode cX5_readTenant 219 = .ok (.getfield 199, 3) := by decide +kernel
theorem dX5_readTenant_222 : decode cX5_readTenant 222 = .ok (.iload_n 1, 1) := by decide +kernel
theorem dX5_readTenant_223 : decode cX5_readTenant 223 = .ok (.iload_n 3, 1) := by decide +kernel
theorem dX5_readTenant_224 : decode cX5_readTenant 224 = .ok (.iastore, 1) := by decide +kernel
theorem dX5_readTenant_225 : decode cX5_readTenant 225 = .ok (.aload_n 0, 1) := by decide +kernel
theorem dX5_readTenant_226 : decode cX5_readTenant 226 = .ok (.getfield 12, 3) := by decide +kernel
theorem dX5_readTenant_229 : decode cX5_readTenant 229 = .ok (.dup, 1) := by decide +kernel
theorem dX5_readTenant_230 : decode cX5_readTenant 230 = .ok (.getfield 179, 3) := by decide +kernel
theorem dX5_readTenant_233 : decode cX5_readTenant 233 = .ok (.iconst 1, 1) := by decide +kernel
theorem dX5_readTenant_234 : decode cX5_readTenant 234 = .ok (.iadd, 1) := by decide +kernel
theorem dX5_readTenant_235 : decode cX5_readTenant 235 = .ok (.putfield 179, 3) := by decide +kernel
theorem dX5_readTenant_238 : decode cX5_readTenant 238 = .ok (.iconst 1, 1) := by decide +kernel
theorem dX5_readTenant_239 : decode cX5_readTenant 239 = .ok (.ireturn, 1) := by decide +kernel
set_option maxRecDepth 20000 in
theorem ggX5_readDies_X5_readNumber : GoodIn wsX5_readDies wsX5_readNumber := goodIn_r _ [8, 9, 2, 10, 11, 12, 13, 7, 14, 15, 16, 17, 18, 19, 20, 21, 22, 23, 24, 25, 26, 27, 28, 29, 30, 31, 32, 33, 34, 35, 36, 37, 38, 39, 40, 41, 42, 43, 44, 45, 46, 47, 48, 49, 50, 51, 52, 53, 54, 55, 56, 57, 58, 59, 60, 61, 62, 63, 64, 65, 66, 67, 68, 69, 70, 71, 72, 73, 74, 75, 76, 77, 78, 79, 80, 81, 82, 83, 84, 85, 86, 87, 88, 89, 90, 91, 92, 93, 94, 95, 96, 97, 98, 99, 100, 101, 102, 103, 104, 105, 106, 107, 108, 109, 110, 111, 112, 113, 114, 115, 116, 117, 118, 119, 120, 121, 122, 123, 124, 125, 126, 127, 128, 129, 130, 131, 132, 133, 134, 135, 136, 137, 138, 139, 140, 141, 142, 143, 144, 145, 146, 147, 148, 149, 150, 151, 152, 153, 154, 155, 156, 157, 158, 159, 160, 161, 162] rfl (by decide +kernel)
set_option maxRecDepth 20000 in
theorem gX5_readDies_X5_readNumber : GoodIn wsX5_readDies (wsV RX5 156 RX5 yX5_readNumber wsX5_readNumber) := goodIn_app (goodIn_r _ [4, 5, 6, 7] rfl (by decide +kernel)) ggX5_readDies_X5_readNumber
theorem dX5_readDies_0 : decode cX5_readDies 0 = .ok (.aload_n 0, 1) := by decide +kernel
theorem dX5_readDies_1 : decode cX5_readDies 1 = .ok (.bipush 100, 2) := by decide +kernel
theorem dX5_readDies_3 : decode cX5_readDies 3 = .ok (.invokevirtual 156, 3) := by decide +kernel
theorem dX5_readDies_6 : decode cX5_readDies 6 = .ok (.ifCond .ne 5, 3) := by decide +kernel
theorem dX5_readDies_9 : decode cX5_readDies 9 = .ok (.iconst 0, 1) := by decide +kernel
theorem dX5_readDies_10 : decode cX5_readDies 10 = .ok (.ireturn, 1) := by decide +kernel
theorem dX5_readDies_11 : decode cX5_readDies 11 = .ok (.aload_n 0, 1) := by decide +kernel
theorem dX5_readDies_12 : decode cX5_readDies 12 = .ok (.getfield 12, 3) := by decide +kernel
theorem dX5_readDies_15 : decode cX5_readDies 15 = .ok (.aload_n 0, 1) := by decide +kernel
theorem dX5_readDies_16 : decode cX5_readDies 16 = .ok (.getfield 57, 3) := by decide +kernel
theorem dX5_readDies_19 : decode cX5_readDies 19 = .ok (.putfield 202, 3) := by decide +kernel
theorem dX5_readDies_22 : decode cX5_readDies 22 = .ok (.iconst 1, 1) := by decide +kernel
theorem dX5_readDies_23 : decode cX5_readDies 23 = .ok (.ireturn, 1) := by decide +kernel
set_option maxRecDepth 20000 in
theorem ggX5_readDraw_X5_readNumber : GoodIn wsX5_readDraw wsX5_readNumber := goodIn_r _ [9, 10, 3, 11, 12, 13, 14, 8, 15, 16, 17, 18, 19, 20, 21, 22, 23, 24, 25, 26, 27, 28, 29, 30, 31, 32, 33, 34, 35, 36, 37, 38, 39, 40, 41, 42, 43, 44, 45, 46, 47, 48, 49, 50, 51, 52, 53, 54, 55, 56, 57, 58, 59, 60, 61, 62, 63, 64, 65, 66, 67, 68, 69, 70, 71, 72, 73, 74, 75, 76, 77, 78, 79, 80, 81, 82, 83, 84, 85, 86, 87, 88, 89, 90, 91, 92, 93, 94, 95, 96, 97, 98, 99, 100, 101, 102, 103, 104, 105, 106, 107, 108, 109, 110, 111, 112, 113, 114, 115, 116, 117, 118, 119, 120, 121, 122, 123, 124, 125, 126, 127, 128, 129, 130, 131, 132, 133, 134, 135, 136, 137, 138, 139, 140, 141, 142, 143, 144, 145, 146, 147, 148, 149, 150, 151, 152, 153, 154, 155, 156, 157, 158, 159, 160, 161, 162, 163] rfl (by decide +kernel)
set_option maxRecDepth 20000 in
theorem gX5_readDraw_X5_readNumber : GoodIn wsX5_readDraw (wsV RX5 156 RX5 yX5_readNumber wsX5_readNumber) := goodIn_app (goodIn_r _ [5, 6, 7, 8] rfl (by decide +kernel)) ggX5_readDraw_X5_readNumber
theorem dX5_readDraw_0 : decode cX5_readDraw 0 = .ok (.aload_n 0, 1) := by decide +kernel
theorem dX5_readDraw_1 : decode cX5_readDraw 1 = .ok (.sipush 999, 3) := by decide +kernel
theorem dX5_readDraw_4 : decode cX5_readDraw 4 = .ok (.invokevirtual 156, 3) := by decide +kernel
theorem dX5_readDraw_7 : decode cX5_readDraw 7 = .ok (.ifCond .ne 5, 3) := by decide +kernel
theorem dX5_readDraw_10 : decode cX5_readDraw 10 = .ok (.iconst 0, 1) := by decide +kernel
theorem dX5_readDraw_11 : decode cX5_readDraw 11 = .ok (.ireturn, 1) := by decide +kernel
theorem dX5_readDraw_12 : decode cX5_readDraw 12 = .ok (.aload_n 0, 1) := by decide +kernel
theorem dX5_readDraw_13 : decode cX5_readDraw 13 = .ok (.getfield 12, 3) := by decide +kernel
theorem dX5_readDraw_16 : decode cX5_readDraw 16 = .ok (.getfield 100, 3) := by decide +kernel
theorem dX5_readDraw_19 : decode cX5_readDraw 19 = .ok (.aload_n 0, 1) := by decide +kernel
theorem dX5_readDraw_20 : decode cX5_readDraw 20 = .ok (.getfield 57, 3) := by decide +kernel
theorem dX5_readDraw_23 : decode cX5_readDraw 23 = .ok (.putfield 205, 3) := by decide +kernel
theorem dX5_readDraw_26 : decode cX5_readDraw 26 = .ok (.iconst 1, 1) := by decide +kernel
theorem dX5_readDraw_27 : decode cX5_readDraw 27 = .ok (.ireturn, 1) := by decide +kernel
set_option maxRecDepth 20000 in
theorem ggX5_readOnce_X5_refuse : GoodIn wsX5_readOnce wsX5_refuse := goodIn_r _ [7, 2, 8, 9, 10, 11, 6, 12, 13, 14, 143, 144, 145, 146, 147, 148, 149, 150, 151, 152, 153, 154, 155, 156, 157] rfl (by decide +kernel)
set_option maxRecDepth 20000 in
theorem gX5_readOnce_X5_refuse : GoodIn wsX5_readOnce (wsV RX5 146 RX5 yX5_refuse wsX5_refuse) := goodIn_app (goodIn_r _ [3, 4, 5, 6] rfl (by decide +kernel)) ggX5_readOnce_X5_refuse
set_option maxRecDepth 20000 in
theorem ggX5_readOnce_X5_advance : GoodIn wsX5_readOnce wsX5_advance := goodIn_r _ [18, 19, 8, 2, 20, 21, 22, 6, 23, 24, 25, 26, 27, 28, 29, 30, 31, 32, 33, 34, 35, 36, 37, 38, 39, 40, 41, 42, 43, 44, 45, 46, 47, 48, 49, 50, 51, 52, 53, 54, 55, 56, 57, 58, 59, 60, 61, 62, 63, 64, 65, 66, 67, 68, 69, 70, 71, 72, 73, 74, 75, 76, 77, 78, 79, 80, 81, 82, 83, 84, 85, 86, 87, 88, 89, 90, 91, 92, 93, 94, 95, 96, 97, 98, 99, 100, 101, 102, 103, 104, 105, 106, 107, 108, 109, 110, 111, 112, 113, 114, 115, 116, 117, 118, 119, 120, 121, 122, 123, 124, 125, 126, 127, 128, 129, 130, 131, 132, 133, 134, 135, 136, 137, 138, 139, 140, 141, 142, 143, 144, 145, 146, 147, 148, 149, 150, 151, 152, 153, 154, 155, 156, 157] rfl (by decide +kernel)
set_option maxRecDepth 20000 in
theorem gX5_readOnce_X5_advance : GoodIn wsX5_readOnce (wsV RX5 90 RX5 yX5_advance wsX5_advance) := goodIn_app (goodIn_r _ [15, 16, 17, 6] rfl (by decide +kernel)) ggX5_readOnce_X5_advance
theorem dX5_readOnce_0 : decode cX5_readOnce 0 = .ok (.aload_n 0, 1) := by decide +kernel
theorem dX5_readOnce_1 : decode cX5_readOnce 1 = .ok (.getfield 45, 3) := by decide +kernel
theorem dX5_readOnce_4 : decode cX5_readOnce 4 = .ok (.aload_n 0, 1) := by decide +kernel
theorem dX5_readOnce_5 : decode cX5_readOnce 5 = .ok (.getfield 54, 3) := by decide +kernel
theorem dX5_readOnce_8 : decode cX5_readOnce 8 = .ok (.ishr, 1) := by decide +kernel
theorem dX5_readOnce_9 : decode cX5_readOnce 9 = .ok (.iconst 1, 1) := by decide +kernel
theorem dX5_readOnce_10 : decode cX5_readOnce 10 = .ok (.iand, 1) := by decide +kernel
theorem dX5_readOnce_11 : decode cX5_readOnce 11 = .ok (.ifCond .eq 8, 3) := by decide +kernel
theorem dX5_readOnce_14 : decode cX5_readOnce 14 = .ok (.aload_n 0, 1) := by decide +kernel
theorem dX5_readOnce_15 : decode cX5_readOnce 15 = .ok (.invokevirtual 146, 3) := by decide +kernel
theorem dX5_readOnce_18 : decode cX5_readOnce 18 = .ok (.ireturn, 1) := by decide +kernel
theorem dX5_readOnce_19 : decode cX5_readOnce 19 = .ok (.aload_n 0, 1) := by decide +kernel
theorem dX5_readOnce_20 : decode cX5_readOnce 20 = .ok (.dup, 1) := by decide +kernel
theorem dX5_readOnce_21 : decode cX5_readOnce 21 = .ok (.getfield 45, 3) := by decide +kernel
theorem dX5_readOnce_24 : decode cX5_readOnce 24 = .ok (.iconst 1, 1) := by decide +kernel
theorem dX5_readOnce_25 : decode cX5_readOnce 25 = .ok (.aload_n 0, 1) := by decide +kernel
theorem dX5_readOnce_26 : decode cX5_readOnce 26 = .ok (.getfield 54, 3) := by decide +kernel
theorem dX5_readOnce_29 : decode cX5_readOnce 29 = .ok (.ishl, 1) := by decide +kernel
theorem dX5_readOnce_30 : decode cX5_readOnce 30 = .ok (.ior, 1) := by decide +kernel
theorem dX5_readOnce_31 : decode cX5_readOnce 31 = .ok (.putfield 45, 3) := by decide +kernel
theorem dX5_readOnce_34 : decode cX5_readOnce 34 = .ok (.aload_n 0, 1) := by decide +kernel
theorem dX5_readOnce_35 : decode cX5_readOnce 35 = .ok (.invokevirtual 90, 3) := by decide +kernel
theorem dX5_readOnce_38 : decode cX5_readOnce 38 = .ok (.iconst 1, 1) := by decide +kernel
theorem dX5_readOnce_39 : decode cX5_readOnce 39 = .ok (.ireturn, 1) := by decide +kernel
set_option maxRecDepth 20000 in
theorem ggX5_closeLine_X5_readWord : GoodIn wsX5_closeLine wsX5_readWord := goodIn_r _ [5, 6, 7, 8, 9, 4, 10, 11, 12, 13, 14, 15, 16, 17, 18, 19, 20, 21, 22, 23, 24, 25, 26, 27, 28, 29, 30, 31, 32, 33, 34, 35, 36, 37, 38, 39, 40, 41, 42, 43, 44, 45, 46, 47, 48, 49, 50, 51, 52, 53, 54, 55, 56, 57, 58, 59, 60, 61, 62, 63, 64, 65, 66, 67, 68, 69, 70, 71, 72, 73, 74, 75, 76, 77, 78, 79, 80, 81, 82, 83, 84, 85, 86, 87, 88, 89, 90, 91, 92, 93, 94, 95, 96, 97, 98, 99, 100, 101, 102, 103, 104, 105, 106, 107, 108, 109, 110, 111, 112, 113, 114, 115, 116, 117, 118, 119, 120, 121, 122, 123, 124, 125, 126, 127, 128, 129, 130, 131, 132, 133, 134, 135, 136, 137, 138, 139, 140, 141, 142, 143, 144, 145, 146, 147, 148, 149, 150, 151, 152, 153, 154, 155, 156, 157, 158, 159, 160] rfl (by decide +kernel)
set_option maxRecDepth 20000 in
theorem gX5_closeLine_X5_readWord : GoodIn wsX5_closeLine (wsV RX5 153 RX5 yX5_readWord wsX5_readWord) := goodIn_app (goodIn_r _ [1, 2, 3, 4] rfl (by decide +kernel)) ggX5_closeLine_X5_readWord
theorem dX5_closeLine_0 : decode cX5_closeLine 0 = .ok (.aload_n 0, 1) := by decide +kernel
theorem dX5_closeLine_1 : decode cX5_closeLine 1 = .ok (.bipush 59, 2) := by decide +kernel
theorem dX5_closeLine_3 : decode cX5_closeLine 3 = .ok (.invokevirtual 153, 3) := by decide +kernel
theorem dX5_closeLine_6 : decode cX5_closeLine 6 = .ok (.ireturn, 1) := by decide +kernel
set_option maxRecDepth 20000 in
theorem ggX5_readWord_X5_refuse : GoodIn wsX5_readWord wsX5_refuse := goodIn_r _ [6, 1, 7, 8, 9, 10, 5, 11, 12, 13, 142, 143, 144, 145, 146, 147, 148, 149, 150, 151, 152, 153, 154, 155, 156] rfl (by decide +kernel)
set_option maxRecDepth 20000 in
theorem gX5_readWord_X5_refuse : GoodIn wsX5_readWord (wsV RX5 146 RX5 yX5_refuse wsX5_refuse) := goodIn_app (goodIn_r _ [2, 3, 4, 5] rfl (by decide +kernel)) ggX5_readWord_X5_refuse
set_option maxRecDepth 20000 in
theorem ggX5_readWord_X5_advance : GoodIn wsX5_readWord wsX5_advance := goodIn_r _ [17, 18, 7, 1, 19, 20, 21, 5, 22, 23, 24, 25, 26, 27, 28, 29, 30, 31, 32, 33, 34, 35, 36, 37, 38, 39, 40, 41, 42, 43, 44, 45, 46, 47, 48, 49, 50, 51, 52, 53, 54, 55, 56, 57, 58, 59, 60, 61, 62, 63, 64, 65, 66, 67, 68, 69, 70, 71, 72, 73, 74, 75, 76, 77, 78, 79, 80, 81, 82, 83, 84, 85, 86, 87, 88, 89, 90, 91, 92, 93, 94, 95, 96, 97, 98, 99, 100, 101, 102, 103, 104, 105, 106, 107, 108, 109, 110, 111, 112, 113, 114, 115, 116, 117, 118, 119, 120, 121, 122, 123, 124, 125, 126, 127, 128, 129, 130, 131, 132, 133, 134, 135, 136, 137, 138, 139, 140, 141, 142, 143, 144, 145, 146, 147, 148, 149, 150, 151, 152, 153, 154, 155, 156] rfl (by decide +kernel)
set_option maxRecDepth 20000 in
theorem gX5_readWord_X5_advance : GoodIn wsX5_readWord (wsV RX5 90 RX5 yX5_advance wsX5_advance) := goodIn_app (goodIn_r _ [14, 15, 16, 5] rfl (by decide +kernel)) ggX5_readWord_X5_advance
theorem dX5_readWord_0 : decode cX5_readWord 0 = .ok (.aload_n 0, 1) := by decide +kernel
theorem dX5_readWord_1 : decode cX5_readWord 1 = .ok (.getfield 54, 3) := by decide +kernel
theorem dX5_readWord_4 : decode cX5_readWord 4 = .ok (.iload_n 1, 1) := by decide +kernel
theorem dX5_readWord_5 : decode cX5_readWord 5 = .ok (.if_icmp .eq 8, 3) := by decide +kernel
theorem dX5_readWord_8 : decode cX5_readWord 8 = .ok (.aload_n 0, 1) := by decide +kernel
theorem dX5_readWord_9 : decode cX5_readWord 9 = .ok (.invokevirtual 146, 3) := by decide +kernel
theorem dX5_readWord_12 : decode cX5_readWord 12 = .ok (.ireturn, 1) := by decide +kernel
theorem dX5_readWord_13 : decode cX5_readWord 13 = .ok (.aload_n 0, 1) := by decide +kernel
theorem dX5_readWord_14 : decode cX5_readWord 14 = .ok (.invokevirtual 90, 3) := by decide +kernel
theorem dX5_readWord_17 : decode cX5_readWord 17 = .ok (.iconst 1, 1) := by decide +kernel
theorem dX5_readWord_18 : decode cX5_readWord 18 = .ok (.ireturn, 1) := by decide +kernel
set_option maxRecDepth 20000 in
theorem ggX5_follows_X5_advance : GoodIn wsX5_follows wsX5_advance := goodIn_r _ [6, 7, 8, 1, 9, 10, 11, 5, 12, 13, 14, 15, 16, 17, 18, 19, 20, 21, 22, 23, 24, 25, 26, 27, 28, 29, 30, 31, 32, 33, 34, 35, 36, 37, 38, 39, 40, 41, 42, 43, 44, 45, 46, 47, 48, 49, 50, 51, 52, 53, 54, 55, 56, 57, 58, 59, 60, 61, 62, 63, 64, 65, 66, 67, 68, 69, 70, 71, 72, 73, 74, 75, 76, 77, 78, 79, 80, 81, 82, 83, 84, 85, 86, 87, 88, 89, 90, 91, 92, 93, 94, 95, 96, 97, 98, 99, 100, 101, 102, 103, 104, 105, 106, 107, 108, 109, 110, 111, 112, 113, 114, 115, 116, 117, 118, 119, 120, 121, 122, 123, 124, 125, 126, 127, 128, 129, 130, 131, 132, 133, 134, 135, 136, 137, 138, 139, 140, 141, 142, 143, 144, 145, 146] rfl (by decide +kernel)
set_option maxRecDepth 20000 in
theorem gX5_follows_X5_advance : GoodIn wsX5_follows (wsV RX5 90 RX5 yX5_advance wsX5_advance) := goodIn_app (goodIn_r _ [2, 3, 4, 5] rfl (by decide +kernel)) ggX5_follows_X5_advance
theorem dX5_follows_0 : decode cX5_follows 0 = .ok (.aload_n 0, 1) := by decide +kernel
theorem dX5_follows_1 : decode cX5_follows 1 = .ok (.getfield 54, 3) := by decide +kernel
theorem dX5_follows_4 : decode cX5_follows 4 = .ok (.iload_n 1, 1) := by decide +kernel
theorem dX5_follows_5 : decode cX5_follows 5 = .ok (.if_icmp .ne 7, 3) := by decide +kernel
theorem dX5_follows_8 : decode cX5_follows 8 = .ok (.iconst 1, 1) := by decide +kernel
theorem dX5_follows_9 : decode cX5_follows 9 = .ok (.goto 4, 3) := by decide +kernel
theorem dX5_follows_12 : decode cX5_follows 12 = .ok (.iconst 0, 1) := by decide +kernel
theorem dX5_follows_13 : decode cX5_follows 13 = .ok (.istore_n 2, 1) := by decide +kernel
theorem dX5_follows_14 : decode cX5_follows 14 = .ok (.iload_n 2, 1) := by decide +kernel
theorem dX5_follows_15 : decode cX5_follows 15 = .ok (.ifCond .eq 7, 3) := by decide +kernel
theorem dX5_follows_18 : decode cX5_follows 18 = .ok (.aload_n 0, 1) := by decide +kernel
theorem dX5_follows_19 : decode cX5_follows 19 = .ok (.invokevirtual 90, 3) := by decide +kernel
theorem dX5_follows_22 : decode cX5_follows 22 = .ok (.iload_n 2, 1) := by decide +kernel
theorem dX5_follows_23 : decode cX5_follows 23 = .ok (.ireturn, 1) := by decide +kernel
set_option maxRecDepth 20000 in
theorem ggX5_readNumber_X5_refuse : GoodIn wsX5_readNumber wsX5_refuse := goodIn_r _ [8, 1, 3, 9, 10, 11, 7, 12, 13, 14, 142, 143, 144, 145, 146, 147, 148, 149, 150, 151, 152, 153, 154, 155, 156] rfl (by decide +kernel)
set_option maxRecDepth 20000 in
theorem gX5_readNumber_X5_refuse : GoodIn wsX5_readNumber (wsV RX5 146 RX5 yX5_refuse wsX5_refuse) := goodIn_app (goodIn_r _ [4, 5, 6, 7] rfl (by decide +kernel)) ggX5_readNumber_X5_refuse
set_option maxRecDepth 20000 in
theorem ggX5_readNumber_X5_fail : GoodIn wsX5_readNumber wsX5_fail := goodIn_r _ [12, 13, 14, 142, 143, 144, 145, 146, 147, 148, 149, 150, 151, 152, 153, 154, 155, 156] rfl (by decide +kernel)
set_option maxRecDepth 20000 in
theorem gX5_readNumber_X5_fail : GoodIn wsX5_readNumber (wsV RX5 195 RX5 yX5_fail wsX5_fail) := goodIn_app (goodIn_r _ [9, 10, 11, 7] rfl (by decide +kernel)) ggX5_readNumber_X5_fail
set_option maxRecDepth 20000 in
theorem ggX5_readNumber_X5_advance : GoodIn wsX5_readNumber wsX5_advance := goodIn_r _ [18, 19, 3, 1, 20, 21, 22, 7, 23, 24, 25, 26, 27, 28, 29, 30, 31, 32, 33, 34, 35, 36, 37, 38, 39, 40, 41, 42, 43, 44, 45, 46, 47, 48, 49, 50, 51, 52, 2, 53, 54, 55, 56, 57, 58, 59, 60, 61, 62, 63, 64, 65, 66, 67, 68, 69, 70, 71, 72, 73, 74, 75, 76, 77, 78, 79, 80, 81, 82, 83, 84, 85, 86, 87, 88, 89, 90, 91, 92, 93, 94, 95, 96, 97, 98, 99, 100, 101, 102, 103, 104, 105, 106, 107, 108, 109, 110, 111, 112, 113, 114, 115, 116, 117, 118, 119, 120, 121, 122, 123, 124, 125, 126, 127, 128, 129, 130, 131, 132, 133, 134, 135, 136, 137, 138, 139, 140, 141, 142, 143, 144, 145, 146, 147, 148, 149, 150, 151, 152, 153, 154, 155, 156] rfl (by decide +kernel)
set_option maxRecDepth 20000 in
theorem gX5_readNumber_X5_advance : GoodIn wsX5_readNumber (wsV RX5 90 RX5 yX5_advance wsX5_advance) := goodIn_app (goodIn_r _ [15, 16, 17, 7] rfl (by decide +kernel)) ggX5_readNumber_X5_advance
theorem dX5_readNumber_0 : decode cX5_readNumber 0 = .ok (.aload_n 0, 1) := by decide +kernel
theorem dX5_readNumber_1 : decode cX5_readNumber 1 = .ok (.getfield 54, 3) := by decide +kernel
theorem dX5_readNumber_4 : decode cX5_readNumber 4 = .ok (.sipush 257, 3) := by decide +kernel
theorem dX5_readNumber_7 : decode cX5_readNumber 7 = .ok (.if_icmp .eq 8, 3) := by decide +kernel
theorem dX5_readNumber_10 : decode cX5_readNumber 10 = .ok (.aload_n 0, 1) := by decide +kernel
theorem dX5_readNumber_11 : decode cX5_readNumber 11 = .ok (.invokevirtual 146, 3) := by decide +kernel
theorem dX5_readNumber_14 : decode cX5_readNumber 14 = .ok (.ireturn, 1) := by decide +kernel
theorem dX5_readNumber_15 : decode cX5_readNumber 15 = .ok (.aload_n 0, 1) := by decide +kernel
theorem dX5_readNumber_16 : decode cX5_readNumber 16 = .ok (.getfield 57, 3) := by decide +kernel
theorem dX5_readNumber_19 : decode cX5_readNumber 19 = .ok (.iload_n 1, 1) := by decide +kernel
theorem dX5_readNumber_20 : decode cX5_readNumber 20 = .ok (.if_icmp .le 13, 3) := by decide +kernel
theorem dX5_readNumber_23 : decode cX5_readNumber 23 = .ok (.aload_n 0, 1) := by decide +kernel
theorem dX5_readNumber_24 : decode cX5_readNumber 24 = .ok (.iconst 4, 1) := by decide +kernel
theorem dX5_readNumber_25 : decode cX5_readNumber 25 = .ok (.aload_n 0, 1) := by decide +kernel
theorem dX5_readNumber_26 : decode cX5_readNumber 26 = .ok (.getfield 51, 3) := by decide +kernel
theorem dX5_readNumber_29 : decode cX5_readNumber 29 = .ok (.invokevirtual 195, 3) := by decide +kernel
theorem dX5_readNumber_32 : decode cX5_readNumber 32 = .ok (.ireturn, 1) := by decide +kernel
theorem dX5_readNumber_33 : decode cX5_readNumber 33 = .ok (.aload_n 0, 1) := by decide +kernel
theorem dX5_readNumber_34 : decode cX5_readNumber 34 = .ok (.getfield 57, 3) := by decide +kernel
theorem dX5_readNumber_37 : decode cX5_readNumber 37 = .ok (.istore_n 2, 1) := by decide +kernel
theorem dX5_readNumber_38 : decode cX5_readNumber 38 = .ok (.aload_n 0, 1) := by decide +kernel
theorem dX5_readNumber_39 : decode cX5_readNumber 39 = .ok (.invokevirtual 90, 3) := by decide +kernel
theorem dX5_readNumber_42 : decode cX5_readNumber 42 = .ok (.aload_n 0, 1) := by decide +kernel
theorem dX5_readNumber_43 : decode cX5_readNumber 43 = .ok (.iload_n 2, 1) := by decide +kernel
theorem dX5_readNumber_44 : decode cX5_readNumber 44 = .ok (.putfield 57, 3) := by decide +kernel
theorem dX5_readNumber_47 : decode cX5_readNumber 47 = .ok (.iconst 1, 1) := by decide +kernel
theorem dX5_readNumber_48 : decode cX5_readNumber 48 = .ok (.ireturn, 1) := by decide +kernel
set_option maxRecDepth 20000 in
theorem ggX5_readNewName_X5_refuse : GoodIn wsX5_readNewName wsX5_refuse := goodIn_r _ [8, 1, 2, 9, 10, 11, 7, 12, 13, 14, 142, 143, 144, 145, 146, 147, 148, 149, 150, 151, 152, 153, 154, 155, 156] rfl (by decide +kernel)
set_option maxRecDepth 20000 in
theorem gX5_readNewName_X5_refuse : GoodIn wsX5_readNewName (wsV RX5 146 RX5 yX5_refuse wsX5_refuse) := goodIn_app (goodIn_r _ [4, 5, 6, 7] rfl (by decide +kernel)) ggX5_readNewName_X5_refuse
set_option maxRecDepth 20000 in
theorem ggX5_readNewName_X5_indexOfWord : GoodIn wsX5_readNewName wsX5_indexOfWord := goodIn_r _ [18, 3, 142, 143, 144, 145, 146, 147, 148, 149, 150, 151, 152, 153, 154, 155, 156] rfl (by decide +kernel)
set_option maxRecDepth 20000 in
theorem gX5_readNewName_X5_indexOfWord : GoodIn wsX5_readNewName (wsV RX5 208 RX5 yX5_indexOfWord wsX5_indexOfWord) := goodIn_app (goodIn_r _ [15, 16, 17, 7] rfl (by decide +kernel)) ggX5_readNewName_X5_indexOfWord
set_option maxRecDepth 20000 in
theorem ggX5_readNewName_X5_fail : GoodIn wsX5_readNewName wsX5_fail := goodIn_r _ [12, 13, 14, 142, 143, 144, 145, 146, 147, 148, 149, 150, 151, 152, 153, 154, 155, 156] rfl (by decide +kernel)
set_option maxRecDepth 20000 in
theorem gX5_readNewName_X5_fail : GoodIn wsX5_readNewName (wsV RX5 195 RX5 yX5_fail wsX5_fail) := goodIn_app (goodIn_r _ [9, 10, 11, 7] rfl (by decide +kernel)) ggX5_readNewName_X5_fail
set_option maxRecDepth 20000 in
theorem ggX5_readNewName_X5_advance : GoodIn wsX5_readNewName wsX5_advance := goodIn_r _ [22, 23, 2, 1, 24, 25, 26, 7, 27, 28, 29, 30, 31, 32, 33, 34, 35, 36, 37, 38, 39, 3, 40, 41, 42, 43, 44, 15, 16, 17, 18, 45, 46, 47, 48, 49, 50, 51, 52, 53, 54, 55, 56, 57, 58, 59, 60, 61, 62, 63, 64, 65, 66, 67, 68, 69, 70, 71, 72, 73, 74, 75, 76, 77, 78, 79, 80, 81, 82, 83, 84, 85, 86, 87, 88, 89, 90, 91, 92, 93, 94, 95, 96, 97, 98, 99, 100, 101, 102, 103, 104, 105, 106, 107, 108, 109, 110, 111, 112, 113, 114, 115, 116, 117, 118, 119, 120, 121, 122, 123, 124, 125, 126, 127, 128, 129, 130, 131, 132, 133, 134, 135, 136, 137, 138, 139, 140, 141, 142, 143, 144, 145, 146, 147, 148, 149, 150, 151, 152, 153, 154, 155, 156] rfl (by decide +kernel)
set_option maxRecDepth 20000 in
theorem gX5_readNewName_X5_advance : GoodIn wsX5_readNewName (wsV RX5 90 RX5 yX5_advance wsX5_advance) := goodIn_app (goodIn_r _ [19, 20, 21, 7] rfl (by decide +kernel)) ggX5_readNewName_X5_advance
theorem dX5_readNewName_0 : decode cX5_readNewName 0 = .ok (.aload_n 0, 1) := by decide +kernel
theorem dX5_readNewName_1 : decode cX5_readNewName 1 = .ok (.getfield 54, 3) := by decide +kernel
theorem dX5_readNewName_4 : decode cX5_readNewName 4 = .ok (.sipush 256, 3) := by decide +kernel
theorem dX5_readNewName_7 : decode cX5_readNewName 7 = .ok (.if_icmp .ne 9, 3) := by decide +kernel
theorem dX5_readNewName_10 : decode cX5_readNewName 10 = .ok (.iload_n 2, 1) := by decide +kernel
theorem dX5_readNewName_11 : decode cX5_readNewName 11 = .ok (.aload_n 1, 1) := by decide +kernel
theorem dX5_readNewName_12 : decode cX5_readNewName 12 = .ok (.arraylength, 1) := by decide +kernel
theorem dX5_readNewName_13 : decode cX5_readNewName 13 = .ok (.if_icmp .lt 8, 3) := by decide +kernel
theorem dX5_readNewName_16 : decode cX5_readNewName 16 = .ok (.aload_n 0, 1) := by decide +kernel
theorem dX5_readNewName_17 : decode cX5_readNewName 17 = .ok (.invokevirtual 146, 3) := by decide +kernel
theorem dX5_readNewName_20 : decode cX5_readNewName 20 = .ok (.ireturn, 1) := by decide +kernel
theorem dX5_readNewName_21 : decode cX5_readNewName 21 = .ok (.aload_n 0, 1) := by decide +kernel
theorem dX5_readNewName_22 : decode cX5_readNewName 22 = .ok (.aload_n 1, 1) := by decide +kernel
theorem dX5_readNewName_23 : decode cX5_readNewName 23 = .ok (.iload_n 2, 1) := by decide +kernel
theorem dX5_readNewName_24 : decode cX5_readNewName 24 = .ok (.invokevirtual 208, 3) := by decide +kernel
theorem dX5_readNewName_27 : decode cX5_readNewName 27 = .ok (.iconst (-1), 1) := by decide +kernel
theorem dX5_readNewName_28 : decode cX5_readNewName 28 = .ok (.if_icmp .eq 13, 3) := by decide +kernel
theorem dX5_readNewName_31 : decode cX5_readNewName 31 = .ok (.aload_n 0, 1) := by decide +kernel
theorem dX5_readNewName_32 : decode cX5_readNewName 32 = .ok (.iconst 3, 1) := by decide +kernel
theorem dX5_readNewName_33 : decode cX5_readNewName 33 = .ok (.aload_n 0, 1) := by decide +kernel
theorem dX5_readNewName_34 : decode cX5_readNewName 34 = .ok (.getfield 51, 3) := by decide +kernel
theorem dX5_readNewName_37 : decode cX5_readNewName 37 = .ok (.invokevirtual 195, 3) := by decide +kernel
theorem dX5_readNewName_40 : decode cX5_readNewName 40 = .ok (.ireturn, 1) := by decide +kernel
theorem dX5_readNewName_41 : decode cX5_readNewName 41 = .ok (.aload_n 1, 1) := by decide +kernel
theorem dX5_readNewName_42 : decode cX5_readNewName 42 = .ok (.iload_n 2, 1) := by decide +kernel
theorem dX5_readNewName_43 : decode cX5_readNewName 43 = .ok (.aload_n 0, 1) := by decide +kernel
theorem dX5_readNewName_44 : decode cX5_readNewName 44 = .ok (.getfield 60, 3) := by decide +kernel
theorem dX5_readNewName_47 : decode cX5_readNewName 47 = .ok (.lastore, 1) := by decide +kernel
theorem dX5_readNewName_48 : decode cX5_readNewName 48 = .ok (.aload_n 0, 1) := by decide +kernel
theorem dX5_readNewName_49 : decode cX5_readNewName 49 = .ok (.invokevirtual 90, 3) := by decide +kernel
theorem dX5_readNewName_52 : decode cX5_readNewName 52 = .ok (.iconst 1, 1) := by decide +kernel
theorem dX5_readNewName_53 : decode cX5_readNewName 53 = .ok (.ireturn, 1) := by decide +kernel
set_option maxRecDepth 20000 in
theorem ggX5_readKnownName_X5_refuse : GoodIn wsX5_readKnownName wsX5_refuse := goodIn_r _ [7, 1, 2, 8, 9, 10, 6, 11, 12, 13, 142, 143, 144, 145, 146, 147, 148, 149, 150, 151, 152, 153, 154, 155, 156] rfl (by decide +kernel)
set_option maxRecDepth 20000 in
theorem gX5_readKnownName_X5_refuse : GoodIn wsX5_readKnownName (wsV RX5 146 RX5 yX5_refuse wsX5_refuse) := goodIn_app (goodIn_r _ [3, 4, 5, 6] rfl (by decide +kernel)) ggX5_readKnownName_X5_refuse
set_option maxRecDepth 20000 in
theorem ggX5_readKnownName_X5_indexOfWord : GoodIn wsX5_readKnownName wsX5_indexOfWord := goodIn_r _ [17, 18, 142, 143, 144, 145, 146, 147, 148, 149, 150, 151, 152, 153, 154, 155, 156] rfl (by decide +kernel)
set_option maxRecDepth 20000 in
theorem gX5_readKnownName_X5_indexOfWord : GoodIn wsX5_readKnownName (wsV RX5 208 RX5 yX5_indexOfWord wsX5_indexOfWord) := goodIn_app (goodIn_r _ [14, 15, 16, 6] rfl (by decide +kernel)) ggX5_readKnownName_X5_indexOfWord
set_option maxRecDepth 20000 in
theorem ggX5_readKnownName_X5_fail : GoodIn wsX5_readKnownName wsX5_fail := goodIn_r _ [11, 12, 13, 142, 143, 144, 145, 146, 147, 148, 149, 150, 151, 152, 153, 154, 155, 156] rfl (by decide +kernel)
set_option maxRecDepth 20000 in
theorem gX5_readKnownName_X5_fail : GoodIn wsX5_readKnownName (wsV RX5 195 RX5 yX5_fail wsX5_fail) := goodIn_app (goodIn_r _ [8, 9, 10, 6] rfl (by decide +kernel)) ggX5_readKnownName_X5_fail
set_option maxRecDepth 20000 in
theorem ggX5_readKnownName_X5_advance : GoodIn wsX5_readKnownName wsX5_advance := goodIn_r _ [22, 23, 2, 1, 24, 25, 26, 6, 27, 28, 29, 30, 31, 32, 33, 34, 35, 36, 37, 38, 39, 18, 40, 41, 42, 43, 44, 14, 15, 16, 17, 45, 46, 47, 48, 49, 50, 51, 52, 53, 54, 55, 56, 57, 58, 59, 60, 61, 62, 63, 64, 65, 66, 67, 68, 69, 70, 71, 72, 73, 74, 75, 76, 77, 78, 79, 80, 81, 82, 83, 84, 85, 86, 87, 88, 89, 90, 91, 92, 93, 94, 95, 96, 97, 98, 99, 100, 101, 102, 103, 104, 105, 106, 107, 108, 109, 110, 111, 112, 113, 114, 115, 116, 117, 118, 119, 120, 121, 122, 123, 124, 125, 126, 127, 128, 129, 130, 131, 132, 133, 134, 135, 136, 137, 138, 139, 140, 141, 142, 143, 144, 145, 146, 147, 148, 149, 150, 151, 152, 153, 154, 155, 156] rfl (by decide +kernel)
set_option maxRecDepth 20000 in
theorem gX5_readKnownName_X5_advance : GoodIn wsX5_readKnownName (wsV RX5 90 RX5 yX5_advance wsX5_advance) := goodIn_app (goodIn_r _ [19, 20, 21, 6] rfl (by decide +kernel)) ggX5_readKnownName_X5_advance
theorem dX5_readKnownName_0 : decode cX5_readKnownName 0 = .ok (.aload_n 0, 1) := by decide +kernel
theorem dX5_readKnownName_1 : decode cX5_readKnownName 1 = .ok (.getfield 54, 3) := by decide +kernel
theorem dX5_readKnownName_4 : decode cX5_readKnownName 4 = .ok (.sipush 256, 3) := by decide +kernel
theorem dX5_readKnownName_7 : decode cX5_readKnownName 7 = .ok (.if_icmp .eq 10, 3) := by decide +kernel
theorem dX5_readKnownName_10 : decode cX5_readKnownName 10 = .ok (.aload_n 0, 1) := by decide +kernel
theorem dX5_readKnownName_11 : decode cX5_readKnownName 11 = .ok (.invokevirtual 146, 3) := by decide +kernel
theorem dX5_readKnownName_14 : decode cX5_readKnownName 14 = .ok (.pop, 1) := by decide +kernel
