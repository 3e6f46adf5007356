theorem dX9_comesUpdate_63 : decode cX9_comesUpdate 63 = .ok (.dup2, 1) := by decide +kernel
theorem dX9_comesUpdate_64 : decode cX9_comesUpdate 64 = .ok (.iaload, 1) := by decide +kernel
theorem dX9_comesUpdate_65 : decode cX9_comesUpdate 65 = .ok (.iconst 1, 1) := by decide +kernel
theorem dX9_comesUpdate_66 : decode cX9_comesUpdate 66 = .ok (.iadd, 1) := by decide +kernel
theorem dX9_comesUpdate_67 : decode cX9_comesUpdate 67 = .ok (.iastore, 1) := by decide +kernel
theorem dX9_comesUpdate_68 : decode cX9_comesUpdate 68 = .ok (.return_, 1) := by decide +kernel
set_option maxRecDepth 20000 in
theorem ggX9_comes_X9_comesLetter : GoodIn wsX9_comes wsX9_comesLetter := goodIn_r _ [7, 8, 1, 9, 10, 11, 12, 13, 6, 14, 15, 16, 17, 18, 19, 20, 21, 22, 23, 24, 25, 26, 27, 28, 29, 2, 30, 156, 157, 158, 159, 160, 161, 162, 163, 164, 165, 166, 167, 168, 169, 170, 171, 172, 173, 174, 175, 176, 177, 178, 179, 180, 181, 182, 183, 184, 185, 186, 187, 188, 189, 190, 191, 192, 193, 194, 195, 196, 197, 198] (by decide +kernel) (by decide +kernel)
set_option maxRecDepth 20000 in
theorem gX9_comes_X9_comesLetter : GoodIn wsX9_comes (wsV RX9 209 RX9 yX9_comesLetter wsX9_comesLetter) := goodIn_app (goodIn_of _ (by decide +kernel)) ggX9_comes_X9_comesLetter
set_option maxRecDepth 20000 in
theorem ggX9_comes_X9_comesUpdate : GoodIn wsX9_comes wsX9_comesUpdate := goodIn_r _ [34, 1, 8, 15, 11, 12, 13, 6, 14, 16, 17, 18, 19, 20, 21, 22, 23, 24, 25, 26, 27, 28, 29, 2, 30, 156, 157, 158, 159, 160, 161, 162, 163, 164, 165, 166, 167, 168, 169, 170, 171, 172, 173, 174, 175, 176, 177, 178, 179, 180, 181, 182, 183, 184, 185, 186, 187, 188, 189, 190, 191, 192, 193, 194, 195, 196, 197, 198] (by decide +kernel) (by decide +kernel)
set_option maxRecDepth 20000 in
theorem gX9_comes_X9_comesUpdate : GoodIn wsX9_comes (wsV RX9 212 RX9 yX9_comesUpdate wsX9_comesUpdate) := goodIn_app (goodIn_of _ (by decide +kernel)) ggX9_comes_X9_comesUpdate
set_option maxRecDepth 200000 in
theorem ggX9_comes_X9_comesRetry : GoodIn wsX9_comes wsX9_comesRetry := goodIn_r _ [38, 1, 39, 40, 41, 42, 43, 44, 6, 45, 46, 47, 48, 26, 27, 28, 29, 2, 30, 49, 50, 51, 52, 21, 22, 23, 24, 25, 53, 54, 55, 56, 57, 58, 59, 60, 61, 62, 63, 64, 65, 66, 67, 68, 69, 70, 71, 72, 73, 74, 75, 76, 77, 78, 79, 80, 81, 82, 83, 84, 85, 86, 87, 156, 157, 158, 159, 160, 161, 162, 163, 164, 165, 166, 167, 168, 169, 170, 171, 172, 173, 174, 175, 176, 177, 178, 179, 180, 181, 182, 183, 184, 185, 186, 187, 188, 189, 190, 191, 192, 193, 194, 195, 196, 197, 198] rfl (by decide +kernel)
set_option maxRecDepth 20000 in
theorem gX9_comes_X9_comesRetry : GoodIn wsX9_comes (wsV RX9 215 RX9 yX9_comesRetry wsX9_comesRetry) := goodIn_app (goodIn_of _ (by decide +kernel)) ggX9_comes_X9_comesRetry
set_option maxRecDepth 200000 in
theorem ggX9_comes_X9_comesGreeting : GoodIn wsX9_comes wsX9_comesGreeting := goodIn_r _ [91, 1, 60, 41, 58, 20, 61, 59, 92, 93, 94, 95, 96, 6, 97, 39, 43, 44, 45, 46, 47, 48, 98, 99, 100, 71, 72, 73, 26, 27, 28, 29, 2, 30, 74, 75, 76, 101, 102, 103, 22, 23, 24, 25, 49, 50, 51, 52, 21, 104, 105, 106, 107, 64, 65, 66, 67, 81, 82, 83, 84, 85, 86, 87, 108, 109, 110, 111, 15, 8, 156, 157, 158, 159, 160, 161, 162, 163, 164, 165, 166, 167, 168, 169, 170, 171, 172, 173, 174, 175, 176, 177, 178, 179, 180, 181, 182, 183, 184, 185, 186, 187, 188, 189, 190, 191, 192, 193, 194, 195, 196, 197, 198] rfl (by decide +kernel)
set_option maxRecDepth 20000 in
theorem gX9_comes_X9_comesGreeting : GoodIn wsX9_comes (wsV RX9 218 RX9 yX9_comesGreeting wsX9_comesGreeting) := goodIn_app (goodIn_of _ (by decide +kernel)) ggX9_comes_X9_comesGreeting
set_option maxRecDepth 20000 in
theorem ggX9_comes_X9_comesTicket : GoodIn wsX9_comes wsX9_comesTicket := goodIn_r _ [115, 57, 1, 62, 16, 17, 18, 6, 19, 20, 21, 22, 23, 24, 25, 156, 157, 158, 159, 160, 161, 162, 163, 164, 165, 166, 167, 168, 169, 170, 171, 172, 173, 174, 175, 176, 177, 178, 179, 180, 181, 182, 183, 184, 185, 186, 187, 188, 189, 190, 191, 192, 193, 194, 195, 196, 197, 198] (by decide +kernel) (by decide +kernel)
set_option maxRecDepth 20000 in
theorem gX9_comes_X9_comesTicket : GoodIn wsX9_comes (wsV RX9 221 RX9 yX9_comesTicket wsX9_comesTicket) := goodIn_app (goodIn_of _ (by decide +kernel)) ggX9_comes_X9_comesTicket
set_option maxRecDepth 200000 in
theorem ggX9_comes_X9_comesHello : GoodIn wsX9_comes wsX9_comesHello := goodIn_r _ [119, 1, 60, 40, 2, 120, 121, 6, 122, 46, 47, 48, 26, 27, 28, 29, 30, 49, 50, 51, 52, 21, 22, 23, 24, 25, 64, 65, 66, 67, 81, 82, 83, 84, 85, 86, 87, 71, 72, 73, 43, 44, 45, 123, 124, 125, 126, 62, 127, 128, 129, 20, 61, 92, 93, 94, 130, 131, 132, 133, 134, 77, 78, 79, 80, 135, 136, 137, 138, 139, 140, 141, 142, 143, 144, 145, 146, 147, 148, 149, 150, 151, 74, 75, 76, 101, 102, 103, 68, 69, 70, 98, 99, 100, 95, 96, 97, 39, 104, 105, 106, 107, 156, 157, 158, 159, 160, 161, 162, 163, 164, 165, 166, 167, 168, 169, 170, 171, 172, 173, 174, 175, 176, 177, 178, 179, 180, 181, 182, 183, 184, 185, 186, 187, 188, 189, 190, 191, 192, 193, 194, 195, 196, 197, 198] rfl (by decide +kernel)
set_option maxRecDepth 20000 in
theorem gX9_comes_X9_comesHello : GoodIn wsX9_comes (wsV RX9 224 RX9 yX9_comesHello wsX9_comesHello) := goodIn_app (goodIn_of _ (by decide +kernel)) ggX9_comes_X9_comesHello
set_option maxRecDepth 20000 in
theorem ggX9_comes_X9_comesFinish : GoodIn wsX9_comes wsX9_comesFinish := goodIn_r _ [155, 1, 104, 105, 106, 6, 107, 20, 21, 22, 23, 24, 25, 26, 27, 28, 29, 2, 30, 108, 109, 110, 111, 15, 8, 156, 157, 158, 159, 160, 161, 162, 163, 164, 165, 166, 167, 168, 169, 170, 171, 172, 173, 174, 175, 176, 177, 178, 179, 180, 181, 182, 183, 184, 185, 186, 187, 188, 189, 190, 191, 192, 193, 194, 195, 196, 197, 198] (by decide +kernel) (by decide +kernel)
set_option maxRecDepth 20000 in
theorem gX9_comes_X9_comesFinish : GoodIn wsX9_comes (wsV RX9 227 RX9 yX9_comesFinish wsX9_comesFinish) := goodIn_app (goodIn_of _ (by decide +kernel)) ggX9_comes_X9_comesFinish
set_option maxRecDepth 20000 in
theorem ggX9_comes_X9_fails : GoodIn wsX9_comes wsX9_fails := goodIn_r _ [29, 2, 30, 156, 157, 158, 159, 160, 161, 162, 163, 164, 165, 166, 167, 168, 169, 170, 171, 172, 173, 174, 175, 176, 177, 178, 179, 180, 181, 182, 183, 184, 185, 186, 187, 188, 189, 190, 191, 192, 193, 194, 195, 196, 197, 198] (by decide +kernel) (by decide +kernel)
set_option maxRecDepth 20000 in
theorem gX9_comes_X9_fails : GoodIn wsX9_comes (wsV RX9 152 RX9 yX9_fails wsX9_fails) := goodIn_app (goodIn_of _ (by decide +kernel)) ggX9_comes_X9_fails
theorem dX9_comes_0 : decode cX9_comes 0 = .ok (.aload_n 0, 1) := by decide +kernel
theorem dX9_comes_1 : decode cX9_comes 1 = .ok (.getfield 71, 3) := by decide +kernel
theorem dX9_comes_4 : decode cX9_comes 4 = .ok (.iconst 0, 1) := by decide +kernel
theorem dX9_comes_5 : decode cX9_comes 5 = .ok (.iaload, 1) := by decide +kernel
theorem dX9_comes_6 : decode cX9_comes 6 = .ok (.istore_n 2, 1) := by decide +kernel
theorem dX9_comes_7 : decode cX9_comes 7 = .ok (.aload_n 0, 1) := by decide +kernel
theorem dX9_comes_8 : decode cX9_comes 8 = .ok (.getfield 19, 3) := by decide +kernel
theorem dX9_comes_11 : decode cX9_comes 11 = .ok (.iload_n 1, 1) := by decide +kernel
theorem dX9_comes_12 : decode cX9_comes 12 = .ok (.iaload, 1) := by decide +kernel
theorem dX9_comes_13 : decode cX9_comes 13 = .ok (.istore_n 3, 1) := by decide +kernel
theorem dX9_comes_14 : decode cX9_comes 14 = .ok (.iload_n 3, 1) := by decide +kernel
theorem dX9_comes_15 : decode cX9_comes 15 = .ok (.iconst 5, 1) := by decide +kernel
theorem dX9_comes_16 : decode cX9_comes 16 = .ok (.if_icmp .ne 4, 3) := by decide +kernel
theorem dX9_comes_19 : decode cX9_comes 19 = .ok (.return_, 1) := by decide +kernel
theorem dX9_comes_20 : decode cX9_comes 20 = .ok (.iload_n 3, 1) := by decide +kernel
theorem dX9_comes_21 : decode cX9_comes 21 = .ok (.iconst 4, 1) := by decide +kernel
theorem dX9_comes_22 : decode cX9_comes 22 = .ok (.if_icmp .ne 17, 3) := by decide +kernel
theorem dX9_comes_25 : decode cX9_comes 25 = .ok (.iload_n 2, 1) := by decide +kernel
theorem dX9_comes_26 : decode cX9_comes 26 = .ok (.bipush 6, 2) := by decide +kernel
theorem dX9_comes_28 : decode cX9_comes 28 = .ok (.if_icmp .ne 11, 3) := by decide +kernel
theorem dX9_comes_31 : decode cX9_comes 31 = .ok (.aload_n 0, 1) := by decide +kernel
theorem dX9_comes_32 : decode cX9_comes 32 = .ok (.iload_n 1, 1) := by decide +kernel
theorem dX9_comes_33 : decode cX9_comes 33 = .ok (.invokevirtual 209, 3) := by decide +kernel
theorem dX9_comes_36 : decode cX9_comes 36 = .ok (.goto 139, 3) := by decide +kernel
theorem dX9_comes_39 : decode cX9_comes 39 = .ok (.iload_n 3, 1) := by decide +kernel
theorem dX9_comes_40 : decode cX9_comes 40 = .ok (.iconst 4, 1) := by decide +kernel
theorem dX9_comes_41 : decode cX9_comes 41 = .ok (.if_icmp .ne 17, 3) := by decide +kernel
theorem dX9_comes_44 : decode cX9_comes 44 = .ok (.iload_n 2, 1) := by decide +kernel
theorem dX9_comes_45 : decode cX9_comes 45 = .ok (.bipush 7, 2) := by decide +kernel
theorem dX9_comes_47 : decode cX9_comes 47 = .ok (.if_icmp .ne 11, 3) := by decide +kernel
theorem dX9_comes_50 : decode cX9_comes 50 = .ok (.aload_n 0, 1) := by decide +kernel
theorem dX9_comes_51 : decode cX9_comes 51 = .ok (.iload_n 1, 1) := by decide +kernel
theorem dX9_comes_52 : decode cX9_comes 52 = .ok (.invokevirtual 212, 3) := by decide +kernel
theorem dX9_comes_55 : decode cX9_comes 55 = .ok (.goto 120, 3) := by decide +kernel
theorem dX9_comes_58 : decode cX9_comes 58 = .ok (.iload_n 1, 1) := by decide +kernel
theorem dX9_comes_59 : decode cX9_comes 59 = .ok (.ifCond .ne 20, 3) := by decide +kernel
theorem dX9_comes_62 : decode cX9_comes 62 = .ok (.iload_n 3, 1) := by decide +kernel
theorem dX9_comes_63 : decode cX9_comes 63 = .ok (.iconst 1, 1) := by decide +kernel
theorem dX9_comes_64 : decode cX9_comes 64 = .ok (.if_icmp .ne 15, 3) := by decide +kernel
theorem dX9_comes_67 : decode cX9_comes 67 = .ok (.iload_n 2, 1) := by decide +kernel
theorem dX9_comes_68 : decode cX9_comes 68 = .ok (.iconst 2, 1) := by decide +kernel
theorem dX9_comes_69 : decode cX9_comes 69 = .ok (.if_icmp .ne 10, 3) := by decide +kernel
theorem dX9_comes_72 : decode cX9_comes 72 = .ok (.aload_n 0, 1) := by decide +kernel
theorem dX9_comes_73 : decode cX9_comes 73 = .ok (.invokevirtual 215, 3) := by decide +kernel
theorem dX9_comes_76 : decode cX9_comes 76 = .ok (.goto 99, 3) := by decide +kernel
theorem dX9_comes_79 : decode cX9_comes 79 = .ok (.iload_n 1, 1) := by decide +kernel
theorem dX9_comes_80 : decode cX9_comes 80 = .ok (.ifCond .ne 20, 3) := by decide +kernel
theorem dX9_comes_83 : decode cX9_comes 83 = .ok (.iload_n 3, 1) := by decide +kernel
theorem dX9_comes_84 : decode cX9_comes 84 = .ok (.iconst 1, 1) := by decide +kernel
theorem dX9_comes_85 : decode cX9_comes 85 = .ok (.if_icmp .ne 15, 3) := by decide +kernel
theorem dX9_comes_88 : decode cX9_comes 88 = .ok (.iload_n 2, 1) := by decide +kernel
theorem dX9_comes_89 : decode cX9_comes 89 = .ok (.iconst 3, 1) := by decide +kernel
theorem dX9_comes_90 : decode cX9_comes 90 = .ok (.if_icmp .ne 10, 3) := by decide +kernel
theorem dX9_comes_93 : decode cX9_comes 93 = .ok (.aload_n 0, 1) := by decide +kernel
theorem dX9_comes_94 : decode cX9_comes 94 = .ok (.invokevirtual 218, 3) := by decide +kernel
theorem dX9_comes_97 : decode cX9_comes 97 = .ok (.goto 78, 3) := by decide +kernel
theorem dX9_comes_100 : decode cX9_comes 100 = .ok (.iload_n 1, 1) := by decide +kernel
theorem dX9_comes_101 : decode cX9_comes 101 = .ok (.ifCond .ne 20, 3) := by decide +kernel
theorem dX9_comes_104 : decode cX9_comes 104 = .ok (.iload_n 3, 1) := by decide +kernel
theorem dX9_comes_105 : decode cX9_comes 105 = .ok (.iconst 4, 1) := by decide +kernel
theorem dX9_comes_106 : decode cX9_comes 106 = .ok (.if_icmp .ne 15, 3) := by decide +kernel
theorem dX9_comes_109 : decode cX9_comes 109 = .ok (.iload_n 2, 1) := by decide +kernel
theorem dX9_comes_110 : decode cX9_comes 110 = .ok (.iconst 5, 1) := by decide +kernel
theorem dX9_comes_111 : decode cX9_comes 111 = .ok (.if_icmp .ne 10, 3) := by decide +kernel
theorem dX9_comes_114 : decode cX9_comes 114 = .ok (.aload_n 0, 1) := by decide +kernel
theorem dX9_comes_115 : decode cX9_comes 115 = .ok (.invokevirtual 221, 3) := by decide +kernel
theorem dX9_comes_118 : decode cX9_comes 118 = .ok (.goto 57, 3) := by decide +kernel
theorem dX9_comes_121 : decode cX9_comes 121 = .ok (.iload_n 1, 1) := by decide +kernel
theorem dX9_comes_122 : decode cX9_comes 122 = .ok (.iconst 1, 1) := by decide +kernel
theorem dX9_comes_123 : decode cX9_comes 123 = .ok (.if_icmp .ne 24, 3) := by decide +kernel
theorem dX9_comes_126 : decode cX9_comes 126 = .ok (.iload_n 3, 1) := by decide +kernel
theorem dX9_comes_127 : decode cX9_comes 127 = .ok (.ifCond .eq 8, 3) := by decide +kernel
theorem dX9_comes_130 : decode cX9_comes 130 = .ok (.iload_n 3, 1) := by decide +kernel
theorem dX9_comes_131 : decode cX9_comes 131 = .ok (.iconst 2, 1) := by decide +kernel
theorem dX9_comes_132 : decode cX9_comes 132 = .ok (.if_icmp .ne 15, 3) := by decide +kernel
theorem dX9_comes_135 : decode cX9_comes 135 = .ok (.iload_n 2, 1) := by decide +kernel
theorem dX9_comes_136 : decode cX9_comes 136 = .ok (.iconst 1, 1) := by decide +kernel
theorem dX9_comes_137 : decode cX9_comes 137 = .ok (.if_icmp .ne 10, 3) := by decide +kernel
theorem dX9_comes_140 : decode cX9_comes 140 = .ok (.aload_n 0, 1) := by decide +kernel
theorem dX9_comes_141 : decode cX9_comes 141 = .ok (.invokevirtual 224, 3) := by decide +kernel
theorem dX9_comes_144 : decode cX9_comes 144 = .ok (.goto 31, 3) := by decide +kernel
theorem dX9_comes_147 : decode cX9_comes 147 = .ok (.iload_n 1, 1) := by decide +kernel
theorem dX9_comes_148 : decode cX9_comes 148 = .ok (.iconst 1, 1) := by decide +kernel
theorem dX9_comes_149 : decode cX9_comes 149 = .ok (.if_icmp .ne 20, 3) := by decide +kernel
theorem dX9_comes_152 : decode cX9_comes 152 = .ok (.iload_n 3, 1) := by decide +kernel
theorem dX9_comes_153 : decode cX9_comes 153 = .ok (.iconst 3, 1) := by decide +kernel
theorem dX9_comes_154 : decode cX9_comes 154 = .ok (.if_icmp .ne 15, 3) := by decide +kernel
theorem dX9_comes_157 : decode cX9_comes 157 = .ok (.iload_n 2, 1) := by decide +kernel
theorem dX9_comes_158 : decode cX9_comes 158 = .ok (.iconst 4, 1) := by decide +kernel
theorem dX9_comes_159 : decode cX9_comes 159 = .ok (.if_icmp .ne 10, 3) := by decide +kernel
theorem dX9_comes_162 : decode cX9_comes 162 = .ok (.aload_n 0, 1) := by decide +kernel
theorem dX9_comes_163 : decode cX9_comes 163 = .ok (.invokevirtual 227, 3) := by decide +kernel
theorem dX9_comes_166 : decode cX9_comes 166 = .ok (.goto 9, 3) := by decide +kernel
theorem dX9_comes_169 : decode cX9_comes 169 = .ok (.aload_n 0, 1) := by decide +kernel
theorem dX9_comes_170 : decode cX9_comes 170 = .ok (.iload_n 1, 1) := by decide +kernel
theorem dX9_comes_171 : decode cX9_comes 171 = .ok (.iconst 1, 1) := by decide +kernel
theorem dX9_comes_172 : decode cX9_comes 172 = .ok (.invokevirtual 152, 3) := by decide +kernel
theorem dX9_comes_175 : decode cX9_comes 175 = .ok (.return_, 1) := by decide +kernel
set_option maxRecDepth 20000 in
theorem ggX9_type_X9_in : GoodIn wsX9_type wsX9_in := goodIn_r _ [7] (by decide +kernel) (by decide +kernel)
set_option maxRecDepth 20000 in
theorem gX9_type_X9_in : GoodIn wsX9_type (va_wsS RX9 87 yX9_in wsX9_in) := goodIn_app (goodIn_of _ (by decide +kernel)) ggX9_type_X9_in
theorem dX9_type_0 : decode cX9_type 0 = .ok (.iload_n 1, 1) := by decide +kernel
theorem dX9_type_1 : decode cX9_type 1 = .ok (.i2l, 1) := by decide +kernel
theorem dX9_type_2 : decode cX9_type 2 = .ok (.lconst 0, 1) := by decide +kernel
theorem dX9_type_3 : decode cX9_type 3 = .ok (.ldc2_w 230, 3) := by decide +kernel
theorem dX9_type_6 : decode cX9_type 6 = .ok (.invokestatic 87, 3) := by decide +kernel
theorem dX9_type_9 : decode cX9_type 9 = .ok (.ifCond .ne 6, 3) := by decide +kernel
theorem dX9_type_12 : decode cX9_type 12 = .ok (.bipush (-3), 2) := by decide +kernel
theorem dX9_type_14 : decode cX9_type 14 = .ok (.ireturn, 1) := by decide +kernel
theorem dX9_type_15 : decode cX9_type 15 = .ok (.aload_n 0, 1) := by decide +kernel
theorem dX9_type_16 : decode cX9_type 16 = .ok (.getfield 232, 3) := by decide +kernel
theorem dX9_type_19 : decode cX9_type 19 = .ok (.sipush 200, 3) := by decide +kernel
theorem dX9_type_22 : decode cX9_type 22 = .ok (.if_icmp .ne 6, 3) := by decide +kernel
theorem dX9_type_25 : decode cX9_type 25 = .ok (.bipush (-5), 2) := by decide +kernel
theorem dX9_type_27 : decode cX9_type 27 = .ok (.ireturn, 1) := by decide +kernel
theorem dX9_type_28 : decode cX9_type 28 = .ok (.aload_n 0, 1) := by decide +kernel
theorem dX9_type_29 : decode cX9_type 29 = .ok (.getfield 80, 3) := by decide +kernel
theorem dX9_type_32 : decode cX9_type 32 = .ok (.aload_n 0, 1) := by decide +kernel
theorem dX9_type_33 : decode cX9_type 33 = .ok (.getfield 232, 3) := by decide +kernel
theorem dX9_type_36 : decode cX9_type 36 = .ok (.iload_n 1, 1) := by decide +kernel
theorem dX9_type_37 : decode cX9_type 37 = .ok (.iastore, 1) := by decide +kernel
theorem dX9_type_38 : decode cX9_type 38 = .ok (.aload_n 0, 1) := by decide +kernel
theorem dX9_type_39 : decode cX9_type 39 = .ok (.dup, 1) := by decide +kernel
theorem dX9_type_40 : decode cX9_type 40 = .ok (.getfield 232, 3) := by decide +kernel
theorem dX9_type_43 : decode cX9_type 43 = .ok (.iconst 1, 1) := by decide +kernel
theorem dX9_type_44 : decode cX9_type 44 = .ok (.iadd, 1) := by decide +kernel
theorem dX9_type_45 : decode cX9_type 45 = .ok (.putfield 232, 3) := by decide +kernel
theorem dX9_type_48 : decode cX9_type 48 = .ok (.aload_n 0, 1) := by decide +kernel
theorem dX9_type_49 : decode cX9_type 49 = .ok (.getfield 232, 3) := by decide +kernel
theorem dX9_type_52 : decode cX9_type 52 = .ok (.ireturn, 1) := by decide +kernel
theorem dX9_erase_0 : decode cX9_erase 0 = .ok (.aload_n 0, 1) := by decide +kernel
theorem dX9_erase_1 : decode cX9_erase 1 = .ok (.getfield 232, 3) := by decide +kernel
theorem dX9_erase_4 : decode cX9_erase 4 = .ok (.istore_n 1, 1) := by decide +kernel
theorem dX9_erase_5 : decode cX9_erase 5 = .ok (.aload_n 0, 1) := by decide +kernel
theorem dX9_erase_6 : decode cX9_erase 6 = .ok (.iconst 0, 1) := by decide +kernel
theorem dX9_erase_7 : decode cX9_erase 7 = .ok (.putfield 232, 3) := by decide +kernel
theorem dX9_erase_10 : decode cX9_erase 10 = .ok (.iload_n 1, 1) := by decide +kernel
theorem dX9_erase_11 : decode cX9_erase 11 = .ok (.ireturn, 1) := by decide +kernel
theorem dX9_letterAt_0 : decode cX9_letterAt 0 = .ok (.iload_n 1, 1) := by decide +kernel
theorem dX9_letterAt_1 : decode cX9_letterAt 1 = .ok (.aload_n 0, 1) := by decide +kernel
theorem dX9_letterAt_2 : decode cX9_letterAt 2 = .ok (.getfield 232, 3) := by decide +kernel
theorem dX9_letterAt_5 : decode cX9_letterAt 5 = .ok (.if_icmp .ge 12, 3) := by decide +kernel
theorem dX9_letterAt_8 : decode cX9_letterAt 8 = .ok (.aload_n 0, 1) := by decide +kernel
theorem dX9_letterAt_9 : decode cX9_letterAt 9 = .ok (.getfield 80, 3) := by decide +kernel
theorem dX9_letterAt_12 : decode cX9_letterAt 12 = .ok (.iload_n 1, 1) := by decide +kernel
theorem dX9_letterAt_13 : decode cX9_letterAt 13 = .ok (.iaload, 1) := by decide +kernel
theorem dX9_letterAt_14 : decode cX9_letterAt 14 = .ok (.goto 4, 3) := by decide +kernel
theorem dX9_letterAt_17 : decode cX9_letterAt 17 = .ok (.iconst (-1), 1) := by decide +kernel
theorem dX9_letterAt_18 : decode cX9_letterAt 18 = .ok (.ireturn, 1) := by decide +kernel
set_option maxRecDepth 20000 in
theorem ggX9_reads_X9_letterAt : GoodIn wsX9_reads wsX9_letterAt := goodIn_r _ [15, 5, 16, 20, 21, 22, 23, 24, 25, 26, 27, 28, 29, 30, 31, 32, 33, 34, 35, 36, 37, 38, 39, 40, 41, 42, 43, 44, 45, 46, 47, 48, 49, 50, 51, 52, 53, 54, 55, 56, 57, 58, 59, 60, 61, 62] (by decide +kernel) (by decide +kernel)
set_option maxRecDepth 20000 in
theorem gX9_reads_X9_letterAt : GoodIn wsX9_reads (wsV RX9 238 RX9 yX9_letterAt wsX9_letterAt) := goodIn_app (goodIn_of _ (by decide +kernel)) ggX9_reads_X9_letterAt
set_option maxRecDepth 20000 in
theorem ggX9_reads_X9_in : GoodIn wsX9_reads wsX9_in := goodIn_r _ [19] (by decide +kernel) (by decide +kernel)
set_option maxRecDepth 20000 in
theorem gX9_reads_X9_in : GoodIn wsX9_reads (va_wsS RX9 87 yX9_in wsX9_in) := goodIn_app (goodIn_of _ (by decide +kernel)) ggX9_reads_X9_in
theorem dX9_reads_0 : decode cX9_reads 0 = .ok (.aload_n 0, 1) := by decide +kernel
theorem dX9_reads_1 : decode cX9_reads 1 = .ok (.aload_n 0, 1) := by decide +kernel
theorem dX9_reads_2 : decode cX9_reads 2 = .ok (.getfield 235, 3) := by decide +kernel
theorem dX9_reads_5 : decode cX9_reads 5 = .ok (.invokevirtual 238, 3) := by decide +kernel
theorem dX9_reads_8 : decode cX9_reads 8 = .ok (.bipush 32, 2) := by decide +kernel
theorem dX9_reads_10 : decode cX9_reads 10 = .ok (.if_icmp .ne 16, 3) := by decide +kernel
theorem dX9_reads_13 : decode cX9_reads 13 = .ok (.aload_n 0, 1) := by decide +kernel
theorem dX9_reads_14 : decode cX9_reads 14 = .ok (.dup, 1) := by decide +kernel
theorem dX9_reads_15 : decode cX9_reads 15 = .ok (.getfield 235, 3) := by decide +kernel
theorem dX9_reads_18 : decode cX9_reads 18 = .ok (.iconst 1, 1) := by decide +kernel
theorem dX9_reads_19 : decode cX9_reads 19 = .ok (.iadd, 1) := by decide +kernel
theorem dX9_reads_20 : decode cX9_reads 20 = .ok (.putfield 235, 3) := by decide +kernel
theorem dX9_reads_23 : decode cX9_reads 23 = .ok (.goto (-23), 3) := by decide +kernel
theorem dX9_reads_26 : decode cX9_reads 26 = .ok (.aload_n 0, 1) := by decide +kernel
theorem dX9_reads_27 : decode cX9_reads 27 = .ok (.aload_n 0, 1) := by decide +kernel
theorem dX9_reads_28 : decode cX9_reads 28 = .ok (.getfield 235, 3) := by decide +kernel
theorem dX9_reads_31 : decode cX9_reads 31 = .ok (.putfield 241, 3) := by decide +kernel
theorem dX9_reads_34 : decode cX9_reads 34 = .ok (.aload_n 0, 1) := by decide +kernel
theorem dX9_reads_35 : decode cX9_reads 35 = .ok (.aload_n 0, 1) := by decide +kernel
theorem dX9_reads_36 : decode cX9_reads 36 = .ok (.aload_n 0, 1) := by decide +kernel
theorem dX9_reads_37 : decode cX9_reads 37 = .ok (.getfield 235, 3) := by decide +kernel
theorem dX9_reads_40 : decode cX9_reads 40 = .ok (.invokevirtual 238, 3) := by decide +kernel
theorem dX9_reads_43 : decode cX9_reads 43 = .ok (.putfield 244, 3) := by decide +kernel
theorem dX9_reads_46 : decode cX9_reads 46 = .ok (.aload_n 0, 1) := by decide +kernel
theorem dX9_reads_47 : decode cX9_reads 47 = .ok (.iconst 0, 1) := by decide +kernel
theorem dX9_reads_48 : decode cX9_reads 48 = .ok (.putfield 247, 3) := by decide +kernel
theorem dX9_reads_51 : decode cX9_reads 51 = .ok (.aload_n 0, 1) := by decide +kernel
theorem dX9_reads_52 : decode cX9_reads 52 = .ok (.getfield 235, 3) := by decide +kernel
theorem dX9_reads_55 : decode cX9_reads 55 = .ok (.aload_n 0, 1) := by decide +kernel
theorem dX9_reads_56 : decode cX9_reads 56 = .ok (.getfield 232, 3) := by decide +kernel
theorem dX9_reads_59 : decode cX9_reads 59 = .ok (.if_icmp .ne 11, 3) := by decide +kernel
theorem dX9_reads_62 : decode cX9_reads 62 = .ok (.aload_n 0, 1) := by decide +kernel
theorem dX9_reads_63 : decode cX9_reads 63 = .ok (.iconst 0, 1) := by decide +kernel
theorem dX9_reads_64 : decode cX9_reads 64 = .ok (.putfield 250, 3) := by decide +kernel
theorem dX9_reads_67 : decode cX9_reads 67 = .ok (.goto 183, 3) := by decide +kernel
theorem dX9_reads_70 : decode cX9_reads 70 = .ok (.aload_n 0, 1) := by decide +kernel
theorem dX9_reads_71 : decode cX9_reads 71 = .ok (.getfield 244, 3) := by decide +kernel
theorem dX9_reads_74 : decode cX9_reads 74 = .ok (.i2l, 1) := by decide +kernel
theorem dX9_reads_75 : decode cX9_reads 75 = .ok (.ldc2_w 253, 3) := by decide +kernel
theorem dX9_reads_78 : decode cX9_reads 78 = .ok (.ldc2_w 255, 3) := by decide +kernel
theorem dX9_reads_81 : decode cX9_reads 81 = .ok (.invokestatic 87, 3) := by decide +kernel
theorem dX9_reads_84 : decode cX9_reads 84 = .ok (.ifCond .eq 42, 3) := by decide +kernel
theorem dX9_reads_87 : decode cX9_reads 87 = .ok (.aload_n 0, 1) := by decide +kernel
theorem dX9_reads_88 : decode cX9_reads 88 = .ok (.iconst 1, 1) := by decide +kernel
theorem dX9_reads_89 : decode cX9_reads 89 = .ok (.putfield 250, 3) := by decide +kernel
theorem dX9_reads_92 : decode cX9_reads 92 = .ok (.aload_n 0, 1) := by decide +kernel
theorem dX9_reads_93 : decode cX9_reads 93 = .ok (.aload_n 0, 1) := by decide +kernel
theorem dX9_reads_94 : decode cX9_reads 94 = .ok (.getfield 235, 3) := by decide +kernel
theorem dX9_reads_97 : decode cX9_reads 97 = .ok (.invokevirtual 238, 3) := by decide +kernel
theorem dX9_reads_100 : decode cX9_reads 100 = .ok (.i2l, 1) := by decide +kernel
theorem dX9_reads_101 : decode cX9_reads 101 = .ok (.ldc2_w 253, 3) := by decide +kernel
theorem dX9_reads_104 : decode cX9_reads 104 = .ok (.ldc2_w 255, 3) := by decide +kernel
theorem dX9_reads_107 : decode cX9_reads 107 = .ok (.invokestatic 87, 3) := by decide +kernel
theorem dX9_reads_110 : decode cX9_reads 110 = .ok (.ifCond .eq 140, 3) := by decide +kernel
theorem dX9_reads_113 : decode cX9_reads 113 = .ok (.aload_n 0, 1) := by decide +kernel
theorem dX9_reads_114 : decode cX9_reads 114 = .ok (.dup, 1) := by decide +kernel
theorem dX9_reads_115 : decode cX9_reads 115 = .ok (.getfield 235, 3) := by decide +kernel
theorem dX9_reads_118 : decode cX9_reads 118 = .ok (.iconst 1, 1) := by decide +kernel
theorem dX9_reads_119 : decode cX9_reads 119 = .ok (.iadd, 1) := by decide +kernel
theorem dX9_reads_120 : decode cX9_reads 120 = .ok (.putfield 235, 3) := by decide +kernel
theorem dX9_reads_123 : decode cX9_reads 123 = .ok (.goto (-31), 3) := by decide +kernel
theorem dX9_reads_126 : decode cX9_reads 126 = .ok (.aload_n 0, 1) := by decide +kernel
theorem dX9_reads_127 : decode cX9_reads 127 = .ok (.getfield 244, 3) := by decide +kernel
theorem dX9_reads_130 : decode cX9_reads 130 = .ok (.i2l, 1) := by decide +kernel
theorem dX9_reads_131 : decode cX9_reads 131 = .ok (.ldc2_w 257, 3) := by decide +kernel
theorem dX9_reads_134 : decode cX9_reads 134 = .ok (.ldc2_w 259, 3) := by decide +kernel
theorem dX9_reads_137 : decode cX9_reads 137 = .ok (.invokestatic 87, 3) := by decide +kernel
theorem dX9_reads_140 : decode cX9_reads 140 = .ok (.ifCond .eq 95, 3) := by decide +kernel
theorem dX9_reads_143 : decode cX9_reads 143 = .ok (.aload_n 0, 1) := by decide +kernel
theorem dX9_reads_144 : decode cX9_reads 144 = .ok (.iconst 2, 1) := by decide +kernel
theorem dX9_reads_145 : decode cX9_reads 145 = .ok (.putfield 250, 3) := by decide +kernel
theorem dX9_reads_148 : decode cX9_reads 148 = .ok (.aload_n 0, 1) := by decide +kernel
theorem dX9_reads_149 : decode cX9_reads 149 = .ok (.iconst 0, 1) := by decide +kernel
theorem dX9_reads_150 : decode cX9_reads 150 = .ok (.putfield 244, 3) := by decide +kernel
theorem dX9_reads_153 : decode cX9_reads 153 = .ok (.aload_n 0, 1) := by decide +kernel
theorem dX9_reads_154 : decode cX9_reads 154 = .ok (.aload_n 0, 1) := by decide +kernel
theorem dX9_reads_155 : decode cX9_reads 155 = .ok (.getfield 235, 3) := by decide +kernel
theorem dX9_reads_158 : decode cX9_reads 158 = .ok (.invokevirtual 238, 3) := by decide +kernel
theorem dX9_reads_161 : decode cX9_reads 161 = .ok (.i2l, 1) := by decide +kernel
theorem dX9_reads_162 : decode cX9_reads 162 = .ok (.ldc2_w 257, 3) := by decide +kernel
theorem dX9_reads_165 : decode cX9_reads 165 = .ok (.ldc2_w 259, 3) := by decide +kernel
theorem dX9_reads_168 : decode cX9_reads 168 = .ok (.invokestatic 87, 3) := by decide +kernel
theorem dX9_reads_171 : decode cX9_reads 171 = .ok (.ifCond .eq 79, 3) := by decide +kernel
theorem dX9_reads_174 : decode cX9_reads 174 = .ok (.aload_n 0, 1) := by decide +kernel
theorem dX9_reads_175 : decode cX9_reads 175 = .ok (.aload_n 0, 1) := by decide +kernel
theorem dX9_reads_176 : decode cX9_reads 176 = .ok (.getfield 247, 3) := by decide +kernel
theorem dX9_reads_179 : decode cX9_reads 179 = .ok (.iconst 3, 1) := by decide +kernel
theorem dX9_reads_180 : decode cX9_reads 180 = .ok (.if_icmp .ge 25, 3) := by decide +kernel
theorem dX9_reads_183 : decode cX9_reads 183 = .ok (.bipush 10, 2) := by decide +kernel
theorem dX9_reads_185 : decode cX9_reads 185 = .ok (.aload_n 0, 1) := by decide +kernel
theorem dX9_reads_186 : decode cX9_reads 186 = .ok (.getfield 244, 3) := by decide +kernel
theorem dX9_reads_189 : decode cX9_reads 189 = .ok (.imul, 1) := by decide +kernel
theorem dX9_reads_190 : decode cX9_reads 190 = .ok (.aload_n 0, 1) := by decide +kernel
theorem dX9_reads_191 : decode cX9_reads 191 = .ok (.aload_n 0, 1) := by decide +kernel
theorem dX9_reads_192 : decode cX9_reads 192 = .ok (.getfield 235, 3) := by decide +kernel
theorem dX9_reads_195 : decode cX9_reads 195 = .ok (.invokevirtual 238, 3) := by decide +kernel
theorem dX9_reads_198 : decode cX9_reads 198 = .ok (.iadd, 1) := by decide +kernel
theorem dX9_reads_199 : decode cX9_reads 199 = .ok (.bipush 48, 2) := by decide +kernel
theorem dX9_reads_201 : decode cX9_reads 201 = .ok (.isub, 1) := by decide +kernel
theorem dX9_reads_202 : decode cX9_reads 202 = .ok (.goto 7, 3) := by decide +kernel
theorem dX9_reads_205 : decode cX9_reads 205 = .ok (.aload_n 0, 1) := by decide +kernel
theorem dX9_reads_206 : decode cX9_reads 206 = .ok (.getfield 244, 3) := by decide +kernel
theorem dX9_reads_209 : decode cX9_reads 209 = .ok (.putfield 244, 3) := by decide +kernel
theorem dX9_reads_212 : decode cX9_reads 212 = .ok (.aload_n 0, 1) := by decide +kernel
theorem dX9_reads_213 : decode cX9_reads 213 = .ok (.dup, 1) := by decide +kernel
theorem dX9_reads_214 : decode cX9_reads 214 = .ok (.getfield 247, 3) := by decide +kernel
theorem dX9_reads_217 : decode cX9_reads 217 = .ok (.iconst 1, 1) := by decide +kernel
theorem dX9_reads_218 : decode cX9_reads 218 = .ok (.iadd, 1) := by decide +kernel
theorem dX9_reads_219 : decode cX9_reads 219 = .ok (.putfield 247, 3) := by decide +kernel
theorem dX9_reads_222 : decode cX9_reads 222 = .ok (.aload_n 0, 1) := by decide +kernel
theorem dX9_reads_223 : decode cX9_reads 223 = .ok (.dup, 1) := by decide +kernel
theorem dX9_reads_224 : decode cX9_reads 224 = .ok (.getfield 235, 3) := by decide +kernel
theorem dX9_reads_227 : decode cX9_reads 227 = .ok (.iconst 1, 1) := by decide +kernel
theorem dX9_reads_228 : decode cX9_reads 228 = .ok (.iadd, 1) := by decide +kernel
theorem dX9_reads_229 : decode cX9_reads 229 = .ok (.putfield 235, 3) := by decide +kernel
theorem dX9_reads_232 : decode cX9_reads 232 = .ok (.goto (-79), 3) := by decide +kernel
theorem dX9_reads_235 : decode cX9_reads 235 = .ok (.aload_n 0, 1) := by decide +kernel
theorem dX9_reads_236 : decode cX9_reads 236 = .ok (.iconst 3, 1) := by decide +kernel
theorem dX9_reads_237 : decode cX9_reads 237 = .ok (.putfield 250, 3) := by decide +kernel
theorem dX9_reads_240 : decode cX9_reads 240 = .ok (.aload_n 0, 1) := by decide +kernel
theorem dX9_reads_241 : decode cX9_reads 241 = .ok (.dup, 1) := by decide +kernel
theorem dX9_reads_242 : decode cX9_reads 242 = .ok (.getfield 235, 3) := by decide +kernel
theorem dX9_reads_245 : decode cX9_reads 245 = .ok (.iconst 1, 1) := by decide +kernel
theorem dX9_reads_246 : decode cX9_reads 246 = .ok (.iadd, 1) := by decide +kernel
theorem dX9_reads_247 : decode cX9_reads 247 = .ok (.putfield 235, 3) := by decide +kernel
theorem dX9_reads_250 : decode cX9_reads 250 = .ok (.return_, 1) := by decide +kernel
set_option maxRecDepth 20000 in
theorem ggX9_isWord_X9_letterAt : GoodIn wsX9_isWord wsX9_letterAt := goodIn_r _ [8, 9, 10, 11, 12, 13, 14, 15, 16, 17, 18, 19, 20, 21, 22, 23, 24, 25, 26, 27, 28, 29, 30, 31, 32, 33, 34, 35, 36, 37, 38, 39, 40, 41, 42, 43, 44, 45, 46, 47, 48, 49, 50, 51, 52, 53] (by decide +kernel) (by decide +kernel)
set_option maxRecDepth 20000 in
theorem gX9_isWord_X9_letterAt : GoodIn wsX9_isWord (wsV RX9 238 RX9 yX9_letterAt wsX9_letterAt) := goodIn_app (goodIn_of _ (by decide +kernel)) ggX9_isWord_X9_letterAt
theorem dX9_isWord_0 : decode cX9_isWord 0 = .ok (.iload 6, 2) := by decide +kernel
theorem dX9_isWord_2 : decode cX9_isWord 2 = .ok (.ifCond .le 8, 3) := by decide +kernel
theorem dX9_isWord_5 : decode cX9_isWord 5 = .ok (.bipush 6, 2) := by decide +kernel
theorem dX9_isWord_7 : decode cX9_isWord 7 = .ok (.goto 4, 3) := by decide +kernel
theorem dX9_isWord_10 : decode cX9_isWord 10 = .ok (.iconst 5, 1) := by decide +kernel
theorem dX9_isWord_11 : decode cX9_isWord 11 = .ok (.istore 7, 2) := by decide +kernel
theorem dX9_isWord_13 : decode cX9_isWord 13 = .ok (.aload_n 0, 1) := by decide +kernel
theorem dX9_isWord_14 : decode cX9_isWord 14 = .ok (.getfield 250, 3) := by decide +kernel
theorem dX9_isWord_17 : decode cX9_isWord 17 = .ok (.iconst 1, 1) := by decide +kernel
theorem dX9_isWord_18 : decode cX9_isWord 18 = .ok (.if_icmp .ne 111, 3) := by decide +kernel
theorem dX9_isWord_21 : decode cX9_isWord 21 = .ok (.aload_n 0, 1) := by decide +kernel
theorem dX9_isWord_22 : decode cX9_isWord 22 = .ok (.getfield 235, 3) := by decide +kernel
theorem dX9_isWord_25 : decode cX9_isWord 25 = .ok (.aload_n 0, 1) := by decide +kernel
theorem dX9_isWord_26 : decode cX9_isWord 26 = .ok (.getfield 241, 3) := by decide +kernel
theorem dX9_isWord_29 : decode cX9_isWord 29 = .ok (.isub, 1) := by decide +kernel
theorem dX9_isWord_30 : decode cX9_isWord 30 = .ok (.iload 7, 2) := by decide +kernel
theorem dX9_isWord_32 : decode cX9_isWord 32 = .ok (.if_icmp .ne 97, 3) := by decide +kernel
theorem dX9_isWord_35 : decode cX9_isWord 35 = .ok (.aload_n 0, 1) := by decide +kernel
theorem dX9_isWord_36 : decode cX9_isWord 36 = .ok (.aload_n 0, 1) := by decide +kernel
theorem dX9_isWord_37 : decode cX9_isWord 37 = .ok (.getfield 241, 3) := by decide +kernel
theorem dX9_isWord_40 : decode cX9_isWord 40 = .ok (.invokevirtual 238, 3) := by decide +kernel
theorem dX9_isWord_43 : decode cX9_isWord 43 = .ok (.iload_n 1, 1) := by decide +kernel
theorem dX9_isWord_44 : decode cX9_isWord 44 = .ok (.if_icmp .ne 85, 3) := by decide +kernel
theorem dX9_isWord_47 : decode cX9_isWord 47 = .ok (.aload_n 0, 1) := by decide +kernel
theorem dX9_isWord_48 : decode cX9_isWord 48 = .ok (.aload_n 0, 1) := by decide +kernel
theorem dX9_isWord_49 : decode cX9_isWord 49 = .ok (.getfield 241, 3) := by decide +kernel
theorem dX9_isWord_52 : decode cX9_isWord 52 = .ok (.iconst 1, 1) := by decide +kernel
theorem dX9_isWord_53 : decode cX9_isWord 53 = .ok (.iadd, 1) := by decide +kernel
theorem dX9_isWord_54 : decode cX9_isWord 54 = .ok (.invokevirtual 238, 3) := by decide +kernel
theorem dX9_isWord_57 : decode cX9_isWord 57 = .ok (.iload_n 2, 1) := by decide +kernel
theorem dX9_isWord_58 : decode cX9_isWord 58 = .ok (.if_icmp .ne 71, 3) := by decide +kernel
theorem dX9_isWord_61 : decode cX9_isWord 61 = .ok (.aload_n 0, 1) := by decide +kernel
theorem dX9_isWord_62 : decode cX9_isWord 62 = .ok (.aload_n 0, 1) := by decide +kernel
theorem dX9_isWord_63 : decode cX9_isWord 63 = .ok (.getfield 241, 3) := by decide +kernel
theorem dX9_isWord_66 : decode cX9_isWord 66 = .ok (.iconst 2, 1) := by decide +kernel
theorem dX9_isWord_67 : decode cX9_isWord 67 = .ok (.iadd, 1) := by decide +kernel
theorem dX9_isWord_68 : decode cX9_isWord 68 = .ok (.invokevirtual 238, 3) := by decide +kernel
theorem dX9_isWord_71 : decode cX9_isWord 71 = .ok (.iload_n 3, 1) := by decide +kernel
theorem dX9_isWord_72 : decode cX9_isWord 72 = .ok (.if_icmp .ne 57, 3) := by decide +kernel
theorem dX9_isWord_75 : decode cX9_isWord 75 = .ok (.aload_n 0, 1) := by decide +kernel
theorem dX9_isWord_76 : decode cX9_isWord 76 = .ok (.aload_n 0, 1) := by decide +kernel
theorem dX9_isWord_77 : decode cX9_isWord 77 = .ok (.getfield 241, 3) := by decide +kernel
theorem dX9_isWord_80 : decode cX9_isWord 80 = .ok (.iconst 3, 1) := by decide +kernel
theorem dX9_isWord_81 : decode cX9_isWord 81 = .ok (.iadd, 1) := by decide +kernel
theorem dX9_isWord_82 : decode cX9_isWord 82 = .ok (.invokevirtual 238, 3) := by decide +kernel
theorem dX9_isWord_85 : decode cX9_isWord 85 = .ok (.iload 4, 2) := by decide +kernel
theorem dX9_isWord_87 : decode cX9_isWord 87 = .ok (.if_icmp .ne 42, 3) := by decide +kernel
theorem dX9_isWord_90 : decode cX9_isWord 90 = .ok (.aload_n 0, 1) := by decide +kernel
theorem dX9_isWord_91 : decode cX9_isWord 91 = .ok (.aload_n 0, 1) := by decide +kernel
theorem dX9_isWord_92 : decode cX9_isWord 92 = .ok (.getfield 241, 3) := by decide +kernel
theorem dX9_isWord_95 : decode cX9_isWord 95 = .ok (.iconst 4, 1) := by decide +kernel
theorem dX9_isWord_96 : decode cX9_isWord 96 = .ok (.iadd, 1) := by decide +kernel
theorem dX9_isWord_97 : decode cX9_isWord 97 = .ok (.invokevirtual 238, 3) := by decide +kernel
theorem dX9_isWord_100 : decode cX9_isWord 100 = .ok (.iload 5, 2) := by decide +kernel
theorem dX9_isWord_102 : decode cX9_isWord 102 = .ok (.if_icmp .ne 27, 3) := by decide +kernel
theorem dX9_isWord_105 : decode cX9_isWord 105 = .ok (.iload 6, 2) := by decide +kernel
theorem dX9_isWord_107 : decode cX9_isWord 107 = .ok (.ifCond .eq 18, 3) := by decide +kernel
theorem dX9_isWord_110 : decode cX9_isWord 110 = .ok (.aload_n 0, 1) := by decide +kernel
theorem dX9_isWord_111 : decode cX9_isWord 111 = .ok (.aload_n 0, 1) := by decide +kernel
theorem dX9_isWord_112 : decode cX9_isWord 112 = .ok (.getfield 241, 3) := by decide +kernel
theorem dX9_isWord_115 : decode cX9_isWord 115 = .ok (.iconst 5, 1) := by decide +kernel
theorem dX9_isWord_116 : decode cX9_isWord 116 = .ok (.iadd, 1) := by decide +kernel
theorem dX9_isWord_117 : decode cX9_isWord 117 = .ok (.invokevirtual 238, 3) := by decide +kernel
theorem dX9_isWord_120 : decode cX9_isWord 120 = .ok (.iload 6, 2) := by decide +kernel
theorem dX9_isWord_122 : decode cX9_isWord 122 = .ok (.if_icmp .ne 7, 3) := by decide +kernel
theorem dX9_isWord_125 : decode cX9_isWord 125 = .ok (.iconst 1, 1) := by decide +kernel
theorem dX9_isWord_126 : decode cX9_isWord 126 = .ok (.goto 4, 3) := by decide +kernel
theorem dX9_isWord_129 : decode cX9_isWord 129 = .ok (.iconst 0, 1) := by decide +kernel
theorem dX9_isWord_130 : decode cX9_isWord 130 = .ok (.ireturn, 1) := by decide +kernel
set_option maxRecDepth 20000 in
theorem ggX9_clause_X9_isWord : GoodIn wsX9_clause wsX9_isWord := goodIn_r _ [5, 6, 7, 8, 9, 10, 11, 4, 12, 13, 14, 15, 16, 17, 18, 19, 20, 21, 22, 23, 24, 25, 26, 27, 28, 29, 30, 31, 32, 33, 34, 35, 36, 37, 38, 39, 40, 41, 42, 43, 44, 45, 46, 47, 48, 49, 50, 51, 52, 53, 54, 55, 56, 57] (by decide +kernel) (by decide +kernel)
set_option maxRecDepth 20000 in
theorem gX9_clause_X9_isWord : GoodIn wsX9_clause (wsV RX9 261 RX9 yX9_isWord wsX9_isWord) := goodIn_app (goodIn_of _ (by decide +kernel)) ggX9_clause_X9_isWord
theorem dX9_clause_0 : decode cX9_clause 0 = .ok (.aload_n 0, 1) := by decide +kernel
theorem dX9_clause_1 : decode cX9_clause 1 = .ok (.bipush 99, 2) := by decide +kernel
theorem dX9_clause_3 : decode cX9_clause 3 = .ok (.bipush 108, 2) := by decide +kernel
theorem dX9_clause_5 : decode cX9_clause 5 = .ok (.bipush 105, 2) := by decide +kernel
theorem dX9_clause_7 : decode cX9_clause 7 = .ok (.bipush 101, 2) := by decide +kernel
theorem dX9_clause_9 : decode cX9_clause 9 = .ok (.bipush 110, 2) := by decide +kernel
theorem dX9_clause_11 : decode cX9_clause 11 = .ok (.bipush 116, 2) := by decide +kernel
theorem dX9_clause_13 : decode cX9_clause 13 = .ok (.invokevirtual 261, 3) := by decide +kernel
theorem dX9_clause_16 : decode cX9_clause 16 = .ok (.ifCond .eq 5, 3) := by decide +kernel
theorem dX9_clause_19 : decode cX9_clause 19 = .ok (.iconst 0, 1) := by decide +kernel
theorem dX9_clause_20 : decode cX9_clause 20 = .ok (.ireturn, 1) := by decide +kernel
theorem dX9_clause_21 : decode cX9_clause 21 = .ok (.aload_n 0, 1) := by decide +kernel
theorem dX9_clause_22 : decode cX9_clause 22 = .ok (.bipush 115, 2) := by decide +kernel
theorem dX9_clause_24 : decode cX9_clause 24 = .ok (.bipush 101, 2) := by decide +kernel
theorem dX9_clause_26 : decode cX9_clause 26 = .ok (.bipush 114, 2) := by decide +kernel
theorem dX9_clause_28 : decode cX9_clause 28 = .ok (.bipush 118, 2) := by decide +kernel
theorem dX9_clause_30 : decode cX9_clause 30 = .ok (.bipush 101, 2) := by decide +kernel
theorem dX9_clause_32 : decode cX9_clause 32 = .ok (.bipush 114, 2) := by decide +kernel
theorem dX9_clause_34 : decode cX9_clause 34 = .ok (.invokevirtual 261, 3) := by decide +kernel
theorem dX9_clause_37 : decode cX9_clause 37 = .ok (.ifCond .eq 5, 3) := by decide +kernel
theorem dX9_clause_40 : decode cX9_clause 40 = .ok (.iconst 1, 1) := by decide +kernel
theorem dX9_clause_41 : decode cX9_clause 41 = .ok (.ireturn, 1) := by decide +kernel
theorem dX9_clause_42 : decode cX9_clause 42 = .ok (.aload_n 0, 1) := by decide +kernel
theorem dX9_clause_43 : decode cX9_clause 43 = .ok (.bipush 115, 2) := by decide +kernel
theorem dX9_clause_45 : decode cX9_clause 45 = .ok (.bipush 101, 2) := by decide +kernel
theorem dX9_clause_47 : decode cX9_clause 47 = .ok (.bipush 99, 2) := by decide +kernel
theorem dX9_clause_49 : decode cX9_clause 49 = .ok (.bipush 114, 2) := by decide +kernel
theorem dX9_clause_51 : decode cX9_clause 51 = .ok (.bipush 101, 2) := by decide +kernel
theorem dX9_clause_53 : decode cX9_clause 53 = .ok (.bipush 116, 2) := by decide +kernel
theorem dX9_clause_55 : decode cX9_clause 55 = .ok (.invokevirtual 261, 3) := by decide +kernel
theorem dX9_clause_58 : decode cX9_clause 58 = .ok (.ifCond .eq 5, 3) := by decide +kernel
theorem dX9_clause_61 : decode cX9_clause 61 = .ok (.iconst 2, 1) := by decide +kernel
theorem dX9_clause_62 : decode cX9_clause 62 = .ok (.ireturn, 1) := by decide +kernel
theorem dX9_clause_63 : decode cX9_clause 63 = .ok (.aload_n 0, 1) := by decide +kernel
theorem dX9_clause_64 : decode cX9_clause 64 = .ok (.bipush 103, 2) := by decide +kernel
theorem dX9_clause_66 : decode cX9_clause 66 = .ok (.bipush 117, 2) := by decide +kernel
theorem dX9_clause_68 : decode cX9_clause 68 = .ok (.bipush 101, 2) := by decide +kernel
theorem dX9_clause_70 : decode cX9_clause 70 = .ok (.bipush 115, 2) := by decide +kernel
theorem dX9_clause_72 : decode cX9_clause 72 = .ok (.bipush 115, 2) := by decide +kernel
theorem dX9_clause_74 : decode cX9_clause 74 = .ok (.iconst 0, 1) := by decide +kernel
theorem dX9_clause_75 : decode cX9_clause 75 = .ok (.invokevirtual 261, 3) := by decide +kernel
theorem dX9_clause_78 : decode cX9_clause 78 = .ok (.ifCond .eq 7, 3) := by decide +kernel
theorem dX9_clause_81 : decode cX9_clause 81 = .ok (.iconst 3, 1) := by decide +kernel
theorem dX9_clause_82 : decode cX9_clause 82 = .ok (.goto 26, 3) := by decide +kernel
theorem dX9_clause_85 : decode cX9_clause 85 = .ok (.aload_n 0, 1) := by decide +kernel
theorem dX9_clause_86 : decode cX9_clause 86 = .ok (.bipush 101, 2) := by decide +kernel
theorem dX9_clause_88 : decode cX9_clause 88 = .ok (.bipush 97, 2) := by decide +kernel
theorem dX9_clause_90 : decode cX9_clause 90 = .ok (.bipush 114, 2) := by decide +kernel
theorem dX9_clause_92 : decode cX9_clause 92 = .ok (.bipush 108, 2) := by decide +kernel
theorem dX9_clause_94 : decode cX9_clause 94 = .ok (.bipush 121, 2) := by decide +kernel
theorem dX9_clause_96 : decode cX9_clause 96 = .ok (.iconst 0, 1) := by decide +kernel
theorem dX9_clause_97 : decode cX9_clause 97 = .ok (.invokevirtual 261, 3) := by decide +kernel
theorem dX9_clause_100 : decode cX9_clause 100 = .ok (.ifCond .eq 7, 3) := by decide +kernel
theorem dX9_clause_103 : decode cX9_clause 103 = .ok (.iconst 4, 1) := by decide +kernel
theorem dX9_clause_104 : decode cX9_clause 104 = .ok (.goto 4, 3) := by decide +kernel
theorem dX9_clause_107 : decode cX9_clause 107 = .ok (.iconst (-1), 1) := by decide +kernel
theorem dX9_clause_108 : decode cX9_clause 108 = .ok (.ireturn, 1) := by decide +kernel
set_option maxRecDepth 20000 in
theorem ggX9_isNumber_X9_in : GoodIn wsX9_isNumber wsX9_in := goodIn_r _ [7] (by decide +kernel) (by decide +kernel)
set_option maxRecDepth 20000 in
theorem gX9_isNumber_X9_in : GoodIn wsX9_isNumber (va_wsS RX9 87 yX9_in wsX9_in) := goodIn_app (goodIn_of _ (by decide +kernel)) ggX9_isNumber_X9_in
theorem dX9_isNumber_0 : decode cX9_isNumber 0 = .ok (.aload_n 0, 1) := by decide +kernel
theorem dX9_isNumber_1 : decode cX9_isNumber 1 = .ok (.getfield 250, 3) := by decide +kernel
theorem dX9_isNumber_4 : decode cX9_isNumber 4 = .ok (.iconst 2, 1) := by decide +kernel
theorem dX9_isNumber_5 : decode cX9_isNumber 5 = .ok (.if_icmp .ne 30, 3) := by decide +kernel
theorem dX9_isNumber_8 : decode cX9_isNumber 8 = .ok (.aload_n 0, 1) := by decide +kernel
theorem dX9_isNumber_9 : decode cX9_isNumber 9 = .ok (.getfield 247, 3) := by decide +kernel
theorem dX9_isNumber_12 : decode cX9_isNumber 12 = .ok (.iconst 4, 1) := by decide +kernel
theorem dX9_isNumber_13 : decode cX9_isNumber 13 = .ok (.if_icmp .ge 22, 3) := by decide +kernel
theorem dX9_isNumber_16 : decode cX9_isNumber 16 = .ok (.aload_n 0, 1) := by decide +kernel
theorem dX9_isNumber_17 : decode cX9_isNumber 17 = .ok (.getfield 244, 3) := by decide +kernel
theorem dX9_isNumber_20 : decode cX9_isNumber 20 = .ok (.i2l, 1) := by decide +kernel
theorem dX9_isNumber_21 : decode cX9_isNumber 21 = .ok (.iload_n 1, 1) := by decide +kernel
theorem dX9_isNumber_22 : decode cX9_isNumber 22 = .ok (.i2l, 1) := by decide +kernel
theorem dX9_isNumber_23 : decode cX9_isNumber 23 = .ok (.iload_n 2, 1) := by decide +kernel
theorem dX9_isNumber_24 : decode cX9_isNumber 24 = .ok (.i2l, 1) := by decide +kernel
theorem dX9_isNumber_25 : decode cX9_isNumber 25 = .ok (.invokestatic 87, 3) := by decide +kernel
theorem dX9_isNumber_28 : decode cX9_isNumber 28 = .ok (.ifCond .eq 7, 3) := by decide +kernel
theorem dX9_isNumber_31 : decode cX9_isNumber 31 = .ok (.iconst 1, 1) := by decide +kernel
theorem dX9_isNumber_32 : decode cX9_isNumber 32 = .ok (.goto 4, 3) := by decide +kernel
theorem dX9_isNumber_35 : decode cX9_isNumber 35 = .ok (.iconst 0, 1) := by decide +kernel
theorem dX9_isNumber_36 : decode cX9_isNumber 36 = .ok (.ireturn, 1) := by decide +kernel
theorem dX9_does_0 : decode cX9_does 0 = .ok (.iload_n 1, 1) := by decide +kernel
theorem dX9_does_1 : decode cX9_does 1 = .ok (.iconst 2, 1) := by decide +kernel
theorem dX9_does_2 : decode cX9_does 2 = .ok (.if_icmp .ge 20, 3) := by decide +kernel
theorem dX9_does_5 : decode cX9_does 5 = .ok (.aload_n 0, 1) := by decide +kernel
theorem dX9_does_6 : decode cX9_does 6 = .ok (.getfield 7, 3) := by decide +kernel
theorem dX9_does_9 : decode cX9_does 9 = .ok (.iload_n 1, 1) := by decide +kernel
theorem dX9_does_10 : decode cX9_does 10 = .ok (.iload_n 2, 1) := by decide +kernel
theorem dX9_does_11 : decode cX9_does 11 = .ok (.iastore, 1) := by decide +kernel
theorem dX9_does_12 : decode cX9_does 12 = .ok (.aload_n 0, 1) := by decide +kernel
theorem dX9_does_13 : decode cX9_does 13 = .ok (.getfield 13, 3) := by decide +kernel
theorem dX9_does_16 : decode cX9_does 16 = .ok (.iload_n 1, 1) := by decide +kernel
theorem dX9_does_17 : decode cX9_does 17 = .ok (.iload_n 3, 1) := by decide +kernel
theorem dX9_does_18 : decode cX9_does 18 = .ok (.iastore, 1) := by decide +kernel
theorem dX9_does_19 : decode cX9_does 19 = .ok (.goto 36, 3) := by decide +kernel
theorem dX9_does_22 : decode cX9_does 22 = .ok (.iload_n 1, 1) := by decide +kernel
theorem dX9_does_23 : decode cX9_does 23 = .ok (.iconst 2, 1) := by decide +kernel
theorem dX9_does_24 : decode cX9_does 24 = .ok (.if_icmp .ne 13, 3) := by decide +kernel
theorem dX9_does_27 : decode cX9_does 27 = .ok (.aload_n 0, 1) := by decide +kernel
theorem dX9_does_28 : decode cX9_does 28 = .ok (.getfield 16, 3) := by decide +kernel
theorem dX9_does_31 : decode cX9_does 31 = .ok (.iload_n 2, 1) := by decide +kernel
theorem dX9_does_32 : decode cX9_does 32 = .ok (.iload_n 3, 1) := by decide +kernel
theorem dX9_does_33 : decode cX9_does 33 = .ok (.iastore, 1) := by decide +kernel
theorem dX9_does_34 : decode cX9_does 34 = .ok (.goto 21, 3) := by decide +kernel
theorem dX9_does_37 : decode cX9_does 37 = .ok (.iload_n 1, 1) := by decide +kernel
theorem dX9_does_38 : decode cX9_does 38 = .ok (.iconst 3, 1) := by decide +kernel
theorem dX9_does_39 : decode cX9_does 39 = .ok (.if_icmp .ne 11, 3) := by decide +kernel
theorem dX9_does_42 : decode cX9_does 42 = .ok (.aload_n 0, 1) := by decide +kernel
theorem dX9_does_43 : decode cX9_does 43 = .ok (.iload_n 2, 1) := by decide +kernel
theorem dX9_does_44 : decode cX9_does 44 = .ok (.putfield 265, 3) := by decide +kernel
theorem dX9_does_47 : decode cX9_does 47 = .ok (.goto 8, 3) := by decide +kernel
theorem dX9_does_50 : decode cX9_does 50 = .ok (.aload_n 0, 1) := by decide +kernel
theorem dX9_does_51 : decode cX9_does 51 = .ok (.iload_n 2, 1) := by decide +kernel
theorem dX9_does_52 : decode cX9_does 52 = .ok (.putfield 46, 3) := by decide +kernel
theorem dX9_does_55 : decode cX9_does 55 = .ok (.return_, 1) := by decide +kernel
set_option maxRecDepth 20000 in
theorem ggX9_goesThrough_X9_reads : GoodIn wsX9_goesThrough wsX9_reads := goodIn_r _ [9, 1, 2, 3, 10, 11, 4, 12, 13, 14, 15, 16, 17, 18, 8, 19, 20, 21, 22, 23, 45, 46, 47, 48, 49, 50, 51, 52, 53, 54, 55, 56, 57, 58, 59, 60, 61, 62, 63, 64, 65, 66, 67, 68, 69, 70, 71, 72, 73, 74, 75, 76, 77, 78, 79, 80, 81, 82, 83, 84, 85, 86, 87] (by decide +kernel) (by decide +kernel)
set_option maxRecDepth 20000 in
theorem gX9_goesThrough_X9_reads : GoodIn wsX9_goesThrough (wsV RX9 268 RX9 yX9_reads wsX9_reads) := goodIn_app (goodIn_of _ (by decide +kernel)) ggX9_goesThrough_X9_reads
set_option maxRecDepth 20000 in
theorem ggX9_goesThrough_X9_clause : GoodIn wsX9_goesThrough wsX9_clause := goodIn_r _ [27, 28, 29, 30, 8, 31, 4, 1, 2, 16, 17, 18, 19, 11, 20, 45, 46, 47, 48, 49, 50, 51, 52, 53, 54, 55, 56, 57, 58, 59, 60, 61, 62, 63, 64, 65, 66, 67, 68, 69, 70, 71, 72, 73, 74, 75, 76, 77, 78, 79, 80, 81, 82, 83, 84, 85, 86, 87] (by decide +kernel) (by decide +kernel)
set_option maxRecDepth 20000 in
theorem gX9_goesThrough_X9_clause : GoodIn wsX9_goesThrough (wsV RX9 271 RX9 yX9_clause wsX9_clause) := goodIn_app (goodIn_of _ (by decide +kernel)) ggX9_goesThrough_X9_clause
set_option maxRecDepth 20000 in
theorem ggX9_goesThrough_X9_isNumber : GoodIn wsX9_goesThrough wsX9_isNumber := goodIn_r _ [35, 4, 10, 3, 21, 22, 8, 23, 45, 46, 47, 48, 49, 50, 51, 52, 53, 54, 55, 56, 57, 58, 59, 60, 61, 62, 63, 64, 65, 66, 67, 68, 69, 70, 71, 72, 73, 74, 75, 76, 77, 78, 79, 80, 81, 82, 83, 84, 85, 86, 87] (by decide +kernel) (by decide +kernel)
set_option maxRecDepth 20000 in
theorem gX9_goesThrough_X9_isNumber : GoodIn wsX9_goesThrough (wsV RX9 275 RX9 yX9_isNumber wsX9_isNumber) := goodIn_app (goodIn_of _ (by decide +kernel)) ggX9_goesThrough_X9_isNumber
set_option maxRecDepth 20000 in
theorem ggX9_goesThrough_X9_does : GoodIn wsX9_goesThrough wsX9_does := goodIn_r _ [39, 40, 41, 42, 43, 44, 45, 46, 47, 48, 49, 50, 51, 52, 53, 54, 55, 56, 57, 58, 59, 60, 61, 62, 63, 64, 65, 66, 67, 68, 69, 70, 71, 72, 73, 74, 75, 76, 77, 78, 79, 80, 81, 82, 83, 84, 85, 86, 87] (by decide +kernel) (by decide +kernel)
set_option maxRecDepth 20000 in
theorem gX9_goesThrough_X9_does : GoodIn wsX9_goesThrough (wsV RX9 278 RX9 yX9_does wsX9_does) := goodIn_app (goodIn_of _ (by decide +kernel)) ggX9_goesThrough_X9_does
theorem dX9_goesThrough_0 : decode cX9_goesThrough 0 = .ok (.aload_n 0, 1) := by decide +kernel
theorem dX9_goesThrough_1 : decode cX9_goesThrough 1 = .ok (.iconst 0, 1) := by decide +kernel
theorem dX9_goesThrough_2 : decode cX9_goesThrough 2 = .ok (.putfield 235, 3) := by decide +kernel
theorem dX9_goesThrough_5 : decode cX9_goesThrough 5 = .ok (.iconst 0, 1) := by decide +kernel
theorem dX9_goesThrough_6 : decode cX9_goesThrough 6 = .ok (.istore_n 2, 1) := by decide +kernel
theorem dX9_goesThrough_7 : decode cX9_goesThrough 7 = .ok (.iconst 1, 1) := by decide +kernel
theorem dX9_goesThrough_8 : decode cX9_goesThrough 8 = .ok (.istore_n 3, 1) := by decide +kernel
theorem dX9_goesThrough_9 : decode cX9_goesThrough 9 = .ok (.iload_n 3, 1) := by decide +kernel
theorem dX9_goesThrough_10 : decode cX9_goesThrough 10 = .ok (.ifCond .eq 214, 3) := by decide +kernel
theorem dX9_goesThrough_13 : decode cX9_goesThrough 13 = .ok (.aload_n 0, 1) := by decide +kernel
theorem dX9_goesThrough_14 : decode cX9_goesThrough 14 = .ok (.invokevirtual 268, 3) := by decide +kernel
theorem dX9_goesThrough_17 : decode cX9_goesThrough 17 = .ok (.aload_n 0, 1) := by decide +kernel
theorem dX9_goesThrough_18 : decode cX9_goesThrough 18 = .ok (.invokevirtual 271, 3) := by decide +kernel
theorem dX9_goesThrough_21 : decode cX9_goesThrough 21 = .ok (.istore 4, 2) := by decide +kernel
theorem dX9_goesThrough_23 : decode cX9_goesThrough 23 = .ok (.iload 4, 2) := by decide +kernel
theorem dX9_goesThrough_25 : decode cX9_goesThrough 25 = .ok (.iconst (-1), 1) := by decide +kernel
theorem dX9_goesThrough_26 : decode cX9_goesThrough 26 = .ok (.if_icmp .ne 10, 3) := by decide +kernel
theorem dX9_goesThrough_29 : decode cX9_goesThrough 29 = .ok (.iconst (-1), 1) := by decide +kernel
theorem dX9_goesThrough_30 : decode cX9_goesThrough 30 = .ok (.aload_n 0, 1) := by decide +kernel
theorem dX9_goesThrough_31 : decode cX9_goesThrough 31 = .ok (.getfield 241, 3) := by decide +kernel
theorem dX9_goesThrough_34 : decode cX9_goesThrough 34 = .ok (.isub, 1) := by decide +kernel
theorem dX9_goesThrough_35 : decode cX9_goesThrough 35 = .ok (.ireturn, 1) := by decide +kernel
theorem dX9_goesThrough_36 : decode cX9_goesThrough 36 = .ok (.aload_n 0, 1) := by decide +kernel
theorem dX9_goesThrough_37 : decode cX9_goesThrough 37 = .ok (.invokevirtual 268, 3) := by decide +kernel
theorem dX9_goesThrough_40 : decode cX9_goesThrough 40 = .ok (.aload_n 0, 1) := by decide +kernel
theorem dX9_goesThrough_41 : decode cX9_goesThrough 41 = .ok (.iload 4, 2) := by decide +kernel
theorem dX9_goesThrough_43 : decode cX9_goesThrough 43 = .ok (.iconst 2, 1) := by decide +kernel
theorem dX9_goesThrough_44 : decode cX9_goesThrough 44 = .ok (.if_icmp .ge 7, 3) := by decide +kernel
theorem dX9_goesThrough_47 : decode cX9_goesThrough 47 = .ok (.iconst 1, 1) := by decide +kernel
theorem dX9_goesThrough_48 : decode cX9_goesThrough 48 = .ok (.goto 4, 3) := by decide +kernel
theorem dX9_goesThrough_51 : decode cX9_goesThrough 51 = .ok (.iconst 0, 1) := by decide +kernel
theorem dX9_goesThrough_52 : decode cX9_goesThrough 52 = .ok (.iload 4, 2) := by decide +kernel
theorem dX9_goesThrough_54 : decode cX9_goesThrough 54 = .ok (.iconst 2, 1) := by decide +kernel
theorem dX9_goesThrough_55 : decode cX9_goesThrough 55 = .ok (.if_icmp .ge 8, 3) := by decide +kernel
theorem dX9_goesThrough_58 : decode cX9_goesThrough 58 = .ok (.bipush 7, 2) := by decide +kernel
theorem dX9_goesThrough_60 : decode cX9_goesThrough 60 = .ok (.goto 26, 3) := by decide +kernel
theorem dX9_goesThrough_63 : decode cX9_goesThrough 63 = .ok (.iload 4, 2) := by decide +kernel
theorem dX9_goesThrough_65 : decode cX9_goesThrough 65 = .ok (.iconst 2, 1) := by decide +kernel
theorem dX9_goesThrough_66 : decode cX9_goesThrough 66 = .ok (.if_icmp .ne 7, 3) := by decide +kernel
theorem dX9_goesThrough_69 : decode cX9_goesThrough 69 = .ok (.iconst 1, 1) := by decide +kernel
theorem dX9_goesThrough_70 : decode cX9_goesThrough 70 = .ok (.goto 16, 3) := by decide +kernel
theorem dX9_goesThrough_73 : decode cX9_goesThrough 73 = .ok (.iload 4, 2) := by decide +kernel
theorem dX9_goesThrough_75 : decode cX9_goesThrough 75 = .ok (.iconst 3, 1) := by decide +kernel
theorem dX9_goesThrough_76 : decode cX9_goesThrough 76 = .ok (.if_icmp .ne 7, 3) := by decide +kernel
theorem dX9_goesThrough_79 : decode cX9_goesThrough 79 = .ok (.iconst 3, 1) := by decide +kernel
theorem dX9_goesThrough_80 : decode cX9_goesThrough 80 = .ok (.goto 6, 3) := by decide +kernel
theorem dX9_goesThrough_83 : decode cX9_goesThrough 83 = .ok (.sipush 999, 3) := by decide +kernel
theorem dX9_goesThrough_86 : decode cX9_goesThrough 86 = .ok (.invokevirtual 275, 3) := by decide +kernel
theorem dX9_goesThrough_89 : decode cX9_goesThrough 89 = .ok (.ifCond .ne 10, 3) := by decide +kernel
theorem dX9_goesThrough_92 : decode cX9_goesThrough 92 = .ok (.iconst (-1), 1) := by decide +kernel
theorem dX9_goesThrough_93 : decode cX9_goesThrough 93 = .ok (.aload_n 0, 1) := by decide +kernel
theorem dX9_goesThrough_94 : decode cX9_goesThrough 94 = .ok (.getfield 241, 3) := by decide +kernel
theorem dX9_goesThrough_97 : decode cX9_goesThrough 97 = .ok (.isub, 1) := by decide +kernel
theorem dX9_goesThrough_98 : decode cX9_goesThrough 98 = .ok (.ireturn, 1) := by decide +kernel
theorem dX9_goesThrough_99 : decode cX9_goesThrough 99 = .ok (.aload_n 0, 1) := by decide +kernel
theorem dX9_goesThrough_100 : decode cX9_goesThrough 100 = .ok (.getfield 244, 3) := by decide +kernel
theorem dX9_goesThrough_103 : decode cX9_goesThrough 103 = .ok (.istore 5, 2) := by decide +kernel
theorem dX9_goesThrough_105 : decode cX9_goesThrough 105 = .ok (.iconst 0, 1) := by decide +kernel
theorem dX9_goesThrough_106 : decode cX9_goesThrough 106 = .ok (.istore 6, 2) := by decide +kernel
theorem dX9_goesThrough_108 : decode cX9_goesThrough 108 = .ok (.iload 4, 2) := by decide +kernel
theorem dX9_goesThrough_110 : decode cX9_goesThrough 110 = .ok (.iconst 3, 1) := by decide +kernel
theorem dX9_goesThrough_111 : decode cX9_goesThrough 111 = .ok (.if_icmp .ge 42, 3) := by decide +kernel
theorem dX9_goesThrough_114 : decode cX9_goesThrough 114 = .ok (.aload_n 0, 1) := by decide +kernel
theorem dX9_goesThrough_115 : decode cX9_goesThrough 115 = .ok (.invokevirtual 268, 3) := by decide +kernel
theorem dX9_goesThrough_118 : decode cX9_goesThrough 118 = .ok (.aload_n 0, 1) := by decide +kernel
theorem dX9_goesThrough_119 : decode cX9_goesThrough 119 = .ok (.iconst 1, 1) := by decide +kernel
theorem dX9_goesThrough_120 : decode cX9_goesThrough 120 = .ok (.iload 4, 2) := by decide +kernel
theorem dX9_goesThrough_122 : decode cX9_goesThrough 122 = .ok (.iconst 2, 1) := by decide +kernel
theorem dX9_goesThrough_123 : decode cX9_goesThrough 123 = .ok (.if_icmp .ge 8, 3) := by decide +kernel
theorem dX9_goesThrough_126 : decode cX9_goesThrough 126 = .ok (.bipush 15, 2) := by decide +kernel
theorem dX9_goesThrough_128 : decode cX9_goesThrough 128 = .ok (.goto 6, 3) := by decide +kernel
theorem dX9_goesThrough_131 : decode cX9_goesThrough 131 = .ok (.sipush 999, 3) := by decide +kernel
theorem dX9_goesThrough_134 : decode cX9_goesThrough 134 = .ok (.invokevirtual 275, 3) := by decide +kernel
theorem dX9_goesThrough_137 : decode cX9_goesThrough 137 = .ok (.ifCond .ne 10, 3) := by decide +kernel
theorem dX9_goesThrough_140 : decode cX9_goesThrough 140 = .ok (.iconst (-1), 1) := by decide +kernel
theorem dX9_goesThrough_141 : decode cX9_goesThrough 141 = .ok (.aload_n 0, 1) := by decide +kernel
theorem dX9_goesThrough_142 : decode cX9_goesThrough 142 = .ok (.getfield 241, 3) := by decide +kernel
theorem dX9_goesThrough_145 : decode cX9_goesThrough 145 = .ok (.isub, 1) := by decide +kernel
theorem dX9_goesThrough_146 : decode cX9_goesThrough 146 = .ok (.ireturn, 1) := by decide +kernel
theorem dX9_goesThrough_147 : decode cX9_goesThrough 147 = .ok (.aload_n 0, 1) := by decide +kernel
theorem dX9_goesThrough_148 : decode cX9_goesThrough 148 = .ok (.getfield 244, 3) := by decide +kernel
theorem dX9_goesThrough_151 : decode cX9_goesThrough 151 = .ok (.istore 6, 2) := by decide +kernel
theorem dX9_goesThrough_153 : decode cX9_goesThrough 153 = .ok (.iload_n 1, 1) := by decide +kernel
theorem dX9_goesThrough_154 : decode cX9_goesThrough 154 = .ok (.ifCond .eq 13, 3) := by decide +kernel
theorem dX9_goesThrough_157 : decode cX9_goesThrough 157 = .ok (.aload_n 0, 1) := by decide +kernel
theorem dX9_goesThrough_158 : decode cX9_goesThrough 158 = .ok (.iload 4, 2) := by decide +kernel
theorem dX9_goesThrough_160 : decode cX9_goesThrough 160 = .ok (.iload 5, 2) := by decide +kernel
theorem dX9_goesThrough_162 : decode cX9_goesThrough 162 = .ok (.iload 6, 2) := by decide +kernel
theorem dX9_goesThrough_164 : decode cX9_goesThrough 164 = .ok (.invokevirtual 278, 3) := by decide +kernel
theorem dX9_goesThrough_167 : decode cX9_goesThrough 167 = .ok (.iinc 2 1, 3) := by decide +kernel
theorem dX9_goesThrough_170 : decode cX9_goesThrough 170 = .ok (.aload_n 0, 1) := by decide +kernel
theorem dX9_goesThrough_171 : decode cX9_goesThrough 171 = .ok (.invokevirtual 268, 3) := by decide +kernel
theorem dX9_goesThrough_174 : decode cX9_goesThrough 174 = .ok (.aload_n 0, 1) := by decide +kernel
theorem dX9_goesThrough_175 : decode cX9_goesThrough 175 = .ok (.getfield 250, 3) := by decide +kernel
theorem dX9_goesThrough_178 : decode cX9_goesThrough 178 = .ok (.ifCond .eq 7, 3) := by decide +kernel
theorem dX9_goesThrough_181 : decode cX9_goesThrough 181 = .ok (.iconst 1, 1) := by decide +kernel
theorem dX9_goesThrough_182 : decode cX9_goesThrough 182 = .ok (.goto 4, 3) := by decide +kernel
theorem dX9_goesThrough_185 : decode cX9_goesThrough 185 = .ok (.iconst 0, 1) := by decide +kernel
theorem dX9_goesThrough_186 : decode cX9_goesThrough 186 = .ok (.istore_n 3, 1) := by decide +kernel
theorem dX9_goesThrough_187 : decode cX9_goesThrough 187 = .ok (.iload_n 3, 1) := by decide +kernel
theorem dX9_goesThrough_188 : decode cX9_goesThrough 188 = .ok (.ifCond .eq 33, 3) := by decide +kernel
theorem dX9_goesThrough_191 : decode cX9_goesThrough 191 = .ok (.aload_n 0, 1) := by decide +kernel
theorem dX9_goesThrough_192 : decode cX9_goesThrough 192 = .ok (.getfield 250, 3) := by decide +kernel
theorem dX9_goesThrough_195 : decode cX9_goesThrough 195 = .ok (.iconst 3, 1) := by decide +kernel
theorem dX9_goesThrough_196 : decode cX9_goesThrough 196 = .ok (.if_icmp .ne 18, 3) := by decide +kernel
theorem dX9_goesThrough_199 : decode cX9_goesThrough 199 = .ok (.aload_n 0, 1) := by decide +kernel
theorem dX9_goesThrough_200 : decode cX9_goesThrough 200 = .ok (.getfield 244, 3) := by decide +kernel
theorem dX9_goesThrough_203 : decode cX9_goesThrough 203 = .ok (.bipush 59, 2) := by decide +kernel
theorem dX9_goesThrough_205 : decode cX9_goesThrough 205 = .ok (.if_icmp .ne 9, 3) := by decide +kernel
theorem dX9_goesThrough_208 : decode cX9_goesThrough 208 = .ok (.iload_n 2, 1) := by decide +kernel
theorem dX9_goesThrough_209 : decode cX9_goesThrough 209 = .ok (.bipush 24, 2) := by decide +kernel
theorem dX9_goesThrough_211 : decode cX9_goesThrough 211 = .ok (.if_icmp .ne 10, 3) := by decide +kernel
theorem dX9_goesThrough_214 : decode cX9_goesThrough 214 = .ok (.iconst (-1), 1) := by decide +kernel
theorem dX9_goesThrough_215 : decode cX9_goesThrough 215 = .ok (.aload_n 0, 1) := by decide +kernel
theorem dX9_goesThrough_216 : decode cX9_goesThrough 216 = .ok (.getfield 241, 3) := by decide +kernel
theorem dX9_goesThrough_219 : decode cX9_goesThrough 219 = .ok (.isub, 1) := by decide +kernel
theorem dX9_goesThrough_220 : decode cX9_goesThrough 220 = .ok (.ireturn, 1) := by decide +kernel
theorem dX9_goesThrough_221 : decode cX9_goesThrough 221 = .ok (.goto (-212), 3) := by decide +kernel
theorem dX9_goesThrough_224 : decode cX9_goesThrough 224 = .ok (.iload_n 2, 1) := by decide +kernel
theorem dX9_goesThrough_225 : decode cX9_goesThrough 225 = .ok (.ireturn, 1) := by decide +kernel
set_option maxRecDepth 20000 in
theorem ggX9_fault_X9_goesThrough : GoodIn wsX9_fault wsX9_goesThrough := goodIn_r _ [5, 6, 7, 8, 9, 10, 11, 12, 4, 13, 14, 15, 16, 17, 18, 19, 20, 21, 22, 23, 24, 25, 26, 27, 28, 29, 30, 31, 32, 33, 34, 35, 36, 37, 38, 39, 40, 41, 42, 43, 44, 45, 46, 47, 48, 49, 50, 51, 52, 53, 54, 55, 56, 57, 58, 59, 60, 61, 62, 63, 64, 65, 66, 67, 68, 69, 70, 71, 72, 73, 74, 75, 76, 77, 78, 79, 80, 81, 82, 83, 84, 85, 86, 87, 88, 89, 90, 91] (by decide +kernel) (by decide +kernel)
set_option maxRecDepth 20000 in
theorem gX9_fault_X9_goesThrough : GoodIn wsX9_fault (wsV RX9 282 RX9 yX9_goesThrough wsX9_goesThrough) := goodIn_app (goodIn_of _ (by decide +kernel)) ggX9_fault_X9_goesThrough
theorem dX9_fault_0 : decode cX9_fault 0 = .ok (.aload_n 0, 1) := by decide +kernel
theorem dX9_fault_1 : decode cX9_fault 1 = .ok (.iconst 0, 1) := by decide +kernel
theorem dX9_fault_2 : decode cX9_fault 2 = .ok (.invokevirtual 282, 3) := by decide +kernel
theorem dX9_fault_5 : decode cX9_fault 5 = .ok (.istore_n 1, 1) := by decide +kernel
theorem dX9_fault_6 : decode cX9_fault 6 = .ok (.iload_n 1, 1) := by decide +kernel
theorem dX9_fault_7 : decode cX9_fault 7 = .ok (.ifCond .ge 9, 3) := by decide +kernel
theorem dX9_fault_10 : decode cX9_fault 10 = .ok (.iconst (-1), 1) := by decide +kernel
theorem dX9_fault_11 : decode cX9_fault 11 = .ok (.iload_n 1, 1) := by decide +kernel
theorem dX9_fault_12 : decode cX9_fault 12 = .ok (.isub, 1) := by decide +kernel
theorem dX9_fault_13 : decode cX9_fault 13 = .ok (.goto 4, 3) := by decide +kernel
theorem dX9_fault_16 : decode cX9_fault 16 = .ok (.iconst (-1), 1) := by decide +kernel
theorem dX9_fault_17 : decode cX9_fault 17 = .ok (.ireturn, 1) := by decide +kernel
set_option maxRecDepth 20000 in
theorem ggX9_settings_X9_goesThrough : GoodIn wsX9_settings wsX9_goesThrough := goodIn_r _ [6, 7, 8, 9, 10, 11, 12, 13, 5, 14, 15, 1, 16, 17, 18, 19, 20, 21, 22, 23, 24, 25, 26, 27, 28, 29, 30, 31, 32, 33, 34, 35, 36, 37, 38, 39, 40, 41, 42, 43, 44, 45, 46, 47, 48, 49, 50, 51, 52, 53, 54, 55, 56, 57, 58, 59, 60, 61, 62, 63, 64, 65, 66, 67, 68, 69, 70, 71, 72, 73, 74, 75, 76, 77, 78, 79, 80, 81, 82, 83, 84, 85, 86, 87, 88, 89, 90, 91] (by decide +kernel) (by decide +kernel)
set_option maxRecDepth 20000 in
theorem gX9_settings_X9_goesThrough : GoodIn wsX9_settings (wsV RX9 282 RX9 yX9_goesThrough wsX9_goesThrough) := goodIn_app (goodIn_of _ (by decide +kernel)) ggX9_settings_X9_goesThrough
theorem dX9_settings_0 : decode cX9_settings 0 = .ok (.aload_n 0, 1) := by decide +kernel
theorem dX9_settings_1 : decode cX9_settings 1 = .ok (.iconst 0, 1) := by decide +kernel
theorem dX9_settings_2 : decode cX9_settings 2 = .ok (.invokevirtual 282, 3) := by decide +kernel
theorem dX9_settings_5 : decode cX9_settings 5 = .ok (.ifCond .ge 6, 3) := by decide +kernel
theorem dX9_settings_8 : decode cX9_settings 8 = .ok (.bipush (-4), 2) := by decide +kernel
theorem dX9_settings_10 : decode cX9_settings 10 = .ok (.ireturn, 1) := by decide +kernel
theorem dX9_settings_11 : decode cX9_settings 11 = .ok (.aload_n 0, 1) := by decide +kernel
theorem dX9_settings_12 : decode cX9_settings 12 = .ok (.iconst 1, 1) := by decide +kernel
theorem dX9_settings_13 : decode cX9_settings 13 = .ok (.invokevirtual 282, 3) := by decide +kernel
theorem dX9_settings_16 : decode cX9_settings 16 = .ok (.istore_n 1, 1) := by decide +kernel
theorem dX9_settings_17 : decode cX9_settings 17 = .ok (.aload_n 0, 1) := by decide +kernel
theorem dX9_settings_18 : decode cX9_settings 18 = .ok (.iconst 0, 1) := by decide +kernel
theorem dX9_settings_19 : decode cX9_settings 19 = .ok (.putfield 232, 3) := by decide +kernel
theorem dX9_settings_22 : decode cX9_settings 22 = .ok (.iload_n 1, 1) := by decide +kernel
theorem dX9_settings_23 : decode cX9_settings 23 = .ok (.ireturn, 1) := by decide +kernel
set_option maxRecDepth 20000 in
theorem ggX9_offer_X9_isSide : GoodIn wsX9_offer wsX9_isSide := goodIn_r _ [8, 9, 10, 7, 11] (by decide +kernel) (by decide +kernel)
set_option maxRecDepth 20000 in
theorem gX9_offer_X9_isSide : GoodIn wsX9_offer (va_wsS RX9 286 yX9_isSide wsX9_isSide) := goodIn_app (goodIn_of _ (by decide +kernel)) ggX9_offer_X9_isSide
set_option maxRecDepth 20000 in
theorem ggX9_offer_X9_in : GoodIn wsX9_offer wsX9_in := goodIn_r _ [11] (by decide +kernel) (by decide +kernel)
set_option maxRecDepth 20000 in
theorem gX9_offer_X9_in : GoodIn wsX9_offer (va_wsS RX9 87 yX9_in wsX9_in) := goodIn_app (goodIn_of _ (by decide +kernel)) ggX9_offer_X9_in
theorem dX9_offer_0 : decode cX9_offer 0 = .ok (.iload_n 1, 1) := by decide +kernel
theorem dX9_offer_1 : decode cX9_offer 1 = .ok (.invokestatic 286, 3) := by decide +kernel
theorem dX9_offer_4 : decode cX9_offer 4 = .ok (.ifCond .ne 6, 3) := by decide +kernel
theorem dX9_offer_7 : decode cX9_offer 7 = .ok (.bipush (-2), 2) := by decide +kernel
theorem dX9_offer_9 : decode cX9_offer 9 = .ok (.ireturn, 1) := by decide +kernel
theorem dX9_offer_10 : decode cX9_offer 10 = .ok (.iload_n 2, 1) := by decide +kernel
theorem dX9_offer_11 : decode cX9_offer 11 = .ok (.i2l, 1) := by decide +kernel
theorem dX9_offer_12 : decode cX9_offer 12 = .ok (.lconst 1, 1) := by decide +kernel
theorem dX9_offer_13 : decode cX9_offer 13 = .ok (.ldc2_w 289, 3) := by decide +kernel
theorem dX9_offer_16 : decode cX9_offer 16 = .ok (.invokestatic 87, 3) := by decide +kernel
theorem dX9_offer_19 : decode cX9_offer 19 = .ok (.ifCond .eq 15, 3) := by decide +kernel
theorem dX9_offer_22 : decode cX9_offer 22 = .ok (.iload_n 3, 1) := by decide +kernel
theorem dX9_offer_23 : decode cX9_offer 23 = .ok (.i2l, 1) := by decide +kernel
theorem dX9_offer_24 : decode cX9_offer 24 = .ok (.lconst 1, 1) := by decide +kernel
theorem dX9_offer_25 : decode cX9_offer 25 = .ok (.ldc2_w 291, 3) := by decide +kernel
theorem dX9_offer_28 : decode cX9_offer 28 = .ok (.invokestatic 87, 3) := by decide +kernel
theorem dX9_offer_31 : decode cX9_offer 31 = .ok (.ifCond .ne 6, 3) := by decide +kernel
theorem dX9_offer_34 : decode cX9_offer 34 = .ok (.bipush (-3), 2) := by decide +kernel
theorem dX9_offer_36 : decode cX9_offer 36 = .ok (.ireturn, 1) := by decide +kernel
theorem dX9_offer_37 : decode cX9_offer 37 = .ok (.aload_n 0, 1) := by decide +kernel
theorem dX9_offer_38 : decode cX9_offer 38 = .ok (.getfield 7, 3) := by decide +kernel
theorem dX9_offer_41 : decode cX9_offer 41 = .ok (.iload_n 1, 1) := by decide +kernel
theorem dX9_offer_42 : decode cX9_offer 42 = .ok (.iaload, 1) := by decide +kernel
theorem dX9_offer_43 : decode cX9_offer 43 = .ok (.istore 4, 2) := by decide +kernel
theorem dX9_offer_45 : decode cX9_offer 45 = .ok (.aload_n 0, 1) := by decide +kernel
theorem dX9_offer_46 : decode cX9_offer 46 = .ok (.getfield 7, 3) := by decide +kernel
theorem dX9_offer_49 : decode cX9_offer 49 = .ok (.iload_n 1, 1) := by decide +kernel
theorem dX9_offer_50 : decode cX9_offer 50 = .ok (.iload_n 2, 1) := by decide +kernel
theorem dX9_offer_51 : decode cX9_offer 51 = .ok (.iastore, 1) := by decide +kernel
theorem dX9_offer_52 : decode cX9_offer 52 = .ok (.aload_n 0, 1) := by decide +kernel
theorem dX9_offer_53 : decode cX9_offer 53 = .ok (.getfield 13, 3) := by decide +kernel
theorem dX9_offer_56 : decode cX9_offer 56 = .ok (.iload_n 1, 1) := by decide +kernel
theorem dX9_offer_57 : decode cX9_offer 57 = .ok (.iload_n 3, 1) := by decide +kernel
theorem dX9_offer_58 : decode cX9_offer 58 = .ok (.iastore, 1) := by decide +kernel
theorem dX9_offer_59 : decode cX9_offer 59 = .ok (.iload 4, 2) := by decide +kernel
theorem dX9_offer_61 : decode cX9_offer 61 = .ok (.ireturn, 1) := by decide +kernel
set_option maxRecDepth 20000 in
theorem ggX9_secret_X9_isSide : GoodIn wsX9_secret wsX9_isSide := goodIn_r _ [6, 7, 8, 5, 9] (by decide +kernel) (by decide +kernel)
set_option maxRecDepth 20000 in
theorem gX9_secret_X9_isSide : GoodIn wsX9_secret (va_wsS RX9 286 yX9_isSide wsX9_isSide) := goodIn_app (goodIn_of _ (by decide +kernel)) ggX9_secret_X9_isSide
set_option maxRecDepth 20000 in
theorem ggX9_secret_X9_in : GoodIn wsX9_secret wsX9_in := goodIn_r _ [9] (by decide +kernel) (by decide +kernel)
set_option maxRecDepth 20000 in
theorem gX9_secret_X9_in : GoodIn wsX9_secret (va_wsS RX9 87 yX9_in wsX9_in) := goodIn_app (goodIn_of _ (by decide +kernel)) ggX9_secret_X9_in
theorem dX9_secret_0 : decode cX9_secret 0 = .ok (.iload_n 1, 1) := by decide +kernel
theorem dX9_secret_1 : decode cX9_secret 1 = .ok (.invokestatic 286, 3) := by decide +kernel
theorem dX9_secret_4 : decode cX9_secret 4 = .ok (.ifCond .ne 6, 3) := by decide +kernel
theorem dX9_secret_7 : decode cX9_secret 7 = .ok (.bipush (-2), 2) := by decide +kernel
theorem dX9_secret_9 : decode cX9_secret 9 = .ok (.ireturn, 1) := by decide +kernel
theorem dX9_secret_10 : decode cX9_secret 10 = .ok (.iload_n 2, 1) := by decide +kernel
theorem dX9_secret_11 : decode cX9_secret 11 = .ok (.i2l, 1) := by decide +kernel
theorem dX9_secret_12 : decode cX9_secret 12 = .ok (.lconst 1, 1) := by decide +kernel
theorem dX9_secret_13 : decode cX9_secret 13 = .ok (.ldc2_w 293, 3) := by decide +kernel
theorem dX9_secret_16 : decode cX9_secret 16 = .ok (.invokestatic 87, 3) := by decide +kernel
theorem dX9_secret_19 : decode cX9_secret 19 = .ok (.ifCond .ne 6, 3) := by decide +kernel
theorem dX9_secret_22 : decode cX9_secret 22 = .ok (.bipush (-3), 2) := by decide +kernel
theorem dX9_secret_24 : decode cX9_secret 24 = .ok (.ireturn, 1) := by decide +kernel
theorem dX9_secret_25 : decode cX9_secret 25 = .ok (.aload_n 0, 1) := by decide +kernel
theorem dX9_secret_26 : decode cX9_secret 26 = .ok (.getfield 16, 3) := by decide +kernel
theorem dX9_secret_29 : decode cX9_secret 29 = .ok (.iload_n 1, 1) := by decide +kernel
theorem dX9_secret_30 : decode cX9_secret 30 = .ok (.iaload, 1) := by decide +kernel
theorem dX9_secret_31 : decode cX9_secret 31 = .ok (.istore_n 3, 1) := by decide +kernel
theorem dX9_secret_32 : decode cX9_secret 32 = .ok (.aload_n 0, 1) := by decide +kernel
theorem dX9_secret_33 : decode cX9_secret 33 = .ok (.getfield 16, 3) := by decide +kernel
theorem dX9_secret_36 : decode cX9_secret 36 = .ok (.iload_n 1, 1) := by decide +kernel
theorem dX9_secret_37 : decode cX9_secret 37 = .ok (.iload_n 2, 1) := by decide +kernel
theorem dX9_secret_38 : decode cX9_secret 38 = .ok (.iastore, 1) := by decide +kernel
theorem dX9_secret_39 : decode cX9_secret 39 = .ok (.iload_n 3, 1) := by decide +kernel
theorem dX9_secret_40 : decode cX9_secret 40 = .ok (.ireturn, 1) := by decide +kernel
set_option maxRecDepth 20000 in
theorem ggX9_guess_X9_in : GoodIn wsX9_guess wsX9_in := goodIn_r _ [6] (by decide +kernel) (by decide +kernel)
set_option maxRecDepth 20000 in
theorem gX9_guess_X9_in : GoodIn wsX9_guess (va_wsS RX9 87 yX9_in wsX9_in) := goodIn_app (goodIn_of _ (by decide +kernel)) ggX9_guess_X9_in
theorem dX9_guess_0 : decode cX9_guess 0 = .ok (.iload_n 1, 1) := by decide +kernel
theorem dX9_guess_1 : decode cX9_guess 1 = .ok (.i2l, 1) := by decide +kernel
theorem dX9_guess_2 : decode cX9_guess 2 = .ok (.lconst 0, 1) := by decide +kernel
theorem dX9_guess_3 : decode cX9_guess 3 = .ok (.ldc2_w 100, 3) := by decide +kernel
theorem dX9_guess_6 : decode cX9_guess 6 = .ok (.invokestatic 87, 3) := by decide +kernel
theorem dX9_guess_9 : decode cX9_guess 9 = .ok (.ifCond .ne 6, 3) := by decide +kernel
theorem dX9_guess_12 : decode cX9_guess 12 = .ok (.bipush (-3), 2) := by decide +kernel
theorem dX9_guess_14 : decode cX9_guess 14 = .ok (.ireturn, 1) := by decide +kernel
theorem dX9_guess_15 : decode cX9_guess 15 = .ok (.aload_n 0, 1) := by decide +kernel
theorem dX9_guess_16 : decode cX9_guess 16 = .ok (.getfield 265, 3) := by decide +kernel
theorem dX9_guess_19 : decode cX9_guess 19 = .ok (.istore_n 2, 1) := by decide +kernel
theorem dX9_guess_20 : decode cX9_guess 20 = .ok (.aload_n 0, 1) := by decide +kernel
theorem dX9_guess_21 : decode cX9_guess 21 = .ok (.iload_n 1, 1) := by decide +kernel
theorem dX9_guess_22 : decode cX9_guess 22 = .ok (.putfield 265, 3) := by decide +kernel
theorem dX9_guess_25 : decode cX9_guess 25 = .ok (.iload_n 2, 1) := by decide +kernel
theorem dX9_guess_26 : decode cX9_guess 26 = .ok (.ireturn, 1) := by decide +kernel
set_option maxRecDepth 20000 in
theorem ggX9_early_X9_in : GoodIn wsX9_early wsX9_in := goodIn_r _ [7] (by decide +kernel) (by decide +kernel)
set_option maxRecDepth 20000 in
theorem gX9_early_X9_in : GoodIn wsX9_early (va_wsS RX9 87 yX9_in wsX9_in) := goodIn_app (goodIn_of _ (by decide +kernel)) ggX9_early_X9_in
theorem dX9_early_0 : decode cX9_early 0 = .ok (.iload_n 1, 1) := by decide +kernel
theorem dX9_early_1 : decode cX9_early 1 = .ok (.i2l, 1) := by decide +kernel
theorem dX9_early_2 : decode cX9_early 2 = .ok (.ldc2_w 295, 3) := by decide +kernel
theorem dX9_early_5 : decode cX9_early 5 = .ok (.ldc2_w 293, 3) := by decide +kernel
theorem dX9_early_8 : decode cX9_early 8 = .ok (.invokestatic 87, 3) := by decide +kernel
theorem dX9_early_11 : decode cX9_early 11 = .ok (.ifCond .ne 6, 3) := by decide +kernel
theorem dX9_early_14 : decode cX9_early 14 = .ok (.bipush (-3), 2) := by decide +kernel
theorem dX9_early_16 : decode cX9_early 16 = .ok (.ireturn, 1) := by decide +kernel
theorem dX9_early_17 : decode cX9_early 17 = .ok (.aload_n 0, 1) := by decide +kernel
theorem dX9_early_18 : decode cX9_early 18 = .ok (.getfield 46, 3) := by decide +kernel
theorem dX9_early_21 : decode cX9_early 21 = .ok (.istore_n 2, 1) := by decide +kernel
theorem dX9_early_22 : decode cX9_early 22 = .ok (.aload_n 0, 1) := by decide +kernel
theorem dX9_early_23 : decode cX9_early 23 = .ok (.iload_n 1, 1) := by decide +kernel
theorem dX9_early_24 : decode cX9_early 24 = .ok (.putfield 46, 3) := by decide +kernel
theorem dX9_early_27 : decode cX9_early 27 = .ok (.iload_n 2, 1) := by decide +kernel
theorem dX9_early_28 : decode cX9_early 28 = .ok (.ireturn, 1) := by decide +kernel
set_option maxRecDepth 20000 in
theorem ggX9_hello_X9_has : GoodIn wsX9_hello wsX9_has := goodIn_r _ [9] (by decide +kernel) (by decide +kernel)
set_option maxRecDepth 20000 in
theorem gX9_hello_X9_has : GoodIn wsX9_hello (va_wsS RX9 102 yX9_has wsX9_has) := goodIn_app (goodIn_of _ (by decide +kernel)) ggX9_hello_X9_has
set_option maxRecDepth 20000 in
theorem ggX9_hello_X9_leastOf : GoodIn wsX9_hello wsX9_leastOf := goodIn_r _ [12, 6, 7, 8, 9] (by decide +kernel) (by decide +kernel)
set_option maxRecDepth 20000 in
theorem gX9_hello_X9_leastOf : GoodIn wsX9_hello (va_wsS RX9 297 yX9_leastOf wsX9_leastOf) := goodIn_app (goodIn_of _ (by decide +kernel)) ggX9_hello_X9_leastOf
set_option maxRecDepth 20000 in
theorem ggX9_hello_X9_makesHello : GoodIn wsX9_hello wsX9_makesHello := goodIn_r _ [16, 17, 18, 19, 20, 21, 22, 3, 23, 24, 25, 2, 26, 27, 28, 29, 8, 30, 31, 32, 33, 34, 35, 36, 37, 38, 39, 40, 41, 42, 43, 44, 45, 46, 47, 48, 49, 50, 51, 52, 53, 54, 55, 5, 56, 57, 58, 59, 60, 61, 62, 63, 64, 65, 66, 67, 68, 69, 70, 71, 72, 73, 74, 75, 76, 77, 78, 79, 80, 81, 82, 83, 84, 85, 86, 87, 88, 89, 90, 91, 92, 93, 94, 95, 96, 97, 98, 99, 100] (by decide +kernel) (by decide +kernel)
set_option maxRecDepth 20000 in
theorem gX9_hello_X9_makesHello : GoodIn wsX9_hello (wsV RX9 155 RX9 yX9_makesHello wsX9_makesHello) := goodIn_app (goodIn_of _ (by decide +kernel)) ggX9_hello_X9_makesHello
theorem dX9_hello_0 : decode cX9_hello 0 = .ok (.aload_n 0, 1) := by decide +kernel
theorem dX9_hello_1 : decode cX9_hello 1 = .ok (.getfield 19, 3) := by decide +kernel
theorem dX9_hello_4 : decode cX9_hello 4 = .ok (.iconst 0, 1) := by decide +kernel
theorem dX9_hello_5 : decode cX9_hello 5 = .ok (.iaload, 1) := by decide +kernel
theorem dX9_hello_6 : decode cX9_hello 6 = .ok (.ifCond .eq 6, 3) := by decide +kernel
theorem dX9_hello_9 : decode cX9_hello 9 = .ok (.bipush (-4), 2) := by decide +kernel
theorem dX9_hello_11 : decode cX9_hello 11 = .ok (.ireturn, 1) := by decide +kernel
theorem dX9_hello_12 : decode cX9_hello 12 = .ok (.aload_n 0, 1) := by decide +kernel
theorem dX9_hello_13 : decode cX9_hello 13 = .ok (.getfield 19, 3) := by decide +kernel
theorem dX9_hello_16 : decode cX9_hello 16 = .ok (.iconst 0, 1) := by decide +kernel
theorem dX9_hello_17 : decode cX9_hello 17 = .ok (.iconst 1, 1) := by decide +kernel
theorem dX9_hello_18 : decode cX9_hello 18 = .ok (.iastore, 1) := by decide +kernel
theorem dX9_hello_19 : decode cX9_hello 19 = .ok (.aload_n 0, 1) := by decide +kernel
theorem dX9_hello_20 : decode cX9_hello 20 = .ok (.iconst 0, 1) := by decide +kernel
theorem dX9_hello_21 : decode cX9_hello 21 = .ok (.putfield 139, 3) := by decide +kernel
theorem dX9_hello_24 : decode cX9_hello 24 = .ok (.aload_n 0, 1) := by decide +kernel
theorem dX9_hello_25 : decode cX9_hello 25 = .ok (.aload_n 0, 1) := by decide +kernel
theorem dX9_hello_26 : decode cX9_hello 26 = .ok (.getfield 13, 3) := by decide +kernel
theorem dX9_hello_29 : decode cX9_hello 29 = .ok (.iconst 0, 1) := by decide +kernel
theorem dX9_hello_30 : decode cX9_hello 30 = .ok (.iaload, 1) := by decide +kernel
theorem dX9_hello_31 : decode cX9_hello 31 = .ok (.aload_n 0, 1) := by decide +kernel
theorem dX9_hello_32 : decode cX9_hello 32 = .ok (.getfield 265, 3) := by decide +kernel
theorem dX9_hello_35 : decode cX9_hello 35 = .ok (.invokestatic 102, 3) := by decide +kernel
theorem dX9_hello_38 : decode cX9_hello 38 = .ok (.ifCond .eq 10, 3) := by decide +kernel
theorem dX9_hello_41 : decode cX9_hello 41 = .ok (.aload_n 0, 1) := by decide +kernel
theorem dX9_hello_42 : decode cX9_hello 42 = .ok (.getfield 265, 3) := by decide +kernel
theorem dX9_hello_45 : decode cX9_hello 45 = .ok (.goto 12, 3) := by decide +kernel
theorem dX9_hello_48 : decode cX9_hello 48 = .ok (.aload_n 0, 1) := by decide +kernel
theorem dX9_hello_49 : decode cX9_hello 49 = .ok (.getfield 13, 3) := by decide +kernel
theorem dX9_hello_52 : decode cX9_hello 52 = .ok (.iconst 0, 1) := by decide +kernel
theorem dX9_hello_53 : decode cX9_hello 53 = .ok (.iaload, 1) := by decide +kernel
theorem dX9_hello_54 : decode cX9_hello 54 = .ok (.invokestatic 297, 3) := by decide +kernel
theorem dX9_hello_57 : decode cX9_hello 57 = .ok (.invokevirtual 155, 3) := by decide +kernel
theorem dX9_hello_60 : decode cX9_hello 60 = .ok (.aload_n 0, 1) := by decide +kernel
theorem dX9_hello_61 : decode cX9_hello 61 = .ok (.getfield 62, 3) := by decide +kernel
theorem dX9_hello_64 : decode cX9_hello 64 = .ok (.iconst 1, 1) := by decide +kernel
theorem dX9_hello_65 : decode cX9_hello 65 = .ok (.iaload, 1) := by decide +kernel
theorem dX9_hello_66 : decode cX9_hello 66 = .ok (.ireturn, 1) := by decide +kernel
theorem dX9_fetches_0 : decode cX9_fetches 0 = .ok (.iconst 0, 1) := by decide +kernel
theorem dX9_fetches_1 : decode cX9_fetches 1 = .ok (.istore_n 2, 1) := by decide +kernel
theorem dX9_fetches_2 : decode cX9_fetches 2 = .ok (.iload_n 2, 1) := by decide +kernel
theorem dX9_fetches_3 : decode cX9_fetches 3 = .ok (.bipush 9, 2) := by decide +kernel
theorem dX9_fetches_5 : decode cX9_fetches 5 = .ok (.if_icmp .ge 26, 3) := by decide +kernel
theorem dX9_fetches_8 : decode cX9_fetches 8 = .ok (.aload_n 0, 1) := by decide +kernel
theorem dX9_fetches_9 : decode cX9_fetches 9 = .ok (.getfield 71, 3) := by decide +kernel
theorem dX9_fetches_12 : decode cX9_fetches 12 = .ok (.iload_n 2, 1) := by decide +kernel
theorem dX9_fetches_13 : decode cX9_fetches 13 = .ok (.aload_n 0, 1) := by decide +kernel
theorem dX9_fetches_14 : decode cX9_fetches 14 = .ok (.getfield 65, 3) := by decide +kernel
theorem dX9_fetches_17 : decode cX9_fetches 17 = .ok (.bipush 72, 2) := by decide +kernel
theorem dX9_fetches_19 : decode cX9_fetches 19 = .ok (.iload_n 1, 1) := by decide +kernel
theorem dX9_fetches_20 : decode cX9_fetches 20 = .ok (.imul, 1) := by decide +kernel
theorem dX9_fetches_21 : decode cX9_fetches 21 = .ok (.iload_n 2, 1) := by decide +kernel
theorem dX9_fetches_22 : decode cX9_fetches 22 = .ok (.iadd, 1) := by decide +kernel
theorem dX9_fetches_23 : decode cX9_fetches 23 = .ok (.iaload, 1) := by decide +kernel
theorem dX9_fetches_24 : decode cX9_fetches 24 = .ok (.iastore, 1) := by decide +kernel
theorem dX9_fetches_25 : decode cX9_fetches 25 = .ok (.iinc 2 1, 3) := by decide +kernel
theorem dX9_fetches_28 : decode cX9_fetches 28 = .ok (.goto (-26), 3) := by decide +kernel
theorem dX9_fetches_31 : decode cX9_fetches 31 = .ok (.return_, 1) := by decide +kernel
set_option maxRecDepth 20000 in
theorem ggX9_step_X9_isSide : GoodIn wsX9_step wsX9_isSide := goodIn_r _ [6, 7, 8, 5, 9] (by decide +kernel) (by decide +kernel)
set_option maxRecDepth 20000 in
theorem gX9_step_X9_isSide : GoodIn wsX9_step (va_wsS RX9 286 yX9_isSide wsX9_isSide) := goodIn_app (goodIn_of _ (by decide +kernel)) ggX9_step_X9_isSide
set_option maxRecDepth 20000 in
theorem ggX9_step_X9_fetches : GoodIn wsX9_step wsX9_fetches := goodIn_r _ [13, 2, 14, 171, 172, 173, 174, 175, 176, 177, 178, 179, 180, 181, 182, 183, 184, 185, 186, 187, 188, 189, 190, 191, 192, 193, 194, 195, 196, 197, 198, 199, 200, 201, 202, 203, 204, 205, 206, 207, 208, 209, 210, 211, 212, 213] (by decide +kernel) (by decide +kernel)
set_option maxRecDepth 20000 in
theorem gX9_step_X9_fetches : GoodIn wsX9_step (wsV RX9 300 RX9 yX9_fetches wsX9_fetches) := goodIn_app (goodIn_of _ (by decide +kernel)) ggX9_step_X9_fetches
set_option maxRecDepth 20000 in
theorem ggX9_step_X9_drops : GoodIn wsX9_step wsX9_drops := goodIn_r _ [18, 14, 1, 171, 172, 173, 174, 175, 176, 177, 178, 179, 180, 181, 182, 183, 184, 185, 186, 187, 188, 189, 190, 191, 192, 193, 194, 195, 196, 197, 198, 199, 200, 201, 202, 203, 204, 205, 206, 207, 208, 209, 210, 211, 212, 213] (by decide +kernel) (by decide +kernel)
set_option maxRecDepth 20000 in
theorem gX9_step_X9_drops : GoodIn wsX9_step (wsV RX9 303 RX9 yX9_drops wsX9_drops) := goodIn_app (goodIn_of _ (by decide +kernel)) ggX9_step_X9_drops
set_option maxRecDepth 200000 in
theorem ggX9_step_X9_comes : GoodIn wsX9_step wsX9_comes := goodIn_r _ [22, 2, 23, 24, 25, 26, 5, 27, 28, 29, 30, 31, 32, 33, 34, 35, 36, 37, 38, 39, 40, 41, 42, 43, 44, 45, 46, 47, 48, 49, 50, 51, 52, 53, 54, 55, 56, 57, 58, 59, 60, 61, 62, 7, 8, 9, 63, 64, 65, 66, 67, 68, 69, 70, 71, 72, 73, 74, 75, 76, 77, 78, 79, 80, 81, 82, 83, 84, 85, 86, 87, 88, 89, 90, 91, 92, 93, 94, 95, 96, 97, 98, 99, 100, 101, 1, 102, 14, 103, 104, 105, 106, 107, 108, 109, 110, 111, 112, 113, 114, 115, 116, 117, 118, 119, 120, 121, 122, 123, 124, 125, 126, 127, 128, 129, 130, 131, 132, 133, 134, 135, 136, 137, 138, 139, 140, 141, 142, 143, 144, 145, 146, 147, 148, 149, 150, 151, 152, 153, 154, 155, 156, 157, 158, 159, 160, 161, 162, 163, 164, 165, 166, 167, 168, 169, 170, 171, 172, 173, 174, 175, 176, 177, 178, 179, 180, 181, 182, 183, 184, 185, 186, 187, 188, 189, 190, 191, 192, 193, 194, 195, 196, 197, 198, 199, 200, 201, 202, 203, 204, 205, 206, 207, 208, 209, 210, 211, 212, 213] rfl (by decide +kernel)
set_option maxRecDepth 20000 in
theorem gX9_step_X9_comes : GoodIn wsX9_step (wsV RX9 306 RX9 yX9_comes wsX9_comes) := goodIn_app (goodIn_of _ (by decide +kernel)) ggX9_step_X9_comes
theorem dX9_step_0 : decode cX9_step 0 = .ok (.iload_n 1, 1) := by decide +kernel
theorem dX9_step_1 : decode cX9_step 1 = .ok (.invokestatic 286, 3) := by decide +kernel
theorem dX9_step_4 : decode cX9_step 4 = .ok (.ifCond .ne 6, 3) := by decide +kernel
theorem dX9_step_7 : decode cX9_step 7 = .ok (.bipush (-2), 2) := by decide +kernel
theorem dX9_step_9 : decode cX9_step 9 = .ok (.ireturn, 1) := by decide +kernel
theorem dX9_step_10 : decode cX9_step 10 = .ok (.aload_n 0, 1) := by decide +kernel
theorem dX9_step_11 : decode cX9_step 11 = .ok (.getfield 62, 3) := by decide +kernel
theorem dX9_step_14 : decode cX9_step 14 = .ok (.iload_n 1, 1) := by decide +kernel
theorem dX9_step_15 : decode cX9_step 15 = .ok (.iaload, 1) := by decide +kernel
theorem dX9_step_16 : decode cX9_step 16 = .ok (.ifCond .ne 6, 3) := by decide +kernel
theorem dX9_step_19 : decode cX9_step 19 = .ok (.bipush (-4), 2) := by decide +kernel
theorem dX9_step_21 : decode cX9_step 21 = .ok (.ireturn, 1) := by decide +kernel
theorem dX9_step_22 : decode cX9_step 22 = .ok (.aload_n 0, 1) := by decide +kernel
theorem dX9_step_23 : decode cX9_step 23 = .ok (.iload_n 1, 1) := by decide +kernel
theorem dX9_step_24 : decode cX9_step 24 = .ok (.invokevirtual 300, 3) := by decide +kernel
theorem dX9_step_27 : decode cX9_step 27 = .ok (.aload_n 0, 1) := by decide +kernel
theorem dX9_step_28 : decode cX9_step 28 = .ok (.iload_n 1, 1) := by decide +kernel
theorem dX9_step_29 : decode cX9_step 29 = .ok (.invokevirtual 303, 3) := by decide +kernel
theorem dX9_step_32 : decode cX9_step 32 = .ok (.aload_n 0, 1) := by decide +kernel
theorem dX9_step_33 : decode cX9_step 33 = .ok (.getfield 71, 3) := by decide +kernel
theorem dX9_step_36 : decode cX9_step 36 = .ok (.iconst 0, 1) := by decide +kernel
theorem dX9_step_37 : decode cX9_step 37 = .ok (.iaload, 1) := by decide +kernel
theorem dX9_step_38 : decode cX9_step 38 = .ok (.istore_n 2, 1) := by decide +kernel
theorem dX9_step_39 : decode cX9_step 39 = .ok (.aload_n 0, 1) := by decide +kernel
theorem dX9_step_40 : decode cX9_step 40 = .ok (.iload_n 1, 1) := by decide +kernel
theorem dX9_step_41 : decode cX9_step 41 = .ok (.invokevirtual 306, 3) := by decide +kernel
theorem dX9_step_44 : decode cX9_step 44 = .ok (.iload_n 2, 1) := by decide +kernel
theorem dX9_step_45 : decode cX9_step 45 = .ok (.ireturn, 1) := by decide +kernel
set_option maxRecDepth 20000 in
theorem ggX9_ticket_X9_in : GoodIn wsX9_ticket wsX9_in := goodIn_r _ [12] (by decide +kernel) (by decide +kernel)
set_option maxRecDepth 20000 in
theorem gX9_ticket_X9_in : GoodIn wsX9_ticket (va_wsS RX9 87 yX9_in wsX9_in) := goodIn_app (goodIn_of _ (by decide +kernel)) ggX9_ticket_X9_in
set_option maxRecDepth 20000 in
theorem ggX9_ticket_X9_mainOf : GoodIn wsX9_ticket wsX9_mainOf := goodIn_r _ [16, 17, 18, 19, 20, 11, 21, 22, 34, 35, 36, 37, 38, 39, 40, 41, 42, 43, 44, 45, 46, 47, 48, 49, 50, 51, 52, 53, 54, 55, 56, 57, 58, 59, 60, 61, 62, 63, 64, 65, 66, 67, 68, 69, 70, 71, 72, 73, 74, 75, 76] (by decide +kernel) (by decide +kernel)
set_option maxRecDepth 20000 in
theorem gX9_ticket_X9_mainOf : GoodIn wsX9_ticket (wsV RX9 149 RX9 yX9_mainOf wsX9_mainOf) := goodIn_app (goodIn_of _ (by decide +kernel)) ggX9_ticket_X9_mainOf
set_option maxRecDepth 20000 in
theorem ggX9_ticket_X9_mix : GoodIn wsX9_ticket wsX9_mix := goodIn_r _ [21, 22] (by decide +kernel) (by decide +kernel)
set_option maxRecDepth 20000 in
theorem gX9_ticket_X9_mix : GoodIn wsX9_ticket (va_wsS RX9 109 yX9_mix wsX9_mix) := goodIn_app (goodIn_of _ (by decide +kernel)) ggX9_ticket_X9_mix
set_option maxRecDepth 20000 in
theorem ggX9_ticket_X9_clears : GoodIn wsX9_ticket wsX9_clears := goodIn_r _ [26, 8, 34, 35, 36, 37, 38, 39, 40, 41, 42, 43, 44, 45, 46, 47, 48, 49, 50, 51, 52, 53, 54, 55, 56, 57, 58, 59, 60, 61, 62, 63, 64, 65, 66, 67, 68, 69, 70, 71, 72, 73, 74, 75, 76] (by decide +kernel) (by decide +kernel)
set_option maxRecDepth 20000 in
theorem gX9_ticket_X9_clears : GoodIn wsX9_ticket (wsV RX9 116 RX9 yX9_clears wsX9_clears) := goodIn_app (goodIn_of _ (by decide +kernel)) ggX9_ticket_X9_clears
set_option maxRecDepth 20000 in
theorem ggX9_ticket_X9_sends : GoodIn wsX9_ticket wsX9_sends := goodIn_r _ [30, 31, 32, 33, 8, 34, 35, 36, 37, 38, 39, 40, 41, 42, 43, 44, 45, 46, 47, 48, 49, 50, 51, 52, 53, 54, 55, 56, 57, 58, 59, 60, 61, 62, 63, 64, 65, 66, 67, 68, 69, 70, 71, 72, 73, 74, 75, 76] (by decide +kernel) (by decide +kernel)
set_option maxRecDepth 20000 in
theorem gX9_ticket_X9_sends : GoodIn wsX9_ticket (wsV RX9 146 RX9 yX9_sends wsX9_sends) := goodIn_app (goodIn_of _ (by decide +kernel)) ggX9_ticket_X9_sends
theorem dX9_ticket_0 : decode cX9_ticket 0 = .ok (.iload_n 1, 1) := by decide +kernel
theorem dX9_ticket_1 : decode cX9_ticket 1 = .ok (.i2l, 1) := by decide +kernel
theorem dX9_ticket_2 : decode cX9_ticket 2 = .ok (.lconst 0, 1) := by decide +kernel
theorem dX9_ticket_3 : decode cX9_ticket 3 = .ok (.ldc2_w 309, 3) := by decide +kernel
theorem dX9_ticket_6 : decode cX9_ticket 6 = .ok (.invokestatic 87, 3) := by decide +kernel
theorem dX9_ticket_9 : decode cX9_ticket 9 = .ok (.ifCond .ne 6, 3) := by decide +kernel
theorem dX9_ticket_12 : decode cX9_ticket 12 = .ok (.bipush (-3), 2) := by decide +kernel
theorem dX9_ticket_14 : decode cX9_ticket 14 = .ok (.ireturn, 1) := by decide +kernel
theorem dX9_ticket_15 : decode cX9_ticket 15 = .ok (.aload_n 0, 1) := by decide +kernel
theorem dX9_ticket_16 : decode cX9_ticket 16 = .ok (.getfield 19, 3) := by decide +kernel
theorem dX9_ticket_19 : decode cX9_ticket 19 = .ok (.iconst 1, 1) := by decide +kernel
theorem dX9_ticket_20 : decode cX9_ticket 20 = .ok (.iaload, 1) := by decide +kernel
theorem dX9_ticket_21 : decode cX9_ticket 21 = .ok (.iconst 4, 1) := by decide +kernel
theorem dX9_ticket_22 : decode cX9_ticket 22 = .ok (.if_icmp .ne 13, 3) := by decide +kernel
theorem dX9_ticket_25 : decode cX9_ticket 25 = .ok (.aload_n 0, 1) := by decide +kernel
theorem dX9_ticket_26 : decode cX9_ticket 26 = .ok (.getfield 28, 3) := by decide +kernel
theorem dX9_ticket_29 : decode cX9_ticket 29 = .ok (.iconst 1, 1) := by decide +kernel
theorem dX9_ticket_30 : decode cX9_ticket 30 = .ok (.iaload, 1) := by decide +kernel
theorem dX9_ticket_31 : decode cX9_ticket 31 = .ok (.iconst 3, 1) := by decide +kernel
theorem dX9_ticket_32 : decode cX9_ticket 32 = .ok (.if_icmp .eq 6, 3) := by decide +kernel
theorem dX9_ticket_35 : decode cX9_ticket 35 = .ok (.bipush (-4), 2) := by decide +kernel
theorem dX9_ticket_37 : decode cX9_ticket 37 = .ok (.ireturn, 1) := by decide +kernel
theorem dX9_ticket_38 : decode cX9_ticket 38 = .ok (.aload_n 0, 1) := by decide +kernel
theorem dX9_ticket_39 : decode cX9_ticket 39 = .ok (.getfield 170, 3) := by decide +kernel
theorem dX9_ticket_42 : decode cX9_ticket 42 = .ok (.iconst 3, 1) := by decide +kernel
theorem dX9_ticket_43 : decode cX9_ticket 43 = .ok (.if_icmp .ne 41, 3) := by decide +kernel
theorem dX9_ticket_46 : decode cX9_ticket 46 = .ok (.iconst 0, 1) := by decide +kernel
theorem dX9_ticket_47 : decode cX9_ticket 47 = .ok (.istore_n 2, 1) := by decide +kernel
theorem dX9_ticket_48 : decode cX9_ticket 48 = .ok (.iload_n 2, 1) := by decide +kernel
theorem dX9_ticket_49 : decode cX9_ticket 49 = .ok (.bipush 10, 2) := by decide +kernel
theorem dX9_ticket_51 : decode cX9_ticket 51 = .ok (.if_icmp .ge 23, 3) := by decide +kernel
theorem dX9_ticket_54 : decode cX9_ticket 54 = .ok (.aload_n 0, 1) := by decide +kernel
theorem dX9_ticket_55 : decode cX9_ticket 55 = .ok (.getfield 53, 3) := by decide +kernel
theorem dX9_ticket_58 : decode cX9_ticket 58 = .ok (.iload_n 2, 1) := by decide +kernel
theorem dX9_ticket_59 : decode cX9_ticket 59 = .ok (.aload_n 0, 1) := by decide +kernel
theorem dX9_ticket_60 : decode cX9_ticket 60 = .ok (.getfield 53, 3) := by decide +kernel
theorem dX9_ticket_63 : decode cX9_ticket 63 = .ok (.iload_n 2, 1) := by decide +kernel
theorem dX9_ticket_64 : decode cX9_ticket 64 = .ok (.iconst 5, 1) := by decide +kernel
theorem dX9_ticket_65 : decode cX9_ticket 65 = .ok (.iadd, 1) := by decide +kernel
theorem dX9_ticket_66 : decode cX9_ticket 66 = .ok (.iaload, 1) := by decide +kernel
theorem dX9_ticket_67 : decode cX9_ticket 67 = .ok (.iastore, 1) := by decide +kernel
theorem dX9_ticket_68 : decode cX9_ticket 68 = .ok (.iinc 2 1, 3) := by decide +kernel
theorem dX9_ticket_71 : decode cX9_ticket 71 = .ok (.goto (-23), 3) := by decide +kernel
theorem dX9_ticket_74 : decode cX9_ticket 74 = .ok (.aload_n 0, 1) := by decide +kernel
theorem dX9_ticket_75 : decode cX9_ticket 75 = .ok (.dup, 1) := by decide +kernel
theorem dX9_ticket_76 : decode cX9_ticket 76 = .ok (.getfield 170, 3) := by decide +kernel
theorem dX9_ticket_79 : decode cX9_ticket 79 = .ok (.iconst 1, 1) := by decide +kernel
theorem dX9_ticket_80 : decode cX9_ticket 80 = .ok (.isub, 1) := by decide +kernel
theorem dX9_ticket_81 : decode cX9_ticket 81 = .ok (.putfield 170, 3) := by decide +kernel
theorem dX9_ticket_84 : decode cX9_ticket 84 = .ok (.aload_n 0, 1) := by decide +kernel
theorem dX9_ticket_85 : decode cX9_ticket 85 = .ok (.dup, 1) := by decide +kernel
theorem dX9_ticket_86 : decode cX9_ticket 86 = .ok (.getfield 311, 3) := by decide +kernel
theorem dX9_ticket_89 : decode cX9_ticket 89 = .ok (.iconst 1, 1) := by decide +kernel
theorem dX9_ticket_90 : decode cX9_ticket 90 = .ok (.iadd, 1) := by decide +kernel
theorem dX9_ticket_91 : decode cX9_ticket 91 = .ok (.putfield 311, 3) := by decide +kernel
theorem dX9_ticket_94 : decode cX9_ticket 94 = .ok (.iconst 5, 1) := by decide +kernel
theorem dX9_ticket_95 : decode cX9_ticket 95 = .ok (.aload_n 0, 1) := by decide +kernel
theorem dX9_ticket_96 : decode cX9_ticket 96 = .ok (.getfield 170, 3) := by decide +kernel
theorem dX9_ticket_99 : decode cX9_ticket 99 = .ok (.imul, 1) := by decide +kernel
theorem dX9_ticket_100 : decode cX9_ticket 100 = .ok (.istore_n 2, 1) := by decide +kernel
theorem dX9_ticket_101 : decode cX9_ticket 101 = .ok (.aload_n 0, 1) := by decide +kernel
theorem dX9_ticket_102 : decode cX9_ticket 102 = .ok (.getfield 53, 3) := by decide +kernel
theorem dX9_ticket_105 : decode cX9_ticket 105 = .ok (.iload_n 2, 1) := by decide +kernel
theorem dX9_ticket_106 : decode cX9_ticket 106 = .ok (.aload_n 0, 1) := by decide +kernel
theorem dX9_ticket_107 : decode cX9_ticket 107 = .ok (.getfield 311, 3) := by decide +kernel
theorem dX9_ticket_110 : decode cX9_ticket 110 = .ok (.iastore, 1) := by decide +kernel
theorem dX9_ticket_111 : decode cX9_ticket 111 = .ok (.aload_n 0, 1) := by decide +kernel
theorem dX9_ticket_112 : decode cX9_ticket 112 = .ok (.getfield 53, 3) := by decide +kernel
theorem dX9_ticket_115 : decode cX9_ticket 115 = .ok (.iload_n 2, 1) := by decide +kernel
theorem dX9_ticket_116 : decode cX9_ticket 116 = .ok (.iconst 1, 1) := by decide +kernel
theorem dX9_ticket_117 : decode cX9_ticket 117 = .ok (.iadd, 1) := by decide +kernel
theorem dX9_ticket_118 : decode cX9_ticket 118 = .ok (.iload_n 1, 1) := by decide +kernel
theorem dX9_ticket_119 : decode cX9_ticket 119 = .ok (.iastore, 1) := by decide +kernel
theorem dX9_ticket_120 : decode cX9_ticket 120 = .ok (.aload_n 0, 1) := by decide +kernel
theorem dX9_ticket_121 : decode cX9_ticket 121 = .ok (.getfield 53, 3) := by decide +kernel
theorem dX9_ticket_124 : decode cX9_ticket 124 = .ok (.iload_n 2, 1) := by decide +kernel
theorem dX9_ticket_125 : decode cX9_ticket 125 = .ok (.iconst 2, 1) := by decide +kernel
theorem dX9_ticket_126 : decode cX9_ticket 126 = .ok (.iadd, 1) := by decide +kernel
theorem dX9_ticket_127 : decode cX9_ticket 127 = .ok (.aload_n 0, 1) := by decide +kernel
theorem dX9_ticket_128 : decode cX9_ticket 128 = .ok (.getfield 133, 3) := by decide +kernel
theorem dX9_ticket_131 : decode cX9_ticket 131 = .ok (.iastore, 1) := by decide +kernel
theorem dX9_ticket_132 : decode cX9_ticket 132 = .ok (.aload_n 0, 1) := by decide +kernel
theorem dX9_ticket_133 : decode cX9_ticket 133 = .ok (.getfield 53, 3) := by decide +kernel
theorem dX9_ticket_136 : decode cX9_ticket 136 = .ok (.iload_n 2, 1) := by decide +kernel
theorem dX9_ticket_137 : decode cX9_ticket 137 = .ok (.iconst 3, 1) := by decide +kernel
theorem dX9_ticket_138 : decode cX9_ticket 138 = .ok (.iadd, 1) := by decide +kernel
theorem dX9_ticket_139 : decode cX9_ticket 139 = .ok (.aload_n 0, 1) := by decide +kernel
theorem dX9_ticket_140 : decode cX9_ticket 140 = .ok (.iconst 1, 1) := by decide +kernel
theorem dX9_ticket_141 : decode cX9_ticket 141 = .ok (.invokevirtual 149, 3) := by decide +kernel
theorem dX9_ticket_144 : decode cX9_ticket 144 = .ok (.aload_n 0, 1) := by decide +kernel
theorem dX9_ticket_145 : decode cX9_ticket 145 = .ok (.getfield 311, 3) := by decide +kernel
theorem dX9_ticket_148 : decode cX9_ticket 148 = .ok (.invokestatic 109, 3) := by decide +kernel
theorem dX9_ticket_151 : decode cX9_ticket 151 = .ok (.iastore, 1) := by decide +kernel
theorem dX9_ticket_152 : decode cX9_ticket 152 = .ok (.aload_n 0, 1) := by decide +kernel
theorem dX9_ticket_153 : decode cX9_ticket 153 = .ok (.getfield 53, 3) := by decide +kernel
theorem dX9_ticket_156 : decode cX9_ticket 156 = .ok (.iload_n 2, 1) := by decide +kernel
theorem dX9_ticket_157 : decode cX9_ticket 157 = .ok (.iconst 4, 1) := by decide +kernel
theorem dX9_ticket_158 : decode cX9_ticket 158 = .ok (.iadd, 1) := by decide +kernel
theorem dX9_ticket_159 : decode cX9_ticket 159 = .ok (.aload_n 0, 1) := by decide +kernel
theorem dX9_ticket_160 : decode cX9_ticket 160 = .ok (.getfield 311, 3) := by decide +kernel
theorem dX9_ticket_163 : decode cX9_ticket 163 = .ok (.bipush 77, 2) := by decide +kernel
theorem dX9_ticket_165 : decode cX9_ticket 165 = .ok (.invokestatic 109, 3) := by decide +kernel
theorem dX9_ticket_168 : decode cX9_ticket 168 = .ok (.iastore, 1) := by decide +kernel
theorem dX9_ticket_169 : decode cX9_ticket 169 = .ok (.aload_n 0, 1) := by decide +kernel
theorem dX9_ticket_170 : decode cX9_ticket 170 = .ok (.dup, 1) := by decide +kernel
theorem dX9_ticket_171 : decode cX9_ticket 171 = .ok (.getfield 170, 3) := by decide +kernel
theorem dX9_ticket_174 : decode cX9_ticket 174 = .ok (.iconst 1, 1) := by decide +kernel
theorem dX9_ticket_175 : decode cX9_ticket 175 = .ok (.iadd, 1) := by decide +kernel
theorem dX9_ticket_176 : decode cX9_ticket 176 = .ok (.putfield 170, 3) := by decide +kernel
theorem dX9_ticket_179 : decode cX9_ticket 179 = .ok (.aload_n 0, 1) := by decide +kernel
theorem dX9_ticket_180 : decode cX9_ticket 180 = .ok (.iconst 5, 1) := by decide +kernel
theorem dX9_ticket_181 : decode cX9_ticket 181 = .ok (.invokevirtual 116, 3) := by decide +kernel
theorem dX9_ticket_184 : decode cX9_ticket 184 = .ok (.aload_n 0, 1) := by decide +kernel
theorem dX9_ticket_185 : decode cX9_ticket 185 = .ok (.getfield 71, 3) := by decide +kernel
theorem dX9_ticket_188 : decode cX9_ticket 188 = .ok (.iconst 1, 1) := by decide +kernel
theorem dX9_ticket_189 : decode cX9_ticket 189 = .ok (.aload_n 0, 1) := by decide +kernel
theorem dX9_ticket_190 : decode cX9_ticket 190 = .ok (.getfield 311, 3) := by decide +kernel
theorem dX9_ticket_193 : decode cX9_ticket 193 = .ok (.iastore, 1) := by decide +kernel
theorem dX9_ticket_194 : decode cX9_ticket 194 = .ok (.aload_n 0, 1) := by decide +kernel
theorem dX9_ticket_195 : decode cX9_ticket 195 = .ok (.getfield 71, 3) := by decide +kernel
theorem dX9_ticket_198 : decode cX9_ticket 198 = .ok (.iconst 2, 1) := by decide +kernel
theorem dX9_ticket_199 : decode cX9_ticket 199 = .ok (.aload_n 0, 1) := by decide +kernel
theorem dX9_ticket_200 : decode cX9_ticket 200 = .ok (.getfield 53, 3) := by decide +kernel
theorem dX9_ticket_203 : decode cX9_ticket 203 = .ok (.iload_n 2, 1) := by decide +kernel
theorem dX9_ticket_204 : decode cX9_ticket 204 = .ok (.iconst 4, 1) := by decide +kernel
theorem dX9_ticket_205 : decode cX9_ticket 205 = .ok (.iadd, 1) := by decide +kernel
theorem dX9_ticket_206 : decode cX9_ticket 206 = .ok (.iaload, 1) := by decide +kernel
theorem dX9_ticket_207 : decode cX9_ticket 207 = .ok (.iastore, 1) := by decide +kernel
theorem dX9_ticket_208 : decode cX9_ticket 208 = .ok (.aload_n 0, 1) := by decide +kernel
theorem dX9_ticket_209 : decode cX9_ticket 209 = .ok (.getfield 71, 3) := by decide +kernel
theorem dX9_ticket_212 : decode cX9_ticket 212 = .ok (.iconst 3, 1) := by decide +kernel
theorem dX9_ticket_213 : decode cX9_ticket 213 = .ok (.iload_n 1, 1) := by decide +kernel
theorem dX9_ticket_214 : decode cX9_ticket 214 = .ok (.iastore, 1) := by decide +kernel
theorem dX9_ticket_215 : decode cX9_ticket 215 = .ok (.aload_n 0, 1) := by decide +kernel
theorem dX9_ticket_216 : decode cX9_ticket 216 = .ok (.iconst 0, 1) := by decide +kernel
theorem dX9_ticket_217 : decode cX9_ticket 217 = .ok (.invokevirtual 146, 3) := by decide +kernel
theorem dX9_ticket_220 : decode cX9_ticket 220 = .ok (.aload_n 0, 1) := by decide +kernel
theorem dX9_ticket_221 : decode cX9_ticket 221 = .ok (.getfield 311, 3) := by decide +kernel
theorem dX9_ticket_224 : decode cX9_ticket 224 = .ok (.ireturn, 1) := by decide +kernel
theorem dX9_forget_0 : decode cX9_forget 0 = .ok (.aload_n 0, 1) := by decide +kernel
theorem dX9_forget_1 : decode cX9_forget 1 = .ok (.getfield 50, 3) := by decide +kernel
theorem dX9_forget_4 : decode cX9_forget 4 = .ok (.iconst 0, 1) := by decide +kernel
theorem dX9_forget_5 : decode cX9_forget 5 = .ok (.iaload, 1) := by decide +kernel
theorem dX9_forget_6 : decode cX9_forget 6 = .ok (.ifCond .ne 6, 3) := by decide +kernel
theorem dX9_forget_9 : decode cX9_forget 9 = .ok (.bipush (-4), 2) := by decide +kernel
theorem dX9_forget_11 : decode cX9_forget 11 = .ok (.ireturn, 1) := by decide +kernel
theorem dX9_forget_12 : decode cX9_forget 12 = .ok (.aload_n 0, 1) := by decide +kernel
theorem dX9_forget_13 : decode cX9_forget 13 = .ok (.getfield 50, 3) := by decide +kernel
theorem dX9_forget_16 : decode cX9_forget 16 = .ok (.iconst 0, 1) := by decide +kernel
theorem dX9_forget_17 : decode cX9_forget 17 = .ok (.iconst 0, 1) := by decide +kernel
theorem dX9_forget_18 : decode cX9_forget 18 = .ok (.iastore, 1) := by decide +kernel
theorem dX9_forget_19 : decode cX9_forget 19 = .ok (.aload_n 0, 1) := by decide +kernel
theorem dX9_forget_20 : decode cX9_forget 20 = .ok (.getfield 50, 3) := by decide +kernel
theorem dX9_forget_23 : decode cX9_forget 23 = .ok (.iconst 1, 1) := by decide +kernel
theorem dX9_forget_24 : decode cX9_forget 24 = .ok (.iaload, 1) := by decide +kernel
theorem dX9_forget_25 : decode cX9_forget 25 = .ok (.ireturn, 1) := by decide +kernel
set_option maxRecDepth 20000 in
theorem ggX9_say_X9_isSide : GoodIn wsX9_say wsX9_isSide := goodIn_r _ [8, 9, 10, 7, 11] (by decide +kernel) (by decide +kernel)
set_option maxRecDepth 20000 in
theorem gX9_say_X9_isSide : GoodIn wsX9_say (va_wsS RX9 286 yX9_isSide wsX9_isSide) := goodIn_app (goodIn_of _ (by decide +kernel)) ggX9_say_X9_isSide
set_option maxRecDepth 20000 in
theorem ggX9_say_X9_in : GoodIn wsX9_say wsX9_in := goodIn_r _ [11] (by decide +kernel) (by decide +kernel)
set_option maxRecDepth 20000 in
theorem gX9_say_X9_in : GoodIn wsX9_say (va_wsS RX9 87 yX9_in wsX9_in) := goodIn_app (goodIn_of _ (by decide +kernel)) ggX9_say_X9_in
set_option maxRecDepth 20000 in
theorem ggX9_say_X9_lock : GoodIn wsX9_say wsX9_lock := goodIn_r _ [15, 16, 17, 18, 19, 7, 20, 21, 22, 23, 24, 25, 26, 38, 39, 40, 41, 42, 43, 44, 45, 46, 47, 48, 49, 50, 51, 52, 53, 54, 55, 56, 57, 58, 59, 60, 61, 62, 63, 64, 65, 66, 67, 68, 69, 70, 71, 72, 73, 74, 75, 76, 77, 78, 79, 80] (by decide +kernel) (by decide +kernel)
set_option maxRecDepth 20000 in
theorem gX9_say_X9_lock : GoodIn wsX9_say (wsV RX9 206 RX9 yX9_lock wsX9_lock) := goodIn_app (goodIn_of _ (by decide +kernel)) ggX9_say_X9_lock
set_option maxRecDepth 20000 in
theorem ggX9_say_X9_clears : GoodIn wsX9_say wsX9_clears := goodIn_r _ [30, 4, 38, 39, 40, 41, 42, 43, 44, 45, 46, 47, 48, 49, 50, 51, 52, 53, 54, 55, 56, 57, 58, 59, 60, 61, 62, 63, 64, 65, 66, 67, 68, 69, 70, 71, 72, 73, 74, 75, 76, 77, 78, 79, 80] (by decide +kernel) (by decide +kernel)
set_option maxRecDepth 20000 in
theorem gX9_say_X9_clears : GoodIn wsX9_say (wsV RX9 116 RX9 yX9_clears wsX9_clears) := goodIn_app (goodIn_of _ (by decide +kernel)) ggX9_say_X9_clears
set_option maxRecDepth 20000 in
theorem ggX9_say_X9_mix : GoodIn wsX9_say wsX9_mix := goodIn_r _ [25, 26] (by decide +kernel) (by decide +kernel)
set_option maxRecDepth 20000 in
theorem gX9_say_X9_mix : GoodIn wsX9_say (va_wsS RX9 109 yX9_mix wsX9_mix) := goodIn_app (goodIn_of _ (by decide +kernel)) ggX9_say_X9_mix
set_option maxRecDepth 20000 in
theorem ggX9_say_X9_sends : GoodIn wsX9_say wsX9_sends := goodIn_r _ [34, 35, 36, 37, 4, 38, 39, 40, 41, 42, 43, 44, 45, 46, 47, 48, 49, 50, 51, 52, 53, 54, 55, 56, 57, 58, 59, 60, 61, 62, 63, 64, 65, 66, 67, 68, 69, 70, 71, 72, 73, 74, 75, 76, 77, 78, 79, 80] (by decide +kernel) (by decide +kernel)
set_option maxRecDepth 20000 in
theorem gX9_say_X9_sends : GoodIn wsX9_say (wsV RX9 146 RX9 yX9_sends wsX9_sends) := goodIn_app (goodIn_of _ (by decide +kernel)) ggX9_say_X9_sends
theorem dX9_say_0 : decode cX9_say 0 = .ok (.iload_n 1, 1) := by decide +kernel
theorem dX9_say_1 : decode cX9_say 1 = .ok (.invokestatic 286, 3) := by decide +kernel
theorem dX9_say_4 : decode cX9_say 4 = .ok (.ifCond .ne 6, 3) := by decide +kernel
theorem dX9_say_7 : decode cX9_say 7 = .ok (.bipush (-2), 2) := by decide +kernel
theorem dX9_say_9 : decode cX9_say 9 = .ok (.ireturn, 1) := by decide +kernel
theorem dX9_say_10 : decode cX9_say 10 = .ok (.iload_n 2, 1) := by decide +kernel
theorem dX9_say_11 : decode cX9_say 11 = .ok (.i2l, 1) := by decide +kernel
theorem dX9_say_12 : decode cX9_say 12 = .ok (.lconst 0, 1) := by decide +kernel
theorem dX9_say_13 : decode cX9_say 13 = .ok (.ldc2_w 293, 3) := by decide +kernel
theorem dX9_say_16 : decode cX9_say 16 = .ok (.invokestatic 87, 3) := by decide +kernel
theorem dX9_say_19 : decode cX9_say 19 = .ok (.ifCond .ne 6, 3) := by decide +kernel
theorem dX9_say_22 : decode cX9_say 22 = .ok (.bipush (-3), 2) := by decide +kernel
theorem dX9_say_24 : decode cX9_say 24 = .ok (.ireturn, 1) := by decide +kernel
theorem dX9_say_25 : decode cX9_say 25 = .ok (.aload_n 0, 1) := by decide +kernel
theorem dX9_say_26 : decode cX9_say 26 = .ok (.getfield 19, 3) := by decide +kernel
theorem dX9_say_29 : decode cX9_say 29 = .ok (.iload_n 1, 1) := by decide +kernel
theorem dX9_say_30 : decode cX9_say 30 = .ok (.iaload, 1) := by decide +kernel
theorem dX9_say_31 : decode cX9_say 31 = .ok (.iconst 4, 1) := by decide +kernel
theorem dX9_say_32 : decode cX9_say 32 = .ok (.if_icmp .eq 6, 3) := by decide +kernel
theorem dX9_say_35 : decode cX9_say 35 = .ok (.bipush (-4), 2) := by decide +kernel
theorem dX9_say_37 : decode cX9_say 37 = .ok (.ireturn, 1) := by decide +kernel
theorem dX9_say_38 : decode cX9_say 38 = .ok (.iconst 1, 1) := by decide +kernel
theorem dX9_say_39 : decode cX9_say 39 = .ok (.iload_n 1, 1) := by decide +kernel
theorem dX9_say_40 : decode cX9_say 40 = .ok (.isub, 1) := by decide +kernel
theorem dX9_say_41 : decode cX9_say 41 = .ok (.istore_n 3, 1) := by decide +kernel
theorem dX9_say_42 : decode cX9_say 42 = .ok (.aload_n 0, 1) := by decide +kernel
theorem dX9_say_43 : decode cX9_say 43 = .ok (.iload_n 1, 1) := by decide +kernel
theorem dX9_say_44 : decode cX9_say 44 = .ok (.iload_n 3, 1) := by decide +kernel
theorem dX9_say_45 : decode cX9_say 45 = .ok (.invokevirtual 206, 3) := by decide +kernel
theorem dX9_say_48 : decode cX9_say 48 = .ok (.istore 4, 2) := by decide +kernel
theorem dX9_say_50 : decode cX9_say 50 = .ok (.aload_n 0, 1) := by decide +kernel
theorem dX9_say_51 : decode cX9_say 51 = .ok (.getfield 43, 3) := by decide +kernel
theorem dX9_say_54 : decode cX9_say 54 = .ok (.iconst 2, 1) := by decide +kernel
theorem dX9_say_55 : decode cX9_say 55 = .ok (.iload_n 1, 1) := by decide +kernel
theorem dX9_say_56 : decode cX9_say 56 = .ok (.imul, 1) := by decide +kernel
theorem dX9_say_57 : decode cX9_say 57 = .ok (.iload_n 3, 1) := by decide +kernel
theorem dX9_say_58 : decode cX9_say 58 = .ok (.iadd, 1) := by decide +kernel
theorem dX9_say_59 : decode cX9_say 59 = .ok (.iaload, 1) := by decide +kernel
theorem dX9_say_60 : decode cX9_say 60 = .ok (.istore 5, 2) := by decide +kernel
theorem dX9_say_62 : decode cX9_say 62 = .ok (.aload_n 0, 1) := by decide +kernel
theorem dX9_say_63 : decode cX9_say 63 = .ok (.bipush 6, 2) := by decide +kernel
theorem dX9_say_65 : decode cX9_say 65 = .ok (.invokevirtual 116, 3) := by decide +kernel
theorem dX9_say_68 : decode cX9_say 68 = .ok (.aload_n 0, 1) := by decide +kernel
theorem dX9_say_69 : decode cX9_say 69 = .ok (.getfield 71, 3) := by decide +kernel
theorem dX9_say_72 : decode cX9_say 72 = .ok (.iconst 1, 1) := by decide +kernel
theorem dX9_say_73 : decode cX9_say 73 = .ok (.iload_n 2, 1) := by decide +kernel
theorem dX9_say_74 : decode cX9_say 74 = .ok (.iload 4, 2) := by decide +kernel
theorem dX9_say_76 : decode cX9_say 76 = .ok (.iload 5, 2) := by decide +kernel
theorem dX9_say_78 : decode cX9_say 78 = .ok (.invokestatic 109, 3) := by decide +kernel
theorem dX9_say_81 : decode cX9_say 81 = .ok (.sipush 1023, 3) := by decide +kernel
theorem dX9_say_84 : decode cX9_say 84 = .ok (.iand, 1) := by decide +kernel
theorem dX9_say_85 : decode cX9_say 85 = .ok (.ixor, 1) := by decide +kernel
theorem dX9_say_86 : decode cX9_say 86 = .ok (.iastore, 1) := by decide +kernel
theorem dX9_say_87 : decode cX9_say 87 = .ok (.aload_n 0, 1) := by decide +kernel
theorem dX9_say_88 : decode cX9_say 88 = .ok (.getfield 71, 3) := by decide +kernel
theorem dX9_say_91 : decode cX9_say 91 = .ok (.iconst 2, 1) := by decide +kernel
theorem dX9_say_92 : decode cX9_say 92 = .ok (.iload 4, 2) := by decide +kernel
theorem dX9_say_94 : decode cX9_say 94 = .ok (.aload_n 0, 1) := by decide +kernel
theorem dX9_say_95 : decode cX9_say 95 = .ok (.getfield 71, 3) := by decide +kernel
theorem dX9_say_98 : decode cX9_say 98 = .ok (.iconst 1, 1) := by decide +kernel
theorem dX9_say_99 : decode cX9_say 99 = .ok (.iaload, 1) := by decide +kernel
theorem dX9_say_100 : decode cX9_say 100 = .ok (.invokestatic 109, 3) := by decide +kernel
theorem dX9_say_103 : decode cX9_say 103 = .ok (.iload 5, 2) := by decide +kernel
theorem dX9_say_105 : decode cX9_say 105 = .ok (.invokestatic 109, 3) := by decide +kernel
theorem dX9_say_108 : decode cX9_say 108 = .ok (.iastore, 1) := by decide +kernel
theorem dX9_say_109 : decode cX9_say 109 = .ok (.aload_n 0, 1) := by decide +kernel
theorem dX9_say_110 : decode cX9_say 110 = .ok (.getfield 71, 3) := by decide +kernel
theorem dX9_say_113 : decode cX9_say 113 = .ok (.iconst 1, 1) := by decide +kernel
theorem dX9_say_114 : decode cX9_say 114 = .ok (.iaload, 1) := by decide +kernel
theorem dX9_say_115 : decode cX9_say 115 = .ok (.istore 6, 2) := by decide +kernel
theorem dX9_say_117 : decode cX9_say 117 = .ok (.aload_n 0, 1) := by decide +kernel
theorem dX9_say_118 : decode cX9_say 118 = .ok (.iload_n 3, 1) := by decide +kernel
theorem dX9_say_119 : decode cX9_say 119 = .ok (.invokevirtual 146, 3) := by decide +kernel
theorem dX9_say_122 : decode cX9_say 122 = .ok (.aload_n 0, 1) := by decide +kernel
theorem dX9_say_123 : decode cX9_say 123 = .ok (.getfield 43, 3) := by decide +kernel
theorem dX9_say_126 : decode cX9_say 126 = .ok (.iconst 2, 1) := by decide +kernel
theorem dX9_say_127 : decode cX9_say 127 = .ok (.iload_n 1, 1) := by decide +kernel
theorem dX9_say_128 : decode cX9_say 128 = .ok (.imul, 1) := by decide +kernel
theorem dX9_say_129 : decode cX9_say 129 = .ok (.iload_n 3, 1) := by decide +kernel
theorem dX9_say_130 : decode cX9_say 130 = .ok (.iadd, 1) := by decide +kernel
theorem dX9_say_131 : decode cX9_say 131 = .ok (.dup2, 1) := by decide +kernel
theorem dX9_say_132 : decode cX9_say 132 = .ok (.iaload, 1) := by decide +kernel
theorem dX9_say_133 : decode cX9_say 133 = .ok (.iconst 1, 1) := by decide +kernel
theorem dX9_say_134 : decode cX9_say 134 = .ok (.iadd, 1) := by decide +kernel
theorem dX9_say_135 : decode cX9_say 135 = .ok (.iastore, 1) := by decide +kernel
theorem dX9_say_136 : decode cX9_say 136 = .ok (.iload 6, 2) := by decide +kernel
theorem dX9_say_138 : decode cX9_say 138 = .ok (.ireturn, 1) := by decide +kernel
set_option maxRecDepth 20000 in
theorem ggX9_update_X9_isSide : GoodIn wsX9_update wsX9_isSide := goodIn_r _ [8, 9, 10, 7, 11] (by decide +kernel) (by decide +kernel)
set_option maxRecDepth 20000 in
theorem gX9_update_X9_isSide : GoodIn wsX9_update (va_wsS RX9 286 yX9_isSide wsX9_isSide) := goodIn_app (goodIn_of _ (by decide +kernel)) ggX9_update_X9_isSide
set_option maxRecDepth 20000 in
theorem ggX9_update_X9_clears : GoodIn wsX9_update wsX9_clears := goodIn_r _ [15, 2, 37, 38, 39, 40, 41, 42, 43, 44, 45, 46, 47, 48, 49, 50, 51, 52, 53, 54, 55, 56, 57, 58, 59, 60, 61, 62, 63, 64, 65, 66, 67, 68, 69, 70, 71, 72, 73, 74, 75, 76, 77, 78, 79] (by decide +kernel) (by decide +kernel)
set_option maxRecDepth 20000 in
theorem gX9_update_X9_clears : GoodIn wsX9_update (wsV RX9 116 RX9 yX9_clears wsX9_clears) := goodIn_app (goodIn_of _ (by decide +kernel)) ggX9_update_X9_clears
set_option maxRecDepth 20000 in
theorem ggX9_update_X9_lock : GoodIn wsX9_update wsX9_lock := goodIn_r _ [19, 4, 20, 21, 22, 7, 23, 24, 25, 26, 27, 28, 29, 37, 38, 39, 40, 41, 42, 43, 44, 45, 46, 47, 48, 49, 50, 51, 52, 53, 54, 55, 56, 57, 58, 59, 60, 61, 62, 63, 64, 65, 66, 67, 68, 69, 70, 71, 72, 73, 74, 75, 76, 77, 78, 79] (by decide +kernel) (by decide +kernel)
set_option maxRecDepth 20000 in
theorem gX9_update_X9_lock : GoodIn wsX9_update (wsV RX9 206 RX9 yX9_lock wsX9_lock) := goodIn_app (goodIn_of _ (by decide +kernel)) ggX9_update_X9_lock
set_option maxRecDepth 20000 in
theorem ggX9_update_X9_mix : GoodIn wsX9_update wsX9_mix := goodIn_r _ [28, 29] (by decide +kernel) (by decide +kernel)
set_option maxRecDepth 20000 in
theorem gX9_update_X9_mix : GoodIn wsX9_update (va_wsS RX9 109 yX9_mix wsX9_mix) := goodIn_app (goodIn_of _ (by decide +kernel)) ggX9_update_X9_mix
set_option maxRecDepth 20000 in
theorem ggX9_update_X9_sends : GoodIn wsX9_update wsX9_sends := goodIn_r _ [33, 34, 35, 36, 2, 37, 38, 39, 40, 41, 42, 43, 44, 45, 46, 47, 48, 49, 50, 51, 52, 53, 54, 55, 56, 57, 58, 59, 60, 61, 62, 63, 64, 65, 66, 67, 68, 69, 70, 71, 72, 73, 74, 75, 76, 77, 78, 79] (by decide +kernel) (by decide +kernel)
set_option maxRecDepth 20000 in
theorem gX9_update_X9_sends : GoodIn wsX9_update (wsV RX9 146 RX9 yX9_sends wsX9_sends) := goodIn_app (goodIn_of _ (by decide +kernel)) ggX9_update_X9_sends
theorem dX9_update_0 : decode cX9_update 0 = .ok (.iload_n 1, 1) := by decide +kernel
theorem dX9_update_1 : decode cX9_update 1 = .ok (.invokestatic 286, 3) := by decide +kernel
theorem dX9_update_4 : decode cX9_update 4 = .ok (.ifCond .ne 6, 3) := by decide +kernel
theorem dX9_update_7 : decode cX9_update 7 = .ok (.bipush (-2), 2) := by decide +kernel
theorem dX9_update_9 : decode cX9_update 9 = .ok (.ireturn, 1) := by decide +kernel
theorem dX9_update_10 : decode cX9_update 10 = .ok (.aload_n 0, 1) := by decide +kernel
theorem dX9_update_11 : decode cX9_update 11 = .ok (.getfield 19, 3) := by decide +kernel
theorem dX9_update_14 : decode cX9_update 14 = .ok (.iload_n 1, 1) := by decide +kernel
theorem dX9_update_15 : decode cX9_update 15 = .ok (.iaload, 1) := by decide +kernel
theorem dX9_update_16 : decode cX9_update 16 = .ok (.iconst 4, 1) := by decide +kernel
theorem dX9_update_17 : decode cX9_update 17 = .ok (.if_icmp .eq 6, 3) := by decide +kernel
theorem dX9_update_20 : decode cX9_update 20 = .ok (.bipush (-4), 2) := by decide +kernel
theorem dX9_update_22 : decode cX9_update 22 = .ok (.ireturn, 1) := by decide +kernel
theorem dX9_update_23 : decode cX9_update 23 = .ok (.iconst 1, 1) := by decide +kernel
theorem dX9_update_24 : decode cX9_update 24 = .ok (.iload_n 1, 1) := by decide +kernel
theorem dX9_update_25 : decode cX9_update 25 = .ok (.isub, 1) := by decide +kernel
theorem dX9_update_26 : decode cX9_update 26 = .ok (.istore_n 2, 1) := by decide +kernel
theorem dX9_update_27 : decode cX9_update 27 = .ok (.aload_n 0, 1) := by decide +kernel
theorem dX9_update_28 : decode cX9_update 28 = .ok (.bipush 7, 2) := by decide +kernel
theorem dX9_update_30 : decode cX9_update 30 = .ok (.invokevirtual 116, 3) := by decide +kernel
theorem dX9_update_33 : decode cX9_update 33 = .ok (.aload_n 0, 1) := by decide +kernel
theorem dX9_update_34 : decode cX9_update 34 = .ok (.getfield 71, 3) := by decide +kernel
theorem dX9_update_37 : decode cX9_update 37 = .ok (.iconst 1, 1) := by decide +kernel
theorem dX9_update_38 : decode cX9_update 38 = .ok (.aload_n 0, 1) := by decide +kernel
theorem dX9_update_39 : decode cX9_update 39 = .ok (.iload_n 1, 1) := by decide +kernel
theorem dX9_update_40 : decode cX9_update 40 = .ok (.iload_n 2, 1) := by decide +kernel
theorem dX9_update_41 : decode cX9_update 41 = .ok (.invokevirtual 206, 3) := by decide +kernel
theorem dX9_update_44 : decode cX9_update 44 = .ok (.iconst (-1), 1) := by decide +kernel
theorem dX9_update_45 : decode cX9_update 45 = .ok (.invokestatic 109, 3) := by decide +kernel
theorem dX9_update_48 : decode cX9_update 48 = .ok (.aload_n 0, 1) := by decide +kernel
theorem dX9_update_49 : decode cX9_update 49 = .ok (.getfield 43, 3) := by decide +kernel
theorem dX9_update_52 : decode cX9_update 52 = .ok (.iconst 2, 1) := by decide +kernel
theorem dX9_update_53 : decode cX9_update 53 = .ok (.iload_n 1, 1) := by decide +kernel
theorem dX9_update_54 : decode cX9_update 54 = .ok (.imul, 1) := by decide +kernel
theorem dX9_update_55 : decode cX9_update 55 = .ok (.iload_n 2, 1) := by decide +kernel
theorem dX9_update_56 : decode cX9_update 56 = .ok (.iadd, 1) := by decide +kernel
theorem dX9_update_57 : decode cX9_update 57 = .ok (.iaload, 1) := by decide +kernel
theorem dX9_update_58 : decode cX9_update 58 = .ok (.invokestatic 109, 3) := by decide +kernel
theorem dX9_update_61 : decode cX9_update 61 = .ok (.iastore, 1) := by decide +kernel
theorem dX9_update_62 : decode cX9_update 62 = .ok (.aload_n 0, 1) := by decide +kernel
theorem dX9_update_63 : decode cX9_update 63 = .ok (.iload_n 2, 1) := by decide +kernel
theorem dX9_update_64 : decode cX9_update 64 = .ok (.invokevirtual 146, 3) := by decide +kernel
theorem dX9_update_67 : decode cX9_update 67 = .ok (.aload_n 0, 1) := by decide +kernel
theorem dX9_update_68 : decode cX9_update 68 = .ok (.getfield 43, 3) := by decide +kernel
theorem dX9_update_71 : decode cX9_update 71 = .ok (.iconst 2, 1) := by decide +kernel
theorem dX9_update_72 : decode cX9_update 72 = .ok (.iload_n 1, 1) := by decide +kernel
theorem dX9_update_73 : decode cX9_update 73 = .ok (.imul, 1) := by decide +kernel
theorem dX9_update_74 : decode cX9_update 74 = .ok (.iload_n 2, 1) := by decide +kernel
theorem dX9_update_75 : decode cX9_update 75 = .ok (.iadd, 1) := by decide +kernel
theorem dX9_update_76 : decode cX9_update 76 = .ok (.dup2, 1) := by decide +kernel
theorem dX9_update_77 : decode cX9_update 77 = .ok (.iaload, 1) := by decide +kernel
theorem dX9_update_78 : decode cX9_update 78 = .ok (.iconst 1, 1) := by decide +kernel
theorem dX9_update_79 : decode cX9_update 79 = .ok (.iadd, 1) := by decide +kernel
theorem dX9_update_80 : decode cX9_update 80 = .ok (.iastore, 1) := by decide +kernel
theorem dX9_update_81 : decode cX9_update 81 = .ok (.aload_n 0, 1) := by decide +kernel
theorem dX9_update_82 : decode cX9_update 82 = .ok (.getfield 40, 3) := by decide +kernel
theorem dX9_update_85 : decode cX9_update 85 = .ok (.iconst 2, 1) := by decide +kernel
theorem dX9_update_86 : decode cX9_update 86 = .ok (.iload_n 1, 1) := by decide +kernel
theorem dX9_update_87 : decode cX9_update 87 = .ok (.imul, 1) := by decide +kernel
theorem dX9_update_88 : decode cX9_update 88 = .ok (.iload_n 2, 1) := by decide +kernel
theorem dX9_update_89 : decode cX9_update 89 = .ok (.iadd, 1) := by decide +kernel
theorem dX9_update_90 : decode cX9_update 90 = .ok (.dup2, 1) := by decide +kernel
theorem dX9_update_91 : decode cX9_update 91 = .ok (.iaload, 1) := by decide +kernel
theorem dX9_update_92 : decode cX9_update 92 = .ok (.iconst 1, 1) := by decide +kernel
theorem dX9_update_93 : decode cX9_update 93 = .ok (.iadd, 1) := by decide +kernel
theorem dX9_update_94 : decode cX9_update 94 = .ok (.iastore, 1) := by decide +kernel
theorem dX9_update_95 : decode cX9_update 95 = .ok (.aload_n 0, 1) := by decide +kernel
theorem dX9_update_96 : decode cX9_update 96 = .ok (.getfield 40, 3) := by decide +kernel
theorem dX9_update_99 : decode cX9_update 99 = .ok (.iconst 2, 1) := by decide +kernel
theorem dX9_update_100 : decode cX9_update 100 = .ok (.iload_n 1, 1) := by decide +kernel
theorem dX9_update_101 : decode cX9_update 101 = .ok (.imul, 1) := by decide +kernel
theorem dX9_update_102 : decode cX9_update 102 = .ok (.iload_n 2, 1) := by decide +kernel
theorem dX9_update_103 : decode cX9_update 103 = .ok (.iadd, 1) := by decide +kernel
theorem dX9_update_104 : decode cX9_update 104 = .ok (.iaload, 1) := by decide +kernel
theorem dX9_update_105 : decode cX9_update 105 = .ok (.ireturn, 1) := by decide +kernel
set_option maxRecDepth 20000 in
theorem ggX9_fresh_X9_isSide : GoodIn wsX9_fresh wsX9_isSide := goodIn_r _ [7, 8, 9, 6, 10] (by decide +kernel) (by decide +kernel)
set_option maxRecDepth 20000 in
theorem gX9_fresh_X9_isSide : GoodIn wsX9_fresh (va_wsS RX9 286 yX9_isSide wsX9_isSide) := goodIn_app (goodIn_of _ (by decide +kernel)) ggX9_fresh_X9_isSide
theorem dX9_fresh_0 : decode cX9_fresh 0 = .ok (.iload_n 1, 1) := by decide +kernel
theorem dX9_fresh_1 : decode cX9_fresh 1 = .ok (.invokestatic 286, 3) := by decide +kernel
theorem dX9_fresh_4 : decode cX9_fresh 4 = .ok (.ifCond .ne 6, 3) := by decide +kernel
theorem dX9_fresh_7 : decode cX9_fresh 7 = .ok (.bipush (-2), 2) := by decide +kernel
theorem dX9_fresh_9 : decode cX9_fresh 9 = .ok (.ireturn, 1) := by decide +kernel
theorem dX9_fresh_10 : decode cX9_fresh 10 = .ok (.aload_n 0, 1) := by decide +kernel
theorem dX9_fresh_11 : decode cX9_fresh 11 = .ok (.getfield 19, 3) := by decide +kernel
theorem dX9_fresh_14 : decode cX9_fresh 14 = .ok (.iload_n 1, 1) := by decide +kernel
theorem dX9_fresh_15 : decode cX9_fresh 15 = .ok (.iaload, 1) := by decide +kernel
theorem dX9_fresh_16 : decode cX9_fresh 16 = .ok (.istore_n 2, 1) := by decide +kernel
theorem dX9_fresh_17 : decode cX9_fresh 17 = .ok (.aload_n 0, 1) := by decide +kernel
theorem dX9_fresh_18 : decode cX9_fresh 18 = .ok (.getfield 19, 3) := by decide +kernel
theorem dX9_fresh_21 : decode cX9_fresh 21 = .ok (.iload_n 1, 1) := by decide +kernel
theorem dX9_fresh_22 : decode cX9_fresh 22 = .ok (.iconst 0, 1) := by decide +kernel
theorem dX9_fresh_23 : decode cX9_fresh 23 = .ok (.iastore, 1) := by decide +kernel
theorem dX9_fresh_24 : decode cX9_fresh 24 = .ok (.aload_n 0, 1) := by decide +kernel
theorem dX9_fresh_25 : decode cX9_fresh 25 = .ok (.getfield 22, 3) := by decide +kernel
theorem dX9_fresh_28 : decode cX9_fresh 28 = .ok (.iload_n 1, 1) := by decide +kernel
theorem dX9_fresh_29 : decode cX9_fresh 29 = .ok (.iconst 0, 1) := by decide +kernel
theorem dX9_fresh_30 : decode cX9_fresh 30 = .ok (.iastore, 1) := by decide +kernel
theorem dX9_fresh_31 : decode cX9_fresh 31 = .ok (.aload_n 0, 1) := by decide +kernel
theorem dX9_fresh_32 : decode cX9_fresh 32 = .ok (.getfield 25, 3) := by decide +kernel
theorem dX9_fresh_35 : decode cX9_fresh 35 = .ok (.iload_n 1, 1) := by decide +kernel
theorem dX9_fresh_36 : decode cX9_fresh 36 = .ok (.iconst 1, 1) := by decide +kernel
theorem dX9_fresh_37 : decode cX9_fresh 37 = .ok (.iastore, 1) := by decide +kernel
theorem dX9_fresh_38 : decode cX9_fresh 38 = .ok (.iload_n 2, 1) := by decide +kernel
theorem dX9_fresh_39 : decode cX9_fresh 39 = .ok (.ireturn, 1) := by decide +kernel
set_option maxRecDepth 20000 in
theorem ggX9_pass_X9_in : GoodIn wsX9_pass wsX9_in := goodIn_r _ [6] (by decide +kernel) (by decide +kernel)
set_option maxRecDepth 20000 in
theorem gX9_pass_X9_in : GoodIn wsX9_pass (va_wsS RX9 87 yX9_in wsX9_in) := goodIn_app (goodIn_of _ (by decide +kernel)) ggX9_pass_X9_in
theorem dX9_pass_0 : decode cX9_pass 0 = .ok (.iload_n 1, 1) := by decide +kernel
theorem dX9_pass_1 : decode cX9_pass 1 = .ok (.i2l, 1) := by decide +kernel
theorem dX9_pass_2 : decode cX9_pass 2 = .ok (.lconst 1, 1) := by decide +kernel
theorem dX9_pass_3 : decode cX9_pass 3 = .ok (.ldc2_w 309, 3) := by decide +kernel
theorem dX9_pass_6 : decode cX9_pass 6 = .ok (.invokestatic 87, 3) := by decide +kernel
theorem dX9_pass_9 : decode cX9_pass 9 = .ok (.ifCond .ne 6, 3) := by decide +kernel
theorem dX9_pass_12 : decode cX9_pass 12 = .ok (.bipush (-3), 2) := by decide +kernel
theorem dX9_pass_14 : decode cX9_pass 14 = .ok (.ireturn, 1) := by decide +kernel
theorem dX9_pass_15 : decode cX9_pass 15 = .ok (.aload_n 0, 1) := by decide +kernel
theorem dX9_pass_16 : decode cX9_pass 16 = .ok (.dup, 1) := by decide +kernel
theorem dX9_pass_17 : decode cX9_pass 17 = .ok (.getfield 133, 3) := by decide +kernel
theorem dX9_pass_20 : decode cX9_pass 20 = .ok (.iload_n 1, 1) := by decide +kernel
theorem dX9_pass_21 : decode cX9_pass 21 = .ok (.iadd, 1) := by decide +kernel
theorem dX9_pass_22 : decode cX9_pass 22 = .ok (.putfield 133, 3) := by decide +kernel
theorem dX9_pass_25 : decode cX9_pass 25 = .ok (.aload_n 0, 1) := by decide +kernel
theorem dX9_pass_26 : decode cX9_pass 26 = .ok (.getfield 133, 3) := by decide +kernel
theorem dX9_pass_29 : decode cX9_pass 29 = .ok (.ireturn, 1) := by decide +kernel
set_option maxRecDepth 20000 in
theorem ggX9_alter_X9_isSide : GoodIn wsX9_alter wsX9_isSide := goodIn_r _ [7, 8, 9, 6, 10] (by decide +kernel) (by decide +kernel)
set_option maxRecDepth 20000 in
theorem gX9_alter_X9_isSide : GoodIn wsX9_alter (va_wsS RX9 286 yX9_isSide wsX9_isSide) := goodIn_app (goodIn_of _ (by decide +kernel)) ggX9_alter_X9_isSide
set_option maxRecDepth 20000 in
theorem ggX9_alter_X9_in : GoodIn wsX9_alter wsX9_in := goodIn_r _ [10] (by decide +kernel) (by decide +kernel)
set_option maxRecDepth 20000 in
theorem gX9_alter_X9_in : GoodIn wsX9_alter (va_wsS RX9 87 yX9_in wsX9_in) := goodIn_app (goodIn_of _ (by decide +kernel)) ggX9_alter_X9_in
theorem dX9_alter_0 : decode cX9_alter 0 = .ok (.iload_n 1, 1) := by decide +kernel
theorem dX9_alter_1 : decode cX9_alter 1 = .ok (.invokestatic 286, 3) := by decide +kernel
theorem dX9_alter_4 : decode cX9_alter 4 = .ok (.ifCond .ne 6, 3) := by decide +kernel
theorem dX9_alter_7 : decode cX9_alter 7 = .ok (.bipush (-2), 2) := by decide +kernel
theorem dX9_alter_9 : decode cX9_alter 9 = .ok (.ireturn, 1) := by decide +kernel
theorem dX9_alter_10 : decode cX9_alter 10 = .ok (.iload_n 2, 1) := by decide +kernel
theorem dX9_alter_11 : decode cX9_alter 11 = .ok (.i2l, 1) := by decide +kernel
theorem dX9_alter_12 : decode cX9_alter 12 = .ok (.lconst 0, 1) := by decide +kernel
theorem dX9_alter_13 : decode cX9_alter 13 = .ok (.ldc2_w 314, 3) := by decide +kernel
theorem dX9_alter_16 : decode cX9_alter 16 = .ok (.invokestatic 87, 3) := by decide +kernel
theorem dX9_alter_19 : decode cX9_alter 19 = .ok (.ifCond .ne 6, 3) := by decide +kernel
theorem dX9_alter_22 : decode cX9_alter 22 = .ok (.bipush (-3), 2) := by decide +kernel
theorem dX9_alter_24 : decode cX9_alter 24 = .ok (.ireturn, 1) := by decide +kernel
theorem dX9_alter_25 : decode cX9_alter 25 = .ok (.aload_n 0, 1) := by decide +kernel
theorem dX9_alter_26 : decode cX9_alter 26 = .ok (.getfield 62, 3) := by decide +kernel
theorem dX9_alter_29 : decode cX9_alter 29 = .ok (.iload_n 1, 1) := by decide +kernel
theorem dX9_alter_30 : decode cX9_alter 30 = .ok (.iaload, 1) := by decide +kernel
theorem dX9_alter_31 : decode cX9_alter 31 = .ok (.ifCond .ne 6, 3) := by decide +kernel
theorem dX9_alter_34 : decode cX9_alter 34 = .ok (.bipush (-4), 2) := by decide +kernel
theorem dX9_alter_36 : decode cX9_alter 36 = .ok (.ireturn, 1) := by decide +kernel
theorem dX9_alter_37 : decode cX9_alter 37 = .ok (.aload_n 0, 1) := by decide +kernel
theorem dX9_alter_38 : decode cX9_alter 38 = .ok (.getfield 65, 3) := by decide +kernel
theorem dX9_alter_41 : decode cX9_alter 41 = .ok (.bipush 72, 2) := by decide +kernel
theorem dX9_alter_43 : decode cX9_alter 43 = .ok (.iload_n 1, 1) := by decide +kernel
theorem dX9_alter_44 : decode cX9_alter 44 = .ok (.imul, 1) := by decide +kernel
theorem dX9_alter_45 : decode cX9_alter 45 = .ok (.iload_n 2, 1) := by decide +kernel
theorem dX9_alter_46 : decode cX9_alter 46 = .ok (.iadd, 1) := by decide +kernel
theorem dX9_alter_47 : decode cX9_alter 47 = .ok (.iaload, 1) := by decide +kernel
theorem dX9_alter_48 : decode cX9_alter 48 = .ok (.istore 4, 2) := by decide +kernel
theorem dX9_alter_50 : decode cX9_alter 50 = .ok (.aload_n 0, 1) := by decide +kernel
theorem dX9_alter_51 : decode cX9_alter 51 = .ok (.getfield 65, 3) := by decide +kernel
theorem dX9_alter_54 : decode cX9_alter 54 = .ok (.bipush 72, 2) := by decide +kernel
theorem dX9_alter_56 : decode cX9_alter 56 = .ok (.iload_n 1, 1) := by decide +kernel
theorem dX9_alter_57 : decode cX9_alter 57 = .ok (.imul, 1) := by decide +kernel
theorem dX9_alter_58 : decode cX9_alter 58 = .ok (.iload_n 2, 1) := by decide +kernel
theorem dX9_alter_59 : decode cX9_alter 59 = .ok (.iadd, 1) := by decide +kernel
theorem dX9_alter_60 : decode cX9_alter 60 = .ok (.iload_n 3, 1) := by decide +kernel
theorem dX9_alter_61 : decode cX9_alter 61 = .ok (.iastore, 1) := by decide +kernel
theorem dX9_alter_62 : decode cX9_alter 62 = .ok (.iload 4, 2) := by decide +kernel
theorem dX9_alter_64 : decode cX9_alter 64 = .ok (.ireturn, 1) := by decide +kernel
set_option maxRecDepth 20000 in
theorem ggX9_drop_X9_isSide : GoodIn wsX9_drop wsX9_isSide := goodIn_r _ [5, 6, 7, 4, 8] (by decide +kernel) (by decide +kernel)
set_option maxRecDepth 20000 in
theorem gX9_drop_X9_isSide : GoodIn wsX9_drop (va_wsS RX9 286 yX9_isSide wsX9_isSide) := goodIn_app (goodIn_of _ (by decide +kernel)) ggX9_drop_X9_isSide
set_option maxRecDepth 20000 in
theorem ggX9_drop_X9_drops : GoodIn wsX9_drop wsX9_drops := goodIn_r _ [12, 13, 1, 14, 15, 16, 17, 18, 19, 20, 21, 22, 23, 24, 25, 26, 27, 28, 29, 30, 31, 32, 33, 34, 35, 36, 37, 38, 39, 40, 41, 42, 43, 44, 45, 46, 47, 48, 49, 50, 51, 52, 53, 54, 55, 56] (by decide +kernel) (by decide +kernel)
set_option maxRecDepth 20000 in
theorem gX9_drop_X9_drops : GoodIn wsX9_drop (wsV RX9 303 RX9 yX9_drops wsX9_drops) := goodIn_app (goodIn_of _ (by decide +kernel)) ggX9_drop_X9_drops
theorem dX9_drop_0 : decode cX9_drop 0 = .ok (.iload_n 1, 1) := by decide +kernel
theorem dX9_drop_1 : decode cX9_drop 1 = .ok (.invokestatic 286, 3) := by decide +kernel
theorem dX9_drop_4 : decode cX9_drop 4 = .ok (.ifCond .ne 6, 3) := by decide +kernel
theorem dX9_drop_7 : decode cX9_drop 7 = .ok (.bipush (-2), 2) := by decide +kernel
theorem dX9_drop_9 : decode cX9_drop 9 = .ok (.ireturn, 1) := by decide +kernel
theorem dX9_drop_10 : decode cX9_drop 10 = .ok (.aload_n 0, 1) := by decide +kernel
theorem dX9_drop_11 : decode cX9_drop 11 = .ok (.getfield 62, 3) := by decide +kernel
theorem dX9_drop_14 : decode cX9_drop 14 = .ok (.iload_n 1, 1) := by decide +kernel
theorem dX9_drop_15 : decode cX9_drop 15 = .ok (.iaload, 1) := by decide +kernel
theorem dX9_drop_16 : decode cX9_drop 16 = .ok (.ifCond .ne 6, 3) := by decide +kernel
theorem dX9_drop_19 : decode cX9_drop 19 = .ok (.bipush (-4), 2) := by decide +kernel
theorem dX9_drop_21 : decode cX9_drop 21 = .ok (.ireturn, 1) := by decide +kernel
theorem dX9_drop_22 : decode cX9_drop 22 = .ok (.aload_n 0, 1) := by decide +kernel
theorem dX9_drop_23 : decode cX9_drop 23 = .ok (.iload_n 1, 1) := by decide +kernel
theorem dX9_drop_24 : decode cX9_drop 24 = .ok (.invokevirtual 303, 3) := by decide +kernel
theorem dX9_drop_27 : decode cX9_drop 27 = .ok (.aload_n 0, 1) := by decide +kernel
theorem dX9_drop_28 : decode cX9_drop 28 = .ok (.getfield 62, 3) := by decide +kernel
theorem dX9_drop_31 : decode cX9_drop 31 = .ok (.iload_n 1, 1) := by decide +kernel
theorem dX9_drop_32 : decode cX9_drop 32 = .ok (.iaload, 1) := by decide +kernel
theorem dX9_drop_33 : decode cX9_drop 33 = .ok (.ireturn, 1) := by decide +kernel
set_option maxRecDepth 20000 in
theorem ggX9_copy_X9_isSide : GoodIn wsX9_copy wsX9_isSide := goodIn_r _ [9, 10, 11, 8, 12] (by decide +kernel) (by decide +kernel)
set_option maxRecDepth 20000 in
theorem gX9_copy_X9_isSide : GoodIn wsX9_copy (va_wsS RX9 286 yX9_isSide wsX9_isSide) := goodIn_app (goodIn_of _ (by decide +kernel)) ggX9_copy_X9_isSide
set_option maxRecDepth 20000 in
theorem ggX9_copy_X9_in : GoodIn wsX9_copy wsX9_in := goodIn_r _ [12] (by decide +kernel) (by decide +kernel)
set_option maxRecDepth 20000 in
theorem gX9_copy_X9_in : GoodIn wsX9_copy (va_wsS RX9 87 yX9_in wsX9_in) := goodIn_app (goodIn_of _ (by decide +kernel)) ggX9_copy_X9_in
theorem dX9_copy_0 : decode cX9_copy 0 = .ok (.iload_n 1, 1) := by decide +kernel
theorem dX9_copy_1 : decode cX9_copy 1 = .ok (.invokestatic 286, 3) := by decide +kernel
theorem dX9_copy_4 : decode cX9_copy 4 = .ok (.ifCond .eq 15, 3) := by decide +kernel
theorem dX9_copy_7 : decode cX9_copy 7 = .ok (.iload_n 2, 1) := by decide +kernel
theorem dX9_copy_8 : decode cX9_copy 8 = .ok (.i2l, 1) := by decide +kernel
theorem dX9_copy_9 : decode cX9_copy 9 = .ok (.lconst 0, 1) := by decide +kernel
theorem dX9_copy_10 : decode cX9_copy 10 = .ok (.ldc2_w 100, 3) := by decide +kernel
theorem dX9_copy_13 : decode cX9_copy 13 = .ok (.invokestatic 87, 3) := by decide +kernel
theorem dX9_copy_16 : decode cX9_copy 16 = .ok (.ifCond .ne 6, 3) := by decide +kernel
theorem dX9_copy_19 : decode cX9_copy 19 = .ok (.bipush (-2), 2) := by decide +kernel
theorem dX9_copy_21 : decode cX9_copy 21 = .ok (.ireturn, 1) := by decide +kernel
theorem dX9_copy_22 : decode cX9_copy 22 = .ok (.aload_n 0, 1) := by decide +kernel
theorem dX9_copy_23 : decode cX9_copy 23 = .ok (.getfield 62, 3) := by decide +kernel
theorem dX9_copy_26 : decode cX9_copy 26 = .ok (.iload_n 1, 1) := by decide +kernel
theorem dX9_copy_27 : decode cX9_copy 27 = .ok (.iaload, 1) := by decide +kernel
theorem dX9_copy_28 : decode cX9_copy 28 = .ok (.ifCond .ne 6, 3) := by decide +kernel
theorem dX9_copy_31 : decode cX9_copy 31 = .ok (.bipush (-4), 2) := by decide +kernel
theorem dX9_copy_33 : decode cX9_copy 33 = .ok (.ireturn, 1) := by decide +kernel
theorem dX9_copy_34 : decode cX9_copy 34 = .ok (.iconst 0, 1) := by decide +kernel
theorem dX9_copy_35 : decode cX9_copy 35 = .ok (.istore_n 3, 1) := by decide +kernel
theorem dX9_copy_36 : decode cX9_copy 36 = .ok (.iload_n 3, 1) := by decide +kernel
theorem dX9_copy_37 : decode cX9_copy 37 = .ok (.bipush 9, 2) := by decide +kernel
theorem dX9_copy_39 : decode cX9_copy 39 = .ok (.if_icmp .ge 31, 3) := by decide +kernel
theorem dX9_copy_42 : decode cX9_copy 42 = .ok (.aload_n 0, 1) := by decide +kernel
theorem dX9_copy_43 : decode cX9_copy 43 = .ok (.getfield 68, 3) := by decide +kernel
theorem dX9_copy_46 : decode cX9_copy 46 = .ok (.bipush 9, 2) := by decide +kernel
theorem dX9_copy_48 : decode cX9_copy 48 = .ok (.iload_n 2, 1) := by decide +kernel
theorem dX9_copy_49 : decode cX9_copy 49 = .ok (.imul, 1) := by decide +kernel
theorem dX9_copy_50 : decode cX9_copy 50 = .ok (.iload_n 3, 1) := by decide +kernel
theorem dX9_copy_51 : decode cX9_copy 51 = .ok (.iadd, 1) := by decide +kernel
theorem dX9_copy_52 : decode cX9_copy 52 = .ok (.aload_n 0, 1) := by decide +kernel
theorem dX9_copy_53 : decode cX9_copy 53 = .ok (.getfield 65, 3) := by decide +kernel
theorem dX9_copy_56 : decode cX9_copy 56 = .ok (.bipush 72, 2) := by decide +kernel
theorem dX9_copy_58 : decode cX9_copy 58 = .ok (.iload_n 1, 1) := by decide +kernel
theorem dX9_copy_59 : decode cX9_copy 59 = .ok (.imul, 1) := by decide +kernel
theorem dX9_copy_60 : decode cX9_copy 60 = .ok (.iload_n 3, 1) := by decide +kernel
theorem dX9_copy_61 : decode cX9_copy 61 = .ok (.iadd, 1) := by decide +kernel
theorem dX9_copy_62 : decode cX9_copy 62 = .ok (.iaload, 1) := by decide +kernel
theorem dX9_copy_63 : decode cX9_copy 63 = .ok (.iastore, 1) := by decide +kernel
theorem dX9_copy_64 : decode cX9_copy 64 = .ok (.iinc 3 1, 3) := by decide +kernel
theorem dX9_copy_67 : decode cX9_copy 67 = .ok (.goto (-31), 3) := by decide +kernel
theorem dX9_copy_70 : decode cX9_copy 70 = .ok (.aload_n 0, 1) := by decide +kernel
theorem dX9_copy_71 : decode cX9_copy 71 = .ok (.getfield 83, 3) := by decide +kernel
theorem dX9_copy_74 : decode cX9_copy 74 = .ok (.iload_n 2, 1) := by decide +kernel
theorem dX9_copy_75 : decode cX9_copy 75 = .ok (.iconst 1, 1) := by decide +kernel
theorem dX9_copy_76 : decode cX9_copy 76 = .ok (.bastore, 1) := by decide +kernel
theorem dX9_copy_77 : decode cX9_copy 77 = .ok (.aload_n 0, 1) := by decide +kernel
theorem dX9_copy_78 : decode cX9_copy 78 = .ok (.getfield 65, 3) := by decide +kernel
theorem dX9_copy_81 : decode cX9_copy 81 = .ok (.bipush 72, 2) := by decide +kernel
theorem dX9_copy_83 : decode cX9_copy 83 = .ok (.iload_n 1, 1) := by decide +kernel
theorem dX9_copy_84 : decode cX9_copy 84 = .ok (.imul, 1) := by decide +kernel
theorem dX9_copy_85 : decode cX9_copy 85 = .ok (.iaload, 1) := by decide +kernel
theorem dX9_copy_86 : decode cX9_copy 86 = .ok (.ireturn, 1) := by decide +kernel
set_option maxRecDepth 20000 in
theorem ggX9_inject_X9_isSide : GoodIn wsX9_inject wsX9_isSide := goodIn_r _ [9, 10, 11, 8, 12] (by decide +kernel) (by decide +kernel)
set_option maxRecDepth 20000 in
theorem gX9_inject_X9_isSide : GoodIn wsX9_inject (va_wsS RX9 286 yX9_isSide wsX9_isSide) := goodIn_app (goodIn_of _ (by decide +kernel)) ggX9_inject_X9_isSide
set_option maxRecDepth 20000 in
theorem ggX9_inject_X9_in : GoodIn wsX9_inject wsX9_in := goodIn_r _ [12] (by decide +kernel) (by decide +kernel)
set_option maxRecDepth 20000 in
theorem gX9_inject_X9_in : GoodIn wsX9_inject (va_wsS RX9 87 yX9_in wsX9_in) := goodIn_app (goodIn_of _ (by decide +kernel)) ggX9_inject_X9_in
set_option maxRecDepth 20000 in
theorem ggX9_inject_X9_sends : GoodIn wsX9_inject wsX9_sends := goodIn_r _ [16, 3, 17, 18, 4, 19, 20, 21, 22, 23, 24, 25, 26, 27, 28, 29, 30, 31, 32, 33, 34, 35, 36, 37, 38, 39, 40, 41, 42, 43, 44, 45, 46, 47, 48, 49, 50, 51, 52, 53, 54, 55, 56, 57, 58, 59, 60, 61] (by decide +kernel) (by decide +kernel)
set_option maxRecDepth 20000 in
theorem gX9_inject_X9_sends : GoodIn wsX9_inject (wsV RX9 146 RX9 yX9_sends wsX9_sends) := goodIn_app (goodIn_of _ (by decide +kernel)) ggX9_inject_X9_sends
theorem dX9_inject_0 : decode cX9_inject 0 = .ok (.iload_n 1, 1) := by decide +kernel
theorem dX9_inject_1 : decode cX9_inject 1 = .ok (.invokestatic 286, 3) := by decide +kernel
theorem dX9_inject_4 : decode cX9_inject 4 = .ok (.ifCond .eq 15, 3) := by decide +kernel
theorem dX9_inject_7 : decode cX9_inject 7 = .ok (.iload_n 2, 1) := by decide +kernel
theorem dX9_inject_8 : decode cX9_inject 8 = .ok (.i2l, 1) := by decide +kernel
theorem dX9_inject_9 : decode cX9_inject 9 = .ok (.lconst 0, 1) := by decide +kernel
theorem dX9_inject_10 : decode cX9_inject 10 = .ok (.ldc2_w 100, 3) := by decide +kernel
theorem dX9_inject_13 : decode cX9_inject 13 = .ok (.invokestatic 87, 3) := by decide +kernel
theorem dX9_inject_16 : decode cX9_inject 16 = .ok (.ifCond .ne 6, 3) := by decide +kernel
theorem dX9_inject_19 : decode cX9_inject 19 = .ok (.bipush (-2), 2) := by decide +kernel
theorem dX9_inject_21 : decode cX9_inject 21 = .ok (.ireturn, 1) := by decide +kernel
theorem dX9_inject_22 : decode cX9_inject 22 = .ok (.aload_n 0, 1) := by decide +kernel
theorem dX9_inject_23 : decode cX9_inject 23 = .ok (.getfield 83, 3) := by decide +kernel
theorem dX9_inject_26 : decode cX9_inject 26 = .ok (.iload_n 2, 1) := by decide +kernel
theorem dX9_inject_27 : decode cX9_inject 27 = .ok (.baload, 1) := by decide +kernel
theorem dX9_inject_28 : decode cX9_inject 28 = .ok (.ifCond .ne 6, 3) := by decide +kernel
theorem dX9_inject_31 : decode cX9_inject 31 = .ok (.bipush (-4), 2) := by decide +kernel
theorem dX9_inject_33 : decode cX9_inject 33 = .ok (.ireturn, 1) := by decide +kernel
theorem dX9_inject_34 : decode cX9_inject 34 = .ok (.aload_n 0, 1) := by decide +kernel
theorem dX9_inject_35 : decode cX9_inject 35 = .ok (.getfield 62, 3) := by decide +kernel
theorem dX9_inject_38 : decode cX9_inject 38 = .ok (.iload_n 1, 1) := by decide +kernel
theorem dX9_inject_39 : decode cX9_inject 39 = .ok (.iaload, 1) := by decide +kernel
theorem dX9_inject_40 : decode cX9_inject 40 = .ok (.bipush 8, 2) := by decide +kernel
theorem dX9_inject_42 : decode cX9_inject 42 = .ok (.if_icmp .ne 6, 3) := by decide +kernel
theorem dX9_inject_45 : decode cX9_inject 45 = .ok (.bipush (-5), 2) := by decide +kernel
theorem dX9_inject_47 : decode cX9_inject 47 = .ok (.ireturn, 1) := by decide +kernel
theorem dX9_inject_48 : decode cX9_inject 48 = .ok (.iconst 0, 1) := by decide +kernel
theorem dX9_inject_49 : decode cX9_inject 49 = .ok (.istore_n 3, 1) := by decide +kernel
theorem dX9_inject_50 : decode cX9_inject 50 = .ok (.iload_n 3, 1) := by decide +kernel
theorem dX9_inject_51 : decode cX9_inject 51 = .ok (.bipush 9, 2) := by decide +kernel
theorem dX9_inject_53 : decode cX9_inject 53 = .ok (.if_icmp .ge 26, 3) := by decide +kernel
theorem dX9_inject_56 : decode cX9_inject 56 = .ok (.aload_n 0, 1) := by decide +kernel
theorem dX9_inject_57 : decode cX9_inject 57 = .ok (.getfield 71, 3) := by decide +kernel
theorem dX9_inject_60 : decode cX9_inject 60 = .ok (.iload_n 3, 1) := by decide +kernel
theorem dX9_inject_61 : decode cX9_inject 61 = .ok (.aload_n 0, 1) := by decide +kernel
theorem dX9_inject_62 : decode cX9_inject 62 = .ok (.getfield 68, 3) := by decide +kernel
theorem dX9_inject_65 : decode cX9_inject 65 = .ok (.bipush 9, 2) := by decide +kernel
theorem dX9_inject_67 : decode cX9_inject 67 = .ok (.iload_n 2, 1) := by decide +kernel
theorem dX9_inject_68 : decode cX9_inject 68 = .ok (.imul, 1) := by decide +kernel
theorem dX9_inject_69 : decode cX9_inject 69 = .ok (.iload_n 3, 1) := by decide +kernel
theorem dX9_inject_70 : decode cX9_inject 70 = .ok (.iadd, 1) := by decide +kernel
theorem dX9_inject_71 : decode cX9_inject 71 = .ok (.iaload, 1) := by decide +kernel
theorem dX9_inject_72 : decode cX9_inject 72 = .ok (.iastore, 1) := by decide +kernel
theorem dX9_inject_73 : decode cX9_inject 73 = .ok (.iinc 3 1, 3) := by decide +kernel
theorem dX9_inject_76 : decode cX9_inject 76 = .ok (.goto (-26), 3) := by decide +kernel
theorem dX9_inject_79 : decode cX9_inject 79 = .ok (.aload_n 0, 1) := by decide +kernel
theorem dX9_inject_80 : decode cX9_inject 80 = .ok (.iload_n 1, 1) := by decide +kernel
theorem dX9_inject_81 : decode cX9_inject 81 = .ok (.invokevirtual 146, 3) := by decide +kernel
theorem dX9_inject_84 : decode cX9_inject 84 = .ok (.aload_n 0, 1) := by decide +kernel
theorem dX9_inject_85 : decode cX9_inject 85 = .ok (.getfield 62, 3) := by decide +kernel
theorem dX9_inject_88 : decode cX9_inject 88 = .ok (.iload_n 1, 1) := by decide +kernel
theorem dX9_inject_89 : decode cX9_inject 89 = .ok (.iaload, 1) := by decide +kernel
theorem dX9_inject_90 : decode cX9_inject 90 = .ok (.ireturn, 1) := by decide +kernel
set_option maxRecDepth 20000 in
theorem ggX9_agreed_X9_mainOf : GoodIn wsX9_agreed wsX9_mainOf := goodIn_r _ [11, 4, 12, 13, 14, 10, 15, 16, 17, 18, 19, 20, 21, 22, 23, 24, 25, 26, 27, 28, 29, 30, 31, 32, 33, 34, 35, 36, 37, 38, 39, 40, 41, 42, 43, 44, 45, 46, 47, 48, 49, 50, 51, 52, 53, 54, 55, 56, 57, 58, 59] (by decide +kernel) (by decide +kernel)
set_option maxRecDepth 20000 in
theorem gX9_agreed_X9_mainOf : GoodIn wsX9_agreed (wsV RX9 149 RX9 yX9_mainOf wsX9_mainOf) := goodIn_app (goodIn_of _ (by decide +kernel)) ggX9_agreed_X9_mainOf
theorem dX9_agreed_0 : decode cX9_agreed 0 = .ok (.iload_n 2, 1) := by decide +kernel
theorem dX9_agreed_1 : decode cX9_agreed 1 = .ok (.tableswitch 91 3 9 #[43, 50, 57, 64, 71, 77, 77], 43) := by decide +kernel
theorem dX9_agreed_44 : decode cX9_agreed 44 = .ok (.aload_n 0, 1) := by decide +kernel
theorem dX9_agreed_45 : decode cX9_agreed 45 = .ok (.getfield 28, 3) := by decide +kernel
theorem dX9_agreed_48 : decode cX9_agreed 48 = .ok (.iload_n 1, 1) := by decide +kernel
theorem dX9_agreed_49 : decode cX9_agreed 49 = .ok (.iaload, 1) := by decide +kernel
theorem dX9_agreed_50 : decode cX9_agreed 50 = .ok (.ireturn, 1) := by decide +kernel
theorem dX9_agreed_51 : decode cX9_agreed 51 = .ok (.aload_n 0, 1) := by decide +kernel
theorem dX9_agreed_52 : decode cX9_agreed 52 = .ok (.getfield 31, 3) := by decide +kernel
theorem dX9_agreed_55 : decode cX9_agreed 55 = .ok (.iload_n 1, 1) := by decide +kernel
theorem dX9_agreed_56 : decode cX9_agreed 56 = .ok (.iaload, 1) := by decide +kernel
theorem dX9_agreed_57 : decode cX9_agreed 57 = .ok (.ireturn, 1) := by decide +kernel
theorem dX9_agreed_58 : decode cX9_agreed 58 = .ok (.aload_n 0, 1) := by decide +kernel
theorem dX9_agreed_59 : decode cX9_agreed 59 = .ok (.getfield 34, 3) := by decide +kernel
theorem dX9_agreed_62 : decode cX9_agreed 62 = .ok (.iload_n 1, 1) := by decide +kernel
theorem dX9_agreed_63 : decode cX9_agreed 63 = .ok (.iaload, 1) := by decide +kernel
theorem dX9_agreed_64 : decode cX9_agreed 64 = .ok (.ireturn, 1) := by decide +kernel
theorem dX9_agreed_65 : decode cX9_agreed 65 = .ok (.aload_n 0, 1) := by decide +kernel
theorem dX9_agreed_66 : decode cX9_agreed 66 = .ok (.getfield 37, 3) := by decide +kernel
theorem dX9_agreed_69 : decode cX9_agreed 69 = .ok (.iload_n 1, 1) := by decide +kernel
theorem dX9_agreed_70 : decode cX9_agreed 70 = .ok (.iaload, 1) := by decide +kernel
theorem dX9_agreed_71 : decode cX9_agreed 71 = .ok (.ireturn, 1) := by decide +kernel
theorem dX9_agreed_72 : decode cX9_agreed 72 = .ok (.aload_n 0, 1) := by decide +kernel
theorem dX9_agreed_73 : decode cX9_agreed 73 = .ok (.iload_n 1, 1) := by decide +kernel
theorem dX9_agreed_74 : decode cX9_agreed 74 = .ok (.invokevirtual 149, 3) := by decide +kernel
theorem dX9_agreed_77 : decode cX9_agreed 77 = .ok (.ireturn, 1) := by decide +kernel
theorem dX9_agreed_78 : decode cX9_agreed 78 = .ok (.aload_n 0, 1) := by decide +kernel
theorem dX9_agreed_79 : decode cX9_agreed 79 = .ok (.getfield 40, 3) := by decide +kernel
theorem dX9_agreed_82 : decode cX9_agreed 82 = .ok (.iconst 2, 1) := by decide +kernel
theorem dX9_agreed_83 : decode cX9_agreed 83 = .ok (.iload_n 1, 1) := by decide +kernel
theorem dX9_agreed_84 : decode cX9_agreed 84 = .ok (.imul, 1) := by decide +kernel
theorem dX9_agreed_85 : decode cX9_agreed 85 = .ok (.iload_n 2, 1) := by decide +kernel
theorem dX9_agreed_86 : decode cX9_agreed 86 = .ok (.iadd, 1) := by decide +kernel
theorem dX9_agreed_87 : decode cX9_agreed 87 = .ok (.bipush 8, 2) := by decide +kernel
theorem dX9_agreed_89 : decode cX9_agreed 89 = .ok (.isub, 1) := by decide +kernel
theorem dX9_agreed_90 : decode cX9_agreed 90 = .ok (.iaload, 1) := by decide +kernel
theorem dX9_agreed_91 : decode cX9_agreed 91 = .ok (.ireturn, 1) := by decide +kernel
theorem dX9_agreed_92 : decode cX9_agreed 92 = .ok (.aload_n 0, 1) := by decide +kernel
theorem dX9_agreed_93 : decode cX9_agreed 93 = .ok (.getfield 43, 3) := by decide +kernel
theorem dX9_agreed_96 : decode cX9_agreed 96 = .ok (.iconst 2, 1) := by decide +kernel
theorem dX9_agreed_97 : decode cX9_agreed 97 = .ok (.iload_n 1, 1) := by decide +kernel
theorem dX9_agreed_98 : decode cX9_agreed 98 = .ok (.imul, 1) := by decide +kernel
theorem dX9_agreed_99 : decode cX9_agreed 99 = .ok (.iload_n 2, 1) := by decide +kernel
theorem dX9_agreed_100 : decode cX9_agreed 100 = .ok (.iadd, 1) := by decide +kernel
theorem dX9_agreed_101 : decode cX9_agreed 101 = .ok (.bipush 10, 2) := by decide +kernel
theorem dX9_agreed_103 : decode cX9_agreed 103 = .ok (.isub, 1) := by decide +kernel
theorem dX9_agreed_104 : decode cX9_agreed 104 = .ok (.iaload, 1) := by decide +kernel
theorem dX9_agreed_105 : decode cX9_agreed 105 = .ok (.ireturn, 1) := by decide +kernel
set_option maxRecDepth 20000 in
theorem ggX9_side_X9_isSide : GoodIn wsX9_side wsX9_isSide := goodIn_r _ [8, 9, 10, 7, 11] (by decide +kernel) (by decide +kernel)
set_option maxRecDepth 20000 in
theorem gX9_side_X9_isSide : GoodIn wsX9_side (va_wsS RX9 286 yX9_isSide wsX9_isSide) := goodIn_app (goodIn_of _ (by decide +kernel)) ggX9_side_X9_isSide
set_option maxRecDepth 20000 in
theorem ggX9_side_X9_in : GoodIn wsX9_side wsX9_in := goodIn_r _ [11] (by decide +kernel) (by decide +kernel)
set_option maxRecDepth 20000 in
theorem gX9_side_X9_in : GoodIn wsX9_side (va_wsS RX9 87 yX9_in wsX9_in) := goodIn_app (goodIn_of _ (by decide +kernel)) ggX9_side_X9_in
set_option maxRecDepth 20000 in
theorem ggX9_side_X9_agreed : GoodIn wsX9_side wsX9_agreed := goodIn_r _ [15, 16, 17, 18, 19, 20, 21, 22, 23, 24, 7, 25, 4, 26, 27, 28, 29, 30, 31, 32, 33, 34, 35, 36, 37, 38, 39, 40, 41, 42, 43, 44, 45, 46, 47, 48, 49, 50, 51, 52, 53, 54, 55, 56, 57, 58, 59, 60, 61, 62, 63, 64, 65, 66, 67, 68, 69, 70, 71, 72] (by decide +kernel) (by decide +kernel)
set_option maxRecDepth 20000 in
theorem gX9_side_X9_agreed : GoodIn wsX9_side (wsV RX9 318 RX9 yX9_agreed wsX9_agreed) := goodIn_app (goodIn_of _ (by decide +kernel)) ggX9_side_X9_agreed
theorem dX9_side_0 : decode cX9_side 0 = .ok (.iload_n 1, 1) := by decide +kernel
theorem dX9_side_1 : decode cX9_side 1 = .ok (.invokestatic 286, 3) := by decide +kernel
theorem dX9_side_4 : decode cX9_side 4 = .ok (.ifCond .ne 6, 3) := by decide +kernel
theorem dX9_side_7 : decode cX9_side 7 = .ok (.bipush (-2), 2) := by decide +kernel
theorem dX9_side_9 : decode cX9_side 9 = .ok (.ireturn, 1) := by decide +kernel
theorem dX9_side_10 : decode cX9_side 10 = .ok (.iload_n 2, 1) := by decide +kernel
theorem dX9_side_11 : decode cX9_side 11 = .ok (.i2l, 1) := by decide +kernel
theorem dX9_side_12 : decode cX9_side 12 = .ok (.lconst 0, 1) := by decide +kernel
theorem dX9_side_13 : decode cX9_side 13 = .ok (.ldc2_w 316, 3) := by decide +kernel
theorem dX9_side_16 : decode cX9_side 16 = .ok (.invokestatic 87, 3) := by decide +kernel
theorem dX9_side_19 : decode cX9_side 19 = .ok (.ifCond .ne 6, 3) := by decide +kernel
theorem dX9_side_22 : decode cX9_side 22 = .ok (.bipush (-3), 2) := by decide +kernel
theorem dX9_side_24 : decode cX9_side 24 = .ok (.ireturn, 1) := by decide +kernel
theorem dX9_side_25 : decode cX9_side 25 = .ok (.iload_n 2, 1) := by decide +kernel
theorem dX9_side_26 : decode cX9_side 26 = .ok (.iconst 3, 1) := by decide +kernel
theorem dX9_side_27 : decode cX9_side 27 = .ok (.if_icmp .ge 37, 3) := by decide +kernel
theorem dX9_side_30 : decode cX9_side 30 = .ok (.iload_n 2, 1) := by decide +kernel
theorem dX9_side_31 : decode cX9_side 31 = .ok (.ifCond .ne 12, 3) := by decide +kernel
theorem dX9_side_34 : decode cX9_side 34 = .ok (.aload_n 0, 1) := by decide +kernel
theorem dX9_side_35 : decode cX9_side 35 = .ok (.getfield 19, 3) := by decide +kernel
theorem dX9_side_38 : decode cX9_side 38 = .ok (.iload_n 1, 1) := by decide +kernel
theorem dX9_side_39 : decode cX9_side 39 = .ok (.iaload, 1) := by decide +kernel
theorem dX9_side_40 : decode cX9_side 40 = .ok (.goto 23, 3) := by decide +kernel
theorem dX9_side_43 : decode cX9_side 43 = .ok (.iload_n 2, 1) := by decide +kernel
theorem dX9_side_44 : decode cX9_side 44 = .ok (.iconst 1, 1) := by decide +kernel
theorem dX9_side_45 : decode cX9_side 45 = .ok (.if_icmp .ne 12, 3) := by decide +kernel
theorem dX9_side_48 : decode cX9_side 48 = .ok (.aload_n 0, 1) := by decide +kernel
theorem dX9_side_49 : decode cX9_side 49 = .ok (.getfield 22, 3) := by decide +kernel
theorem dX9_side_52 : decode cX9_side 52 = .ok (.iload_n 1, 1) := by decide +kernel
theorem dX9_side_53 : decode cX9_side 53 = .ok (.iaload, 1) := by decide +kernel
theorem dX9_side_54 : decode cX9_side 54 = .ok (.goto 9, 3) := by decide +kernel
theorem dX9_side_57 : decode cX9_side 57 = .ok (.aload_n 0, 1) := by decide +kernel
theorem dX9_side_58 : decode cX9_side 58 = .ok (.getfield 25, 3) := by decide +kernel
theorem dX9_side_61 : decode cX9_side 61 = .ok (.iload_n 1, 1) := by decide +kernel
theorem dX9_side_62 : decode cX9_side 62 = .ok (.iaload, 1) := by decide +kernel
theorem dX9_side_63 : decode cX9_side 63 = .ok (.ireturn, 1) := by decide +kernel
theorem dX9_side_64 : decode cX9_side 64 = .ok (.aload_n 0, 1) := by decide +kernel
theorem dX9_side_65 : decode cX9_side 65 = .ok (.getfield 19, 3) := by decide +kernel
theorem dX9_side_68 : decode cX9_side 68 = .ok (.iload_n 1, 1) := by decide +kernel
theorem dX9_side_69 : decode cX9_side 69 = .ok (.iaload, 1) := by decide +kernel
theorem dX9_side_70 : decode cX9_side 70 = .ok (.iconst 4, 1) := by decide +kernel
theorem dX9_side_71 : decode cX9_side 71 = .ok (.if_icmp .ne 12, 3) := by decide +kernel
theorem dX9_side_74 : decode cX9_side 74 = .ok (.aload_n 0, 1) := by decide +kernel
theorem dX9_side_75 : decode cX9_side 75 = .ok (.iload_n 1, 1) := by decide +kernel
theorem dX9_side_76 : decode cX9_side 76 = .ok (.iload_n 2, 1) := by decide +kernel
theorem dX9_side_77 : decode cX9_side 77 = .ok (.invokevirtual 318, 3) := by decide +kernel
theorem dX9_side_80 : decode cX9_side 80 = .ok (.goto 4, 3) := by decide +kernel
theorem dX9_side_83 : decode cX9_side 83 = .ok (.iconst (-1), 1) := by decide +kernel
theorem dX9_side_84 : decode cX9_side 84 = .ok (.ireturn, 1) := by decide +kernel
set_option maxRecDepth 20000 in
theorem ggX9_message_X9_isSide : GoodIn wsX9_message wsX9_isSide := goodIn_r _ [7, 8, 9, 6, 10] (by decide +kernel) (by decide +kernel)
set_option maxRecDepth 20000 in
theorem gX9_message_X9_isSide : GoodIn wsX9_message (va_wsS RX9 286 yX9_isSide wsX9_isSide) := goodIn_app (goodIn_of _ (by decide +kernel)) ggX9_message_X9_isSide
set_option maxRecDepth 20000 in
theorem ggX9_message_X9_in : GoodIn wsX9_message wsX9_in := goodIn_r _ [10] (by decide +kernel) (by decide +kernel)
set_option maxRecDepth 20000 in
theorem gX9_message_X9_in : GoodIn wsX9_message (va_wsS RX9 87 yX9_in wsX9_in) := goodIn_app (goodIn_of _ (by decide +kernel)) ggX9_message_X9_in
theorem dX9_message_0 : decode cX9_message 0 = .ok (.iload_n 1, 1) := by decide +kernel
theorem dX9_message_1 : decode cX9_message 1 = .ok (.invokestatic 286, 3) := by decide +kernel
theorem dX9_message_4 : decode cX9_message 4 = .ok (.ifCond .ne 6, 3) := by decide +kernel
theorem dX9_message_7 : decode cX9_message 7 = .ok (.bipush (-2), 2) := by decide +kernel
theorem dX9_message_9 : decode cX9_message 9 = .ok (.ireturn, 1) := by decide +kernel
theorem dX9_message_10 : decode cX9_message 10 = .ok (.iload_n 2, 1) := by decide +kernel
theorem dX9_message_11 : decode cX9_message 11 = .ok (.i2l, 1) := by decide +kernel
theorem dX9_message_12 : decode cX9_message 12 = .ok (.lconst 0, 1) := by decide +kernel
theorem dX9_message_13 : decode cX9_message 13 = .ok (.ldc2_w 314, 3) := by decide +kernel
theorem dX9_message_16 : decode cX9_message 16 = .ok (.invokestatic 87, 3) := by decide +kernel
theorem dX9_message_19 : decode cX9_message 19 = .ok (.ifCond .ne 6, 3) := by decide +kernel
theorem dX9_message_22 : decode cX9_message 22 = .ok (.bipush (-3), 2) := by decide +kernel
theorem dX9_message_24 : decode cX9_message 24 = .ok (.ireturn, 1) := by decide +kernel
theorem dX9_message_25 : decode cX9_message 25 = .ok (.aload_n 0, 1) := by decide +kernel
theorem dX9_message_26 : decode cX9_message 26 = .ok (.getfield 62, 3) := by decide +kernel
theorem dX9_message_29 : decode cX9_message 29 = .ok (.iload_n 1, 1) := by decide +kernel
theorem dX9_message_30 : decode cX9_message 30 = .ok (.iaload, 1) := by decide +kernel
theorem dX9_message_31 : decode cX9_message 31 = .ok (.ifCond .ne 8, 3) := by decide +kernel
theorem dX9_message_34 : decode cX9_message 34 = .ok (.bipush (-4), 2) := by decide +kernel
theorem dX9_message_36 : decode cX9_message 36 = .ok (.goto 14, 3) := by decide +kernel
theorem dX9_message_39 : decode cX9_message 39 = .ok (.aload_n 0, 1) := by decide +kernel
theorem dX9_message_40 : decode cX9_message 40 = .ok (.getfield 65, 3) := by decide +kernel
theorem dX9_message_43 : decode cX9_message 43 = .ok (.bipush 72, 2) := by decide +kernel
theorem dX9_message_45 : decode cX9_message 45 = .ok (.iload_n 1, 1) := by decide +kernel
theorem dX9_message_46 : decode cX9_message 46 = .ok (.imul, 1) := by decide +kernel
theorem dX9_message_47 : decode cX9_message 47 = .ok (.iload_n 2, 1) := by decide +kernel
theorem dX9_message_48 : decode cX9_message 48 = .ok (.iadd, 1) := by decide +kernel
theorem dX9_message_49 : decode cX9_message 49 = .ok (.iaload, 1) := by decide +kernel
theorem dX9_message_50 : decode cX9_message 50 = .ok (.ireturn, 1) := by decide +kernel
set_option maxRecDepth 20000 in
theorem ggX9_kept_X9_in : GoodIn wsX9_kept wsX9_in := goodIn_r _ [7] (by decide +kernel) (by decide +kernel)
set_option maxRecDepth 20000 in
theorem gX9_kept_X9_in : GoodIn wsX9_kept (va_wsS RX9 87 yX9_in wsX9_in) := goodIn_app (goodIn_of _ (by decide +kernel)) ggX9_kept_X9_in
theorem dX9_kept_0 : decode cX9_kept 0 = .ok (.iload_n 1, 1) := by decide +kernel
theorem dX9_kept_1 : decode cX9_kept 1 = .ok (.i2l, 1) := by decide +kernel
theorem dX9_kept_2 : decode cX9_kept 2 = .ok (.lconst 0, 1) := by decide +kernel
theorem dX9_kept_3 : decode cX9_kept 3 = .ok (.aload_n 0, 1) := by decide +kernel
theorem dX9_kept_4 : decode cX9_kept 4 = .ok (.getfield 170, 3) := by decide +kernel
theorem dX9_kept_7 : decode cX9_kept 7 = .ok (.iconst 1, 1) := by decide +kernel
theorem dX9_kept_8 : decode cX9_kept 8 = .ok (.isub, 1) := by decide +kernel
theorem dX9_kept_9 : decode cX9_kept 9 = .ok (.i2l, 1) := by decide +kernel
theorem dX9_kept_10 : decode cX9_kept 10 = .ok (.invokestatic 87, 3) := by decide +kernel
theorem dX9_kept_13 : decode cX9_kept 13 = .ok (.ifCond .ne 6, 3) := by decide +kernel
theorem dX9_kept_16 : decode cX9_kept 16 = .ok (.bipush (-2), 2) := by decide +kernel
theorem dX9_kept_18 : decode cX9_kept 18 = .ok (.ireturn, 1) := by decide +kernel
theorem dX9_kept_19 : decode cX9_kept 19 = .ok (.iload_n 2, 1) := by decide +kernel
theorem dX9_kept_20 : decode cX9_kept 20 = .ok (.i2l, 1) := by decide +kernel
theorem dX9_kept_21 : decode cX9_kept 21 = .ok (.lconst 0, 1) := by decide +kernel
theorem dX9_kept_22 : decode cX9_kept 22 = .ok (.ldc2_w 321, 3) := by decide +kernel
theorem dX9_kept_25 : decode cX9_kept 25 = .ok (.invokestatic 87, 3) := by decide +kernel
theorem dX9_kept_28 : decode cX9_kept 28 = .ok (.ifCond .eq 16, 3) := by decide +kernel
theorem dX9_kept_31 : decode cX9_kept 31 = .ok (.aload_n 0, 1) := by decide +kernel
theorem dX9_kept_32 : decode cX9_kept 32 = .ok (.getfield 53, 3) := by decide +kernel
theorem dX9_kept_35 : decode cX9_kept 35 = .ok (.iconst 5, 1) := by decide +kernel
theorem dX9_kept_36 : decode cX9_kept 36 = .ok (.iload_n 1, 1) := by decide +kernel
theorem dX9_kept_37 : decode cX9_kept 37 = .ok (.imul, 1) := by decide +kernel
theorem dX9_kept_38 : decode cX9_kept 38 = .ok (.iload_n 2, 1) := by decide +kernel
theorem dX9_kept_39 : decode cX9_kept 39 = .ok (.iadd, 1) := by decide +kernel
theorem dX9_kept_40 : decode cX9_kept 40 = .ok (.iaload, 1) := by decide +kernel
theorem dX9_kept_41 : decode cX9_kept 41 = .ok (.goto 5, 3) := by decide +kernel
theorem dX9_kept_44 : decode cX9_kept 44 = .ok (.bipush (-3), 2) := by decide +kernel
theorem dX9_kept_46 : decode cX9_kept 46 = .ok (.ireturn, 1) := by decide +kernel
set_option maxRecDepth 20000 in
theorem ggX9_held_X9_in : GoodIn wsX9_held wsX9_in := goodIn_r _ [6] (by decide +kernel) (by decide +kernel)
set_option maxRecDepth 20000 in
theorem gX9_held_X9_in : GoodIn wsX9_held (va_wsS RX9 87 yX9_in wsX9_in) := goodIn_app (goodIn_of _ (by decide +kernel)) ggX9_held_X9_in
theorem dX9_held_0 : decode cX9_held 0 = .ok (.iload_n 1, 1) := by decide +kernel
theorem dX9_held_1 : decode cX9_held 1 = .ok (.i2l, 1) := by decide +kernel
theorem dX9_held_2 : decode cX9_held 2 = .ok (.lconst 0, 1) := by decide +kernel
theorem dX9_held_3 : decode cX9_held 3 = .ok (.ldc2_w 321, 3) := by decide +kernel
theorem dX9_held_6 : decode cX9_held 6 = .ok (.invokestatic 87, 3) := by decide +kernel
theorem dX9_held_9 : decode cX9_held 9 = .ok (.ifCond .ne 6, 3) := by decide +kernel
theorem dX9_held_12 : decode cX9_held 12 = .ok (.bipush (-3), 2) := by decide +kernel
theorem dX9_held_14 : decode cX9_held 14 = .ok (.ireturn, 1) := by decide +kernel
theorem dX9_held_15 : decode cX9_held 15 = .ok (.aload_n 0, 1) := by decide +kernel
theorem dX9_held_16 : decode cX9_held 16 = .ok (.getfield 50, 3) := by decide +kernel
theorem dX9_held_19 : decode cX9_held 19 = .ok (.iconst 0, 1) := by decide +kernel
theorem dX9_held_20 : decode cX9_held 20 = .ok (.iaload, 1) := by decide +kernel
theorem dX9_held_21 : decode cX9_held 21 = .ok (.iconst 1, 1) := by decide +kernel
theorem dX9_held_22 : decode cX9_held 22 = .ok (.if_icmp .ne 14, 3) := by decide +kernel
theorem dX9_held_25 : decode cX9_held 25 = .ok (.aload_n 0, 1) := by decide +kernel
theorem dX9_held_26 : decode cX9_held 26 = .ok (.getfield 50, 3) := by decide +kernel
theorem dX9_held_29 : decode cX9_held 29 = .ok (.iconst 1, 1) := by decide +kernel
theorem dX9_held_30 : decode cX9_held 30 = .ok (.iload_n 1, 1) := by decide +kernel
theorem dX9_held_31 : decode cX9_held 31 = .ok (.iadd, 1) := by decide +kernel
theorem dX9_held_32 : decode cX9_held 32 = .ok (.iaload, 1) := by decide +kernel
theorem dX9_held_33 : decode cX9_held 33 = .ok (.goto 5, 3) := by decide +kernel
theorem dX9_held_36 : decode cX9_held 36 = .ok (.bipush (-4), 2) := by decide +kernel
theorem dX9_held_38 : decode cX9_held 38 = .ok (.ireturn, 1) := by decide +kernel
set_option maxRecDepth 20000 in
theorem ggX9_share_X9_in : GoodIn wsX9_share wsX9_in := goodIn_r _ [6] (by decide +kernel) (by decide +kernel)
set_option maxRecDepth 20000 in
theorem gX9_share_X9_in : GoodIn wsX9_share (va_wsS RX9 87 yX9_in wsX9_in) := goodIn_app (goodIn_of _ (by decide +kernel)) ggX9_share_X9_in
set_option maxRecDepth 20000 in
theorem ggX9_share_X9_shareOf : GoodIn wsX9_share wsX9_shareOf := goodIn_r _ [9, 10, 11, 5, 12, 13, 14, 15] (by decide +kernel) (by decide +kernel)
set_option maxRecDepth 20000 in
theorem gX9_share_X9_shareOf : GoodIn wsX9_share (va_wsS RX9 130 yX9_shareOf wsX9_shareOf) := goodIn_app (goodIn_of _ (by decide +kernel)) ggX9_share_X9_shareOf
theorem dX9_share_0 : decode cX9_share 0 = .ok (.iload_n 1, 1) := by decide +kernel
theorem dX9_share_1 : decode cX9_share 1 = .ok (.i2l, 1) := by decide +kernel
theorem dX9_share_2 : decode cX9_share 2 = .ok (.lconst 0, 1) := by decide +kernel
theorem dX9_share_3 : decode cX9_share 3 = .ok (.ldc2_w 100, 3) := by decide +kernel
theorem dX9_share_6 : decode cX9_share 6 = .ok (.invokestatic 87, 3) := by decide +kernel
theorem dX9_share_9 : decode cX9_share 9 = .ok (.ifCond .ne 6, 3) := by decide +kernel
theorem dX9_share_12 : decode cX9_share 12 = .ok (.bipush (-2), 2) := by decide +kernel
theorem dX9_share_14 : decode cX9_share 14 = .ok (.ireturn, 1) := by decide +kernel
theorem dX9_share_15 : decode cX9_share 15 = .ok (.iload_n 2, 1) := by decide +kernel
theorem dX9_share_16 : decode cX9_share 16 = .ok (.i2l, 1) := by decide +kernel
theorem dX9_share_17 : decode cX9_share 17 = .ok (.lconst 1, 1) := by decide +kernel
theorem dX9_share_18 : decode cX9_share 18 = .ok (.ldc2_w 293, 3) := by decide +kernel
theorem dX9_share_21 : decode cX9_share 21 = .ok (.invokestatic 87, 3) := by decide +kernel
theorem dX9_share_24 : decode cX9_share 24 = .ok (.ifCond .eq 11, 3) := by decide +kernel
theorem dX9_share_27 : decode cX9_share 27 = .ok (.iload_n 1, 1) := by decide +kernel
theorem dX9_share_28 : decode cX9_share 28 = .ok (.iload_n 2, 1) := by decide +kernel
theorem dX9_share_29 : decode cX9_share 29 = .ok (.invokestatic 130, 3) := by decide +kernel
theorem dX9_share_32 : decode cX9_share 32 = .ok (.goto 5, 3) := by decide +kernel
theorem dX9_share_35 : decode cX9_share 35 = .ok (.bipush (-3), 2) := by decide +kernel
theorem dX9_share_37 : decode cX9_share 37 = .ok (.ireturn, 1) := by decide +kernel
theorem dX9_count_0 : decode cX9_count 0 = .ok (.iload_n 1, 1) := by decide +kernel
theorem dX9_count_1 : decode cX9_count 1 = .ok (.tableswitch 131 0 12 #[67, 72, 72, 81, 86, 91, 96, 101, 101, 111, 111, 121, 126], 67) := by decide +kernel
theorem dX9_count_68 : decode cX9_count 68 = .ok (.aload_n 0, 1) := by decide +kernel
theorem dX9_count_69 : decode cX9_count 69 = .ok (.getfield 133, 3) := by decide +kernel
theorem dX9_count_72 : decode cX9_count 72 = .ok (.ireturn, 1) := by decide +kernel
theorem dX9_count_73 : decode cX9_count 73 = .ok (.aload_n 0, 1) := by decide +kernel
theorem dX9_count_74 : decode cX9_count 74 = .ok (.getfield 62, 3) := by decide +kernel
theorem dX9_count_77 : decode cX9_count 77 = .ok (.iload_n 1, 1) := by decide +kernel
theorem dX9_count_78 : decode cX9_count 78 = .ok (.iconst 1, 1) := by decide +kernel
theorem dX9_count_79 : decode cX9_count 79 = .ok (.isub, 1) := by decide +kernel
theorem dX9_count_80 : decode cX9_count 80 = .ok (.iaload, 1) := by decide +kernel
theorem dX9_count_81 : decode cX9_count 81 = .ok (.ireturn, 1) := by decide +kernel
theorem dX9_count_82 : decode cX9_count 82 = .ok (.aload_n 0, 1) := by decide +kernel
theorem dX9_count_83 : decode cX9_count 83 = .ok (.getfield 170, 3) := by decide +kernel
theorem dX9_count_86 : decode cX9_count 86 = .ok (.ireturn, 1) := by decide +kernel
theorem dX9_count_87 : decode cX9_count 87 = .ok (.aload_n 0, 1) := by decide +kernel
theorem dX9_count_88 : decode cX9_count 88 = .ok (.getfield 173, 3) := by decide +kernel
theorem dX9_count_91 : decode cX9_count 91 = .ok (.ireturn, 1) := by decide +kernel
theorem dX9_count_92 : decode cX9_count 92 = .ok (.aload_n 0, 1) := by decide +kernel
theorem dX9_count_93 : decode cX9_count 93 = .ok (.getfield 196, 3) := by decide +kernel
theorem dX9_count_96 : decode cX9_count 96 = .ok (.ireturn, 1) := by decide +kernel
theorem dX9_count_97 : decode cX9_count 97 = .ok (.aload_n 0, 1) := by decide +kernel
theorem dX9_count_98 : decode cX9_count 98 = .ok (.getfield 199, 3) := by decide +kernel
theorem dX9_count_101 : decode cX9_count 101 = .ok (.ireturn, 1) := by decide +kernel
theorem dX9_count_102 : decode cX9_count 102 = .ok (.aload_n 0, 1) := by decide +kernel
theorem dX9_count_103 : decode cX9_count 103 = .ok (.getfield 74, 3) := by decide +kernel
theorem dX9_count_106 : decode cX9_count 106 = .ok (.iload_n 1, 1) := by decide +kernel
theorem dX9_count_107 : decode cX9_count 107 = .ok (.bipush 7, 2) := by decide +kernel
theorem dX9_count_109 : decode cX9_count 109 = .ok (.isub, 1) := by decide +kernel
theorem dX9_count_110 : decode cX9_count 110 = .ok (.iaload, 1) := by decide +kernel
theorem dX9_count_111 : decode cX9_count 111 = .ok (.ireturn, 1) := by decide +kernel
theorem dX9_count_112 : decode cX9_count 112 = .ok (.aload_n 0, 1) := by decide +kernel
theorem dX9_count_113 : decode cX9_count 113 = .ok (.getfield 77, 3) := by decide +kernel
theorem dX9_count_116 : decode cX9_count 116 = .ok (.iload_n 1, 1) := by decide +kernel
theorem dX9_count_117 : decode cX9_count 117 = .ok (.bipush 9, 2) := by decide +kernel
theorem dX9_count_119 : decode cX9_count 119 = .ok (.isub, 1) := by decide +kernel
theorem dX9_count_120 : decode cX9_count 120 = .ok (.iaload, 1) := by decide +kernel
theorem dX9_count_121 : decode cX9_count 121 = .ok (.ireturn, 1) := by decide +kernel
theorem dX9_count_122 : decode cX9_count 122 = .ok (.aload_n 0, 1) := by decide +kernel
theorem dX9_count_123 : decode cX9_count 123 = .ok (.getfield 232, 3) := by decide +kernel
theorem dX9_count_126 : decode cX9_count 126 = .ok (.ireturn, 1) := by decide +kernel
theorem dX9_count_127 : decode cX9_count 127 = .ok (.aload_n 0, 1) := by decide +kernel
theorem dX9_count_128 : decode cX9_count 128 = .ok (.getfield 113, 3) := by decide +kernel
theorem dX9_count_131 : decode cX9_count 131 = .ok (.ireturn, 1) := by decide +kernel
theorem dX9_count_132 : decode cX9_count 132 = .ok (.bipush (-3), 2) := by decide +kernel
theorem dX9_count_134 : decode cX9_count 134 = .ok (.ireturn, 1) := by decide +kernel
