set_option maxRecDepth 20000 in
theorem ggX0_init_X3_init : GoodIn wsX0_init wsX3_init := goodIn_r _ [15, 16, 2, 3, 17, 18, 19, 20, 21, 22, 23, 24, 25, 26, 27, 28, 29, 30, 31, 32, 33, 34, 35, 36, 37, 38, 39, 40, 41, 45, 46, 47, 48, 49, 50, 51, 52, 53, 54, 55, 56, 57, 58, 59, 60, 61, 62, 77, 78, 79, 80] (by decide +kernel) (by decide +kernel)
set_option maxRecDepth 20000 in
theorem gX0_init_X3_init : GoodIn wsX0_init (wsX3_init) := ggX0_init_X3_init
set_option maxRecDepth 20000 in
theorem ggX0_init_X7_init : GoodIn wsX0_init wsX7_init := goodIn_r _ [43, 44, 2, 3] (by decide +kernel) (by decide +kernel)
set_option maxRecDepth 20000 in
theorem gX0_init_X7_init_n22 : GoodIn wsX0_init (wsX7_init) := ggX0_init_X7_init
theorem dX0_init_0 : decode cX0_init 0 = .ok (.aload_n 0, 1) := by decide +kernel
theorem dX0_init_1 : decode cX0_init 1 = .ok (.invokespecial 3, 3) := by decide +kernel
theorem dX0_init_4 : decode cX0_init 4 = .ok (.aload_n 0, 1) := by decide +kernel
theorem dX0_init_5 : decode cX0_init 5 = .ok (.new 9, 3) := by decide +kernel
theorem dX0_init_8 : decode cX0_init 8 = .ok (.dup, 1) := by decide +kernel
theorem dX0_init_9 : decode cX0_init 9 = .ok (.iconst 0, 1) := by decide +kernel
theorem dX0_init_10 : decode cX0_init 10 = .ok (.iconst 3, 1) := by decide +kernel
theorem dX0_init_11 : decode cX0_init 11 = .ok (.invokespecial 11, 3) := by decide +kernel
theorem dX0_init_14 : decode cX0_init 14 = .ok (.putfield 14, 3) := by decide +kernel
theorem dX0_init_17 : decode cX0_init 17 = .ok (.aload_n 0, 1) := by decide +kernel
theorem dX0_init_18 : decode cX0_init 18 = .ok (.new 20, 3) := by decide +kernel
theorem dX0_init_21 : decode cX0_init 21 = .ok (.dup, 1) := by decide +kernel
theorem dX0_init_22 : decode cX0_init 22 = .ok (.invokespecial 22, 3) := by decide +kernel
theorem dX0_init_25 : decode cX0_init 25 = .ok (.putfield 23, 3) := by decide +kernel
theorem dX0_init_28 : decode cX0_init 28 = .ok (.aload_n 0, 1) := by decide +kernel
theorem dX0_init_29 : decode cX0_init 29 = .ok (.iconst (-1), 1) := by decide +kernel
theorem dX0_init_30 : decode cX0_init 30 = .ok (.putfield 27, 3) := by decide +kernel
theorem dX0_init_33 : decode cX0_init 33 = .ok (.return_, 1) := by decide +kernel
set_option maxRecDepth 20000 in
theorem ggX0_begin_X8_hasGroup : GoodIn wsX0_begin wsX8_hasGroup := goodIn_r _ [8, 9, 10, 7, 11] (by decide +kernel) (by decide +kernel)
set_option maxRecDepth 20000 in
theorem gX0_begin_X8_hasGroup_n44 : GoodIn wsX0_begin (wsX8_hasGroup) := ggX0_begin_X8_hasGroup
set_option maxRecDepth 20000 in
theorem ggX0_begin_X8_leastOf : GoodIn wsX0_begin wsX8_leastOf := goodIn_r _ [13] (by decide +kernel) (by decide +kernel)
set_option maxRecDepth 20000 in
theorem gX0_begin_X8_leastOf_n48 : GoodIn wsX0_begin (wsX8_leastOf) := ggX0_begin_X8_leastOf
set_option maxRecDepth 20000 in
theorem ggX0_begin_X0_ask : GoodIn wsX0_begin wsX0_ask := goodIn_r _ [18, 2, 19, 20, 4, 21, 22, 23, 24, 25, 26, 27, 28, 1, 29, 30, 31, 32, 33, 34, 35, 36, 37, 38, 39, 40, 41, 42, 43, 44, 45, 46, 7, 47, 48, 49, 50, 51, 52, 53, 54, 55, 56, 57, 58, 59, 60, 61, 62, 63, 64, 65, 66, 67, 68, 69, 70, 71, 72, 73, 74, 75, 76, 77, 78, 79, 80, 81, 82, 83, 84, 85, 86, 87, 88, 89, 90, 91, 92, 93, 94, 95, 96, 97, 98, 99, 100, 101, 102, 103, 104, 105, 106, 107, 108, 109, 110, 111, 112, 113, 114, 115, 116, 117, 118, 119, 120, 121, 122] (by decide +kernel) (by decide +kernel)
set_option maxRecDepth 20000 in
theorem gX0_begin_X0_ask : GoodIn wsX0_begin (wsV RX0 52 RX0 yX0_ask wsX0_ask) := goodIn_app (goodIn_of _ (by decide +kernel)) ggX0_begin_X0_ask
theorem dX0_begin_0 : decode cX0_begin 0 = .ok (.aload_n 0, 1) := by decide +kernel
theorem dX0_begin_1 : decode cX0_begin 1 = .ok (.iconst 0, 1) := by decide +kernel
theorem dX0_begin_2 : decode cX0_begin 2 = .ok (.putfield 31, 3) := by decide +kernel
theorem dX0_begin_5 : decode cX0_begin 5 = .ok (.aload_n 0, 1) := by decide +kernel
theorem dX0_begin_6 : decode cX0_begin 6 = .ok (.getfield 14, 3) := by decide +kernel
theorem dX0_begin_9 : decode cX0_begin 9 = .ok (.iconst 1, 1) := by decide +kernel
theorem dX0_begin_10 : decode cX0_begin 10 = .ok (.putfield 35, 3) := by decide +kernel
theorem dX0_begin_13 : decode cX0_begin 13 = .ok (.aload_n 0, 1) := by decide +kernel
theorem dX0_begin_14 : decode cX0_begin 14 = .ok (.aload_n 0, 1) := by decide +kernel
theorem dX0_begin_15 : decode cX0_begin 15 = .ok (.getfield 14, 3) := by decide +kernel
theorem dX0_begin_18 : decode cX0_begin 18 = .ok (.getfield 38, 3) := by decide +kernel
theorem dX0_begin_21 : decode cX0_begin 21 = .ok (.aload_n 0, 1) := by decide +kernel
theorem dX0_begin_22 : decode cX0_begin 22 = .ok (.getfield 41, 3) := by decide +kernel
theorem dX0_begin_25 : decode cX0_begin 25 = .ok (.invokestatic 44, 3) := by decide +kernel
theorem dX0_begin_28 : decode cX0_begin 28 = .ok (.ifCond .eq 10, 3) := by decide +kernel
theorem dX0_begin_31 : decode cX0_begin 31 = .ok (.aload_n 0, 1) := by decide +kernel
theorem dX0_begin_32 : decode cX0_begin 32 = .ok (.getfield 41, 3) := by decide +kernel
theorem dX0_begin_35 : decode cX0_begin 35 = .ok (.goto 13, 3) := by decide +kernel
theorem dX0_begin_38 : decode cX0_begin 38 = .ok (.aload_n 0, 1) := by decide +kernel
theorem dX0_begin_39 : decode cX0_begin 39 = .ok (.getfield 14, 3) := by decide +kernel
theorem dX0_begin_42 : decode cX0_begin 42 = .ok (.getfield 38, 3) := by decide +kernel
theorem dX0_begin_45 : decode cX0_begin 45 = .ok (.invokestatic 48, 3) := by decide +kernel
theorem dX0_begin_48 : decode cX0_begin 48 = .ok (.iload_n 1, 1) := by decide +kernel
theorem dX0_begin_49 : decode cX0_begin 49 = .ok (.aload_n 2, 1) := by decide +kernel
theorem dX0_begin_50 : decode cX0_begin 50 = .ok (.invokevirtual 52, 3) := by decide +kernel
theorem dX0_begin_53 : decode cX0_begin 53 = .ok (.return_, 1) := by decide +kernel
set_option maxRecDepth 20000 in
theorem ggX0_ask_X2_begin : GoodIn wsX0_ask wsX2_begin := goodIn_r _ [22, 23, 105] (by decide +kernel) (by decide +kernel)
set_option maxRecDepth 20000 in
theorem gX0_ask_X2_begin : GoodIn wsX0_ask (wsV RX0 62 RX2 yX2_begin wsX2_begin) := goodIn_app (goodIn_of _ (by decide +kernel)) ggX0_ask_X2_begin
set_option maxRecDepth 20000 in
theorem ggX0_ask_X2_put : GoodIn wsX0_ask wsX2_put := goodIn_r _ [27, 23, 28, 29, 21, 30, 105] (by decide +kernel) (by decide +kernel)
set_option maxRecDepth 20000 in
theorem gX0_ask_X2_put : GoodIn wsX0_ask (wsV RX0 69 RX2 yX2_put wsX2_put) := goodIn_app (goodIn_of _ (by decide +kernel)) ggX0_ask_X2_put
set_option maxRecDepth 20000 in
theorem ggX0_ask_X8_shareOf : GoodIn wsX0_ask wsX8_shareOf := goodIn_r _ [33, 34, 35, 32, 36, 37, 38, 39] (by decide +kernel) (by decide +kernel)
set_option maxRecDepth 20000 in
theorem gX0_ask_X8_shareOf_n75 : GoodIn wsX0_ask (wsX8_shareOf) := ggX0_ask_X8_shareOf
set_option maxRecDepth 20000 in
theorem ggX0_ask_X8_binderOf : GoodIn wsX0_ask wsX8_binderOf := goodIn_r _ [41, 42, 43, 32, 44, 45, 46, 47, 48, 21, 49, 23, 105] (by decide +kernel) (by decide +kernel)
set_option maxRecDepth 20000 in
theorem gX0_ask_X8_binderOf_n97 : GoodIn wsX0_ask (wsX8_binderOf) := ggX0_ask_X8_binderOf
set_option maxRecDepth 20000 in
theorem ggX0_ask_X3_takeIn : GoodIn wsX0_ask wsX3_takeIn := goodIn_r _ [54, 55, 56, 57, 58, 21, 59, 23, 28, 29, 30, 60, 47, 48, 49, 43, 32, 44, 45, 82, 83, 84, 85, 86, 87, 88, 89, 90, 91, 92, 93, 94, 95, 96, 97, 98, 99, 105] (by decide +kernel) (by decide +kernel)
set_option maxRecDepth 20000 in
theorem gX0_ask_X3_takeIn : GoodIn wsX0_ask (wsV RX0 110 RX3 yX3_takeIn wsX3_takeIn) := goodIn_app (goodIn_of _ (by decide +kernel)) ggX0_ask_X3_takeIn
set_option maxRecDepth 20000 in
theorem ggX0_ask_X4_send : GoodIn wsX0_ask wsX4_send := goodIn_r _ [65, 66, 67, 68, 69, 70, 71, 21, 72, 23, 106, 107, 108, 105] (by decide +kernel) (by decide +kernel)
set_option maxRecDepth 20000 in
theorem gX0_ask_X4_send : GoodIn wsX0_ask (wsV RX0 114 RX4 yX4_send wsX4_send) := goodIn_app (goodIn_of _ (by decide +kernel)) ggX0_ask_X4_send
theorem dX0_ask_0 : decode cX0_ask 0 = .ok (.aload_n 0, 1) := by decide +kernel
theorem dX0_ask_1 : decode cX0_ask 1 = .ok (.getfield 14, 3) := by decide +kernel
theorem dX0_ask_4 : decode cX0_ask 4 = .ok (.getfield 56, 3) := by decide +kernel
theorem dX0_ask_7 : decode cX0_ask 7 = .ok (.astore 4, 2) := by decide +kernel
theorem dX0_ask_9 : decode cX0_ask 9 = .ok (.aload 4, 2) := by decide +kernel
theorem dX0_ask_11 : decode cX0_ask 11 = .ok (.iconst 1, 1) := by decide +kernel
theorem dX0_ask_12 : decode cX0_ask 12 = .ok (.invokevirtual 62, 3) := by decide +kernel
theorem dX0_ask_15 : decode cX0_ask 15 = .ok (.aload 4, 2) := by decide +kernel
theorem dX0_ask_17 : decode cX0_ask 17 = .ok (.iconst 1, 1) := by decide +kernel
theorem dX0_ask_18 : decode cX0_ask 18 = .ok (.aload_n 0, 1) := by decide +kernel
theorem dX0_ask_19 : decode cX0_ask 19 = .ok (.getfield 14, 3) := by decide +kernel
theorem dX0_ask_22 : decode cX0_ask 22 = .ok (.getfield 66, 3) := by decide +kernel
theorem dX0_ask_25 : decode cX0_ask 25 = .ok (.invokevirtual 69, 3) := by decide +kernel
theorem dX0_ask_28 : decode cX0_ask 28 = .ok (.aload 4, 2) := by decide +kernel
theorem dX0_ask_30 : decode cX0_ask 30 = .ok (.iconst 2, 1) := by decide +kernel
theorem dX0_ask_31 : decode cX0_ask 31 = .ok (.aload_n 0, 1) := by decide +kernel
theorem dX0_ask_32 : decode cX0_ask 32 = .ok (.getfield 14, 3) := by decide +kernel
theorem dX0_ask_35 : decode cX0_ask 35 = .ok (.getfield 38, 3) := by decide +kernel
theorem dX0_ask_38 : decode cX0_ask 38 = .ok (.invokevirtual 69, 3) := by decide +kernel
theorem dX0_ask_41 : decode cX0_ask 41 = .ok (.aload 4, 2) := by decide +kernel
theorem dX0_ask_43 : decode cX0_ask 43 = .ok (.iconst 3, 1) := by decide +kernel
theorem dX0_ask_44 : decode cX0_ask 44 = .ok (.iload_n 1, 1) := by decide +kernel
theorem dX0_ask_45 : decode cX0_ask 45 = .ok (.invokevirtual 69, 3) := by decide +kernel
theorem dX0_ask_48 : decode cX0_ask 48 = .ok (.aload 4, 2) := by decide +kernel
theorem dX0_ask_50 : decode cX0_ask 50 = .ok (.iconst 4, 1) := by decide +kernel
theorem dX0_ask_51 : decode cX0_ask 51 = .ok (.iload_n 1, 1) := by decide +kernel
theorem dX0_ask_52 : decode cX0_ask 52 = .ok (.aload_n 0, 1) := by decide +kernel
theorem dX0_ask_53 : decode cX0_ask 53 = .ok (.getfield 14, 3) := by decide +kernel
theorem dX0_ask_56 : decode cX0_ask 56 = .ok (.getfield 72, 3) := by decide +kernel
theorem dX0_ask_59 : decode cX0_ask 59 = .ok (.invokestatic 75, 3) := by decide +kernel
theorem dX0_ask_62 : decode cX0_ask 62 = .ok (.invokevirtual 69, 3) := by decide +kernel
theorem dX0_ask_65 : decode cX0_ask 65 = .ok (.aload_n 0, 1) := by decide +kernel
theorem dX0_ask_66 : decode cX0_ask 66 = .ok (.getfield 79, 3) := by decide +kernel
theorem dX0_ask_69 : decode cX0_ask 69 = .ok (.ifCond .eq 66, 3) := by decide +kernel
theorem dX0_ask_72 : decode cX0_ask 72 = .ok (.aload 4, 2) := by decide +kernel
theorem dX0_ask_74 : decode cX0_ask 74 = .ok (.iconst 5, 1) := by decide +kernel
theorem dX0_ask_75 : decode cX0_ask 75 = .ok (.aload_n 0, 1) := by decide +kernel
theorem dX0_ask_76 : decode cX0_ask 76 = .ok (.getfield 23, 3) := by decide +kernel
theorem dX0_ask_79 : decode cX0_ask 79 = .ok (.getfield 82, 3) := by decide +kernel
theorem dX0_ask_82 : decode cX0_ask 82 = .ok (.invokevirtual 69, 3) := by decide +kernel
theorem dX0_ask_85 : decode cX0_ask 85 = .ok (.aload 4, 2) := by decide +kernel
theorem dX0_ask_87 : decode cX0_ask 87 = .ok (.bipush 6, 2) := by decide +kernel
theorem dX0_ask_89 : decode cX0_ask 89 = .ok (.iload_n 2, 1) := by decide +kernel
theorem dX0_ask_90 : decode cX0_ask 90 = .ok (.aload_n 0, 1) := by decide +kernel
theorem dX0_ask_91 : decode cX0_ask 91 = .ok (.getfield 23, 3) := by decide +kernel
theorem dX0_ask_94 : decode cX0_ask 94 = .ok (.getfield 85, 3) := by decide +kernel
theorem dX0_ask_97 : decode cX0_ask 97 = .ok (.isub, 1) := by decide +kernel
theorem dX0_ask_98 : decode cX0_ask 98 = .ok (.aload_n 0, 1) := by decide +kernel
theorem dX0_ask_99 : decode cX0_ask 99 = .ok (.getfield 23, 3) := by decide +kernel
theorem dX0_ask_102 : decode cX0_ask 102 = .ok (.getfield 88, 3) := by decide +kernel
theorem dX0_ask_105 : decode cX0_ask 105 = .ok (.iadd, 1) := by decide +kernel
theorem dX0_ask_106 : decode cX0_ask 106 = .ok (.invokevirtual 69, 3) := by decide +kernel
theorem dX0_ask_109 : decode cX0_ask 109 = .ok (.aload 4, 2) := by decide +kernel
theorem dX0_ask_111 : decode cX0_ask 111 = .ok (.bipush 7, 2) := by decide +kernel
theorem dX0_ask_113 : decode cX0_ask 113 = .ok (.aload_n 0, 1) := by decide +kernel
theorem dX0_ask_114 : decode cX0_ask 114 = .ok (.getfield 23, 3) := by decide +kernel
theorem dX0_ask_117 : decode cX0_ask 117 = .ok (.getfield 91, 3) := by decide +kernel
theorem dX0_ask_120 : decode cX0_ask 120 = .ok (.aload_n 0, 1) := by decide +kernel
theorem dX0_ask_121 : decode cX0_ask 121 = .ok (.getfield 14, 3) := by decide +kernel
theorem dX0_ask_124 : decode cX0_ask 124 = .ok (.getfield 94, 3) := by decide +kernel
theorem dX0_ask_127 : decode cX0_ask 127 = .ok (.aload 4, 2) := by decide +kernel
theorem dX0_ask_129 : decode cX0_ask 129 = .ok (.invokestatic 97, 3) := by decide +kernel
theorem dX0_ask_132 : decode cX0_ask 132 = .ok (.invokevirtual 69, 3) := by decide +kernel
theorem dX0_ask_135 : decode cX0_ask 135 = .ok (.aload 4, 2) := by decide +kernel
theorem dX0_ask_137 : decode cX0_ask 137 = .ok (.bipush 8, 2) := by decide +kernel
theorem dX0_ask_139 : decode cX0_ask 139 = .ok (.aload_n 0, 1) := by decide +kernel
theorem dX0_ask_140 : decode cX0_ask 140 = .ok (.getfield 79, 3) := by decide +kernel
theorem dX0_ask_143 : decode cX0_ask 143 = .ok (.ifCond .eq 17, 3) := by decide +kernel
theorem dX0_ask_146 : decode cX0_ask 146 = .ok (.aload_n 0, 1) := by decide +kernel
theorem dX0_ask_147 : decode cX0_ask 147 = .ok (.getfield 31, 3) := by decide +kernel
theorem dX0_ask_150 : decode cX0_ask 150 = .ok (.ifCond .ne 10, 3) := by decide +kernel
theorem dX0_ask_153 : decode cX0_ask 153 = .ok (.aload_n 0, 1) := by decide +kernel
theorem dX0_ask_154 : decode cX0_ask 154 = .ok (.getfield 27, 3) := by decide +kernel
theorem dX0_ask_157 : decode cX0_ask 157 = .ok (.goto 4, 3) := by decide +kernel
theorem dX0_ask_160 : decode cX0_ask 160 = .ok (.iconst (-1), 1) := by decide +kernel
theorem dX0_ask_161 : decode cX0_ask 161 = .ok (.invokevirtual 69, 3) := by decide +kernel
theorem dX0_ask_164 : decode cX0_ask 164 = .ok (.aload_n 0, 1) := by decide +kernel
theorem dX0_ask_165 : decode cX0_ask 165 = .ok (.iload_n 1, 1) := by decide +kernel
theorem dX0_ask_166 : decode cX0_ask 166 = .ok (.putfield 101, 3) := by decide +kernel
theorem dX0_ask_169 : decode cX0_ask 169 = .ok (.aload_n 0, 1) := by decide +kernel
theorem dX0_ask_170 : decode cX0_ask 170 = .ok (.aload_n 0, 1) := by decide +kernel
theorem dX0_ask_171 : decode cX0_ask 171 = .ok (.getfield 79, 3) := by decide +kernel
theorem dX0_ask_174 : decode cX0_ask 174 = .ok (.putfield 104, 3) := by decide +kernel
theorem dX0_ask_177 : decode cX0_ask 177 = .ok (.aload_n 0, 1) := by decide +kernel
theorem dX0_ask_178 : decode cX0_ask 178 = .ok (.aload_n 0, 1) := by decide +kernel
theorem dX0_ask_179 : decode cX0_ask 179 = .ok (.getfield 23, 3) := by decide +kernel
theorem dX0_ask_182 : decode cX0_ask 182 = .ok (.getfield 91, 3) := by decide +kernel
theorem dX0_ask_185 : decode cX0_ask 185 = .ok (.putfield 107, 3) := by decide +kernel
theorem dX0_ask_188 : decode cX0_ask 188 = .ok (.aload_n 0, 1) := by decide +kernel
theorem dX0_ask_189 : decode cX0_ask 189 = .ok (.getfield 14, 3) := by decide +kernel
theorem dX0_ask_192 : decode cX0_ask 192 = .ok (.aload 4, 2) := by decide +kernel
theorem dX0_ask_194 : decode cX0_ask 194 = .ok (.invokevirtual 110, 3) := by decide +kernel
theorem dX0_ask_197 : decode cX0_ask 197 = .ok (.aload_n 3, 1) := by decide +kernel
theorem dX0_ask_198 : decode cX0_ask 198 = .ok (.aload 4, 2) := by decide +kernel
theorem dX0_ask_200 : decode cX0_ask 200 = .ok (.invokevirtual 114, 3) := by decide +kernel
theorem dX0_ask_203 : decode cX0_ask 203 = .ok (.return_, 1) := by decide +kernel
set_option maxRecDepth 20000 in
theorem ggX0_receive_X2_at : GoodIn wsX0_receive wsX2_at := goodIn_r _ [7, 8, 9, 10, 6, 11, 198] (by decide +kernel) (by decide +kernel)
set_option maxRecDepth 20000 in
theorem gX0_receive_X2_at : GoodIn wsX0_receive (wsV RX0 119 RX2 yX2_at wsX2_at) := goodIn_app (goodIn_of _ (by decide +kernel)) ggX0_receive_X2_at
set_option maxRecDepth 20000 in
theorem ggX0_receive_X0_receiveRetry : GoodIn wsX0_receive wsX0_receiveRetry := goodIn_r _ [16, 1, 17, 18, 19, 3, 4, 5, 6, 7, 8, 9, 10, 11, 20, 21, 22, 23, 24, 25, 26, 27, 28, 29, 30, 31, 32, 33, 34, 35, 36, 37, 38, 39, 40, 41, 42, 43, 44, 45, 46, 47, 48, 15, 49, 50, 51, 52, 53, 54, 55, 56, 57, 58, 59, 60, 61, 62, 63, 64, 65, 66, 67, 68, 69, 70, 71, 72, 73, 74, 75, 76, 77, 78, 79, 80, 81, 82, 83, 84, 85, 86, 87, 88, 89, 90, 91, 92, 93, 94, 171, 172, 173, 174, 175, 176, 177, 178, 179, 180, 181, 182, 183, 184, 185, 186, 187, 188, 189, 190, 191, 192, 193, 194, 195, 196, 197, 198, 199, 200, 201, 202, 203, 204, 205, 206] (by decide +kernel) (by decide +kernel)
set_option maxRecDepth 20000 in
theorem gX0_receive_X0_receiveRetry : GoodIn wsX0_receive (wsV RX0 122 RX0 yX0_receiveRetry wsX0_receiveRetry) := goodIn_app (goodIn_of _ (by decide +kernel)) ggX0_receive_X0_receiveRetry
set_option maxRecDepth 20000 in
theorem ggX0_receive_X0_receiveGreeting : GoodIn wsX0_receive wsX0_receiveGreeting := goodIn_r _ [98, 1, 99, 18, 100, 101, 52, 62, 102, 50, 103, 104, 105, 15, 106, 51, 61, 3, 4, 5, 6, 7, 8, 9, 10, 11, 107, 21, 108, 109, 110, 111, 112, 73, 74, 75, 26, 27, 28, 29, 30, 31, 32, 113, 114, 76, 77, 78, 81, 43, 44, 45, 33, 34, 35, 36, 37, 38, 39, 40, 41, 42, 115, 116, 117, 118, 119, 63, 64, 65, 66, 67, 68, 69, 70, 83, 84, 85, 86, 87, 88, 89, 90, 91, 92, 93, 94, 120, 121, 122, 123, 124, 125, 126, 127, 128, 129, 130, 131, 132, 133, 171, 172, 173, 174, 175, 176, 177, 178, 179, 180, 181, 182, 183, 184, 185, 186, 187, 188, 189, 190, 191, 192, 193, 194, 195, 196, 197, 198, 204, 205, 206, 207, 208, 209] (by decide +kernel) (by decide +kernel)
set_option maxRecDepth 20000 in
theorem gX0_receive_X0_receiveGreeting : GoodIn wsX0_receive (wsV RX0 126 RX0 yX0_receiveGreeting wsX0_receiveGreeting) := goodIn_app (goodIn_of _ (by decide +kernel)) ggX0_receive_X0_receiveGreeting
set_option maxRecDepth 20000 in
theorem ggX0_receive_X0_receiveTicket : GoodIn wsX0_receive wsX0_receiveTicket := goodIn_r _ [137, 53, 54, 55, 57, 138, 56, 1, 139, 58, 3, 4, 5, 6, 7, 8, 9, 10, 11, 43, 21, 44, 45, 171, 172, 173, 174, 175, 176, 177, 178, 179, 199, 200, 201, 202, 203, 180, 181, 182, 183, 184, 185, 186, 187, 188, 189, 190, 191, 192, 193, 194, 195, 196, 197, 198] (by decide +kernel) (by decide +kernel)
set_option maxRecDepth 20000 in
theorem gX0_receive_X0_receiveTicket : GoodIn wsX0_receive (wsV RX0 130 RX0 yX0_receiveTicket wsX0_receiveTicket) := goodIn_app (goodIn_of _ (by decide +kernel)) ggX0_receive_X0_receiveTicket
set_option maxRecDepth 20000 in
theorem ggX0_receive_X3_receive : GoodIn wsX0_receive wsX3_receive := goodIn_r _ [143, 31, 38, 4, 5, 6, 7, 8, 9, 10, 11, 144, 145, 146, 29, 147, 148, 124, 149, 150, 151, 152, 153, 154, 130, 155, 133, 156, 157, 158, 159, 160, 132, 43, 21, 44, 45, 161, 27, 28, 30, 32, 162, 163, 164, 165, 166, 167, 168, 169, 170, 180, 181, 182, 183, 184, 185, 186, 187, 188, 189, 190, 191, 192, 193, 194, 195, 196, 197, 198, 207, 208, 209] (by decide +kernel) (by decide +kernel)
set_option maxRecDepth 20000 in
theorem gX0_receive_X3_receive : GoodIn wsX0_receive (wsV RX0 134 RX3 yX3_receive wsX3_receive) := goodIn_app (goodIn_of _ (by decide +kernel)) ggX0_receive_X3_receive
theorem dX0_receive_0 : decode cX0_receive 0 = .ok (.aload_n 1, 1) := by decide +kernel
theorem dX0_receive_1 : decode cX0_receive 1 = .ok (.iconst 0, 1) := by decide +kernel
theorem dX0_receive_2 : decode cX0_receive 2 = .ok (.invokevirtual 119, 3) := by decide +kernel
theorem dX0_receive_5 : decode cX0_receive 5 = .ok (.istore 4, 2) := by decide +kernel
theorem dX0_receive_7 : decode cX0_receive 7 = .ok (.aload_n 0, 1) := by decide +kernel
theorem dX0_receive_8 : decode cX0_receive 8 = .ok (.getfield 14, 3) := by decide +kernel
theorem dX0_receive_11 : decode cX0_receive 11 = .ok (.getfield 35, 3) := by decide +kernel
theorem dX0_receive_14 : decode cX0_receive 14 = .ok (.iconst 1, 1) := by decide +kernel
theorem dX0_receive_15 : decode cX0_receive 15 = .ok (.if_icmp .ne 19, 3) := by decide +kernel
theorem dX0_receive_18 : decode cX0_receive 18 = .ok (.iload 4, 2) := by decide +kernel
theorem dX0_receive_20 : decode cX0_receive 20 = .ok (.iconst 2, 1) := by decide +kernel
theorem dX0_receive_21 : decode cX0_receive 21 = .ok (.if_icmp .ne 13, 3) := by decide +kernel
theorem dX0_receive_24 : decode cX0_receive 24 = .ok (.aload_n 0, 1) := by decide +kernel
theorem dX0_receive_25 : decode cX0_receive 25 = .ok (.aload_n 1, 1) := by decide +kernel
theorem dX0_receive_26 : decode cX0_receive 26 = .ok (.iload_n 2, 1) := by decide +kernel
theorem dX0_receive_27 : decode cX0_receive 27 = .ok (.aload_n 3, 1) := by decide +kernel
theorem dX0_receive_28 : decode cX0_receive 28 = .ok (.invokevirtual 122, 3) := by decide +kernel
theorem dX0_receive_31 : decode cX0_receive 31 = .ok (.goto 63, 3) := by decide +kernel
theorem dX0_receive_34 : decode cX0_receive 34 = .ok (.aload_n 0, 1) := by decide +kernel
theorem dX0_receive_35 : decode cX0_receive 35 = .ok (.getfield 14, 3) := by decide +kernel
theorem dX0_receive_38 : decode cX0_receive 38 = .ok (.getfield 35, 3) := by decide +kernel
theorem dX0_receive_41 : decode cX0_receive 41 = .ok (.iconst 1, 1) := by decide +kernel
theorem dX0_receive_42 : decode cX0_receive 42 = .ok (.if_icmp .ne 18, 3) := by decide +kernel
theorem dX0_receive_45 : decode cX0_receive 45 = .ok (.iload 4, 2) := by decide +kernel
theorem dX0_receive_47 : decode cX0_receive 47 = .ok (.iconst 3, 1) := by decide +kernel
theorem dX0_receive_48 : decode cX0_receive 48 = .ok (.if_icmp .ne 12, 3) := by decide +kernel
theorem dX0_receive_51 : decode cX0_receive 51 = .ok (.aload_n 0, 1) := by decide +kernel
theorem dX0_receive_52 : decode cX0_receive 52 = .ok (.aload_n 1, 1) := by decide +kernel
theorem dX0_receive_53 : decode cX0_receive 53 = .ok (.aload_n 3, 1) := by decide +kernel
theorem dX0_receive_54 : decode cX0_receive 54 = .ok (.invokevirtual 126, 3) := by decide +kernel
theorem dX0_receive_57 : decode cX0_receive 57 = .ok (.goto 37, 3) := by decide +kernel
theorem dX0_receive_60 : decode cX0_receive 60 = .ok (.aload_n 0, 1) := by decide +kernel
theorem dX0_receive_61 : decode cX0_receive 61 = .ok (.getfield 14, 3) := by decide +kernel
theorem dX0_receive_64 : decode cX0_receive 64 = .ok (.getfield 35, 3) := by decide +kernel
theorem dX0_receive_67 : decode cX0_receive 67 = .ok (.iconst 4, 1) := by decide +kernel
theorem dX0_receive_68 : decode cX0_receive 68 = .ok (.if_icmp .ne 18, 3) := by decide +kernel
theorem dX0_receive_71 : decode cX0_receive 71 = .ok (.iload 4, 2) := by decide +kernel
theorem dX0_receive_73 : decode cX0_receive 73 = .ok (.iconst 5, 1) := by decide +kernel
theorem dX0_receive_74 : decode cX0_receive 74 = .ok (.if_icmp .ne 12, 3) := by decide +kernel
theorem dX0_receive_77 : decode cX0_receive 77 = .ok (.aload_n 0, 1) := by decide +kernel
theorem dX0_receive_78 : decode cX0_receive 78 = .ok (.aload_n 1, 1) := by decide +kernel
theorem dX0_receive_79 : decode cX0_receive 79 = .ok (.iload_n 2, 1) := by decide +kernel
theorem dX0_receive_80 : decode cX0_receive 80 = .ok (.invokevirtual 130, 3) := by decide +kernel
theorem dX0_receive_83 : decode cX0_receive 83 = .ok (.goto 11, 3) := by decide +kernel
theorem dX0_receive_86 : decode cX0_receive 86 = .ok (.aload_n 0, 1) := by decide +kernel
theorem dX0_receive_87 : decode cX0_receive 87 = .ok (.getfield 14, 3) := by decide +kernel
theorem dX0_receive_90 : decode cX0_receive 90 = .ok (.aload_n 1, 1) := by decide +kernel
theorem dX0_receive_91 : decode cX0_receive 91 = .ok (.invokevirtual 134, 3) := by decide +kernel
theorem dX0_receive_94 : decode cX0_receive 94 = .ok (.return_, 1) := by decide +kernel
set_option maxRecDepth 20000 in
theorem ggX0_receiveRetry_X2_at : GoodIn wsX0_receiveRetry wsX2_at := goodIn_r _ [9, 10, 11, 12, 8, 13, 117] (by decide +kernel) (by decide +kernel)
set_option maxRecDepth 20000 in
theorem gX0_receiveRetry_X2_at : GoodIn wsX0_receiveRetry (wsV RX0 119 RX2 yX2_at wsX2_at) := goodIn_app (goodIn_of _ (by decide +kernel)) ggX0_receiveRetry_X2_at
set_option maxRecDepth 20000 in
theorem ggX0_receiveRetry_X8_hasGroup : GoodIn wsX0_receiveRetry wsX8_hasGroup := goodIn_r _ [16, 17, 18, 15, 19] (by decide +kernel) (by decide +kernel)
set_option maxRecDepth 20000 in
theorem gX0_receiveRetry_X8_hasGroup_n44 : GoodIn wsX0_receiveRetry (wsX8_hasGroup) := ggX0_receiveRetry_X8_hasGroup
set_option maxRecDepth 20000 in
theorem ggX0_receiveRetry_X3_fail : GoodIn wsX0_receiveRetry wsX3_fail := goodIn_r _ [24, 25, 26, 99, 100, 101, 102, 103, 104, 105, 106, 107, 108, 109, 110, 111, 112, 113, 114, 115, 116] (by decide +kernel) (by decide +kernel)
set_option maxRecDepth 20000 in
theorem gX0_receiveRetry_X3_fail : GoodIn wsX0_receiveRetry (wsV RX0 137 RX3 yX3_fail wsX3_fail) := goodIn_app (goodIn_of _ (by decide +kernel)) ggX0_receiveRetry_X3_fail
set_option maxRecDepth 20000 in
theorem ggX0_receiveRetry_X3_takeIn : GoodIn wsX0_receiveRetry wsX3_takeIn := goodIn_r _ [30, 31, 32, 6, 7, 8, 9, 10, 11, 12, 13, 33, 34, 35, 36, 37, 15, 38, 39, 99, 100, 101, 102, 103, 104, 105, 106, 107, 108, 109, 110, 111, 112, 113, 114, 115, 116, 117] (by decide +kernel) (by decide +kernel)
set_option maxRecDepth 20000 in
theorem gX0_receiveRetry_X3_takeIn : GoodIn wsX0_receiveRetry (wsV RX0 110 RX3 yX3_takeIn wsX3_takeIn) := goodIn_app (goodIn_of _ (by decide +kernel)) ggX0_receiveRetry_X3_takeIn
set_option maxRecDepth 20000 in
theorem ggX0_receiveRetry_X0_ask : GoodIn wsX0_receiveRetry wsX0_ask := goodIn_r _ [44, 1, 45, 46, 2, 47, 48, 49, 50, 51, 52, 53, 54, 4, 55, 3, 56, 57, 58, 59, 60, 8, 61, 10, 62, 63, 64, 65, 11, 12, 13, 66, 15, 67, 68, 69, 70, 71, 72, 73, 74, 75, 76, 37, 38, 39, 77, 34, 35, 36, 27, 28, 29, 23, 30, 31, 32, 6, 7, 9, 33, 78, 79, 80, 81, 82, 83, 84, 85, 86, 87, 88, 89, 90, 91, 92, 93, 94, 95, 96, 97, 98, 99, 100, 101, 102, 103, 104, 105, 106, 107, 108, 109, 110, 111, 112, 113, 114, 115, 116, 118, 119, 120, 121, 122, 117, 123, 124, 125] (by decide +kernel) (by decide +kernel)
set_option maxRecDepth 20000 in
theorem gX0_receiveRetry_X0_ask : GoodIn wsX0_receiveRetry (wsV RX0 52 RX0 yX0_ask wsX0_ask) := goodIn_app (goodIn_of _ (by decide +kernel)) ggX0_receiveRetry_X0_ask
theorem dX0_receiveRetry_0 : decode cX0_receiveRetry 0 = .ok (.aload_n 1, 1) := by decide +kernel
theorem dX0_receiveRetry_1 : decode cX0_receiveRetry 1 = .ok (.iconst 1, 1) := by decide +kernel
theorem dX0_receiveRetry_2 : decode cX0_receiveRetry 2 = .ok (.invokevirtual 119, 3) := by decide +kernel
theorem dX0_receiveRetry_5 : decode cX0_receiveRetry 5 = .ok (.istore 4, 2) := by decide +kernel
theorem dX0_receiveRetry_7 : decode cX0_receiveRetry 7 = .ok (.aload_n 0, 1) := by decide +kernel
theorem dX0_receiveRetry_8 : decode cX0_receiveRetry 8 = .ok (.getfield 14, 3) := by decide +kernel
theorem dX0_receiveRetry_11 : decode cX0_receiveRetry 11 = .ok (.getfield 38, 3) := by decide +kernel
theorem dX0_receiveRetry_14 : decode cX0_receiveRetry 14 = .ok (.iload 4, 2) := by decide +kernel
theorem dX0_receiveRetry_16 : decode cX0_receiveRetry 16 = .ok (.invokestatic 44, 3) := by decide +kernel
theorem dX0_receiveRetry_19 : decode cX0_receiveRetry 19 = .ok (.ifCond .eq 19, 3) := by decide +kernel
theorem dX0_receiveRetry_22 : decode cX0_receiveRetry 22 = .ok (.iload 4, 2) := by decide +kernel
theorem dX0_receiveRetry_24 : decode cX0_receiveRetry 24 = .ok (.aload_n 0, 1) := by decide +kernel
theorem dX0_receiveRetry_25 : decode cX0_receiveRetry 25 = .ok (.getfield 101, 3) := by decide +kernel
theorem dX0_receiveRetry_28 : decode cX0_receiveRetry 28 = .ok (.if_icmp .eq 10, 3) := by decide +kernel
theorem dX0_receiveRetry_31 : decode cX0_receiveRetry 31 = .ok (.aload_n 0, 1) := by decide +kernel
theorem dX0_receiveRetry_32 : decode cX0_receiveRetry 32 = .ok (.getfield 31, 3) := by decide +kernel
theorem dX0_receiveRetry_35 : decode cX0_receiveRetry 35 = .ok (.ifCond .eq 12, 3) := by decide +kernel
theorem dX0_receiveRetry_38 : decode cX0_receiveRetry 38 = .ok (.aload_n 0, 1) := by decide +kernel
theorem dX0_receiveRetry_39 : decode cX0_receiveRetry 39 = .ok (.getfield 14, 3) := by decide +kernel
theorem dX0_receiveRetry_42 : decode cX0_receiveRetry 42 = .ok (.iconst 4, 1) := by decide +kernel
theorem dX0_receiveRetry_43 : decode cX0_receiveRetry 43 = .ok (.invokevirtual 137, 3) := by decide +kernel
theorem dX0_receiveRetry_46 : decode cX0_receiveRetry 46 = .ok (.return_, 1) := by decide +kernel
theorem dX0_receiveRetry_47 : decode cX0_receiveRetry 47 = .ok (.aload_n 0, 1) := by decide +kernel
theorem dX0_receiveRetry_48 : decode cX0_receiveRetry 48 = .ok (.iconst 1, 1) := by decide +kernel
theorem dX0_receiveRetry_49 : decode cX0_receiveRetry 49 = .ok (.putfield 31, 3) := by decide +kernel
theorem dX0_receiveRetry_52 : decode cX0_receiveRetry 52 = .ok (.aload_n 0, 1) := by decide +kernel
theorem dX0_receiveRetry_53 : decode cX0_receiveRetry 53 = .ok (.getfield 14, 3) := by decide +kernel
theorem dX0_receiveRetry_56 : decode cX0_receiveRetry 56 = .ok (.aload_n 1, 1) := by decide +kernel
theorem dX0_receiveRetry_57 : decode cX0_receiveRetry 57 = .ok (.invokevirtual 110, 3) := by decide +kernel
theorem dX0_receiveRetry_60 : decode cX0_receiveRetry 60 = .ok (.aload_n 0, 1) := by decide +kernel
theorem dX0_receiveRetry_61 : decode cX0_receiveRetry 61 = .ok (.iload 4, 2) := by decide +kernel
theorem dX0_receiveRetry_63 : decode cX0_receiveRetry 63 = .ok (.iload_n 2, 1) := by decide +kernel
theorem dX0_receiveRetry_64 : decode cX0_receiveRetry 64 = .ok (.aload_n 3, 1) := by decide +kernel
theorem dX0_receiveRetry_65 : decode cX0_receiveRetry 65 = .ok (.invokevirtual 52, 3) := by decide +kernel
theorem dX0_receiveRetry_68 : decode cX0_receiveRetry 68 = .ok (.return_, 1) := by decide +kernel
set_option maxRecDepth 20000 in
theorem ggX0_receiveGreeting_X0_wrongIn : GoodIn wsX0_receiveGreeting wsX0_wrongIn := goodIn_r _ [14, 1, 15, 3, 16, 17, 18, 19, 20, 21, 22, 23, 24, 25, 26, 27, 28, 29, 30, 31, 32, 33, 34, 35, 101, 102, 103, 104, 105, 106, 107, 108, 109, 110, 111, 112, 113, 114, 115, 116, 117, 118, 119, 120, 121, 122, 123, 124, 125, 126, 127, 128] (by decide +kernel) (by decide +kernel)
set_option maxRecDepth 20000 in
theorem gX0_receiveGreeting_X0_wrongIn : GoodIn wsX0_receiveGreeting (wsV RX0 140 RX0 yX0_wrongIn wsX0_wrongIn) := goodIn_app (goodIn_of _ (by decide +kernel)) ggX0_receiveGreeting_X0_wrongIn
set_option maxRecDepth 20000 in
theorem ggX0_receiveGreeting_X3_fail : GoodIn wsX0_receiveGreeting wsX3_fail := goodIn_r _ [40, 41, 42, 110, 111, 112, 113, 114, 115, 116, 117, 118, 119, 120, 121, 122, 123, 124, 125, 126, 127] (by decide +kernel) (by decide +kernel)
set_option maxRecDepth 20000 in
theorem gX0_receiveGreeting_X3_fail : GoodIn wsX0_receiveGreeting (wsV RX0 137 RX3 yX3_fail wsX3_fail) := goodIn_app (goodIn_of _ (by decide +kernel)) ggX0_receiveGreeting_X3_fail
set_option maxRecDepth 20000 in
theorem ggX0_receiveGreeting_X2_at : GoodIn wsX0_receiveGreeting wsX2_at := goodIn_r _ [21, 22, 23, 24, 20, 25, 128] (by decide +kernel) (by decide +kernel)
set_option maxRecDepth 20000 in
theorem gX0_receiveGreeting_X2_at : GoodIn wsX0_receiveGreeting (wsV RX0 119 RX2 yX2_at wsX2_at) := goodIn_app (goodIn_of _ (by decide +kernel)) ggX0_receiveGreeting_X2_at
set_option maxRecDepth 20000 in
theorem ggX0_receiveGreeting_X8_keyOf : GoodIn wsX0_receiveGreeting wsX8_keyOf := goodIn_r _ [44, 33, 34, 27, 35, 45, 46, 47, 48, 49, 50, 51] (by decide +kernel) (by decide +kernel)
set_option maxRecDepth 20000 in
theorem gX0_receiveGreeting_X8_keyOf_n153 : GoodIn wsX0_receiveGreeting (wsX8_keyOf) := ggX0_receiveGreeting_X8_keyOf
set_option maxRecDepth 20000 in
theorem ggX0_receiveGreeting_X3_takeIn : GoodIn wsX0_receiveGreeting wsX3_takeIn := goodIn_r _ [55, 56, 57, 18, 19, 20, 21, 22, 23, 24, 25, 58, 59, 60, 61, 49, 27, 50, 51, 110, 111, 112, 113, 114, 115, 116, 117, 118, 119, 120, 121, 122, 123, 124, 125, 126, 127, 128] (by decide +kernel) (by decide +kernel)
set_option maxRecDepth 20000 in
theorem gX0_receiveGreeting_X3_takeIn : GoodIn wsX0_receiveGreeting (wsV RX0 110 RX3 yX3_takeIn wsX3_takeIn) := goodIn_app (goodIn_of _ (by decide +kernel)) ggX0_receiveGreeting_X3_takeIn
set_option maxRecDepth 20000 in
theorem ggX0_receiveGreeting_X3_proof : GoodIn wsX0_receiveGreeting wsX3_proof := goodIn_r _ [65, 66, 56, 49, 27, 50, 51, 110, 111, 112, 113, 114, 115, 116, 117, 118, 119, 120, 121, 122, 123, 124, 125, 126, 127] (by decide +kernel) (by decide +kernel)
set_option maxRecDepth 20000 in
theorem gX0_receiveGreeting_X3_proof : GoodIn wsX0_receiveGreeting (wsV RX0 160 RX3 yX3_proof wsX3_proof) := goodIn_app (goodIn_of _ (by decide +kernel)) ggX0_receiveGreeting_X3_proof
set_option maxRecDepth 20000 in
theorem ggX0_receiveGreeting_X2_begin : GoodIn wsX0_receiveGreeting wsX2_begin := goodIn_r _ [70, 22, 128] (by decide +kernel) (by decide +kernel)
set_option maxRecDepth 20000 in
theorem gX0_receiveGreeting_X2_begin : GoodIn wsX0_receiveGreeting (wsV RX0 62 RX2 yX2_begin wsX2_begin) := goodIn_app (goodIn_of _ (by decide +kernel)) ggX0_receiveGreeting_X2_begin
set_option maxRecDepth 20000 in
theorem ggX0_receiveGreeting_X2_put : GoodIn wsX0_receiveGreeting wsX2_put := goodIn_r _ [74, 22, 23, 24, 20, 25, 128] (by decide +kernel) (by decide +kernel)
set_option maxRecDepth 20000 in
theorem gX0_receiveGreeting_X2_put : GoodIn wsX0_receiveGreeting (wsV RX0 69 RX2 yX2_put wsX2_put) := goodIn_app (goodIn_of _ (by decide +kernel)) ggX0_receiveGreeting_X2_put
set_option maxRecDepth 20000 in
theorem ggX0_receiveGreeting_X4_send : GoodIn wsX0_receiveGreeting wsX4_send := goodIn_r _ [79, 80, 81, 82, 83, 84, 85, 20, 86, 22, 129, 130, 131, 128] (by decide +kernel) (by decide +kernel)
set_option maxRecDepth 20000 in
theorem gX0_receiveGreeting_X4_send : GoodIn wsX0_receiveGreeting (wsV RX0 114 RX4 yX4_send wsX4_send) := goodIn_app (goodIn_of _ (by decide +kernel)) ggX0_receiveGreeting_X4_send
set_option maxRecDepth 20000 in
theorem ggX0_receiveGreeting_X3_join : GoodIn wsX0_receiveGreeting wsX3_join := goodIn_r _ [90, 41, 66, 56, 91, 92, 93, 49, 27, 50, 51, 94, 95, 96, 97, 98, 99, 100, 110, 111, 112, 113, 114, 115, 116, 117, 118, 119, 120, 121, 122, 123, 124, 125, 126, 127, 132, 133, 134] (by decide +kernel) (by decide +kernel)
set_option maxRecDepth 20000 in
theorem gX0_receiveGreeting_X3_join : GoodIn wsX0_receiveGreeting (wsV RX0 163 RX3 yX3_join wsX3_join) := goodIn_app (goodIn_of _ (by decide +kernel)) ggX0_receiveGreeting_X3_join
theorem dX0_receiveGreeting_0 : decode cX0_receiveGreeting 0 = .ok (.aload_n 0, 1) := by decide +kernel
theorem dX0_receiveGreeting_1 : decode cX0_receiveGreeting 1 = .ok (.aload_n 1, 1) := by decide +kernel
theorem dX0_receiveGreeting_2 : decode cX0_receiveGreeting 2 = .ok (.invokevirtual 140, 3) := by decide +kernel
theorem dX0_receiveGreeting_5 : decode cX0_receiveGreeting 5 = .ok (.istore_n 3, 1) := by decide +kernel
theorem dX0_receiveGreeting_6 : decode cX0_receiveGreeting 6 = .ok (.iload_n 3, 1) := by decide +kernel
theorem dX0_receiveGreeting_7 : decode cX0_receiveGreeting 7 = .ok (.ifCond .eq 12, 3) := by decide +kernel
theorem dX0_receiveGreeting_10 : decode cX0_receiveGreeting 10 = .ok (.aload_n 0, 1) := by decide +kernel
theorem dX0_receiveGreeting_11 : decode cX0_receiveGreeting 11 = .ok (.getfield 14, 3) := by decide +kernel
theorem dX0_receiveGreeting_14 : decode cX0_receiveGreeting 14 = .ok (.iload_n 3, 1) := by decide +kernel
theorem dX0_receiveGreeting_15 : decode cX0_receiveGreeting 15 = .ok (.invokevirtual 137, 3) := by decide +kernel
theorem dX0_receiveGreeting_18 : decode cX0_receiveGreeting 18 = .ok (.return_, 1) := by decide +kernel
theorem dX0_receiveGreeting_19 : decode cX0_receiveGreeting 19 = .ok (.aload_n 0, 1) := by decide +kernel
theorem dX0_receiveGreeting_20 : decode cX0_receiveGreeting 20 = .ok (.getfield 14, 3) := by decide +kernel
theorem dX0_receiveGreeting_23 : decode cX0_receiveGreeting 23 = .ok (.aload_n 1, 1) := by decide +kernel
theorem dX0_receiveGreeting_24 : decode cX0_receiveGreeting 24 = .ok (.iconst 1, 1) := by decide +kernel
theorem dX0_receiveGreeting_25 : decode cX0_receiveGreeting 25 = .ok (.invokevirtual 119, 3) := by decide +kernel
theorem dX0_receiveGreeting_28 : decode cX0_receiveGreeting 28 = .ok (.putfield 144, 3) := by decide +kernel
theorem dX0_receiveGreeting_31 : decode cX0_receiveGreeting 31 = .ok (.aload_n 0, 1) := by decide +kernel
theorem dX0_receiveGreeting_32 : decode cX0_receiveGreeting 32 = .ok (.getfield 14, 3) := by decide +kernel
theorem dX0_receiveGreeting_35 : decode cX0_receiveGreeting 35 = .ok (.aload_n 0, 1) := by decide +kernel
theorem dX0_receiveGreeting_36 : decode cX0_receiveGreeting 36 = .ok (.getfield 101, 3) := by decide +kernel
theorem dX0_receiveGreeting_39 : decode cX0_receiveGreeting 39 = .ok (.putfield 147, 3) := by decide +kernel
theorem dX0_receiveGreeting_42 : decode cX0_receiveGreeting 42 = .ok (.aload_n 0, 1) := by decide +kernel
theorem dX0_receiveGreeting_43 : decode cX0_receiveGreeting 43 = .ok (.getfield 14, 3) := by decide +kernel
theorem dX0_receiveGreeting_46 : decode cX0_receiveGreeting 46 = .ok (.aload_n 1, 1) := by decide +kernel
theorem dX0_receiveGreeting_47 : decode cX0_receiveGreeting 47 = .ok (.iconst 5, 1) := by decide +kernel
theorem dX0_receiveGreeting_48 : decode cX0_receiveGreeting 48 = .ok (.invokevirtual 119, 3) := by decide +kernel
theorem dX0_receiveGreeting_51 : decode cX0_receiveGreeting 51 = .ok (.ifCond .eq 7, 3) := by decide +kernel
theorem dX0_receiveGreeting_54 : decode cX0_receiveGreeting 54 = .ok (.iconst 1, 1) := by decide +kernel
theorem dX0_receiveGreeting_55 : decode cX0_receiveGreeting 55 = .ok (.goto 4, 3) := by decide +kernel
theorem dX0_receiveGreeting_58 : decode cX0_receiveGreeting 58 = .ok (.iconst 0, 1) := by decide +kernel
theorem dX0_receiveGreeting_59 : decode cX0_receiveGreeting 59 = .ok (.putfield 150, 3) := by decide +kernel
theorem dX0_receiveGreeting_62 : decode cX0_receiveGreeting 62 = .ok (.aload_n 0, 1) := by decide +kernel
theorem dX0_receiveGreeting_63 : decode cX0_receiveGreeting 63 = .ok (.getfield 14, 3) := by decide +kernel
theorem dX0_receiveGreeting_66 : decode cX0_receiveGreeting 66 = .ok (.aload_n 1, 1) := by decide +kernel
theorem dX0_receiveGreeting_67 : decode cX0_receiveGreeting 67 = .ok (.iconst 3, 1) := by decide +kernel
theorem dX0_receiveGreeting_68 : decode cX0_receiveGreeting 68 = .ok (.invokevirtual 119, 3) := by decide +kernel
theorem dX0_receiveGreeting_71 : decode cX0_receiveGreeting 71 = .ok (.aload_n 0, 1) := by decide +kernel
theorem dX0_receiveGreeting_72 : decode cX0_receiveGreeting 72 = .ok (.getfield 14, 3) := by decide +kernel
theorem dX0_receiveGreeting_75 : decode cX0_receiveGreeting 75 = .ok (.getfield 72, 3) := by decide +kernel
theorem dX0_receiveGreeting_78 : decode cX0_receiveGreeting 78 = .ok (.aload_n 0, 1) := by decide +kernel
theorem dX0_receiveGreeting_79 : decode cX0_receiveGreeting 79 = .ok (.getfield 101, 3) := by decide +kernel
theorem dX0_receiveGreeting_82 : decode cX0_receiveGreeting 82 = .ok (.aload_n 0, 1) := by decide +kernel
theorem dX0_receiveGreeting_83 : decode cX0_receiveGreeting 83 = .ok (.getfield 14, 3) := by decide +kernel
theorem dX0_receiveGreeting_86 : decode cX0_receiveGreeting 86 = .ok (.getfield 150, 3) := by decide +kernel
theorem dX0_receiveGreeting_89 : decode cX0_receiveGreeting 89 = .ok (.ifCond .eq 10, 3) := by decide +kernel
theorem dX0_receiveGreeting_92 : decode cX0_receiveGreeting 92 = .ok (.aload_n 0, 1) := by decide +kernel
theorem dX0_receiveGreeting_93 : decode cX0_receiveGreeting 93 = .ok (.getfield 107, 3) := by decide +kernel
theorem dX0_receiveGreeting_96 : decode cX0_receiveGreeting 96 = .ok (.goto 4, 3) := by decide +kernel
theorem dX0_receiveGreeting_99 : decode cX0_receiveGreeting 99 = .ok (.iconst 0, 1) := by decide +kernel
theorem dX0_receiveGreeting_100 : decode cX0_receiveGreeting 100 = .ok (.invokestatic 153, 3) := by decide +kernel
theorem dX0_receiveGreeting_103 : decode cX0_receiveGreeting 103 = .ok (.putfield 157, 3) := by decide +kernel
theorem dX0_receiveGreeting_106 : decode cX0_receiveGreeting 106 = .ok (.aload_n 0, 1) := by decide +kernel
theorem dX0_receiveGreeting_107 : decode cX0_receiveGreeting 107 = .ok (.getfield 14, 3) := by decide +kernel
theorem dX0_receiveGreeting_110 : decode cX0_receiveGreeting 110 = .ok (.aload_n 1, 1) := by decide +kernel
theorem dX0_receiveGreeting_111 : decode cX0_receiveGreeting 111 = .ok (.invokevirtual 110, 3) := by decide +kernel
theorem dX0_receiveGreeting_114 : decode cX0_receiveGreeting 114 = .ok (.aload_n 1, 1) := by decide +kernel
theorem dX0_receiveGreeting_115 : decode cX0_receiveGreeting 115 = .ok (.bipush 7, 2) := by decide +kernel
theorem dX0_receiveGreeting_117 : decode cX0_receiveGreeting 117 = .ok (.invokevirtual 119, 3) := by decide +kernel
theorem dX0_receiveGreeting_120 : decode cX0_receiveGreeting 120 = .ok (.aload_n 0, 1) := by decide +kernel
theorem dX0_receiveGreeting_121 : decode cX0_receiveGreeting 121 = .ok (.getfield 14, 3) := by decide +kernel
theorem dX0_receiveGreeting_124 : decode cX0_receiveGreeting 124 = .ok (.iconst 1, 1) := by decide +kernel
theorem dX0_receiveGreeting_125 : decode cX0_receiveGreeting 125 = .ok (.invokevirtual 160, 3) := by decide +kernel
theorem dX0_receiveGreeting_128 : decode cX0_receiveGreeting 128 = .ok (.if_icmp .eq 13, 3) := by decide +kernel
theorem dX0_receiveGreeting_131 : decode cX0_receiveGreeting 131 = .ok (.aload_n 0, 1) := by decide +kernel
theorem dX0_receiveGreeting_132 : decode cX0_receiveGreeting 132 = .ok (.getfield 14, 3) := by decide +kernel
theorem dX0_receiveGreeting_135 : decode cX0_receiveGreeting 135 = .ok (.bipush 8, 2) := by decide +kernel
theorem dX0_receiveGreeting_137 : decode cX0_receiveGreeting 137 = .ok (.invokevirtual 137, 3) := by decide +kernel
theorem dX0_receiveGreeting_140 : decode cX0_receiveGreeting 140 = .ok (.return_, 1) := by decide +kernel
theorem dX0_receiveGreeting_141 : decode cX0_receiveGreeting 141 = .ok (.aload_n 0, 1) := by decide +kernel
theorem dX0_receiveGreeting_142 : decode cX0_receiveGreeting 142 = .ok (.getfield 14, 3) := by decide +kernel
theorem dX0_receiveGreeting_145 : decode cX0_receiveGreeting 145 = .ok (.getfield 56, 3) := by decide +kernel
theorem dX0_receiveGreeting_148 : decode cX0_receiveGreeting 148 = .ok (.iconst 4, 1) := by decide +kernel
theorem dX0_receiveGreeting_149 : decode cX0_receiveGreeting 149 = .ok (.invokevirtual 62, 3) := by decide +kernel
theorem dX0_receiveGreeting_152 : decode cX0_receiveGreeting 152 = .ok (.aload_n 0, 1) := by decide +kernel
theorem dX0_receiveGreeting_153 : decode cX0_receiveGreeting 153 = .ok (.getfield 14, 3) := by decide +kernel
theorem dX0_receiveGreeting_156 : decode cX0_receiveGreeting 156 = .ok (.getfield 56, 3) := by decide +kernel
theorem dX0_receiveGreeting_159 : decode cX0_receiveGreeting 159 = .ok (.iconst 1, 1) := by decide +kernel
theorem dX0_receiveGreeting_160 : decode cX0_receiveGreeting 160 = .ok (.aload_n 0, 1) := by decide +kernel
theorem dX0_receiveGreeting_161 : decode cX0_receiveGreeting 161 = .ok (.getfield 14, 3) := by decide +kernel
theorem dX0_receiveGreeting_164 : decode cX0_receiveGreeting 164 = .ok (.iconst 2, 1) := by decide +kernel
theorem dX0_receiveGreeting_165 : decode cX0_receiveGreeting 165 = .ok (.invokevirtual 160, 3) := by decide +kernel
theorem dX0_receiveGreeting_168 : decode cX0_receiveGreeting 168 = .ok (.invokevirtual 69, 3) := by decide +kernel
theorem dX0_receiveGreeting_171 : decode cX0_receiveGreeting 171 = .ok (.aload_n 2, 1) := by decide +kernel
theorem dX0_receiveGreeting_172 : decode cX0_receiveGreeting 172 = .ok (.aload_n 0, 1) := by decide +kernel
theorem dX0_receiveGreeting_173 : decode cX0_receiveGreeting 173 = .ok (.getfield 14, 3) := by decide +kernel
theorem dX0_receiveGreeting_176 : decode cX0_receiveGreeting 176 = .ok (.getfield 56, 3) := by decide +kernel
theorem dX0_receiveGreeting_179 : decode cX0_receiveGreeting 179 = .ok (.invokevirtual 114, 3) := by decide +kernel
theorem dX0_receiveGreeting_182 : decode cX0_receiveGreeting 182 = .ok (.aload_n 0, 1) := by decide +kernel
theorem dX0_receiveGreeting_183 : decode cX0_receiveGreeting 183 = .ok (.getfield 14, 3) := by decide +kernel
theorem dX0_receiveGreeting_186 : decode cX0_receiveGreeting 186 = .ok (.invokevirtual 163, 3) := by decide +kernel
theorem dX0_receiveGreeting_189 : decode cX0_receiveGreeting 189 = .ok (.return_, 1) := by decide +kernel
set_option maxRecDepth 20000 in
theorem ggX0_wrongIn_X2_at : GoodIn wsX0_wrongIn wsX2_at := goodIn_r _ [9, 10, 11, 12, 8, 13, 51] (by decide +kernel) (by decide +kernel)
set_option maxRecDepth 20000 in
theorem gX0_wrongIn_X2_at : GoodIn wsX0_wrongIn (wsV RX0 119 RX2 yX2_at wsX2_at) := goodIn_app (goodIn_of _ (by decide +kernel)) ggX0_wrongIn_X2_at
set_option maxRecDepth 20000 in
theorem ggX0_wrongIn_X8_hasVersion : GoodIn wsX0_wrongIn wsX8_hasVersion := goodIn_r _ [16] (by decide +kernel) (by decide +kernel)
set_option maxRecDepth 20000 in
theorem gX0_wrongIn_X8_hasVersion_n166 : GoodIn wsX0_wrongIn (wsX8_hasVersion) := ggX0_wrongIn_X8_hasVersion
set_option maxRecDepth 20000 in
theorem ggX0_wrongIn_X8_hasVersionAbove : GoodIn wsX0_wrongIn wsX8_hasVersionAbove := goodIn_r _ [18] (by decide +kernel) (by decide +kernel)
set_option maxRecDepth 20000 in
theorem gX0_wrongIn_X8_hasVersionAbove_n169 : GoodIn wsX0_wrongIn (wsX8_hasVersionAbove) := ggX0_wrongIn_X8_hasVersionAbove
set_option maxRecDepth 20000 in
theorem ggX0_wrongIn_X8_isShare : GoodIn wsX0_wrongIn wsX8_isShare := goodIn_r _ [20, 21, 22, 15, 23] (by decide +kernel) (by decide +kernel)
set_option maxRecDepth 20000 in
theorem gX0_wrongIn_X8_isShare_n172 : GoodIn wsX0_wrongIn (wsX8_isShare) := ggX0_wrongIn_X8_isShare
theorem dX0_wrongIn_0 : decode cX0_wrongIn 0 = .ok (.aload_n 1, 1) := by decide +kernel
theorem dX0_wrongIn_1 : decode cX0_wrongIn 1 = .ok (.iconst 1, 1) := by decide +kernel
theorem dX0_wrongIn_2 : decode cX0_wrongIn 2 = .ok (.invokevirtual 119, 3) := by decide +kernel
theorem dX0_wrongIn_5 : decode cX0_wrongIn 5 = .ok (.istore_n 2, 1) := by decide +kernel
theorem dX0_wrongIn_6 : decode cX0_wrongIn 6 = .ok (.aload_n 0, 1) := by decide +kernel
theorem dX0_wrongIn_7 : decode cX0_wrongIn 7 = .ok (.getfield 14, 3) := by decide +kernel
theorem dX0_wrongIn_10 : decode cX0_wrongIn 10 = .ok (.getfield 66, 3) := by decide +kernel
theorem dX0_wrongIn_13 : decode cX0_wrongIn 13 = .ok (.iload_n 2, 1) := by decide +kernel
theorem dX0_wrongIn_14 : decode cX0_wrongIn 14 = .ok (.invokestatic 166, 3) := by decide +kernel
theorem dX0_wrongIn_17 : decode cX0_wrongIn 17 = .ok (.ifCond .ne 5, 3) := by decide +kernel
theorem dX0_wrongIn_20 : decode cX0_wrongIn 20 = .ok (.iconst 2, 1) := by decide +kernel
theorem dX0_wrongIn_21 : decode cX0_wrongIn 21 = .ok (.ireturn, 1) := by decide +kernel
theorem dX0_wrongIn_22 : decode cX0_wrongIn 22 = .ok (.aload_n 1, 1) := by decide +kernel
theorem dX0_wrongIn_23 : decode cX0_wrongIn 23 = .ok (.iconst 2, 1) := by decide +kernel
theorem dX0_wrongIn_24 : decode cX0_wrongIn 24 = .ok (.invokevirtual 119, 3) := by decide +kernel
theorem dX0_wrongIn_27 : decode cX0_wrongIn 27 = .ok (.aload_n 0, 1) := by decide +kernel
theorem dX0_wrongIn_28 : decode cX0_wrongIn 28 = .ok (.getfield 101, 3) := by decide +kernel
theorem dX0_wrongIn_31 : decode cX0_wrongIn 31 = .ok (.if_icmp .eq 5, 3) := by decide +kernel
theorem dX0_wrongIn_34 : decode cX0_wrongIn 34 = .ok (.iconst 4, 1) := by decide +kernel
theorem dX0_wrongIn_35 : decode cX0_wrongIn 35 = .ok (.ireturn, 1) := by decide +kernel
theorem dX0_wrongIn_36 : decode cX0_wrongIn 36 = .ok (.aload_n 1, 1) := by decide +kernel
theorem dX0_wrongIn_37 : decode cX0_wrongIn 37 = .ok (.iconst 4, 1) := by decide +kernel
theorem dX0_wrongIn_38 : decode cX0_wrongIn 38 = .ok (.invokevirtual 119, 3) := by decide +kernel
theorem dX0_wrongIn_41 : decode cX0_wrongIn 41 = .ok (.ifCond .eq 20, 3) := by decide +kernel
theorem dX0_wrongIn_44 : decode cX0_wrongIn 44 = .ok (.aload_n 0, 1) := by decide +kernel
theorem dX0_wrongIn_45 : decode cX0_wrongIn 45 = .ok (.getfield 14, 3) := by decide +kernel
theorem dX0_wrongIn_48 : decode cX0_wrongIn 48 = .ok (.getfield 66, 3) := by decide +kernel
theorem dX0_wrongIn_51 : decode cX0_wrongIn 51 = .ok (.iload_n 2, 1) := by decide +kernel
theorem dX0_wrongIn_52 : decode cX0_wrongIn 52 = .ok (.invokestatic 169, 3) := by decide +kernel
theorem dX0_wrongIn_55 : decode cX0_wrongIn 55 = .ok (.ifCond .eq 6, 3) := by decide +kernel
theorem dX0_wrongIn_58 : decode cX0_wrongIn 58 = .ok (.bipush 7, 2) := by decide +kernel
theorem dX0_wrongIn_60 : decode cX0_wrongIn 60 = .ok (.ireturn, 1) := by decide +kernel
theorem dX0_wrongIn_61 : decode cX0_wrongIn 61 = .ok (.aload_n 1, 1) := by decide +kernel
theorem dX0_wrongIn_62 : decode cX0_wrongIn 62 = .ok (.iconst 3, 1) := by decide +kernel
theorem dX0_wrongIn_63 : decode cX0_wrongIn 63 = .ok (.invokevirtual 119, 3) := by decide +kernel
theorem dX0_wrongIn_66 : decode cX0_wrongIn 66 = .ok (.aload_n 0, 1) := by decide +kernel
theorem dX0_wrongIn_67 : decode cX0_wrongIn 67 = .ok (.getfield 101, 3) := by decide +kernel
theorem dX0_wrongIn_70 : decode cX0_wrongIn 70 = .ok (.invokestatic 172, 3) := by decide +kernel
theorem dX0_wrongIn_73 : decode cX0_wrongIn 73 = .ok (.ifCond .ne 5, 3) := by decide +kernel
theorem dX0_wrongIn_76 : decode cX0_wrongIn 76 = .ok (.iconst 5, 1) := by decide +kernel
theorem dX0_wrongIn_77 : decode cX0_wrongIn 77 = .ok (.ireturn, 1) := by decide +kernel
theorem dX0_wrongIn_78 : decode cX0_wrongIn 78 = .ok (.aload_n 1, 1) := by decide +kernel
theorem dX0_wrongIn_79 : decode cX0_wrongIn 79 = .ok (.iconst 5, 1) := by decide +kernel
theorem dX0_wrongIn_80 : decode cX0_wrongIn 80 = .ok (.invokevirtual 119, 3) := by decide +kernel
theorem dX0_wrongIn_83 : decode cX0_wrongIn 83 = .ok (.ifCond .eq 15, 3) := by decide +kernel
theorem dX0_wrongIn_86 : decode cX0_wrongIn 86 = .ok (.aload_n 0, 1) := by decide +kernel
theorem dX0_wrongIn_87 : decode cX0_wrongIn 87 = .ok (.getfield 104, 3) := by decide +kernel
theorem dX0_wrongIn_90 : decode cX0_wrongIn 90 = .ok (.ifCond .ne 8, 3) := by decide +kernel
theorem dX0_wrongIn_93 : decode cX0_wrongIn 93 = .ok (.bipush 6, 2) := by decide +kernel
theorem dX0_wrongIn_95 : decode cX0_wrongIn 95 = .ok (.goto 4, 3) := by decide +kernel
theorem dX0_wrongIn_98 : decode cX0_wrongIn 98 = .ok (.iconst 0, 1) := by decide +kernel
theorem dX0_wrongIn_99 : decode cX0_wrongIn 99 = .ok (.ireturn, 1) := by decide +kernel
set_option maxRecDepth 20000 in
theorem ggX0_receiveTicket_X2_at : GoodIn wsX0_receiveTicket wsX2_at := goodIn_r _ [14, 15, 16, 17, 13, 18, 55] (by decide +kernel) (by decide +kernel)
set_option maxRecDepth 20000 in
theorem gX0_receiveTicket_X2_at : GoodIn wsX0_receiveTicket (wsV RX0 119 RX2 yX2_at wsX2_at) := goodIn_app (goodIn_of _ (by decide +kernel)) ggX0_receiveTicket_X2_at
set_option maxRecDepth 20000 in
theorem ggX0_receiveTicket_X8_mix : GoodIn wsX0_receiveTicket wsX8_mix := goodIn_r _ [21, 22] (by decide +kernel) (by decide +kernel)
set_option maxRecDepth 20000 in
theorem gX0_receiveTicket_X8_mix_n181 : GoodIn wsX0_receiveTicket (wsX8_mix) := ggX0_receiveTicket_X8_mix
theorem dX0_receiveTicket_0 : decode cX0_receiveTicket 0 = .ok (.aload_n 0, 1) := by decide +kernel
theorem dX0_receiveTicket_1 : decode cX0_receiveTicket 1 = .ok (.iconst 1, 1) := by decide +kernel
theorem dX0_receiveTicket_2 : decode cX0_receiveTicket 2 = .ok (.putfield 79, 3) := by decide +kernel
theorem dX0_receiveTicket_5 : decode cX0_receiveTicket 5 = .ok (.aload_n 0, 1) := by decide +kernel
theorem dX0_receiveTicket_6 : decode cX0_receiveTicket 6 = .ok (.getfield 23, 3) := by decide +kernel
theorem dX0_receiveTicket_9 : decode cX0_receiveTicket 9 = .ok (.aload_n 1, 1) := by decide +kernel
theorem dX0_receiveTicket_10 : decode cX0_receiveTicket 10 = .ok (.iconst 1, 1) := by decide +kernel
theorem dX0_receiveTicket_11 : decode cX0_receiveTicket 11 = .ok (.invokevirtual 119, 3) := by decide +kernel
theorem dX0_receiveTicket_14 : decode cX0_receiveTicket 14 = .ok (.putfield 82, 3) := by decide +kernel
theorem dX0_receiveTicket_17 : decode cX0_receiveTicket 17 = .ok (.aload_n 0, 1) := by decide +kernel
theorem dX0_receiveTicket_18 : decode cX0_receiveTicket 18 = .ok (.getfield 23, 3) := by decide +kernel
theorem dX0_receiveTicket_21 : decode cX0_receiveTicket 21 = .ok (.aload_n 1, 1) := by decide +kernel
theorem dX0_receiveTicket_22 : decode cX0_receiveTicket 22 = .ok (.iconst 2, 1) := by decide +kernel
theorem dX0_receiveTicket_23 : decode cX0_receiveTicket 23 = .ok (.invokevirtual 119, 3) := by decide +kernel
theorem dX0_receiveTicket_26 : decode cX0_receiveTicket 26 = .ok (.putfield 88, 3) := by decide +kernel
theorem dX0_receiveTicket_29 : decode cX0_receiveTicket 29 = .ok (.aload_n 0, 1) := by decide +kernel
theorem dX0_receiveTicket_30 : decode cX0_receiveTicket 30 = .ok (.getfield 23, 3) := by decide +kernel
theorem dX0_receiveTicket_33 : decode cX0_receiveTicket 33 = .ok (.aload_n 1, 1) := by decide +kernel
theorem dX0_receiveTicket_34 : decode cX0_receiveTicket 34 = .ok (.iconst 3, 1) := by decide +kernel
theorem dX0_receiveTicket_35 : decode cX0_receiveTicket 35 = .ok (.invokevirtual 119, 3) := by decide +kernel
theorem dX0_receiveTicket_38 : decode cX0_receiveTicket 38 = .ok (.putfield 175, 3) := by decide +kernel
theorem dX0_receiveTicket_41 : decode cX0_receiveTicket 41 = .ok (.aload_n 0, 1) := by decide +kernel
theorem dX0_receiveTicket_42 : decode cX0_receiveTicket 42 = .ok (.getfield 23, 3) := by decide +kernel
theorem dX0_receiveTicket_45 : decode cX0_receiveTicket 45 = .ok (.iload_n 2, 1) := by decide +kernel
theorem dX0_receiveTicket_46 : decode cX0_receiveTicket 46 = .ok (.putfield 85, 3) := by decide +kernel
theorem dX0_receiveTicket_49 : decode cX0_receiveTicket 49 = .ok (.aload_n 0, 1) := by decide +kernel
theorem dX0_receiveTicket_50 : decode cX0_receiveTicket 50 = .ok (.getfield 23, 3) := by decide +kernel
theorem dX0_receiveTicket_53 : decode cX0_receiveTicket 53 = .ok (.aload_n 0, 1) := by decide +kernel
theorem dX0_receiveTicket_54 : decode cX0_receiveTicket 54 = .ok (.getfield 14, 3) := by decide +kernel
theorem dX0_receiveTicket_57 : decode cX0_receiveTicket 57 = .ok (.getfield 178, 3) := by decide +kernel
theorem dX0_receiveTicket_60 : decode cX0_receiveTicket 60 = .ok (.aload_n 0, 1) := by decide +kernel
theorem dX0_receiveTicket_61 : decode cX0_receiveTicket 61 = .ok (.getfield 23, 3) := by decide +kernel
theorem dX0_receiveTicket_64 : decode cX0_receiveTicket 64 = .ok (.getfield 82, 3) := by decide +kernel
theorem dX0_receiveTicket_67 : decode cX0_receiveTicket 67 = .ok (.invokestatic 181, 3) := by decide +kernel
theorem dX0_receiveTicket_70 : decode cX0_receiveTicket 70 = .ok (.putfield 91, 3) := by decide +kernel
theorem dX0_receiveTicket_73 : decode cX0_receiveTicket 73 = .ok (.return_, 1) := by decide +kernel
