theorem dX9_init_0 : decode cX9_init 0 = .ok (.aload_n 0, 1) := by decide +kernel
theorem dX9_init_1 : decode cX9_init 1 = .ok (.invokespecial 1, 3) := by decide +kernel
theorem dX9_init_4 : decode cX9_init 4 = .ok (.aload_n 0, 1) := by decide +kernel
theorem dX9_init_5 : decode cX9_init 5 = .ok (.iconst 2, 1) := by decide +kernel
theorem dX9_init_6 : decode cX9_init 6 = .ok (.newarray .int, 2) := by decide +kernel
theorem dX9_init_8 : decode cX9_init 8 = .ok (.putfield 7, 3) := by decide +kernel
theorem dX9_init_11 : decode cX9_init 11 = .ok (.aload_n 0, 1) := by decide +kernel
theorem dX9_init_12 : decode cX9_init 12 = .ok (.iconst 2, 1) := by decide +kernel
theorem dX9_init_13 : decode cX9_init 13 = .ok (.newarray .int, 2) := by decide +kernel
theorem dX9_init_15 : decode cX9_init 15 = .ok (.putfield 13, 3) := by decide +kernel
theorem dX9_init_18 : decode cX9_init 18 = .ok (.aload_n 0, 1) := by decide +kernel
theorem dX9_init_19 : decode cX9_init 19 = .ok (.iconst 2, 1) := by decide +kernel
theorem dX9_init_20 : decode cX9_init 20 = .ok (.newarray .int, 2) := by decide +kernel
theorem dX9_init_22 : decode cX9_init 22 = .ok (.putfield 16, 3) := by decide +kernel
theorem dX9_init_25 : decode cX9_init 25 = .ok (.aload_n 0, 1) := by decide +kernel
theorem dX9_init_26 : decode cX9_init 26 = .ok (.iconst 2, 1) := by decide +kernel
theorem dX9_init_27 : decode cX9_init 27 = .ok (.newarray .int, 2) := by decide +kernel
theorem dX9_init_29 : decode cX9_init 29 = .ok (.putfield 19, 3) := by decide +kernel
theorem dX9_init_32 : decode cX9_init 32 = .ok (.aload_n 0, 1) := by decide +kernel
theorem dX9_init_33 : decode cX9_init 33 = .ok (.iconst 2, 1) := by decide +kernel
theorem dX9_init_34 : decode cX9_init 34 = .ok (.newarray .int, 2) := by decide +kernel
theorem dX9_init_36 : decode cX9_init 36 = .ok (.putfield 22, 3) := by decide +kernel
theorem dX9_init_39 : decode cX9_init 39 = .ok (.aload_n 0, 1) := by decide +kernel
theorem dX9_init_40 : decode cX9_init 40 = .ok (.iconst 2, 1) := by decide +kernel
theorem dX9_init_41 : decode cX9_init 41 = .ok (.newarray .int, 2) := by decide +kernel
theorem dX9_init_43 : decode cX9_init 43 = .ok (.putfield 25, 3) := by decide +kernel
theorem dX9_init_46 : decode cX9_init 46 = .ok (.aload_n 0, 1) := by decide +kernel
theorem dX9_init_47 : decode cX9_init 47 = .ok (.iconst 2, 1) := by decide +kernel
theorem dX9_init_48 : decode cX9_init 48 = .ok (.newarray .int, 2) := by decide +kernel
theorem dX9_init_50 : decode cX9_init 50 = .ok (.putfield 28, 3) := by decide +kernel
theorem dX9_init_53 : decode cX9_init 53 = .ok (.aload_n 0, 1) := by decide +kernel
theorem dX9_init_54 : decode cX9_init 54 = .ok (.iconst 2, 1) := by decide +kernel
theorem dX9_init_55 : decode cX9_init 55 = .ok (.newarray .int, 2) := by decide +kernel
theorem dX9_init_57 : decode cX9_init 57 = .ok (.putfield 31, 3) := by decide +kernel
theorem dX9_init_60 : decode cX9_init 60 = .ok (.aload_n 0, 1) := by decide +kernel
theorem dX9_init_61 : decode cX9_init 61 = .ok (.iconst 2, 1) := by decide +kernel
theorem dX9_init_62 : decode cX9_init 62 = .ok (.newarray .int, 2) := by decide +kernel
theorem dX9_init_64 : decode cX9_init 64 = .ok (.putfield 34, 3) := by decide +kernel
theorem dX9_init_67 : decode cX9_init 67 = .ok (.aload_n 0, 1) := by decide +kernel
theorem dX9_init_68 : decode cX9_init 68 = .ok (.iconst 2, 1) := by decide +kernel
theorem dX9_init_69 : decode cX9_init 69 = .ok (.newarray .int, 2) := by decide +kernel
theorem dX9_init_71 : decode cX9_init 71 = .ok (.putfield 37, 3) := by decide +kernel
theorem dX9_init_74 : decode cX9_init 74 = .ok (.aload_n 0, 1) := by decide +kernel
theorem dX9_init_75 : decode cX9_init 75 = .ok (.iconst 4, 1) := by decide +kernel
theorem dX9_init_76 : decode cX9_init 76 = .ok (.newarray .int, 2) := by decide +kernel
theorem dX9_init_78 : decode cX9_init 78 = .ok (.putfield 40, 3) := by decide +kernel
theorem dX9_init_81 : decode cX9_init 81 = .ok (.aload_n 0, 1) := by decide +kernel
theorem dX9_init_82 : decode cX9_init 82 = .ok (.iconst 4, 1) := by decide +kernel
theorem dX9_init_83 : decode cX9_init 83 = .ok (.newarray .int, 2) := by decide +kernel
theorem dX9_init_85 : decode cX9_init 85 = .ok (.putfield 43, 3) := by decide +kernel
theorem dX9_init_88 : decode cX9_init 88 = .ok (.aload_n 0, 1) := by decide +kernel
theorem dX9_init_89 : decode cX9_init 89 = .ok (.iconst (-1), 1) := by decide +kernel
theorem dX9_init_90 : decode cX9_init 90 = .ok (.putfield 46, 3) := by decide +kernel
theorem dX9_init_93 : decode cX9_init 93 = .ok (.aload_n 0, 1) := by decide +kernel
theorem dX9_init_94 : decode cX9_init 94 = .ok (.bipush 6, 2) := by decide +kernel
theorem dX9_init_96 : decode cX9_init 96 = .ok (.newarray .int, 2) := by decide +kernel
theorem dX9_init_98 : decode cX9_init 98 = .ok (.putfield 50, 3) := by decide +kernel
theorem dX9_init_101 : decode cX9_init 101 = .ok (.aload_n 0, 1) := by decide +kernel
theorem dX9_init_102 : decode cX9_init 102 = .ok (.bipush 15, 2) := by decide +kernel
theorem dX9_init_104 : decode cX9_init 104 = .ok (.newarray .int, 2) := by decide +kernel
theorem dX9_init_106 : decode cX9_init 106 = .ok (.putfield 53, 3) := by decide +kernel
theorem dX9_init_109 : decode cX9_init 109 = .ok (.aload_n 0, 1) := by decide +kernel
theorem dX9_init_110 : decode cX9_init 110 = .ok (.iconst 4, 1) := by decide +kernel
theorem dX9_init_111 : decode cX9_init 111 = .ok (.newarray .int, 2) := by decide +kernel
theorem dX9_init_113 : decode cX9_init 113 = .ok (.putfield 56, 3) := by decide +kernel
theorem dX9_init_116 : decode cX9_init 116 = .ok (.aload_n 0, 1) := by decide +kernel
theorem dX9_init_117 : decode cX9_init 117 = .ok (.iconst 4, 1) := by decide +kernel
theorem dX9_init_118 : decode cX9_init 118 = .ok (.newarray .int, 2) := by decide +kernel
theorem dX9_init_120 : decode cX9_init 120 = .ok (.putfield 59, 3) := by decide +kernel
theorem dX9_init_123 : decode cX9_init 123 = .ok (.aload_n 0, 1) := by decide +kernel
theorem dX9_init_124 : decode cX9_init 124 = .ok (.iconst 2, 1) := by decide +kernel
theorem dX9_init_125 : decode cX9_init 125 = .ok (.newarray .int, 2) := by decide +kernel
theorem dX9_init_127 : decode cX9_init 127 = .ok (.putfield 62, 3) := by decide +kernel
theorem dX9_init_130 : decode cX9_init 130 = .ok (.aload_n 0, 1) := by decide +kernel
theorem dX9_init_131 : decode cX9_init 131 = .ok (.sipush 144, 3) := by decide +kernel
theorem dX9_init_134 : decode cX9_init 134 = .ok (.newarray .int, 2) := by decide +kernel
theorem dX9_init_136 : decode cX9_init 136 = .ok (.putfield 65, 3) := by decide +kernel
theorem dX9_init_139 : decode cX9_init 139 = .ok (.aload_n 0, 1) := by decide +kernel
theorem dX9_init_140 : decode cX9_init 140 = .ok (.bipush 36, 2) := by decide +kernel
theorem dX9_init_142 : decode cX9_init 142 = .ok (.newarray .int, 2) := by decide +kernel
theorem dX9_init_144 : decode cX9_init 144 = .ok (.putfield 68, 3) := by decide +kernel
theorem dX9_init_147 : decode cX9_init 147 = .ok (.aload_n 0, 1) := by decide +kernel
theorem dX9_init_148 : decode cX9_init 148 = .ok (.bipush 9, 2) := by decide +kernel
theorem dX9_init_150 : decode cX9_init 150 = .ok (.newarray .int, 2) := by decide +kernel
theorem dX9_init_152 : decode cX9_init 152 = .ok (.putfield 71, 3) := by decide +kernel
theorem dX9_init_155 : decode cX9_init 155 = .ok (.aload_n 0, 1) := by decide +kernel
theorem dX9_init_156 : decode cX9_init 156 = .ok (.iconst 2, 1) := by decide +kernel
theorem dX9_init_157 : decode cX9_init 157 = .ok (.newarray .int, 2) := by decide +kernel
theorem dX9_init_159 : decode cX9_init 159 = .ok (.putfield 74, 3) := by decide +kernel
theorem dX9_init_162 : decode cX9_init 162 = .ok (.aload_n 0, 1) := by decide +kernel
theorem dX9_init_163 : decode cX9_init 163 = .ok (.iconst 2, 1) := by decide +kernel
theorem dX9_init_164 : decode cX9_init 164 = .ok (.newarray .int, 2) := by decide +kernel
theorem dX9_init_166 : decode cX9_init 166 = .ok (.putfield 77, 3) := by decide +kernel
theorem dX9_init_169 : decode cX9_init 169 = .ok (.aload_n 0, 1) := by decide +kernel
theorem dX9_init_170 : decode cX9_init 170 = .ok (.sipush 200, 3) := by decide +kernel
theorem dX9_init_173 : decode cX9_init 173 = .ok (.newarray .int, 2) := by decide +kernel
theorem dX9_init_175 : decode cX9_init 175 = .ok (.putfield 80, 3) := by decide +kernel
theorem dX9_init_178 : decode cX9_init 178 = .ok (.aload_n 0, 1) := by decide +kernel
theorem dX9_init_179 : decode cX9_init 179 = .ok (.iconst 4, 1) := by decide +kernel
theorem dX9_init_180 : decode cX9_init 180 = .ok (.newarray .boolean, 2) := by decide +kernel
theorem dX9_init_182 : decode cX9_init 182 = .ok (.putfield 83, 3) := by decide +kernel
theorem dX9_init_185 : decode cX9_init 185 = .ok (.iconst 0, 1) := by decide +kernel
theorem dX9_init_186 : decode cX9_init 186 = .ok (.istore_n 1, 1) := by decide +kernel
theorem dX9_init_187 : decode cX9_init 187 = .ok (.iload_n 1, 1) := by decide +kernel
theorem dX9_init_188 : decode cX9_init 188 = .ok (.iconst 2, 1) := by decide +kernel
theorem dX9_init_189 : decode cX9_init 189 = .ok (.if_icmp .ge 41, 3) := by decide +kernel
theorem dX9_init_192 : decode cX9_init 192 = .ok (.aload_n 0, 1) := by decide +kernel
theorem dX9_init_193 : decode cX9_init 193 = .ok (.getfield 7, 3) := by decide +kernel
theorem dX9_init_196 : decode cX9_init 196 = .ok (.iload_n 1, 1) := by decide +kernel
theorem dX9_init_197 : decode cX9_init 197 = .ok (.bipush 7, 2) := by decide +kernel
theorem dX9_init_199 : decode cX9_init 199 = .ok (.iastore, 1) := by decide +kernel
theorem dX9_init_200 : decode cX9_init 200 = .ok (.aload_n 0, 1) := by decide +kernel
theorem dX9_init_201 : decode cX9_init 201 = .ok (.getfield 13, 3) := by decide +kernel
theorem dX9_init_204 : decode cX9_init 204 = .ok (.iload_n 1, 1) := by decide +kernel
theorem dX9_init_205 : decode cX9_init 205 = .ok (.bipush 15, 2) := by decide +kernel
theorem dX9_init_207 : decode cX9_init 207 = .ok (.iastore, 1) := by decide +kernel
theorem dX9_init_208 : decode cX9_init 208 = .ok (.aload_n 0, 1) := by decide +kernel
theorem dX9_init_209 : decode cX9_init 209 = .ok (.getfield 16, 3) := by decide +kernel
theorem dX9_init_212 : decode cX9_init 212 = .ok (.iload_n 1, 1) := by decide +kernel
theorem dX9_init_213 : decode cX9_init 213 = .ok (.iconst 3, 1) := by decide +kernel
theorem dX9_init_214 : decode cX9_init 214 = .ok (.iload_n 1, 1) := by decide +kernel
theorem dX9_init_215 : decode cX9_init 215 = .ok (.iadd, 1) := by decide +kernel
theorem dX9_init_216 : decode cX9_init 216 = .ok (.iastore, 1) := by decide +kernel
theorem dX9_init_217 : decode cX9_init 217 = .ok (.aload_n 0, 1) := by decide +kernel
theorem dX9_init_218 : decode cX9_init 218 = .ok (.getfield 25, 3) := by decide +kernel
theorem dX9_init_221 : decode cX9_init 221 = .ok (.iload_n 1, 1) := by decide +kernel
theorem dX9_init_222 : decode cX9_init 222 = .ok (.iconst 1, 1) := by decide +kernel
theorem dX9_init_223 : decode cX9_init 223 = .ok (.iastore, 1) := by decide +kernel
theorem dX9_init_224 : decode cX9_init 224 = .ok (.iinc 1 1, 3) := by decide +kernel
theorem dX9_init_227 : decode cX9_init 227 = .ok (.goto (-40), 3) := by decide +kernel
theorem dX9_init_230 : decode cX9_init 230 = .ok (.return_, 1) := by decide +kernel
theorem dX9_in_0 : decode cX9_in 0 = .ok (.lload_n 0, 1) := by decide +kernel
theorem dX9_in_1 : decode cX9_in 1 = .ok (.lload_n 2, 1) := by decide +kernel
theorem dX9_in_2 : decode cX9_in 2 = .ok (.lcmp, 1) := by decide +kernel
theorem dX9_in_3 : decode cX9_in 3 = .ok (.ifCond .lt 14, 3) := by decide +kernel
theorem dX9_in_6 : decode cX9_in 6 = .ok (.lload_n 0, 1) := by decide +kernel
theorem dX9_in_7 : decode cX9_in 7 = .ok (.lload 4, 2) := by decide +kernel
theorem dX9_in_9 : decode cX9_in 9 = .ok (.lcmp, 1) := by decide +kernel
theorem dX9_in_10 : decode cX9_in 10 = .ok (.ifCond .gt 7, 3) := by decide +kernel
theorem dX9_in_13 : decode cX9_in 13 = .ok (.iconst 1, 1) := by decide +kernel
theorem dX9_in_14 : decode cX9_in 14 = .ok (.goto 4, 3) := by decide +kernel
theorem dX9_in_17 : decode cX9_in 17 = .ok (.iconst 0, 1) := by decide +kernel
theorem dX9_in_18 : decode cX9_in 18 = .ok (.ireturn, 1) := by decide +kernel
theorem dX9_has_0 : decode cX9_has 0 = .ok (.iload_n 0, 1) := by decide +kernel
theorem dX9_has_1 : decode cX9_has 1 = .ok (.iload_n 1, 1) := by decide +kernel
theorem dX9_has_2 : decode cX9_has 2 = .ok (.ishr, 1) := by decide +kernel
theorem dX9_has_3 : decode cX9_has 3 = .ok (.iconst 1, 1) := by decide +kernel
theorem dX9_has_4 : decode cX9_has 4 = .ok (.iand, 1) := by decide +kernel
theorem dX9_has_5 : decode cX9_has 5 = .ok (.iconst 1, 1) := by decide +kernel
theorem dX9_has_6 : decode cX9_has 6 = .ok (.if_icmp .ne 7, 3) := by decide +kernel
theorem dX9_has_9 : decode cX9_has 9 = .ok (.iconst 1, 1) := by decide +kernel
theorem dX9_has_10 : decode cX9_has 10 = .ok (.goto 4, 3) := by decide +kernel
theorem dX9_has_13 : decode cX9_has 13 = .ok (.iconst 0, 1) := by decide +kernel
theorem dX9_has_14 : decode cX9_has 14 = .ok (.ireturn, 1) := by decide +kernel
set_option maxRecDepth 20000 in
theorem ggX9_isSide_X9_in : GoodIn wsX9_isSide wsX9_in := goodIn_r _ [4] (by decide +kernel) (by decide +kernel)
set_option maxRecDepth 20000 in
theorem gX9_isSide_X9_in : GoodIn wsX9_isSide (va_wsS RX9 87 yX9_in wsX9_in) := goodIn_app (goodIn_of _ (by decide +kernel)) ggX9_isSide_X9_in
theorem dX9_isSide_0 : decode cX9_isSide 0 = .ok (.iload_n 0, 1) := by decide +kernel
theorem dX9_isSide_1 : decode cX9_isSide 1 = .ok (.i2l, 1) := by decide +kernel
theorem dX9_isSide_2 : decode cX9_isSide 2 = .ok (.lconst 0, 1) := by decide +kernel
theorem dX9_isSide_3 : decode cX9_isSide 3 = .ok (.lconst 1, 1) := by decide +kernel
theorem dX9_isSide_4 : decode cX9_isSide 4 = .ok (.invokestatic 87, 3) := by decide +kernel
theorem dX9_isSide_7 : decode cX9_isSide 7 = .ok (.ireturn, 1) := by decide +kernel
theorem dX9_mix_0 : decode cX9_mix 0 = .ok (.iload_n 0, 1) := by decide +kernel
theorem dX9_mix_1 : decode cX9_mix 1 = .ok (.iload_n 1, 1) := by decide +kernel
theorem dX9_mix_2 : decode cX9_mix 2 = .ok (.ixor, 1) := by decide +kernel
theorem dX9_mix_3 : decode cX9_mix 3 = .ok (.ldc 91, 2) := by decide +kernel
theorem dX9_mix_5 : decode cX9_mix 5 = .ok (.imul, 1) := by decide +kernel
theorem dX9_mix_6 : decode cX9_mix 6 = .ok (.istore_n 2, 1) := by decide +kernel
theorem dX9_mix_7 : decode cX9_mix 7 = .ok (.iload_n 2, 1) := by decide +kernel
theorem dX9_mix_8 : decode cX9_mix 8 = .ok (.iload_n 2, 1) := by decide +kernel
theorem dX9_mix_9 : decode cX9_mix 9 = .ok (.bipush 15, 2) := by decide +kernel
theorem dX9_mix_11 : decode cX9_mix 11 = .ok (.iushr, 1) := by decide +kernel
theorem dX9_mix_12 : decode cX9_mix 12 = .ok (.ixor, 1) := by decide +kernel
theorem dX9_mix_13 : decode cX9_mix 13 = .ok (.ireturn, 1) := by decide +kernel
theorem dX9_prime_0 : decode cX9_prime 0 = .ok (.iload_n 0, 1) := by decide +kernel
theorem dX9_prime_1 : decode cX9_prime 1 = .ok (.ifCond .ne 8, 3) := by decide +kernel
theorem dX9_prime_4 : decode cX9_prime 4 = .ok (.bipush 23, 2) := by decide +kernel
theorem dX9_prime_6 : decode cX9_prime 6 = .ok (.goto 25, 3) := by decide +kernel
theorem dX9_prime_9 : decode cX9_prime 9 = .ok (.iload_n 0, 1) := by decide +kernel
theorem dX9_prime_10 : decode cX9_prime 10 = .ok (.iconst 1, 1) := by decide +kernel
theorem dX9_prime_11 : decode cX9_prime 11 = .ok (.if_icmp .ne 8, 3) := by decide +kernel
theorem dX9_prime_14 : decode cX9_prime 14 = .ok (.bipush 47, 2) := by decide +kernel
theorem dX9_prime_16 : decode cX9_prime 16 = .ok (.goto 15, 3) := by decide +kernel
theorem dX9_prime_19 : decode cX9_prime 19 = .ok (.iload_n 0, 1) := by decide +kernel
theorem dX9_prime_20 : decode cX9_prime 20 = .ok (.iconst 2, 1) := by decide +kernel
theorem dX9_prime_21 : decode cX9_prime 21 = .ok (.if_icmp .ne 8, 3) := by decide +kernel
theorem dX9_prime_24 : decode cX9_prime 24 = .ok (.bipush 59, 2) := by decide +kernel
theorem dX9_prime_26 : decode cX9_prime 26 = .ok (.goto 5, 3) := by decide +kernel
theorem dX9_prime_29 : decode cX9_prime 29 = .ok (.bipush 97, 2) := by decide +kernel
theorem dX9_prime_31 : decode cX9_prime 31 = .ok (.ireturn, 1) := by decide +kernel
theorem dX9_power_0 : decode cX9_power 0 = .ok (.iconst 1, 1) := by decide +kernel
theorem dX9_power_1 : decode cX9_power 1 = .ok (.istore_n 3, 1) := by decide +kernel
theorem dX9_power_2 : decode cX9_power 2 = .ok (.iconst 0, 1) := by decide +kernel
theorem dX9_power_3 : decode cX9_power 3 = .ok (.istore 4, 2) := by decide +kernel
theorem dX9_power_5 : decode cX9_power 5 = .ok (.iload 4, 2) := by decide +kernel
theorem dX9_power_7 : decode cX9_power 7 = .ok (.iload_n 1, 1) := by decide +kernel
theorem dX9_power_8 : decode cX9_power 8 = .ok (.if_icmp .ge 15, 3) := by decide +kernel
theorem dX9_power_11 : decode cX9_power 11 = .ok (.iload_n 3, 1) := by decide +kernel
theorem dX9_power_12 : decode cX9_power 12 = .ok (.iload_n 0, 1) := by decide +kernel
theorem dX9_power_13 : decode cX9_power 13 = .ok (.imul, 1) := by decide +kernel
theorem dX9_power_14 : decode cX9_power 14 = .ok (.iload_n 2, 1) := by decide +kernel
theorem dX9_power_15 : decode cX9_power 15 = .ok (.irem, 1) := by decide +kernel
theorem dX9_power_16 : decode cX9_power 16 = .ok (.istore_n 3, 1) := by decide +kernel
theorem dX9_power_17 : decode cX9_power 17 = .ok (.iinc 4 1, 3) := by decide +kernel
theorem dX9_power_20 : decode cX9_power 20 = .ok (.goto (-15), 3) := by decide +kernel
theorem dX9_power_23 : decode cX9_power 23 = .ok (.iload_n 3, 1) := by decide +kernel
theorem dX9_power_24 : decode cX9_power 24 = .ok (.ireturn, 1) := by decide +kernel
set_option maxRecDepth 20000 in
theorem ggX9_shareOf_X9_prime : GoodIn wsX9_shareOf wsX9_prime := goodIn_r _ [4] (by decide +kernel) (by decide +kernel)
set_option maxRecDepth 20000 in
theorem gX9_shareOf_X9_prime : GoodIn wsX9_shareOf (va_wsS RX9 92 yX9_prime wsX9_prime) := goodIn_app (goodIn_of _ (by decide +kernel)) ggX9_shareOf_X9_prime
set_option maxRecDepth 20000 in
theorem ggX9_shareOf_X9_power : GoodIn wsX9_shareOf wsX9_power := goodIn_r _ [7] (by decide +kernel) (by decide +kernel)
set_option maxRecDepth 20000 in
theorem gX9_shareOf_X9_power : GoodIn wsX9_shareOf (va_wsS RX9 96 yX9_power wsX9_power) := goodIn_app (goodIn_of _ (by decide +kernel)) ggX9_shareOf_X9_power
theorem dX9_shareOf_0 : decode cX9_shareOf 0 = .ok (.iload_n 0, 1) := by decide +kernel
theorem dX9_shareOf_1 : decode cX9_shareOf 1 = .ok (.iconst 2, 1) := by decide +kernel
theorem dX9_shareOf_2 : decode cX9_shareOf 2 = .ok (.if_icmp .ne 7, 3) := by decide +kernel
theorem dX9_shareOf_5 : decode cX9_shareOf 5 = .ok (.iconst 2, 1) := by decide +kernel
theorem dX9_shareOf_6 : decode cX9_shareOf 6 = .ok (.goto 4, 3) := by decide +kernel
theorem dX9_shareOf_9 : decode cX9_shareOf 9 = .ok (.iconst 5, 1) := by decide +kernel
theorem dX9_shareOf_10 : decode cX9_shareOf 10 = .ok (.iload_n 1, 1) := by decide +kernel
theorem dX9_shareOf_11 : decode cX9_shareOf 11 = .ok (.iload_n 0, 1) := by decide +kernel
theorem dX9_shareOf_12 : decode cX9_shareOf 12 = .ok (.invokestatic 92, 3) := by decide +kernel
theorem dX9_shareOf_15 : decode cX9_shareOf 15 = .ok (.invokestatic 96, 3) := by decide +kernel
theorem dX9_shareOf_18 : decode cX9_shareOf 18 = .ok (.ireturn, 1) := by decide +kernel
set_option maxRecDepth 20000 in
theorem ggX9_hasVersion_X9_in : GoodIn wsX9_hasVersion wsX9_in := goodIn_r _ [5] (by decide +kernel) (by decide +kernel)
set_option maxRecDepth 20000 in
theorem gX9_hasVersion_X9_in : GoodIn wsX9_hasVersion (va_wsS RX9 87 yX9_in wsX9_in) := goodIn_app (goodIn_of _ (by decide +kernel)) ggX9_hasVersion_X9_in
set_option maxRecDepth 20000 in
theorem ggX9_hasVersion_X9_has : GoodIn wsX9_hasVersion wsX9_has := goodIn_r _ [8] (by decide +kernel) (by decide +kernel)
set_option maxRecDepth 20000 in
theorem gX9_hasVersion_X9_has : GoodIn wsX9_hasVersion (va_wsS RX9 102 yX9_has wsX9_has) := goodIn_app (goodIn_of _ (by decide +kernel)) ggX9_hasVersion_X9_has
theorem dX9_hasVersion_0 : decode cX9_hasVersion 0 = .ok (.iload_n 1, 1) := by decide +kernel
theorem dX9_hasVersion_1 : decode cX9_hasVersion 1 = .ok (.i2l, 1) := by decide +kernel
theorem dX9_hasVersion_2 : decode cX9_hasVersion 2 = .ok (.lconst 1, 1) := by decide +kernel
theorem dX9_hasVersion_3 : decode cX9_hasVersion 3 = .ok (.ldc2_w 100, 3) := by decide +kernel
theorem dX9_hasVersion_6 : decode cX9_hasVersion 6 = .ok (.invokestatic 87, 3) := by decide +kernel
theorem dX9_hasVersion_9 : decode cX9_hasVersion 9 = .ok (.ifCond .eq 17, 3) := by decide +kernel
theorem dX9_hasVersion_12 : decode cX9_hasVersion 12 = .ok (.iload_n 0, 1) := by decide +kernel
theorem dX9_hasVersion_13 : decode cX9_hasVersion 13 = .ok (.iload_n 1, 1) := by decide +kernel
theorem dX9_hasVersion_14 : decode cX9_hasVersion 14 = .ok (.iconst 1, 1) := by decide +kernel
theorem dX9_hasVersion_15 : decode cX9_hasVersion 15 = .ok (.isub, 1) := by decide +kernel
theorem dX9_hasVersion_16 : decode cX9_hasVersion 16 = .ok (.invokestatic 102, 3) := by decide +kernel
theorem dX9_hasVersion_19 : decode cX9_hasVersion 19 = .ok (.ifCond .eq 7, 3) := by decide +kernel
theorem dX9_hasVersion_22 : decode cX9_hasVersion 22 = .ok (.iconst 1, 1) := by decide +kernel
theorem dX9_hasVersion_23 : decode cX9_hasVersion 23 = .ok (.goto 4, 3) := by decide +kernel
theorem dX9_hasVersion_26 : decode cX9_hasVersion 26 = .ok (.iconst 0, 1) := by decide +kernel
theorem dX9_hasVersion_27 : decode cX9_hasVersion 27 = .ok (.ireturn, 1) := by decide +kernel
set_option maxRecDepth 20000 in
theorem ggX9_hasAbove_X9_hasVersion : GoodIn wsX9_hasAbove wsX9_hasVersion := goodIn_r _ [4, 5, 6, 7, 3, 8, 9, 10, 11] (by decide +kernel) (by decide +kernel)
set_option maxRecDepth 20000 in
theorem gX9_hasAbove_X9_hasVersion : GoodIn wsX9_hasAbove (va_wsS RX9 106 yX9_hasVersion wsX9_hasVersion) := goodIn_app (goodIn_of _ (by decide +kernel)) ggX9_hasAbove_X9_hasVersion
theorem dX9_hasAbove_0 : decode cX9_hasAbove 0 = .ok (.iconst 0, 1) := by decide +kernel
theorem dX9_hasAbove_1 : decode cX9_hasAbove 1 = .ok (.istore_n 2, 1) := by decide +kernel
theorem dX9_hasAbove_2 : decode cX9_hasAbove 2 = .ok (.iload_n 1, 1) := by decide +kernel
theorem dX9_hasAbove_3 : decode cX9_hasAbove 3 = .ok (.iconst 1, 1) := by decide +kernel
theorem dX9_hasAbove_4 : decode cX9_hasAbove 4 = .ok (.iadd, 1) := by decide +kernel
theorem dX9_hasAbove_5 : decode cX9_hasAbove 5 = .ok (.istore_n 3, 1) := by decide +kernel
theorem dX9_hasAbove_6 : decode cX9_hasAbove 6 = .ok (.iload_n 3, 1) := by decide +kernel
theorem dX9_hasAbove_7 : decode cX9_hasAbove 7 = .ok (.iconst 4, 1) := by decide +kernel
theorem dX9_hasAbove_8 : decode cX9_hasAbove 8 = .ok (.if_icmp .ge 27, 3) := by decide +kernel
theorem dX9_hasAbove_11 : decode cX9_hasAbove 11 = .ok (.iload_n 2, 1) := by decide +kernel
theorem dX9_hasAbove_12 : decode cX9_hasAbove 12 = .ok (.ifCond .ne 11, 3) := by decide +kernel
theorem dX9_hasAbove_15 : decode cX9_hasAbove 15 = .ok (.iload_n 0, 1) := by decide +kernel
theorem dX9_hasAbove_16 : decode cX9_hasAbove 16 = .ok (.iload_n 3, 1) := by decide +kernel
theorem dX9_hasAbove_17 : decode cX9_hasAbove 17 = .ok (.invokestatic 106, 3) := by decide +kernel
theorem dX9_hasAbove_20 : decode cX9_hasAbove 20 = .ok (.ifCond .eq 7, 3) := by decide +kernel
theorem dX9_hasAbove_23 : decode cX9_hasAbove 23 = .ok (.iconst 1, 1) := by decide +kernel
theorem dX9_hasAbove_24 : decode cX9_hasAbove 24 = .ok (.goto 4, 3) := by decide +kernel
theorem dX9_hasAbove_27 : decode cX9_hasAbove 27 = .ok (.iconst 0, 1) := by decide +kernel
theorem dX9_hasAbove_28 : decode cX9_hasAbove 28 = .ok (.istore_n 2, 1) := by decide +kernel
theorem dX9_hasAbove_29 : decode cX9_hasAbove 29 = .ok (.iinc 3 1, 3) := by decide +kernel
theorem dX9_hasAbove_32 : decode cX9_hasAbove 32 = .ok (.goto (-26), 3) := by decide +kernel
theorem dX9_hasAbove_35 : decode cX9_hasAbove 35 = .ok (.iload_n 2, 1) := by decide +kernel
theorem dX9_hasAbove_36 : decode cX9_hasAbove 36 = .ok (.ireturn, 1) := by decide +kernel
set_option maxRecDepth 20000 in
theorem ggX9_greatest_X9_has : GoodIn wsX9_greatest wsX9_has := goodIn_r _ [4] (by decide +kernel) (by decide +kernel)
set_option maxRecDepth 20000 in
theorem gX9_greatest_X9_has : GoodIn wsX9_greatest (va_wsS RX9 102 yX9_has wsX9_has) := goodIn_app (goodIn_of _ (by decide +kernel)) ggX9_greatest_X9_has
theorem dX9_greatest_0 : decode cX9_greatest 0 = .ok (.iconst (-1), 1) := by decide +kernel
theorem dX9_greatest_1 : decode cX9_greatest 1 = .ok (.istore_n 1, 1) := by decide +kernel
theorem dX9_greatest_2 : decode cX9_greatest 2 = .ok (.iconst 0, 1) := by decide +kernel
theorem dX9_greatest_3 : decode cX9_greatest 3 = .ok (.istore_n 2, 1) := by decide +kernel
theorem dX9_greatest_4 : decode cX9_greatest 4 = .ok (.iload_n 2, 1) := by decide +kernel
theorem dX9_greatest_5 : decode cX9_greatest 5 = .ok (.iconst 4, 1) := by decide +kernel
theorem dX9_greatest_6 : decode cX9_greatest 6 = .ok (.if_icmp .ge 23, 3) := by decide +kernel
theorem dX9_greatest_9 : decode cX9_greatest 9 = .ok (.iload_n 0, 1) := by decide +kernel
theorem dX9_greatest_10 : decode cX9_greatest 10 = .ok (.iload_n 2, 1) := by decide +kernel
theorem dX9_greatest_11 : decode cX9_greatest 11 = .ok (.invokestatic 102, 3) := by decide +kernel
theorem dX9_greatest_14 : decode cX9_greatest 14 = .ok (.ifCond .eq 7, 3) := by decide +kernel
theorem dX9_greatest_17 : decode cX9_greatest 17 = .ok (.iload_n 2, 1) := by decide +kernel
theorem dX9_greatest_18 : decode cX9_greatest 18 = .ok (.goto 4, 3) := by decide +kernel
theorem dX9_greatest_21 : decode cX9_greatest 21 = .ok (.iload_n 1, 1) := by decide +kernel
theorem dX9_greatest_22 : decode cX9_greatest 22 = .ok (.istore_n 1, 1) := by decide +kernel
theorem dX9_greatest_23 : decode cX9_greatest 23 = .ok (.iinc 2 1, 3) := by decide +kernel
theorem dX9_greatest_26 : decode cX9_greatest 26 = .ok (.goto (-22), 3) := by decide +kernel
theorem dX9_greatest_29 : decode cX9_greatest 29 = .ok (.iload_n 1, 1) := by decide +kernel
theorem dX9_greatest_30 : decode cX9_greatest 30 = .ok (.ireturn, 1) := by decide +kernel
theorem dX9_clears_0 : decode cX9_clears 0 = .ok (.iconst 0, 1) := by decide +kernel
theorem dX9_clears_1 : decode cX9_clears 1 = .ok (.istore_n 2, 1) := by decide +kernel
theorem dX9_clears_2 : decode cX9_clears 2 = .ok (.iload_n 2, 1) := by decide +kernel
theorem dX9_clears_3 : decode cX9_clears 3 = .ok (.bipush 9, 2) := by decide +kernel
theorem dX9_clears_5 : decode cX9_clears 5 = .ok (.if_icmp .ge 16, 3) := by decide +kernel
theorem dX9_clears_8 : decode cX9_clears 8 = .ok (.aload_n 0, 1) := by decide +kernel
theorem dX9_clears_9 : decode cX9_clears 9 = .ok (.getfield 71, 3) := by decide +kernel
theorem dX9_clears_12 : decode cX9_clears 12 = .ok (.iload_n 2, 1) := by decide +kernel
theorem dX9_clears_13 : decode cX9_clears 13 = .ok (.iconst 0, 1) := by decide +kernel
theorem dX9_clears_14 : decode cX9_clears 14 = .ok (.iastore, 1) := by decide +kernel
theorem dX9_clears_15 : decode cX9_clears 15 = .ok (.iinc 2 1, 3) := by decide +kernel
theorem dX9_clears_18 : decode cX9_clears 18 = .ok (.goto (-16), 3) := by decide +kernel
theorem dX9_clears_21 : decode cX9_clears 21 = .ok (.aload_n 0, 1) := by decide +kernel
theorem dX9_clears_22 : decode cX9_clears 22 = .ok (.getfield 71, 3) := by decide +kernel
theorem dX9_clears_25 : decode cX9_clears 25 = .ok (.iconst 0, 1) := by decide +kernel
theorem dX9_clears_26 : decode cX9_clears 26 = .ok (.iload_n 1, 1) := by decide +kernel
theorem dX9_clears_27 : decode cX9_clears 27 = .ok (.iastore, 1) := by decide +kernel
theorem dX9_clears_28 : decode cX9_clears 28 = .ok (.return_, 1) := by decide +kernel
set_option maxRecDepth 20000 in
theorem ggX9_takes_X9_mix : GoodIn wsX9_takes wsX9_mix := goodIn_r _ [6, 7] (by decide +kernel) (by decide +kernel)
set_option maxRecDepth 20000 in
theorem gX9_takes_X9_mix : GoodIn wsX9_takes (va_wsS RX9 109 yX9_mix wsX9_mix) := goodIn_app (goodIn_of _ (by decide +kernel)) ggX9_takes_X9_mix
theorem dX9_takes_0 : decode cX9_takes 0 = .ok (.iconst 0, 1) := by decide +kernel
theorem dX9_takes_1 : decode cX9_takes 1 = .ok (.istore_n 3, 1) := by decide +kernel
theorem dX9_takes_2 : decode cX9_takes 2 = .ok (.iload_n 3, 1) := by decide +kernel
theorem dX9_takes_3 : decode cX9_takes 3 = .ok (.iload_n 2, 1) := by decide +kernel
theorem dX9_takes_4 : decode cX9_takes 4 = .ok (.if_icmp .gt 30, 3) := by decide +kernel
theorem dX9_takes_7 : decode cX9_takes 7 = .ok (.aload_n 0, 1) := by decide +kernel
theorem dX9_takes_8 : decode cX9_takes 8 = .ok (.getfield 25, 3) := by decide +kernel
theorem dX9_takes_11 : decode cX9_takes 11 = .ok (.iload_n 1, 1) := by decide +kernel
theorem dX9_takes_12 : decode cX9_takes 12 = .ok (.aload_n 0, 1) := by decide +kernel
theorem dX9_takes_13 : decode cX9_takes 13 = .ok (.getfield 25, 3) := by decide +kernel
theorem dX9_takes_16 : decode cX9_takes 16 = .ok (.iload_n 1, 1) := by decide +kernel
theorem dX9_takes_17 : decode cX9_takes 17 = .ok (.iaload, 1) := by decide +kernel
theorem dX9_takes_18 : decode cX9_takes 18 = .ok (.aload_n 0, 1) := by decide +kernel
theorem dX9_takes_19 : decode cX9_takes 19 = .ok (.getfield 71, 3) := by decide +kernel
theorem dX9_takes_22 : decode cX9_takes 22 = .ok (.iload_n 3, 1) := by decide +kernel
theorem dX9_takes_23 : decode cX9_takes 23 = .ok (.iaload, 1) := by decide +kernel
theorem dX9_takes_24 : decode cX9_takes 24 = .ok (.invokestatic 109, 3) := by decide +kernel
theorem dX9_takes_27 : decode cX9_takes 27 = .ok (.iastore, 1) := by decide +kernel
theorem dX9_takes_28 : decode cX9_takes 28 = .ok (.iinc 3 1, 3) := by decide +kernel
theorem dX9_takes_31 : decode cX9_takes 31 = .ok (.goto (-29), 3) := by decide +kernel
theorem dX9_takes_34 : decode cX9_takes 34 = .ok (.return_, 1) := by decide +kernel
theorem dX9_sends_0 : decode cX9_sends 0 = .ok (.aload_n 0, 1) := by decide +kernel
theorem dX9_sends_1 : decode cX9_sends 1 = .ok (.getfield 62, 3) := by decide +kernel
theorem dX9_sends_4 : decode cX9_sends 4 = .ok (.iload_n 1, 1) := by decide +kernel
theorem dX9_sends_5 : decode cX9_sends 5 = .ok (.iaload, 1) := by decide +kernel
theorem dX9_sends_6 : decode cX9_sends 6 = .ok (.bipush 8, 2) := by decide +kernel
theorem dX9_sends_8 : decode cX9_sends 8 = .ok (.if_icmp .ne 14, 3) := by decide +kernel
theorem dX9_sends_11 : decode cX9_sends 11 = .ok (.aload_n 0, 1) := by decide +kernel
theorem dX9_sends_12 : decode cX9_sends 12 = .ok (.dup, 1) := by decide +kernel
theorem dX9_sends_13 : decode cX9_sends 13 = .ok (.getfield 113, 3) := by decide +kernel
theorem dX9_sends_16 : decode cX9_sends 16 = .ok (.iconst 1, 1) := by decide +kernel
theorem dX9_sends_17 : decode cX9_sends 17 = .ok (.iadd, 1) := by decide +kernel
theorem dX9_sends_18 : decode cX9_sends 18 = .ok (.putfield 113, 3) := by decide +kernel
theorem dX9_sends_21 : decode cX9_sends 21 = .ok (.return_, 1) := by decide +kernel
theorem dX9_sends_22 : decode cX9_sends 22 = .ok (.iconst 0, 1) := by decide +kernel
theorem dX9_sends_23 : decode cX9_sends 23 = .ok (.istore_n 2, 1) := by decide +kernel
theorem dX9_sends_24 : decode cX9_sends 24 = .ok (.iload_n 2, 1) := by decide +kernel
theorem dX9_sends_25 : decode cX9_sends 25 = .ok (.bipush 9, 2) := by decide +kernel
theorem dX9_sends_27 : decode cX9_sends 27 = .ok (.if_icmp .ge 36, 3) := by decide +kernel
theorem dX9_sends_30 : decode cX9_sends 30 = .ok (.aload_n 0, 1) := by decide +kernel
theorem dX9_sends_31 : decode cX9_sends 31 = .ok (.getfield 65, 3) := by decide +kernel
theorem dX9_sends_34 : decode cX9_sends 34 = .ok (.bipush 72, 2) := by decide +kernel
theorem dX9_sends_36 : decode cX9_sends 36 = .ok (.iload_n 1, 1) := by decide +kernel
theorem dX9_sends_37 : decode cX9_sends 37 = .ok (.imul, 1) := by decide +kernel
theorem dX9_sends_38 : decode cX9_sends 38 = .ok (.bipush 9, 2) := by decide +kernel
theorem dX9_sends_40 : decode cX9_sends 40 = .ok (.aload_n 0, 1) := by decide +kernel
theorem dX9_sends_41 : decode cX9_sends 41 = .ok (.getfield 62, 3) := by decide +kernel
theorem dX9_sends_44 : decode cX9_sends 44 = .ok (.iload_n 1, 1) := by decide +kernel
theorem dX9_sends_45 : decode cX9_sends 45 = .ok (.iaload, 1) := by decide +kernel
theorem dX9_sends_46 : decode cX9_sends 46 = .ok (.imul, 1) := by decide +kernel
theorem dX9_sends_47 : decode cX9_sends 47 = .ok (.iadd, 1) := by decide +kernel
theorem dX9_sends_48 : decode cX9_sends 48 = .ok (.iload_n 2, 1) := by decide +kernel
theorem dX9_sends_49 : decode cX9_sends 49 = .ok (.iadd, 1) := by decide +kernel
theorem dX9_sends_50 : decode cX9_sends 50 = .ok (.aload_n 0, 1) := by decide +kernel
theorem dX9_sends_51 : decode cX9_sends 51 = .ok (.getfield 71, 3) := by decide +kernel
theorem dX9_sends_54 : decode cX9_sends 54 = .ok (.iload_n 2, 1) := by decide +kernel
theorem dX9_sends_55 : decode cX9_sends 55 = .ok (.iaload, 1) := by decide +kernel
theorem dX9_sends_56 : decode cX9_sends 56 = .ok (.iastore, 1) := by decide +kernel
theorem dX9_sends_57 : decode cX9_sends 57 = .ok (.iinc 2 1, 3) := by decide +kernel
theorem dX9_sends_60 : decode cX9_sends 60 = .ok (.goto (-36), 3) := by decide +kernel
theorem dX9_sends_63 : decode cX9_sends 63 = .ok (.aload_n 0, 1) := by decide +kernel
theorem dX9_sends_64 : decode cX9_sends 64 = .ok (.getfield 62, 3) := by decide +kernel
theorem dX9_sends_67 : decode cX9_sends 67 = .ok (.iload_n 1, 1) := by decide +kernel
theorem dX9_sends_68 : decode cX9_sends 68 = .ok (.dup2, 1) := by decide +kernel
theorem dX9_sends_69 : decode cX9_sends 69 = .ok (.iaload, 1) := by decide +kernel
theorem dX9_sends_70 : decode cX9_sends 70 = .ok (.iconst 1, 1) := by decide +kernel
theorem dX9_sends_71 : decode cX9_sends 71 = .ok (.iadd, 1) := by decide +kernel
theorem dX9_sends_72 : decode cX9_sends 72 = .ok (.iastore, 1) := by decide +kernel
theorem dX9_sends_73 : decode cX9_sends 73 = .ok (.return_, 1) := by decide +kernel
theorem dX9_drops_0 : decode cX9_drops 0 = .ok (.iconst 0, 1) := by decide +kernel
theorem dX9_drops_1 : decode cX9_drops 1 = .ok (.istore_n 2, 1) := by decide +kernel
theorem dX9_drops_2 : decode cX9_drops 2 = .ok (.iload_n 2, 1) := by decide +kernel
theorem dX9_drops_3 : decode cX9_drops 3 = .ok (.bipush 63, 2) := by decide +kernel
theorem dX9_drops_5 : decode cX9_drops 5 = .ok (.if_icmp .ge 34, 3) := by decide +kernel
theorem dX9_drops_8 : decode cX9_drops 8 = .ok (.aload_n 0, 1) := by decide +kernel
theorem dX9_drops_9 : decode cX9_drops 9 = .ok (.getfield 65, 3) := by decide +kernel
theorem dX9_drops_12 : decode cX9_drops 12 = .ok (.bipush 72, 2) := by decide +kernel
theorem dX9_drops_14 : decode cX9_drops 14 = .ok (.iload_n 1, 1) := by decide +kernel
theorem dX9_drops_15 : decode cX9_drops 15 = .ok (.imul, 1) := by decide +kernel
theorem dX9_drops_16 : decode cX9_drops 16 = .ok (.iload_n 2, 1) := by decide +kernel
theorem dX9_drops_17 : decode cX9_drops 17 = .ok (.iadd, 1) := by decide +kernel
theorem dX9_drops_18 : decode cX9_drops 18 = .ok (.aload_n 0, 1) := by decide +kernel
theorem dX9_drops_19 : decode cX9_drops 19 = .ok (.getfield 65, 3) := by decide +kernel
theorem dX9_drops_22 : decode cX9_drops 22 = .ok (.bipush 72, 2) := by decide +kernel
theorem dX9_drops_24 : decode cX9_drops 24 = .ok (.iload_n 1, 1) := by decide +kernel
theorem dX9_drops_25 : decode cX9_drops 25 = .ok (.imul, 1) := by decide +kernel
theorem dX9_drops_26 : decode cX9_drops 26 = .ok (.iload_n 2, 1) := by decide +kernel
theorem dX9_drops_27 : decode cX9_drops 27 = .ok (.iadd, 1) := by decide +kernel
theorem dX9_drops_28 : decode cX9_drops 28 = .ok (.bipush 9, 2) := by decide +kernel
theorem dX9_drops_30 : decode cX9_drops 30 = .ok (.iadd, 1) := by decide +kernel
theorem dX9_drops_31 : decode cX9_drops 31 = .ok (.iaload, 1) := by decide +kernel
theorem dX9_drops_32 : decode cX9_drops 32 = .ok (.iastore, 1) := by decide +kernel
theorem dX9_drops_33 : decode cX9_drops 33 = .ok (.iinc 2 1, 3) := by decide +kernel
theorem dX9_drops_36 : decode cX9_drops 36 = .ok (.goto (-34), 3) := by decide +kernel
theorem dX9_drops_39 : decode cX9_drops 39 = .ok (.aload_n 0, 1) := by decide +kernel
theorem dX9_drops_40 : decode cX9_drops 40 = .ok (.getfield 62, 3) := by decide +kernel
theorem dX9_drops_43 : decode cX9_drops 43 = .ok (.iload_n 1, 1) := by decide +kernel
theorem dX9_drops_44 : decode cX9_drops 44 = .ok (.dup2, 1) := by decide +kernel
theorem dX9_drops_45 : decode cX9_drops 45 = .ok (.iaload, 1) := by decide +kernel
theorem dX9_drops_46 : decode cX9_drops 46 = .ok (.iconst 1, 1) := by decide +kernel
theorem dX9_drops_47 : decode cX9_drops 47 = .ok (.isub, 1) := by decide +kernel
theorem dX9_drops_48 : decode cX9_drops 48 = .ok (.iastore, 1) := by decide +kernel
theorem dX9_drops_49 : decode cX9_drops 49 = .ok (.return_, 1) := by decide +kernel
theorem dX9_fails_0 : decode cX9_fails 0 = .ok (.aload_n 0, 1) := by decide +kernel
theorem dX9_fails_1 : decode cX9_fails 1 = .ok (.getfield 19, 3) := by decide +kernel
theorem dX9_fails_4 : decode cX9_fails 4 = .ok (.iload_n 1, 1) := by decide +kernel
theorem dX9_fails_5 : decode cX9_fails 5 = .ok (.iconst 5, 1) := by decide +kernel
theorem dX9_fails_6 : decode cX9_fails 6 = .ok (.iastore, 1) := by decide +kernel
theorem dX9_fails_7 : decode cX9_fails 7 = .ok (.aload_n 0, 1) := by decide +kernel
theorem dX9_fails_8 : decode cX9_fails 8 = .ok (.getfield 22, 3) := by decide +kernel
theorem dX9_fails_11 : decode cX9_fails 11 = .ok (.iload_n 1, 1) := by decide +kernel
theorem dX9_fails_12 : decode cX9_fails 12 = .ok (.iload_n 2, 1) := by decide +kernel
theorem dX9_fails_13 : decode cX9_fails 13 = .ok (.iastore, 1) := by decide +kernel
theorem dX9_fails_14 : decode cX9_fails 14 = .ok (.return_, 1) := by decide +kernel
set_option maxRecDepth 20000 in
theorem ggX9_binder_X9_mix : GoodIn wsX9_binder wsX9_mix := goodIn_r _ [5, 6] (by decide +kernel) (by decide +kernel)
set_option maxRecDepth 20000 in
theorem gX9_binder_X9_mix : GoodIn wsX9_binder (va_wsS RX9 109 yX9_mix wsX9_mix) := goodIn_app (goodIn_of _ (by decide +kernel)) ggX9_binder_X9_mix
theorem dX9_binder_0 : decode cX9_binder 0 = .ok (.iload_n 1, 1) := by decide +kernel
theorem dX9_binder_1 : decode cX9_binder 1 = .ok (.iload_n 2, 1) := by decide +kernel
theorem dX9_binder_2 : decode cX9_binder 2 = .ok (.invokestatic 109, 3) := by decide +kernel
theorem dX9_binder_5 : decode cX9_binder 5 = .ok (.istore_n 3, 1) := by decide +kernel
theorem dX9_binder_6 : decode cX9_binder 6 = .ok (.iconst 0, 1) := by decide +kernel
theorem dX9_binder_7 : decode cX9_binder 7 = .ok (.istore 4, 2) := by decide +kernel
theorem dX9_binder_9 : decode cX9_binder 9 = .ok (.iload 4, 2) := by decide +kernel
theorem dX9_binder_11 : decode cX9_binder 11 = .ok (.bipush 7, 2) := by decide +kernel
theorem dX9_binder_13 : decode cX9_binder 13 = .ok (.if_icmp .ge 21, 3) := by decide +kernel
theorem dX9_binder_16 : decode cX9_binder 16 = .ok (.iload_n 3, 1) := by decide +kernel
theorem dX9_binder_17 : decode cX9_binder 17 = .ok (.aload_n 0, 1) := by decide +kernel
theorem dX9_binder_18 : decode cX9_binder 18 = .ok (.getfield 71, 3) := by decide +kernel
theorem dX9_binder_21 : decode cX9_binder 21 = .ok (.iload 4, 2) := by decide +kernel
theorem dX9_binder_23 : decode cX9_binder 23 = .ok (.iaload, 1) := by decide +kernel
theorem dX9_binder_24 : decode cX9_binder 24 = .ok (.invokestatic 109, 3) := by decide +kernel
theorem dX9_binder_27 : decode cX9_binder 27 = .ok (.istore_n 3, 1) := by decide +kernel
theorem dX9_binder_28 : decode cX9_binder 28 = .ok (.iinc 4 1, 3) := by decide +kernel
theorem dX9_binder_31 : decode cX9_binder 31 = .ok (.goto (-22), 3) := by decide +kernel
theorem dX9_binder_34 : decode cX9_binder 34 = .ok (.iload_n 3, 1) := by decide +kernel
theorem dX9_binder_35 : decode cX9_binder 35 = .ok (.ireturn, 1) := by decide +kernel
set_option maxRecDepth 20000 in
theorem ggX9_makesHello_X9_clears : GoodIn wsX9_makesHello wsX9_clears := goodIn_r _ [17, 5, 46, 47, 48, 49, 50, 51, 52, 53, 54, 55, 56, 57, 58, 59, 60, 61, 62, 63, 64, 65, 66, 67, 68, 69, 70, 71, 72, 73, 74, 75, 76, 77, 78, 79, 80, 81, 82, 83, 84, 85, 86, 87, 88] (by decide +kernel) (by decide +kernel)
set_option maxRecDepth 20000 in
theorem gX9_makesHello_X9_clears : GoodIn wsX9_makesHello (wsV RX9 116 RX9 yX9_clears wsX9_clears) := goodIn_app (goodIn_of _ (by decide +kernel)) ggX9_makesHello_X9_clears
set_option maxRecDepth 20000 in
theorem ggX9_makesHello_X9_shareOf : GoodIn wsX9_makesHello wsX9_shareOf := goodIn_r _ [20, 21, 22, 16, 23, 24, 25, 26] (by decide +kernel) (by decide +kernel)
set_option maxRecDepth 20000 in
theorem gX9_makesHello_X9_shareOf : GoodIn wsX9_makesHello (va_wsS RX9 130 yX9_shareOf wsX9_shareOf) := goodIn_app (goodIn_of _ (by decide +kernel)) ggX9_makesHello_X9_shareOf
set_option maxRecDepth 20000 in
theorem ggX9_makesHello_X9_binder : GoodIn wsX9_makesHello wsX9_binder := goodIn_r _ [30, 5, 31, 32, 16, 33, 34, 46, 47, 48, 49, 50, 51, 52, 53, 54, 55, 56, 57, 58, 59, 60, 61, 62, 63, 64, 65, 66, 67, 68, 69, 70, 71, 72, 73, 74, 75, 76, 77, 78, 79, 80, 81, 82, 83, 84, 85, 86, 87, 88] (by decide +kernel) (by decide +kernel)
set_option maxRecDepth 20000 in
theorem gX9_makesHello_X9_binder : GoodIn wsX9_makesHello (wsV RX9 136 RX9 yX9_binder wsX9_binder) := goodIn_app (goodIn_of _ (by decide +kernel)) ggX9_makesHello_X9_binder
set_option maxRecDepth 20000 in
theorem ggX9_makesHello_X9_takes : GoodIn wsX9_makesHello wsX9_takes := goodIn_r _ [38, 10, 5, 31, 32, 16, 33, 34, 46, 47, 48, 49, 50, 51, 52, 53, 54, 55, 56, 57, 58, 59, 60, 61, 62, 63, 64, 65, 66, 67, 68, 69, 70, 71, 72, 73, 74, 75, 76, 77, 78, 79, 80, 81, 82, 83, 84, 85, 86, 87, 88] (by decide +kernel) (by decide +kernel)
set_option maxRecDepth 20000 in
theorem gX9_makesHello_X9_takes : GoodIn wsX9_makesHello (wsV RX9 142 RX9 yX9_takes wsX9_takes) := goodIn_app (goodIn_of _ (by decide +kernel)) ggX9_makesHello_X9_takes
set_option maxRecDepth 20000 in
theorem ggX9_makesHello_X9_sends : GoodIn wsX9_makesHello wsX9_sends := goodIn_r _ [42, 43, 44, 45, 5, 46, 47, 48, 49, 50, 51, 52, 53, 54, 55, 56, 57, 58, 59, 60, 61, 62, 63, 64, 65, 66, 67, 68, 69, 70, 71, 72, 73, 74, 75, 76, 77, 78, 79, 80, 81, 82, 83, 84, 85, 86, 87, 88] (by decide +kernel) (by decide +kernel)
set_option maxRecDepth 20000 in
theorem gX9_makesHello_X9_sends : GoodIn wsX9_makesHello (wsV RX9 146 RX9 yX9_sends wsX9_sends) := goodIn_app (goodIn_of _ (by decide +kernel)) ggX9_makesHello_X9_sends
theorem dX9_makesHello_0 : decode cX9_makesHello 0 = .ok (.aload_n 0, 1) := by decide +kernel
theorem dX9_makesHello_1 : decode cX9_makesHello 1 = .ok (.iconst 1, 1) := by decide +kernel
theorem dX9_makesHello_2 : decode cX9_makesHello 2 = .ok (.invokevirtual 116, 3) := by decide +kernel
theorem dX9_makesHello_5 : decode cX9_makesHello 5 = .ok (.aload_n 0, 1) := by decide +kernel
theorem dX9_makesHello_6 : decode cX9_makesHello 6 = .ok (.iload_n 1, 1) := by decide +kernel
theorem dX9_makesHello_7 : decode cX9_makesHello 7 = .ok (.putfield 120, 3) := by decide +kernel
theorem dX9_makesHello_10 : decode cX9_makesHello 10 = .ok (.aload_n 0, 1) := by decide +kernel
theorem dX9_makesHello_11 : decode cX9_makesHello 11 = .ok (.aload_n 0, 1) := by decide +kernel
theorem dX9_makesHello_12 : decode cX9_makesHello 12 = .ok (.getfield 50, 3) := by decide +kernel
theorem dX9_makesHello_15 : decode cX9_makesHello 15 = .ok (.iconst 0, 1) := by decide +kernel
theorem dX9_makesHello_16 : decode cX9_makesHello 16 = .ok (.iaload, 1) := by decide +kernel
theorem dX9_makesHello_17 : decode cX9_makesHello 17 = .ok (.iconst 1, 1) := by decide +kernel
theorem dX9_makesHello_18 : decode cX9_makesHello 18 = .ok (.if_icmp .ne 7, 3) := by decide +kernel
theorem dX9_makesHello_21 : decode cX9_makesHello 21 = .ok (.iconst 1, 1) := by decide +kernel
theorem dX9_makesHello_22 : decode cX9_makesHello 22 = .ok (.goto 4, 3) := by decide +kernel
theorem dX9_makesHello_25 : decode cX9_makesHello 25 = .ok (.iconst 0, 1) := by decide +kernel
theorem dX9_makesHello_26 : decode cX9_makesHello 26 = .ok (.putfield 123, 3) := by decide +kernel
theorem dX9_makesHello_29 : decode cX9_makesHello 29 = .ok (.aload_n 0, 1) := by decide +kernel
theorem dX9_makesHello_30 : decode cX9_makesHello 30 = .ok (.aload_n 0, 1) := by decide +kernel
theorem dX9_makesHello_31 : decode cX9_makesHello 31 = .ok (.getfield 50, 3) := by decide +kernel
theorem dX9_makesHello_34 : decode cX9_makesHello 34 = .ok (.iconst 4, 1) := by decide +kernel
theorem dX9_makesHello_35 : decode cX9_makesHello 35 = .ok (.iaload, 1) := by decide +kernel
theorem dX9_makesHello_36 : decode cX9_makesHello 36 = .ok (.putfield 127, 3) := by decide +kernel
theorem dX9_makesHello_39 : decode cX9_makesHello 39 = .ok (.aload_n 0, 1) := by decide +kernel
theorem dX9_makesHello_40 : decode cX9_makesHello 40 = .ok (.getfield 71, 3) := by decide +kernel
theorem dX9_makesHello_43 : decode cX9_makesHello 43 = .ok (.iconst 1, 1) := by decide +kernel
theorem dX9_makesHello_44 : decode cX9_makesHello 44 = .ok (.aload_n 0, 1) := by decide +kernel
theorem dX9_makesHello_45 : decode cX9_makesHello 45 = .ok (.getfield 7, 3) := by decide +kernel
theorem dX9_makesHello_48 : decode cX9_makesHello 48 = .ok (.iconst 0, 1) := by decide +kernel
theorem dX9_makesHello_49 : decode cX9_makesHello 49 = .ok (.iaload, 1) := by decide +kernel
theorem dX9_makesHello_50 : decode cX9_makesHello 50 = .ok (.iastore, 1) := by decide +kernel
theorem dX9_makesHello_51 : decode cX9_makesHello 51 = .ok (.aload_n 0, 1) := by decide +kernel
theorem dX9_makesHello_52 : decode cX9_makesHello 52 = .ok (.getfield 71, 3) := by decide +kernel
theorem dX9_makesHello_55 : decode cX9_makesHello 55 = .ok (.iconst 2, 1) := by decide +kernel
theorem dX9_makesHello_56 : decode cX9_makesHello 56 = .ok (.aload_n 0, 1) := by decide +kernel
theorem dX9_makesHello_57 : decode cX9_makesHello 57 = .ok (.getfield 13, 3) := by decide +kernel
theorem dX9_makesHello_60 : decode cX9_makesHello 60 = .ok (.iconst 0, 1) := by decide +kernel
theorem dX9_makesHello_61 : decode cX9_makesHello 61 = .ok (.iaload, 1) := by decide +kernel
theorem dX9_makesHello_62 : decode cX9_makesHello 62 = .ok (.iastore, 1) := by decide +kernel
theorem dX9_makesHello_63 : decode cX9_makesHello 63 = .ok (.aload_n 0, 1) := by decide +kernel
theorem dX9_makesHello_64 : decode cX9_makesHello 64 = .ok (.getfield 71, 3) := by decide +kernel
theorem dX9_makesHello_67 : decode cX9_makesHello 67 = .ok (.iconst 3, 1) := by decide +kernel
theorem dX9_makesHello_68 : decode cX9_makesHello 68 = .ok (.iload_n 1, 1) := by decide +kernel
theorem dX9_makesHello_69 : decode cX9_makesHello 69 = .ok (.iastore, 1) := by decide +kernel
theorem dX9_makesHello_70 : decode cX9_makesHello 70 = .ok (.aload_n 0, 1) := by decide +kernel
theorem dX9_makesHello_71 : decode cX9_makesHello 71 = .ok (.getfield 71, 3) := by decide +kernel
theorem dX9_makesHello_74 : decode cX9_makesHello 74 = .ok (.iconst 4, 1) := by decide +kernel
theorem dX9_makesHello_75 : decode cX9_makesHello 75 = .ok (.iload_n 1, 1) := by decide +kernel
theorem dX9_makesHello_76 : decode cX9_makesHello 76 = .ok (.aload_n 0, 1) := by decide +kernel
theorem dX9_makesHello_77 : decode cX9_makesHello 77 = .ok (.getfield 16, 3) := by decide +kernel
theorem dX9_makesHello_80 : decode cX9_makesHello 80 = .ok (.iconst 0, 1) := by decide +kernel
theorem dX9_makesHello_81 : decode cX9_makesHello 81 = .ok (.iaload, 1) := by decide +kernel
theorem dX9_makesHello_82 : decode cX9_makesHello 82 = .ok (.invokestatic 130, 3) := by decide +kernel
theorem dX9_makesHello_85 : decode cX9_makesHello 85 = .ok (.iastore, 1) := by decide +kernel
theorem dX9_makesHello_86 : decode cX9_makesHello 86 = .ok (.aload_n 0, 1) := by decide +kernel
theorem dX9_makesHello_87 : decode cX9_makesHello 87 = .ok (.getfield 71, 3) := by decide +kernel
theorem dX9_makesHello_90 : decode cX9_makesHello 90 = .ok (.bipush 8, 2) := by decide +kernel
theorem dX9_makesHello_92 : decode cX9_makesHello 92 = .ok (.iconst (-1), 1) := by decide +kernel
theorem dX9_makesHello_93 : decode cX9_makesHello 93 = .ok (.iastore, 1) := by decide +kernel
theorem dX9_makesHello_94 : decode cX9_makesHello 94 = .ok (.aload_n 0, 1) := by decide +kernel
theorem dX9_makesHello_95 : decode cX9_makesHello 95 = .ok (.getfield 123, 3) := by decide +kernel
theorem dX9_makesHello_98 : decode cX9_makesHello 98 = .ok (.ifCond .eq 83, 3) := by decide +kernel
theorem dX9_makesHello_101 : decode cX9_makesHello 101 = .ok (.aload_n 0, 1) := by decide +kernel
theorem dX9_makesHello_102 : decode cX9_makesHello 102 = .ok (.getfield 71, 3) := by decide +kernel
theorem dX9_makesHello_105 : decode cX9_makesHello 105 = .ok (.iconst 5, 1) := by decide +kernel
theorem dX9_makesHello_106 : decode cX9_makesHello 106 = .ok (.aload_n 0, 1) := by decide +kernel
theorem dX9_makesHello_107 : decode cX9_makesHello 107 = .ok (.getfield 50, 3) := by decide +kernel
theorem dX9_makesHello_110 : decode cX9_makesHello 110 = .ok (.iconst 1, 1) := by decide +kernel
theorem dX9_makesHello_111 : decode cX9_makesHello 111 = .ok (.iaload, 1) := by decide +kernel
theorem dX9_makesHello_112 : decode cX9_makesHello 112 = .ok (.iastore, 1) := by decide +kernel
theorem dX9_makesHello_113 : decode cX9_makesHello 113 = .ok (.aload_n 0, 1) := by decide +kernel
theorem dX9_makesHello_114 : decode cX9_makesHello 114 = .ok (.getfield 71, 3) := by decide +kernel
theorem dX9_makesHello_117 : decode cX9_makesHello 117 = .ok (.bipush 6, 2) := by decide +kernel
theorem dX9_makesHello_119 : decode cX9_makesHello 119 = .ok (.aload_n 0, 1) := by decide +kernel
theorem dX9_makesHello_120 : decode cX9_makesHello 120 = .ok (.getfield 133, 3) := by decide +kernel
theorem dX9_makesHello_123 : decode cX9_makesHello 123 = .ok (.aload_n 0, 1) := by decide +kernel
theorem dX9_makesHello_124 : decode cX9_makesHello 124 = .ok (.getfield 50, 3) := by decide +kernel
theorem dX9_makesHello_127 : decode cX9_makesHello 127 = .ok (.iconst 3, 1) := by decide +kernel
theorem dX9_makesHello_128 : decode cX9_makesHello 128 = .ok (.iaload, 1) := by decide +kernel
theorem dX9_makesHello_129 : decode cX9_makesHello 129 = .ok (.isub, 1) := by decide +kernel
theorem dX9_makesHello_130 : decode cX9_makesHello 130 = .ok (.aload_n 0, 1) := by decide +kernel
theorem dX9_makesHello_131 : decode cX9_makesHello 131 = .ok (.getfield 50, 3) := by decide +kernel
theorem dX9_makesHello_134 : decode cX9_makesHello 134 = .ok (.iconst 5, 1) := by decide +kernel
theorem dX9_makesHello_135 : decode cX9_makesHello 135 = .ok (.iaload, 1) := by decide +kernel
theorem dX9_makesHello_136 : decode cX9_makesHello 136 = .ok (.iadd, 1) := by decide +kernel
theorem dX9_makesHello_137 : decode cX9_makesHello 137 = .ok (.iastore, 1) := by decide +kernel
theorem dX9_makesHello_138 : decode cX9_makesHello 138 = .ok (.aload_n 0, 1) := by decide +kernel
theorem dX9_makesHello_139 : decode cX9_makesHello 139 = .ok (.getfield 71, 3) := by decide +kernel
theorem dX9_makesHello_142 : decode cX9_makesHello 142 = .ok (.bipush 7, 2) := by decide +kernel
theorem dX9_makesHello_144 : decode cX9_makesHello 144 = .ok (.aload_n 0, 1) := by decide +kernel
theorem dX9_makesHello_145 : decode cX9_makesHello 145 = .ok (.aload_n 0, 1) := by decide +kernel
theorem dX9_makesHello_146 : decode cX9_makesHello 146 = .ok (.getfield 127, 3) := by decide +kernel
theorem dX9_makesHello_149 : decode cX9_makesHello 149 = .ok (.aload_n 0, 1) := by decide +kernel
theorem dX9_makesHello_150 : decode cX9_makesHello 150 = .ok (.getfield 25, 3) := by decide +kernel
theorem dX9_makesHello_153 : decode cX9_makesHello 153 = .ok (.iconst 0, 1) := by decide +kernel
theorem dX9_makesHello_154 : decode cX9_makesHello 154 = .ok (.iaload, 1) := by decide +kernel
theorem dX9_makesHello_155 : decode cX9_makesHello 155 = .ok (.invokevirtual 136, 3) := by decide +kernel
theorem dX9_makesHello_158 : decode cX9_makesHello 158 = .ok (.iastore, 1) := by decide +kernel
theorem dX9_makesHello_159 : decode cX9_makesHello 159 = .ok (.aload_n 0, 1) := by decide +kernel
theorem dX9_makesHello_160 : decode cX9_makesHello 160 = .ok (.getfield 71, 3) := by decide +kernel
theorem dX9_makesHello_163 : decode cX9_makesHello 163 = .ok (.bipush 8, 2) := by decide +kernel
theorem dX9_makesHello_165 : decode cX9_makesHello 165 = .ok (.aload_n 0, 1) := by decide +kernel
theorem dX9_makesHello_166 : decode cX9_makesHello 166 = .ok (.getfield 139, 3) := by decide +kernel
theorem dX9_makesHello_169 : decode cX9_makesHello 169 = .ok (.ifCond .eq 7, 3) := by decide +kernel
theorem dX9_makesHello_172 : decode cX9_makesHello 172 = .ok (.iconst (-1), 1) := by decide +kernel
theorem dX9_makesHello_173 : decode cX9_makesHello 173 = .ok (.goto 7, 3) := by decide +kernel
theorem dX9_makesHello_176 : decode cX9_makesHello 176 = .ok (.aload_n 0, 1) := by decide +kernel
theorem dX9_makesHello_177 : decode cX9_makesHello 177 = .ok (.getfield 46, 3) := by decide +kernel
theorem dX9_makesHello_180 : decode cX9_makesHello 180 = .ok (.iastore, 1) := by decide +kernel
theorem dX9_makesHello_181 : decode cX9_makesHello 181 = .ok (.aload_n 0, 1) := by decide +kernel
theorem dX9_makesHello_182 : decode cX9_makesHello 182 = .ok (.iconst 0, 1) := by decide +kernel
theorem dX9_makesHello_183 : decode cX9_makesHello 183 = .ok (.bipush 8, 2) := by decide +kernel
theorem dX9_makesHello_185 : decode cX9_makesHello 185 = .ok (.invokevirtual 142, 3) := by decide +kernel
theorem dX9_makesHello_188 : decode cX9_makesHello 188 = .ok (.aload_n 0, 1) := by decide +kernel
theorem dX9_makesHello_189 : decode cX9_makesHello 189 = .ok (.iconst 1, 1) := by decide +kernel
theorem dX9_makesHello_190 : decode cX9_makesHello 190 = .ok (.invokevirtual 146, 3) := by decide +kernel
theorem dX9_makesHello_193 : decode cX9_makesHello 193 = .ok (.return_, 1) := by decide +kernel
set_option maxRecDepth 20000 in
theorem ggX9_leastOf_X9_has : GoodIn wsX9_leastOf wsX9_has := goodIn_r _ [4] (by decide +kernel) (by decide +kernel)
set_option maxRecDepth 20000 in
theorem gX9_leastOf_X9_has : GoodIn wsX9_leastOf (va_wsS RX9 102 yX9_has wsX9_has) := goodIn_app (goodIn_of _ (by decide +kernel)) ggX9_leastOf_X9_has
theorem dX9_leastOf_0 : decode cX9_leastOf 0 = .ok (.iconst 0, 1) := by decide +kernel
theorem dX9_leastOf_1 : decode cX9_leastOf 1 = .ok (.istore_n 1, 1) := by decide +kernel
theorem dX9_leastOf_2 : decode cX9_leastOf 2 = .ok (.iload_n 1, 1) := by decide +kernel
theorem dX9_leastOf_3 : decode cX9_leastOf 3 = .ok (.iconst 4, 1) := by decide +kernel
theorem dX9_leastOf_4 : decode cX9_leastOf 4 = .ok (.if_icmp .ge 17, 3) := by decide +kernel
theorem dX9_leastOf_7 : decode cX9_leastOf 7 = .ok (.iload_n 0, 1) := by decide +kernel
theorem dX9_leastOf_8 : decode cX9_leastOf 8 = .ok (.iload_n 1, 1) := by decide +kernel
theorem dX9_leastOf_9 : decode cX9_leastOf 9 = .ok (.invokestatic 102, 3) := by decide +kernel
theorem dX9_leastOf_12 : decode cX9_leastOf 12 = .ok (.ifCond .ne 9, 3) := by decide +kernel
theorem dX9_leastOf_15 : decode cX9_leastOf 15 = .ok (.iinc 1 1, 3) := by decide +kernel
theorem dX9_leastOf_18 : decode cX9_leastOf 18 = .ok (.goto (-16), 3) := by decide +kernel
theorem dX9_leastOf_21 : decode cX9_leastOf 21 = .ok (.iload_n 1, 1) := by decide +kernel
theorem dX9_leastOf_22 : decode cX9_leastOf 22 = .ok (.ireturn, 1) := by decide +kernel
theorem dX9_joins_0 : decode cX9_joins 0 = .ok (.aload_n 0, 1) := by decide +kernel
theorem dX9_joins_1 : decode cX9_joins 1 = .ok (.getfield 19, 3) := by decide +kernel
theorem dX9_joins_4 : decode cX9_joins 4 = .ok (.iload_n 1, 1) := by decide +kernel
theorem dX9_joins_5 : decode cX9_joins 5 = .ok (.iconst 4, 1) := by decide +kernel
theorem dX9_joins_6 : decode cX9_joins 6 = .ok (.iastore, 1) := by decide +kernel
theorem dX9_joins_7 : decode cX9_joins 7 = .ok (.iconst 0, 1) := by decide +kernel
theorem dX9_joins_8 : decode cX9_joins 8 = .ok (.istore_n 2, 1) := by decide +kernel
theorem dX9_joins_9 : decode cX9_joins 9 = .ok (.iload_n 2, 1) := by decide +kernel
theorem dX9_joins_10 : decode cX9_joins 10 = .ok (.iconst 2, 1) := by decide +kernel
theorem dX9_joins_11 : decode cX9_joins 11 = .ok (.if_icmp .ge 31, 3) := by decide +kernel
theorem dX9_joins_14 : decode cX9_joins 14 = .ok (.aload_n 0, 1) := by decide +kernel
theorem dX9_joins_15 : decode cX9_joins 15 = .ok (.getfield 40, 3) := by decide +kernel
theorem dX9_joins_18 : decode cX9_joins 18 = .ok (.iconst 2, 1) := by decide +kernel
theorem dX9_joins_19 : decode cX9_joins 19 = .ok (.iload_n 1, 1) := by decide +kernel
theorem dX9_joins_20 : decode cX9_joins 20 = .ok (.imul, 1) := by decide +kernel
theorem dX9_joins_21 : decode cX9_joins 21 = .ok (.iload_n 2, 1) := by decide +kernel
theorem dX9_joins_22 : decode cX9_joins 22 = .ok (.iadd, 1) := by decide +kernel
theorem dX9_joins_23 : decode cX9_joins 23 = .ok (.iconst 0, 1) := by decide +kernel
theorem dX9_joins_24 : decode cX9_joins 24 = .ok (.iastore, 1) := by decide +kernel
theorem dX9_joins_25 : decode cX9_joins 25 = .ok (.aload_n 0, 1) := by decide +kernel
theorem dX9_joins_26 : decode cX9_joins 26 = .ok (.getfield 43, 3) := by decide +kernel
theorem dX9_joins_29 : decode cX9_joins 29 = .ok (.iconst 2, 1) := by decide +kernel
theorem dX9_joins_30 : decode cX9_joins 30 = .ok (.iload_n 1, 1) := by decide +kernel
theorem dX9_joins_31 : decode cX9_joins 31 = .ok (.imul, 1) := by decide +kernel
theorem dX9_joins_32 : decode cX9_joins 32 = .ok (.iload_n 2, 1) := by decide +kernel
theorem dX9_joins_33 : decode cX9_joins 33 = .ok (.iadd, 1) := by decide +kernel
theorem dX9_joins_34 : decode cX9_joins 34 = .ok (.iconst 0, 1) := by decide +kernel
theorem dX9_joins_35 : decode cX9_joins 35 = .ok (.iastore, 1) := by decide +kernel
theorem dX9_joins_36 : decode cX9_joins 36 = .ok (.iinc 2 1, 3) := by decide +kernel
theorem dX9_joins_39 : decode cX9_joins 39 = .ok (.goto (-30), 3) := by decide +kernel
theorem dX9_joins_42 : decode cX9_joins 42 = .ok (.return_, 1) := by decide +kernel
set_option maxRecDepth 20000 in
theorem ggX9_mainOf_X9_mix : GoodIn wsX9_mainOf wsX9_mix := goodIn_r _ [6, 7] (by decide +kernel) (by decide +kernel)
set_option maxRecDepth 20000 in
theorem gX9_mainOf_X9_mix : GoodIn wsX9_mainOf (va_wsS RX9 109 yX9_mix wsX9_mix) := goodIn_app (goodIn_of _ (by decide +kernel)) ggX9_mainOf_X9_mix
theorem dX9_mainOf_0 : decode cX9_mainOf 0 = .ok (.aload_n 0, 1) := by decide +kernel
theorem dX9_mainOf_1 : decode cX9_mainOf 1 = .ok (.getfield 37, 3) := by decide +kernel
theorem dX9_mainOf_4 : decode cX9_mainOf 4 = .ok (.iload_n 1, 1) := by decide +kernel
theorem dX9_mainOf_5 : decode cX9_mainOf 5 = .ok (.iaload, 1) := by decide +kernel
theorem dX9_mainOf_6 : decode cX9_mainOf 6 = .ok (.aload_n 0, 1) := by decide +kernel
theorem dX9_mainOf_7 : decode cX9_mainOf 7 = .ok (.getfield 25, 3) := by decide +kernel
theorem dX9_mainOf_10 : decode cX9_mainOf 10 = .ok (.iload_n 1, 1) := by decide +kernel
theorem dX9_mainOf_11 : decode cX9_mainOf 11 = .ok (.iaload, 1) := by decide +kernel
theorem dX9_mainOf_12 : decode cX9_mainOf 12 = .ok (.invokestatic 109, 3) := by decide +kernel
theorem dX9_mainOf_15 : decode cX9_mainOf 15 = .ok (.ireturn, 1) := by decide +kernel
set_option maxRecDepth 20000 in
theorem ggX9_lock_X9_mainOf : GoodIn wsX9_lock wsX9_mainOf := goodIn_r _ [6, 7, 8, 9, 10, 5, 11, 12, 13, 14, 15, 16, 17, 18, 19, 20, 21, 22, 23, 24, 25, 26, 27, 28, 29, 30, 31, 32, 33, 34, 35, 36, 37, 38, 39, 40, 41, 42, 43, 44, 45, 46, 47, 48, 49, 50, 51, 52, 53, 54, 55] (by decide +kernel) (by decide +kernel)
set_option maxRecDepth 20000 in
theorem gX9_lock_X9_mainOf : GoodIn wsX9_lock (wsV RX9 149 RX9 yX9_mainOf wsX9_mainOf) := goodIn_app (goodIn_of _ (by decide +kernel)) ggX9_lock_X9_mainOf
set_option maxRecDepth 20000 in
theorem ggX9_lock_X9_mix : GoodIn wsX9_lock wsX9_mix := goodIn_r _ [11, 12] (by decide +kernel) (by decide +kernel)
set_option maxRecDepth 20000 in
theorem gX9_lock_X9_mix : GoodIn wsX9_lock (va_wsS RX9 109 yX9_mix wsX9_mix) := goodIn_app (goodIn_of _ (by decide +kernel)) ggX9_lock_X9_mix
theorem dX9_lock_0 : decode cX9_lock 0 = .ok (.aload_n 0, 1) := by decide +kernel
theorem dX9_lock_1 : decode cX9_lock 1 = .ok (.iload_n 1, 1) := by decide +kernel
theorem dX9_lock_2 : decode cX9_lock 2 = .ok (.invokevirtual 149, 3) := by decide +kernel
theorem dX9_lock_5 : decode cX9_lock 5 = .ok (.iload_n 2, 1) := by decide +kernel
theorem dX9_lock_6 : decode cX9_lock 6 = .ok (.invokestatic 109, 3) := by decide +kernel
theorem dX9_lock_9 : decode cX9_lock 9 = .ok (.aload_n 0, 1) := by decide +kernel
theorem dX9_lock_10 : decode cX9_lock 10 = .ok (.getfield 40, 3) := by decide +kernel
theorem dX9_lock_13 : decode cX9_lock 13 = .ok (.iconst 2, 1) := by decide +kernel
theorem dX9_lock_14 : decode cX9_lock 14 = .ok (.iload_n 1, 1) := by decide +kernel
theorem dX9_lock_15 : decode cX9_lock 15 = .ok (.imul, 1) := by decide +kernel
theorem dX9_lock_16 : decode cX9_lock 16 = .ok (.iload_n 2, 1) := by decide +kernel
theorem dX9_lock_17 : decode cX9_lock 17 = .ok (.iadd, 1) := by decide +kernel
theorem dX9_lock_18 : decode cX9_lock 18 = .ok (.iaload, 1) := by decide +kernel
theorem dX9_lock_19 : decode cX9_lock 19 = .ok (.invokestatic 109, 3) := by decide +kernel
theorem dX9_lock_22 : decode cX9_lock 22 = .ok (.ireturn, 1) := by decide +kernel
set_option maxRecDepth 20000 in
theorem ggX9_keyOf_X9_mix : GoodIn wsX9_keyOf wsX9_mix := goodIn_r _ [4, 5] (by decide +kernel) (by decide +kernel)
set_option maxRecDepth 20000 in
theorem gX9_keyOf_X9_mix : GoodIn wsX9_keyOf (va_wsS RX9 109 yX9_mix wsX9_mix) := goodIn_app (goodIn_of _ (by decide +kernel)) ggX9_keyOf_X9_mix
theorem dX9_keyOf_0 : decode cX9_keyOf 0 = .ok (.bipush 7, 2) := by decide +kernel
theorem dX9_keyOf_2 : decode cX9_keyOf 2 = .ok (.iload_n 0, 1) := by decide +kernel
theorem dX9_keyOf_3 : decode cX9_keyOf 3 = .ok (.invokestatic 109, 3) := by decide +kernel
theorem dX9_keyOf_6 : decode cX9_keyOf 6 = .ok (.iload_n 1, 1) := by decide +kernel
theorem dX9_keyOf_7 : decode cX9_keyOf 7 = .ok (.invokestatic 109, 3) := by decide +kernel
theorem dX9_keyOf_10 : decode cX9_keyOf 10 = .ok (.ireturn, 1) := by decide +kernel
set_option maxRecDepth 20000 in
theorem ggX9_proof_X9_mix : GoodIn wsX9_proof wsX9_mix := goodIn_r _ [6, 7] (by decide +kernel) (by decide +kernel)
set_option maxRecDepth 20000 in
theorem gX9_proof_X9_mix : GoodIn wsX9_proof (va_wsS RX9 109 yX9_mix wsX9_mix) := goodIn_app (goodIn_of _ (by decide +kernel)) ggX9_proof_X9_mix
theorem dX9_proof_0 : decode cX9_proof 0 = .ok (.aload_n 0, 1) := by decide +kernel
theorem dX9_proof_1 : decode cX9_proof 1 = .ok (.getfield 37, 3) := by decide +kernel
theorem dX9_proof_4 : decode cX9_proof 4 = .ok (.iload_n 1, 1) := by decide +kernel
theorem dX9_proof_5 : decode cX9_proof 5 = .ok (.iaload, 1) := by decide +kernel
theorem dX9_proof_6 : decode cX9_proof 6 = .ok (.aload_n 0, 1) := by decide +kernel
theorem dX9_proof_7 : decode cX9_proof 7 = .ok (.getfield 25, 3) := by decide +kernel
theorem dX9_proof_10 : decode cX9_proof 10 = .ok (.iload_n 1, 1) := by decide +kernel
theorem dX9_proof_11 : decode cX9_proof 11 = .ok (.iaload, 1) := by decide +kernel
theorem dX9_proof_12 : decode cX9_proof 12 = .ok (.invokestatic 109, 3) := by decide +kernel
theorem dX9_proof_15 : decode cX9_proof 15 = .ok (.iload_n 2, 1) := by decide +kernel
theorem dX9_proof_16 : decode cX9_proof 16 = .ok (.invokestatic 109, 3) := by decide +kernel
theorem dX9_proof_19 : decode cX9_proof 19 = .ok (.ireturn, 1) := by decide +kernel
set_option maxRecDepth 20000 in
theorem ggX9_comesRetry_X9_in : GoodIn wsX9_comesRetry wsX9_in := goodIn_r _ [9] (by decide +kernel) (by decide +kernel)
set_option maxRecDepth 20000 in
theorem gX9_comesRetry_X9_in : GoodIn wsX9_comesRetry (va_wsS RX9 87 yX9_in wsX9_in) := goodIn_app (goodIn_of _ (by decide +kernel)) ggX9_comesRetry_X9_in
set_option maxRecDepth 20000 in
theorem ggX9_comesRetry_X9_has : GoodIn wsX9_comesRetry wsX9_has := goodIn_r _ [12] (by decide +kernel) (by decide +kernel)
set_option maxRecDepth 20000 in
theorem gX9_comesRetry_X9_has : GoodIn wsX9_comesRetry (va_wsS RX9 102 yX9_has wsX9_has) := goodIn_app (goodIn_of _ (by decide +kernel)) ggX9_comesRetry_X9_has
set_option maxRecDepth 20000 in
theorem ggX9_comesRetry_X9_fails : GoodIn wsX9_comesRetry wsX9_fails := goodIn_r _ [16, 17, 18, 63, 64, 65, 66, 67, 68, 69, 70, 71, 72, 73, 74, 75, 76, 77, 78, 79, 80, 81, 82, 83, 84, 85, 86, 87, 88, 89, 90, 91, 92, 93, 94, 95, 96, 97, 98, 99, 100, 101, 102, 103, 104, 105] (by decide +kernel) (by decide +kernel)
set_option maxRecDepth 20000 in
theorem gX9_comesRetry_X9_fails : GoodIn wsX9_comesRetry (wsV RX9 152 RX9 yX9_fails wsX9_fails) := goodIn_app (goodIn_of _ (by decide +kernel)) ggX9_comesRetry_X9_fails
set_option maxRecDepth 20000 in
theorem ggX9_comesRetry_X9_takes : GoodIn wsX9_comesRetry wsX9_takes := goodIn_r _ [22, 23, 1, 24, 25, 8, 26, 27, 63, 64, 65, 66, 67, 68, 69, 70, 71, 72, 73, 74, 75, 76, 77, 78, 79, 80, 81, 82, 83, 84, 85, 86, 87, 88, 89, 90, 91, 92, 93, 94, 95, 96, 97, 98, 99, 100, 101, 102, 103, 104, 105] (by decide +kernel) (by decide +kernel)
set_option maxRecDepth 20000 in
theorem gX9_comesRetry_X9_takes : GoodIn wsX9_comesRetry (wsV RX9 142 RX9 yX9_takes wsX9_takes) := goodIn_app (goodIn_of _ (by decide +kernel)) ggX9_comesRetry_X9_takes
set_option maxRecDepth 20000 in
theorem ggX9_comesRetry_X9_makesHello : GoodIn wsX9_comesRetry wsX9_makesHello := goodIn_r _ [31, 4, 32, 33, 34, 1, 35, 3, 36, 37, 23, 5, 38, 39, 40, 41, 8, 42, 43, 44, 45, 46, 47, 48, 49, 50, 51, 52, 53, 54, 55, 24, 25, 26, 27, 19, 20, 21, 22, 56, 57, 58, 59, 60, 61, 62, 63, 64, 65, 66, 67, 68, 69, 70, 71, 72, 73, 74, 75, 76, 77, 78, 79, 80, 81, 82, 83, 84, 85, 86, 87, 88, 89, 90, 91, 92, 93, 94, 95, 96, 97, 98, 99, 100, 101, 102, 103, 104, 105] (by decide +kernel) (by decide +kernel)
set_option maxRecDepth 20000 in
theorem gX9_comesRetry_X9_makesHello : GoodIn wsX9_comesRetry (wsV RX9 155 RX9 yX9_makesHello wsX9_makesHello) := goodIn_app (goodIn_of _ (by decide +kernel)) ggX9_comesRetry_X9_makesHello
theorem dX9_comesRetry_0 : decode cX9_comesRetry 0 = .ok (.aload_n 0, 1) := by decide +kernel
theorem dX9_comesRetry_1 : decode cX9_comesRetry 1 = .ok (.getfield 71, 3) := by decide +kernel
theorem dX9_comesRetry_4 : decode cX9_comesRetry 4 = .ok (.iconst 1, 1) := by decide +kernel
theorem dX9_comesRetry_5 : decode cX9_comesRetry 5 = .ok (.iaload, 1) := by decide +kernel
theorem dX9_comesRetry_6 : decode cX9_comesRetry 6 = .ok (.istore_n 1, 1) := by decide +kernel
theorem dX9_comesRetry_7 : decode cX9_comesRetry 7 = .ok (.iload_n 1, 1) := by decide +kernel
theorem dX9_comesRetry_8 : decode cX9_comesRetry 8 = .ok (.i2l, 1) := by decide +kernel
theorem dX9_comesRetry_9 : decode cX9_comesRetry 9 = .ok (.lconst 0, 1) := by decide +kernel
theorem dX9_comesRetry_10 : decode cX9_comesRetry 10 = .ok (.ldc2_w 100, 3) := by decide +kernel
theorem dX9_comesRetry_13 : decode cX9_comesRetry 13 = .ok (.invokestatic 87, 3) := by decide +kernel
theorem dX9_comesRetry_16 : decode cX9_comesRetry 16 = .ok (.ifCond .eq 31, 3) := by decide +kernel
theorem dX9_comesRetry_19 : decode cX9_comesRetry 19 = .ok (.aload_n 0, 1) := by decide +kernel
theorem dX9_comesRetry_20 : decode cX9_comesRetry 20 = .ok (.getfield 13, 3) := by decide +kernel
theorem dX9_comesRetry_23 : decode cX9_comesRetry 23 = .ok (.iconst 0, 1) := by decide +kernel
theorem dX9_comesRetry_24 : decode cX9_comesRetry 24 = .ok (.iaload, 1) := by decide +kernel
theorem dX9_comesRetry_25 : decode cX9_comesRetry 25 = .ok (.iload_n 1, 1) := by decide +kernel
theorem dX9_comesRetry_26 : decode cX9_comesRetry 26 = .ok (.invokestatic 102, 3) := by decide +kernel
theorem dX9_comesRetry_29 : decode cX9_comesRetry 29 = .ok (.ifCond .eq 18, 3) := by decide +kernel
theorem dX9_comesRetry_32 : decode cX9_comesRetry 32 = .ok (.iload_n 1, 1) := by decide +kernel
theorem dX9_comesRetry_33 : decode cX9_comesRetry 33 = .ok (.aload_n 0, 1) := by decide +kernel
theorem dX9_comesRetry_34 : decode cX9_comesRetry 34 = .ok (.getfield 120, 3) := by decide +kernel
theorem dX9_comesRetry_37 : decode cX9_comesRetry 37 = .ok (.if_icmp .eq 10, 3) := by decide +kernel
theorem dX9_comesRetry_40 : decode cX9_comesRetry 40 = .ok (.aload_n 0, 1) := by decide +kernel
theorem dX9_comesRetry_41 : decode cX9_comesRetry 41 = .ok (.getfield 139, 3) := by decide +kernel
theorem dX9_comesRetry_44 : decode cX9_comesRetry 44 = .ok (.ifCond .eq 10, 3) := by decide +kernel
theorem dX9_comesRetry_47 : decode cX9_comesRetry 47 = .ok (.aload_n 0, 1) := by decide +kernel
theorem dX9_comesRetry_48 : decode cX9_comesRetry 48 = .ok (.iconst 0, 1) := by decide +kernel
theorem dX9_comesRetry_49 : decode cX9_comesRetry 49 = .ok (.iconst 4, 1) := by decide +kernel
theorem dX9_comesRetry_50 : decode cX9_comesRetry 50 = .ok (.invokevirtual 152, 3) := by decide +kernel
theorem dX9_comesRetry_53 : decode cX9_comesRetry 53 = .ok (.return_, 1) := by decide +kernel
theorem dX9_comesRetry_54 : decode cX9_comesRetry 54 = .ok (.aload_n 0, 1) := by decide +kernel
theorem dX9_comesRetry_55 : decode cX9_comesRetry 55 = .ok (.iconst 0, 1) := by decide +kernel
theorem dX9_comesRetry_56 : decode cX9_comesRetry 56 = .ok (.bipush 8, 2) := by decide +kernel
theorem dX9_comesRetry_58 : decode cX9_comesRetry 58 = .ok (.invokevirtual 142, 3) := by decide +kernel
theorem dX9_comesRetry_61 : decode cX9_comesRetry 61 = .ok (.aload_n 0, 1) := by decide +kernel
theorem dX9_comesRetry_62 : decode cX9_comesRetry 62 = .ok (.iconst 1, 1) := by decide +kernel
theorem dX9_comesRetry_63 : decode cX9_comesRetry 63 = .ok (.putfield 139, 3) := by decide +kernel
theorem dX9_comesRetry_66 : decode cX9_comesRetry 66 = .ok (.aload_n 0, 1) := by decide +kernel
theorem dX9_comesRetry_67 : decode cX9_comesRetry 67 = .ok (.iload_n 1, 1) := by decide +kernel
theorem dX9_comesRetry_68 : decode cX9_comesRetry 68 = .ok (.invokevirtual 155, 3) := by decide +kernel
theorem dX9_comesRetry_71 : decode cX9_comesRetry 71 = .ok (.return_, 1) := by decide +kernel
set_option maxRecDepth 20000 in
theorem ggX9_comesGreeting_X9_hasVersion : GoodIn wsX9_comesGreeting wsX9_hasVersion := goodIn_r _ [14, 15, 16, 17, 13, 18, 19, 20, 21] (by decide +kernel) (by decide +kernel)
set_option maxRecDepth 20000 in
theorem gX9_comesGreeting_X9_hasVersion : GoodIn wsX9_comesGreeting (va_wsS RX9 106 yX9_hasVersion wsX9_hasVersion) := goodIn_app (goodIn_of _ (by decide +kernel)) ggX9_comesGreeting_X9_hasVersion
set_option maxRecDepth 20000 in
theorem ggX9_comesGreeting_X9_hasAbove : GoodIn wsX9_comesGreeting wsX9_hasAbove := goodIn_r _ [24, 11, 12, 13, 14, 15, 16, 17, 18, 19, 20, 21] (by decide +kernel) (by decide +kernel)
set_option maxRecDepth 20000 in
theorem gX9_comesGreeting_X9_hasAbove : GoodIn wsX9_comesGreeting (va_wsS RX9 158 yX9_hasAbove wsX9_hasAbove) := goodIn_app (goodIn_of _ (by decide +kernel)) ggX9_comesGreeting_X9_hasAbove
set_option maxRecDepth 20000 in
theorem ggX9_comesGreeting_X9_prime : GoodIn wsX9_comesGreeting wsX9_prime := goodIn_r _ [27] (by decide +kernel) (by decide +kernel)
set_option maxRecDepth 20000 in
theorem gX9_comesGreeting_X9_prime : GoodIn wsX9_comesGreeting (va_wsS RX9 92 yX9_prime wsX9_prime) := goodIn_app (goodIn_of _ (by decide +kernel)) ggX9_comesGreeting_X9_prime
set_option maxRecDepth 20000 in
theorem ggX9_comesGreeting_X9_in : GoodIn wsX9_comesGreeting wsX9_in := goodIn_r _ [18] (by decide +kernel) (by decide +kernel)
set_option maxRecDepth 20000 in
theorem gX9_comesGreeting_X9_in : GoodIn wsX9_comesGreeting (va_wsS RX9 87 yX9_in wsX9_in) := goodIn_app (goodIn_of _ (by decide +kernel)) ggX9_comesGreeting_X9_in
set_option maxRecDepth 20000 in
theorem ggX9_comesGreeting_X9_fails : GoodIn wsX9_comesGreeting wsX9_fails := goodIn_r _ [31, 32, 33, 70, 71, 72, 73, 74, 75, 76, 77, 78, 79, 80, 81, 82, 83, 84, 85, 86, 87, 88, 89, 90, 91, 92, 93, 94, 95, 96, 97, 98, 99, 100, 101, 102, 103, 104, 105, 106, 107, 108, 109, 110, 111, 112] (by decide +kernel) (by decide +kernel)
set_option maxRecDepth 20000 in
theorem gX9_comesGreeting_X9_fails : GoodIn wsX9_comesGreeting (wsV RX9 152 RX9 yX9_fails wsX9_fails) := goodIn_app (goodIn_of _ (by decide +kernel)) ggX9_comesGreeting_X9_fails
set_option maxRecDepth 20000 in
theorem ggX9_comesGreeting_X9_power : GoodIn wsX9_comesGreeting wsX9_power := goodIn_r _ [36] (by decide +kernel) (by decide +kernel)
set_option maxRecDepth 20000 in
theorem gX9_comesGreeting_X9_power : GoodIn wsX9_comesGreeting (va_wsS RX9 96 yX9_power wsX9_power) := goodIn_app (goodIn_of _ (by decide +kernel)) ggX9_comesGreeting_X9_power
set_option maxRecDepth 20000 in
theorem ggX9_comesGreeting_X9_keyOf : GoodIn wsX9_comesGreeting wsX9_keyOf := goodIn_r _ [39, 40, 41, 13, 42, 43] (by decide +kernel) (by decide +kernel)
set_option maxRecDepth 20000 in
theorem gX9_comesGreeting_X9_keyOf : GoodIn wsX9_comesGreeting (va_wsS RX9 161 yX9_keyOf wsX9_keyOf) := goodIn_app (goodIn_of _ (by decide +kernel)) ggX9_comesGreeting_X9_keyOf
set_option maxRecDepth 20000 in
theorem ggX9_comesGreeting_X9_takes : GoodIn wsX9_comesGreeting wsX9_takes := goodIn_r _ [47, 48, 1, 40, 41, 13, 42, 43, 70, 71, 72, 73, 74, 75, 76, 77, 78, 79, 80, 81, 82, 83, 84, 85, 86, 87, 88, 89, 90, 91, 92, 93, 94, 95, 96, 97, 98, 99, 100, 101, 102, 103, 104, 105, 106, 107, 108, 109, 110, 111, 112] (by decide +kernel) (by decide +kernel)
set_option maxRecDepth 20000 in
theorem gX9_comesGreeting_X9_takes : GoodIn wsX9_comesGreeting (wsV RX9 142 RX9 yX9_takes wsX9_takes) := goodIn_app (goodIn_of _ (by decide +kernel)) ggX9_comesGreeting_X9_takes
set_option maxRecDepth 20000 in
theorem ggX9_comesGreeting_X9_proof : GoodIn wsX9_comesGreeting wsX9_proof := goodIn_r _ [52, 5, 48, 40, 41, 13, 42, 43, 70, 71, 72, 73, 74, 75, 76, 77, 78, 79, 80, 81, 82, 83, 84, 85, 86, 87, 88, 89, 90, 91, 92, 93, 94, 95, 96, 97, 98, 99, 100, 101, 102, 103, 104, 105, 106, 107, 108, 109, 110, 111, 112] (by decide +kernel) (by decide +kernel)
set_option maxRecDepth 20000 in
theorem gX9_comesGreeting_X9_proof : GoodIn wsX9_comesGreeting (wsV RX9 164 RX9 yX9_proof wsX9_proof) := goodIn_app (goodIn_of _ (by decide +kernel)) ggX9_comesGreeting_X9_proof
set_option maxRecDepth 20000 in
theorem ggX9_comesGreeting_X9_clears : GoodIn wsX9_comesGreeting wsX9_clears := goodIn_r _ [56, 1, 70, 71, 72, 73, 74, 75, 76, 77, 78, 79, 80, 81, 82, 83, 84, 85, 86, 87, 88, 89, 90, 91, 92, 93, 94, 95, 96, 97, 98, 99, 100, 101, 102, 103, 104, 105, 106, 107, 108, 109, 110, 111, 112] (by decide +kernel) (by decide +kernel)
set_option maxRecDepth 20000 in
theorem gX9_comesGreeting_X9_clears : GoodIn wsX9_comesGreeting (wsV RX9 116 RX9 yX9_clears wsX9_clears) := goodIn_app (goodIn_of _ (by decide +kernel)) ggX9_comesGreeting_X9_clears
set_option maxRecDepth 20000 in
theorem ggX9_comesGreeting_X9_sends : GoodIn wsX9_comesGreeting wsX9_sends := goodIn_r _ [60, 61, 62, 63, 1, 70, 71, 72, 73, 74, 75, 76, 77, 78, 79, 80, 81, 82, 83, 84, 85, 86, 87, 88, 89, 90, 91, 92, 93, 94, 95, 96, 97, 98, 99, 100, 101, 102, 103, 104, 105, 106, 107, 108, 109, 110, 111, 112] (by decide +kernel) (by decide +kernel)
set_option maxRecDepth 20000 in
theorem gX9_comesGreeting_X9_sends : GoodIn wsX9_comesGreeting (wsV RX9 146 RX9 yX9_sends wsX9_sends) := goodIn_app (goodIn_of _ (by decide +kernel)) ggX9_comesGreeting_X9_sends
set_option maxRecDepth 20000 in
theorem ggX9_comesGreeting_X9_joins : GoodIn wsX9_comesGreeting wsX9_joins := goodIn_r _ [67, 32, 68, 69, 70, 71, 72, 73, 74, 75, 76, 77, 78, 79, 80, 81, 82, 83, 84, 85, 86, 87, 88, 89, 90, 91, 92, 93, 94, 95, 96, 97, 98, 99, 100, 101, 102, 103, 104, 105, 106, 107, 108, 109, 110, 111, 112] (by decide +kernel) (by decide +kernel)
set_option maxRecDepth 20000 in
theorem gX9_comesGreeting_X9_joins : GoodIn wsX9_comesGreeting (wsV RX9 167 RX9 yX9_joins wsX9_joins) := goodIn_app (goodIn_of _ (by decide +kernel)) ggX9_comesGreeting_X9_joins
theorem dX9_comesGreeting_0 : decode cX9_comesGreeting 0 = .ok (.aload_n 0, 1) := by decide +kernel
theorem dX9_comesGreeting_1 : decode cX9_comesGreeting 1 = .ok (.getfield 71, 3) := by decide +kernel
theorem dX9_comesGreeting_4 : decode cX9_comesGreeting 4 = .ok (.iconst 1, 1) := by decide +kernel
theorem dX9_comesGreeting_5 : decode cX9_comesGreeting 5 = .ok (.iaload, 1) := by decide +kernel
theorem dX9_comesGreeting_6 : decode cX9_comesGreeting 6 = .ok (.istore_n 1, 1) := by decide +kernel
theorem dX9_comesGreeting_7 : decode cX9_comesGreeting 7 = .ok (.aload_n 0, 1) := by decide +kernel
theorem dX9_comesGreeting_8 : decode cX9_comesGreeting 8 = .ok (.getfield 7, 3) := by decide +kernel
theorem dX9_comesGreeting_11 : decode cX9_comesGreeting 11 = .ok (.iconst 0, 1) := by decide +kernel
theorem dX9_comesGreeting_12 : decode cX9_comesGreeting 12 = .ok (.iaload, 1) := by decide +kernel
theorem dX9_comesGreeting_13 : decode cX9_comesGreeting 13 = .ok (.iload_n 1, 1) := by decide +kernel
theorem dX9_comesGreeting_14 : decode cX9_comesGreeting 14 = .ok (.invokestatic 106, 3) := by decide +kernel
theorem dX9_comesGreeting_17 : decode cX9_comesGreeting 17 = .ok (.ifCond .ne 7, 3) := by decide +kernel
theorem dX9_comesGreeting_20 : decode cX9_comesGreeting 20 = .ok (.iconst 2, 1) := by decide +kernel
theorem dX9_comesGreeting_21 : decode cX9_comesGreeting 21 = .ok (.goto 97, 3) := by decide +kernel
theorem dX9_comesGreeting_24 : decode cX9_comesGreeting 24 = .ok (.aload_n 0, 1) := by decide +kernel
theorem dX9_comesGreeting_25 : decode cX9_comesGreeting 25 = .ok (.getfield 71, 3) := by decide +kernel
theorem dX9_comesGreeting_28 : decode cX9_comesGreeting 28 = .ok (.iconst 2, 1) := by decide +kernel
theorem dX9_comesGreeting_29 : decode cX9_comesGreeting 29 = .ok (.iaload, 1) := by decide +kernel
theorem dX9_comesGreeting_30 : decode cX9_comesGreeting 30 = .ok (.aload_n 0, 1) := by decide +kernel
theorem dX9_comesGreeting_31 : decode cX9_comesGreeting 31 = .ok (.getfield 120, 3) := by decide +kernel
theorem dX9_comesGreeting_34 : decode cX9_comesGreeting 34 = .ok (.if_icmp .eq 7, 3) := by decide +kernel
theorem dX9_comesGreeting_37 : decode cX9_comesGreeting 37 = .ok (.iconst 4, 1) := by decide +kernel
theorem dX9_comesGreeting_38 : decode cX9_comesGreeting 38 = .ok (.goto 80, 3) := by decide +kernel
theorem dX9_comesGreeting_41 : decode cX9_comesGreeting 41 = .ok (.aload_n 0, 1) := by decide +kernel
theorem dX9_comesGreeting_42 : decode cX9_comesGreeting 42 = .ok (.getfield 71, 3) := by decide +kernel
theorem dX9_comesGreeting_45 : decode cX9_comesGreeting 45 = .ok (.iconst 4, 1) := by decide +kernel
theorem dX9_comesGreeting_46 : decode cX9_comesGreeting 46 = .ok (.iaload, 1) := by decide +kernel
theorem dX9_comesGreeting_47 : decode cX9_comesGreeting 47 = .ok (.ifCond .eq 21, 3) := by decide +kernel
theorem dX9_comesGreeting_50 : decode cX9_comesGreeting 50 = .ok (.aload_n 0, 1) := by decide +kernel
theorem dX9_comesGreeting_51 : decode cX9_comesGreeting 51 = .ok (.getfield 7, 3) := by decide +kernel
theorem dX9_comesGreeting_54 : decode cX9_comesGreeting 54 = .ok (.iconst 0, 1) := by decide +kernel
theorem dX9_comesGreeting_55 : decode cX9_comesGreeting 55 = .ok (.iaload, 1) := by decide +kernel
theorem dX9_comesGreeting_56 : decode cX9_comesGreeting 56 = .ok (.iload_n 1, 1) := by decide +kernel
theorem dX9_comesGreeting_57 : decode cX9_comesGreeting 57 = .ok (.invokestatic 158, 3) := by decide +kernel
theorem dX9_comesGreeting_60 : decode cX9_comesGreeting 60 = .ok (.ifCond .eq 8, 3) := by decide +kernel
theorem dX9_comesGreeting_63 : decode cX9_comesGreeting 63 = .ok (.bipush 7, 2) := by decide +kernel
theorem dX9_comesGreeting_65 : decode cX9_comesGreeting 65 = .ok (.goto 53, 3) := by decide +kernel
theorem dX9_comesGreeting_68 : decode cX9_comesGreeting 68 = .ok (.aload_n 0, 1) := by decide +kernel
theorem dX9_comesGreeting_69 : decode cX9_comesGreeting 69 = .ok (.getfield 71, 3) := by decide +kernel
theorem dX9_comesGreeting_72 : decode cX9_comesGreeting 72 = .ok (.iconst 3, 1) := by decide +kernel
theorem dX9_comesGreeting_73 : decode cX9_comesGreeting 73 = .ok (.iaload, 1) := by decide +kernel
theorem dX9_comesGreeting_74 : decode cX9_comesGreeting 74 = .ok (.i2l, 1) := by decide +kernel
theorem dX9_comesGreeting_75 : decode cX9_comesGreeting 75 = .ok (.lconst 1, 1) := by decide +kernel
theorem dX9_comesGreeting_76 : decode cX9_comesGreeting 76 = .ok (.aload_n 0, 1) := by decide +kernel
theorem dX9_comesGreeting_77 : decode cX9_comesGreeting 77 = .ok (.getfield 120, 3) := by decide +kernel
theorem dX9_comesGreeting_80 : decode cX9_comesGreeting 80 = .ok (.invokestatic 92, 3) := by decide +kernel
theorem dX9_comesGreeting_83 : decode cX9_comesGreeting 83 = .ok (.iconst 1, 1) := by decide +kernel
theorem dX9_comesGreeting_84 : decode cX9_comesGreeting 84 = .ok (.isub, 1) := by decide +kernel
theorem dX9_comesGreeting_85 : decode cX9_comesGreeting 85 = .ok (.i2l, 1) := by decide +kernel
theorem dX9_comesGreeting_86 : decode cX9_comesGreeting 86 = .ok (.invokestatic 87, 3) := by decide +kernel
theorem dX9_comesGreeting_89 : decode cX9_comesGreeting 89 = .ok (.ifCond .ne 7, 3) := by decide +kernel
theorem dX9_comesGreeting_92 : decode cX9_comesGreeting 92 = .ok (.iconst 5, 1) := by decide +kernel
theorem dX9_comesGreeting_93 : decode cX9_comesGreeting 93 = .ok (.goto 25, 3) := by decide +kernel
theorem dX9_comesGreeting_96 : decode cX9_comesGreeting 96 = .ok (.aload_n 0, 1) := by decide +kernel
theorem dX9_comesGreeting_97 : decode cX9_comesGreeting 97 = .ok (.getfield 71, 3) := by decide +kernel
theorem dX9_comesGreeting_100 : decode cX9_comesGreeting 100 = .ok (.iconst 5, 1) := by decide +kernel
theorem dX9_comesGreeting_101 : decode cX9_comesGreeting 101 = .ok (.iaload, 1) := by decide +kernel
theorem dX9_comesGreeting_102 : decode cX9_comesGreeting 102 = .ok (.ifCond .eq 15, 3) := by decide +kernel
theorem dX9_comesGreeting_105 : decode cX9_comesGreeting 105 = .ok (.aload_n 0, 1) := by decide +kernel
theorem dX9_comesGreeting_106 : decode cX9_comesGreeting 106 = .ok (.getfield 123, 3) := by decide +kernel
theorem dX9_comesGreeting_109 : decode cX9_comesGreeting 109 = .ok (.ifCond .ne 8, 3) := by decide +kernel
theorem dX9_comesGreeting_112 : decode cX9_comesGreeting 112 = .ok (.bipush 6, 2) := by decide +kernel
theorem dX9_comesGreeting_114 : decode cX9_comesGreeting 114 = .ok (.goto 4, 3) := by decide +kernel
theorem dX9_comesGreeting_117 : decode cX9_comesGreeting 117 = .ok (.iconst 0, 1) := by decide +kernel
theorem dX9_comesGreeting_118 : decode cX9_comesGreeting 118 = .ok (.istore_n 2, 1) := by decide +kernel
theorem dX9_comesGreeting_119 : decode cX9_comesGreeting 119 = .ok (.iload_n 2, 1) := by decide +kernel
theorem dX9_comesGreeting_120 : decode cX9_comesGreeting 120 = .ok (.ifCond .le 10, 3) := by decide +kernel
theorem dX9_comesGreeting_123 : decode cX9_comesGreeting 123 = .ok (.aload_n 0, 1) := by decide +kernel
theorem dX9_comesGreeting_124 : decode cX9_comesGreeting 124 = .ok (.iconst 0, 1) := by decide +kernel
theorem dX9_comesGreeting_125 : decode cX9_comesGreeting 125 = .ok (.iload_n 2, 1) := by decide +kernel
theorem dX9_comesGreeting_126 : decode cX9_comesGreeting 126 = .ok (.invokevirtual 152, 3) := by decide +kernel
theorem dX9_comesGreeting_129 : decode cX9_comesGreeting 129 = .ok (.return_, 1) := by decide +kernel
theorem dX9_comesGreeting_130 : decode cX9_comesGreeting 130 = .ok (.aload_n 0, 1) := by decide +kernel
theorem dX9_comesGreeting_131 : decode cX9_comesGreeting 131 = .ok (.getfield 37, 3) := by decide +kernel
theorem dX9_comesGreeting_134 : decode cX9_comesGreeting 134 = .ok (.iconst 0, 1) := by decide +kernel
theorem dX9_comesGreeting_135 : decode cX9_comesGreeting 135 = .ok (.aload_n 0, 1) := by decide +kernel
theorem dX9_comesGreeting_136 : decode cX9_comesGreeting 136 = .ok (.getfield 71, 3) := by decide +kernel
theorem dX9_comesGreeting_139 : decode cX9_comesGreeting 139 = .ok (.iconst 3, 1) := by decide +kernel
theorem dX9_comesGreeting_140 : decode cX9_comesGreeting 140 = .ok (.iaload, 1) := by decide +kernel
theorem dX9_comesGreeting_141 : decode cX9_comesGreeting 141 = .ok (.aload_n 0, 1) := by decide +kernel
theorem dX9_comesGreeting_142 : decode cX9_comesGreeting 142 = .ok (.getfield 16, 3) := by decide +kernel
theorem dX9_comesGreeting_145 : decode cX9_comesGreeting 145 = .ok (.iconst 0, 1) := by decide +kernel
theorem dX9_comesGreeting_146 : decode cX9_comesGreeting 146 = .ok (.iaload, 1) := by decide +kernel
theorem dX9_comesGreeting_147 : decode cX9_comesGreeting 147 = .ok (.aload_n 0, 1) := by decide +kernel
theorem dX9_comesGreeting_148 : decode cX9_comesGreeting 148 = .ok (.getfield 120, 3) := by decide +kernel
theorem dX9_comesGreeting_151 : decode cX9_comesGreeting 151 = .ok (.invokestatic 92, 3) := by decide +kernel
theorem dX9_comesGreeting_154 : decode cX9_comesGreeting 154 = .ok (.invokestatic 96, 3) := by decide +kernel
theorem dX9_comesGreeting_157 : decode cX9_comesGreeting 157 = .ok (.aload_n 0, 1) := by decide +kernel
theorem dX9_comesGreeting_158 : decode cX9_comesGreeting 158 = .ok (.getfield 71, 3) := by decide +kernel
theorem dX9_comesGreeting_161 : decode cX9_comesGreeting 161 = .ok (.iconst 5, 1) := by decide +kernel
theorem dX9_comesGreeting_162 : decode cX9_comesGreeting 162 = .ok (.iaload, 1) := by decide +kernel
theorem dX9_comesGreeting_163 : decode cX9_comesGreeting 163 = .ok (.ifCond .eq 10, 3) := by decide +kernel
theorem dX9_comesGreeting_166 : decode cX9_comesGreeting 166 = .ok (.aload_n 0, 1) := by decide +kernel
theorem dX9_comesGreeting_167 : decode cX9_comesGreeting 167 = .ok (.getfield 127, 3) := by decide +kernel
theorem dX9_comesGreeting_170 : decode cX9_comesGreeting 170 = .ok (.goto 4, 3) := by decide +kernel
theorem dX9_comesGreeting_173 : decode cX9_comesGreeting 173 = .ok (.iconst 0, 1) := by decide +kernel
theorem dX9_comesGreeting_174 : decode cX9_comesGreeting 174 = .ok (.invokestatic 161, 3) := by decide +kernel
theorem dX9_comesGreeting_177 : decode cX9_comesGreeting 177 = .ok (.iastore, 1) := by decide +kernel
theorem dX9_comesGreeting_178 : decode cX9_comesGreeting 178 = .ok (.aload_n 0, 1) := by decide +kernel
theorem dX9_comesGreeting_179 : decode cX9_comesGreeting 179 = .ok (.iconst 0, 1) := by decide +kernel
theorem dX9_comesGreeting_180 : decode cX9_comesGreeting 180 = .ok (.bipush 6, 2) := by decide +kernel
theorem dX9_comesGreeting_182 : decode cX9_comesGreeting 182 = .ok (.invokevirtual 142, 3) := by decide +kernel
theorem dX9_comesGreeting_185 : decode cX9_comesGreeting 185 = .ok (.aload_n 0, 1) := by decide +kernel
theorem dX9_comesGreeting_186 : decode cX9_comesGreeting 186 = .ok (.getfield 71, 3) := by decide +kernel
theorem dX9_comesGreeting_189 : decode cX9_comesGreeting 189 = .ok (.bipush 7, 2) := by decide +kernel
theorem dX9_comesGreeting_191 : decode cX9_comesGreeting 191 = .ok (.iaload, 1) := by decide +kernel
theorem dX9_comesGreeting_192 : decode cX9_comesGreeting 192 = .ok (.aload_n 0, 1) := by decide +kernel
theorem dX9_comesGreeting_193 : decode cX9_comesGreeting 193 = .ok (.iconst 0, 1) := by decide +kernel
theorem dX9_comesGreeting_194 : decode cX9_comesGreeting 194 = .ok (.iconst 1, 1) := by decide +kernel
theorem dX9_comesGreeting_195 : decode cX9_comesGreeting 195 = .ok (.invokevirtual 164, 3) := by decide +kernel
theorem dX9_comesGreeting_198 : decode cX9_comesGreeting 198 = .ok (.if_icmp .eq 11, 3) := by decide +kernel
theorem dX9_comesGreeting_201 : decode cX9_comesGreeting 201 = .ok (.aload_n 0, 1) := by decide +kernel
theorem dX9_comesGreeting_202 : decode cX9_comesGreeting 202 = .ok (.iconst 0, 1) := by decide +kernel
theorem dX9_comesGreeting_203 : decode cX9_comesGreeting 203 = .ok (.bipush 8, 2) := by decide +kernel
theorem dX9_comesGreeting_205 : decode cX9_comesGreeting 205 = .ok (.invokevirtual 152, 3) := by decide +kernel
theorem dX9_comesGreeting_208 : decode cX9_comesGreeting 208 = .ok (.return_, 1) := by decide +kernel
theorem dX9_comesGreeting_209 : decode cX9_comesGreeting 209 = .ok (.aload_n 0, 1) := by decide +kernel
theorem dX9_comesGreeting_210 : decode cX9_comesGreeting 210 = .ok (.getfield 28, 3) := by decide +kernel
theorem dX9_comesGreeting_213 : decode cX9_comesGreeting 213 = .ok (.iconst 0, 1) := by decide +kernel
theorem dX9_comesGreeting_214 : decode cX9_comesGreeting 214 = .ok (.iload_n 1, 1) := by decide +kernel
theorem dX9_comesGreeting_215 : decode cX9_comesGreeting 215 = .ok (.iastore, 1) := by decide +kernel
theorem dX9_comesGreeting_216 : decode cX9_comesGreeting 216 = .ok (.aload_n 0, 1) := by decide +kernel
theorem dX9_comesGreeting_217 : decode cX9_comesGreeting 217 = .ok (.getfield 31, 3) := by decide +kernel
theorem dX9_comesGreeting_220 : decode cX9_comesGreeting 220 = .ok (.iconst 0, 1) := by decide +kernel
theorem dX9_comesGreeting_221 : decode cX9_comesGreeting 221 = .ok (.aload_n 0, 1) := by decide +kernel
theorem dX9_comesGreeting_222 : decode cX9_comesGreeting 222 = .ok (.getfield 120, 3) := by decide +kernel
theorem dX9_comesGreeting_225 : decode cX9_comesGreeting 225 = .ok (.iastore, 1) := by decide +kernel
theorem dX9_comesGreeting_226 : decode cX9_comesGreeting 226 = .ok (.aload_n 0, 1) := by decide +kernel
theorem dX9_comesGreeting_227 : decode cX9_comesGreeting 227 = .ok (.getfield 34, 3) := by decide +kernel
theorem dX9_comesGreeting_230 : decode cX9_comesGreeting 230 = .ok (.iconst 0, 1) := by decide +kernel
theorem dX9_comesGreeting_231 : decode cX9_comesGreeting 231 = .ok (.aload_n 0, 1) := by decide +kernel
theorem dX9_comesGreeting_232 : decode cX9_comesGreeting 232 = .ok (.getfield 71, 3) := by decide +kernel
theorem dX9_comesGreeting_235 : decode cX9_comesGreeting 235 = .ok (.iconst 5, 1) := by decide +kernel
theorem dX9_comesGreeting_236 : decode cX9_comesGreeting 236 = .ok (.iaload, 1) := by decide +kernel
theorem dX9_comesGreeting_237 : decode cX9_comesGreeting 237 = .ok (.ifCond .eq 7, 3) := by decide +kernel
theorem dX9_comesGreeting_240 : decode cX9_comesGreeting 240 = .ok (.iconst 1, 1) := by decide +kernel
theorem dX9_comesGreeting_241 : decode cX9_comesGreeting 241 = .ok (.goto 4, 3) := by decide +kernel
theorem dX9_comesGreeting_244 : decode cX9_comesGreeting 244 = .ok (.iconst 0, 1) := by decide +kernel
theorem dX9_comesGreeting_245 : decode cX9_comesGreeting 245 = .ok (.iastore, 1) := by decide +kernel
theorem dX9_comesGreeting_246 : decode cX9_comesGreeting 246 = .ok (.aload_n 0, 1) := by decide +kernel
theorem dX9_comesGreeting_247 : decode cX9_comesGreeting 247 = .ok (.iconst 4, 1) := by decide +kernel
theorem dX9_comesGreeting_248 : decode cX9_comesGreeting 248 = .ok (.invokevirtual 116, 3) := by decide +kernel
theorem dX9_comesGreeting_251 : decode cX9_comesGreeting 251 = .ok (.aload_n 0, 1) := by decide +kernel
theorem dX9_comesGreeting_252 : decode cX9_comesGreeting 252 = .ok (.getfield 71, 3) := by decide +kernel
theorem dX9_comesGreeting_255 : decode cX9_comesGreeting 255 = .ok (.iconst 1, 1) := by decide +kernel
theorem dX9_comesGreeting_256 : decode cX9_comesGreeting 256 = .ok (.aload_n 0, 1) := by decide +kernel
theorem dX9_comesGreeting_257 : decode cX9_comesGreeting 257 = .ok (.iconst 0, 1) := by decide +kernel
theorem dX9_comesGreeting_258 : decode cX9_comesGreeting 258 = .ok (.iconst 2, 1) := by decide +kernel
theorem dX9_comesGreeting_259 : decode cX9_comesGreeting 259 = .ok (.invokevirtual 164, 3) := by decide +kernel
theorem dX9_comesGreeting_262 : decode cX9_comesGreeting 262 = .ok (.iastore, 1) := by decide +kernel
theorem dX9_comesGreeting_263 : decode cX9_comesGreeting 263 = .ok (.aload_n 0, 1) := by decide +kernel
theorem dX9_comesGreeting_264 : decode cX9_comesGreeting 264 = .ok (.iconst 1, 1) := by decide +kernel
theorem dX9_comesGreeting_265 : decode cX9_comesGreeting 265 = .ok (.invokevirtual 146, 3) := by decide +kernel
theorem dX9_comesGreeting_268 : decode cX9_comesGreeting 268 = .ok (.aload_n 0, 1) := by decide +kernel
theorem dX9_comesGreeting_269 : decode cX9_comesGreeting 269 = .ok (.iconst 0, 1) := by decide +kernel
theorem dX9_comesGreeting_270 : decode cX9_comesGreeting 270 = .ok (.invokevirtual 167, 3) := by decide +kernel
theorem dX9_comesGreeting_273 : decode cX9_comesGreeting 273 = .ok (.return_, 1) := by decide +kernel
set_option maxRecDepth 20000 in
theorem ggX9_comesTicket_X9_mainOf : GoodIn wsX9_comesTicket wsX9_mainOf := goodIn_r _ [8, 9, 10, 11, 12, 7, 13, 14, 15, 16, 17, 18, 19, 20, 21, 22, 23, 24, 25, 26, 27, 28, 29, 30, 31, 32, 33, 34, 35, 36, 37, 38, 39, 40, 41, 42, 43, 44, 45, 46, 47, 48, 49, 50, 51, 52, 53, 54, 55, 56, 57] (by decide +kernel) (by decide +kernel)
set_option maxRecDepth 20000 in
theorem gX9_comesTicket_X9_mainOf : GoodIn wsX9_comesTicket (wsV RX9 149 RX9 yX9_mainOf wsX9_mainOf) := goodIn_app (goodIn_of _ (by decide +kernel)) ggX9_comesTicket_X9_mainOf
set_option maxRecDepth 20000 in
theorem ggX9_comesTicket_X9_mix : GoodIn wsX9_comesTicket wsX9_mix := goodIn_r _ [13, 14] (by decide +kernel) (by decide +kernel)
set_option maxRecDepth 20000 in
theorem gX9_comesTicket_X9_mix : GoodIn wsX9_comesTicket (va_wsS RX9 109 yX9_mix wsX9_mix) := goodIn_app (goodIn_of _ (by decide +kernel)) ggX9_comesTicket_X9_mix
theorem dX9_comesTicket_0 : decode cX9_comesTicket 0 = .ok (.aload_n 0, 1) := by decide +kernel
theorem dX9_comesTicket_1 : decode cX9_comesTicket 1 = .ok (.getfield 50, 3) := by decide +kernel
theorem dX9_comesTicket_4 : decode cX9_comesTicket 4 = .ok (.iconst 0, 1) := by decide +kernel
theorem dX9_comesTicket_5 : decode cX9_comesTicket 5 = .ok (.iconst 1, 1) := by decide +kernel
theorem dX9_comesTicket_6 : decode cX9_comesTicket 6 = .ok (.iastore, 1) := by decide +kernel
theorem dX9_comesTicket_7 : decode cX9_comesTicket 7 = .ok (.aload_n 0, 1) := by decide +kernel
theorem dX9_comesTicket_8 : decode cX9_comesTicket 8 = .ok (.getfield 50, 3) := by decide +kernel
theorem dX9_comesTicket_11 : decode cX9_comesTicket 11 = .ok (.iconst 1, 1) := by decide +kernel
theorem dX9_comesTicket_12 : decode cX9_comesTicket 12 = .ok (.aload_n 0, 1) := by decide +kernel
theorem dX9_comesTicket_13 : decode cX9_comesTicket 13 = .ok (.getfield 71, 3) := by decide +kernel
theorem dX9_comesTicket_16 : decode cX9_comesTicket 16 = .ok (.iconst 1, 1) := by decide +kernel
theorem dX9_comesTicket_17 : decode cX9_comesTicket 17 = .ok (.iaload, 1) := by decide +kernel
theorem dX9_comesTicket_18 : decode cX9_comesTicket 18 = .ok (.iastore, 1) := by decide +kernel
theorem dX9_comesTicket_19 : decode cX9_comesTicket 19 = .ok (.aload_n 0, 1) := by decide +kernel
theorem dX9_comesTicket_20 : decode cX9_comesTicket 20 = .ok (.getfield 50, 3) := by decide +kernel
theorem dX9_comesTicket_23 : decode cX9_comesTicket 23 = .ok (.iconst 2, 1) := by decide +kernel
theorem dX9_comesTicket_24 : decode cX9_comesTicket 24 = .ok (.aload_n 0, 1) := by decide +kernel
theorem dX9_comesTicket_25 : decode cX9_comesTicket 25 = .ok (.getfield 71, 3) := by decide +kernel
theorem dX9_comesTicket_28 : decode cX9_comesTicket 28 = .ok (.iconst 3, 1) := by decide +kernel
theorem dX9_comesTicket_29 : decode cX9_comesTicket 29 = .ok (.iaload, 1) := by decide +kernel
theorem dX9_comesTicket_30 : decode cX9_comesTicket 30 = .ok (.iastore, 1) := by decide +kernel
theorem dX9_comesTicket_31 : decode cX9_comesTicket 31 = .ok (.aload_n 0, 1) := by decide +kernel
theorem dX9_comesTicket_32 : decode cX9_comesTicket 32 = .ok (.getfield 50, 3) := by decide +kernel
theorem dX9_comesTicket_35 : decode cX9_comesTicket 35 = .ok (.iconst 3, 1) := by decide +kernel
theorem dX9_comesTicket_36 : decode cX9_comesTicket 36 = .ok (.aload_n 0, 1) := by decide +kernel
theorem dX9_comesTicket_37 : decode cX9_comesTicket 37 = .ok (.getfield 133, 3) := by decide +kernel
theorem dX9_comesTicket_40 : decode cX9_comesTicket 40 = .ok (.iastore, 1) := by decide +kernel
theorem dX9_comesTicket_41 : decode cX9_comesTicket 41 = .ok (.aload_n 0, 1) := by decide +kernel
theorem dX9_comesTicket_42 : decode cX9_comesTicket 42 = .ok (.getfield 50, 3) := by decide +kernel
theorem dX9_comesTicket_45 : decode cX9_comesTicket 45 = .ok (.iconst 4, 1) := by decide +kernel
theorem dX9_comesTicket_46 : decode cX9_comesTicket 46 = .ok (.aload_n 0, 1) := by decide +kernel
theorem dX9_comesTicket_47 : decode cX9_comesTicket 47 = .ok (.iconst 0, 1) := by decide +kernel
theorem dX9_comesTicket_48 : decode cX9_comesTicket 48 = .ok (.invokevirtual 149, 3) := by decide +kernel
theorem dX9_comesTicket_51 : decode cX9_comesTicket 51 = .ok (.aload_n 0, 1) := by decide +kernel
theorem dX9_comesTicket_52 : decode cX9_comesTicket 52 = .ok (.getfield 71, 3) := by decide +kernel
theorem dX9_comesTicket_55 : decode cX9_comesTicket 55 = .ok (.iconst 1, 1) := by decide +kernel
theorem dX9_comesTicket_56 : decode cX9_comesTicket 56 = .ok (.iaload, 1) := by decide +kernel
theorem dX9_comesTicket_57 : decode cX9_comesTicket 57 = .ok (.invokestatic 109, 3) := by decide +kernel
theorem dX9_comesTicket_60 : decode cX9_comesTicket 60 = .ok (.iastore, 1) := by decide +kernel
theorem dX9_comesTicket_61 : decode cX9_comesTicket 61 = .ok (.aload_n 0, 1) := by decide +kernel
theorem dX9_comesTicket_62 : decode cX9_comesTicket 62 = .ok (.getfield 50, 3) := by decide +kernel
theorem dX9_comesTicket_65 : decode cX9_comesTicket 65 = .ok (.iconst 5, 1) := by decide +kernel
theorem dX9_comesTicket_66 : decode cX9_comesTicket 66 = .ok (.aload_n 0, 1) := by decide +kernel
theorem dX9_comesTicket_67 : decode cX9_comesTicket 67 = .ok (.getfield 71, 3) := by decide +kernel
theorem dX9_comesTicket_70 : decode cX9_comesTicket 70 = .ok (.iconst 2, 1) := by decide +kernel
theorem dX9_comesTicket_71 : decode cX9_comesTicket 71 = .ok (.iaload, 1) := by decide +kernel
theorem dX9_comesTicket_72 : decode cX9_comesTicket 72 = .ok (.iastore, 1) := by decide +kernel
theorem dX9_comesTicket_73 : decode cX9_comesTicket 73 = .ok (.return_, 1) := by decide +kernel
theorem dX9_ticketOf_0 : decode cX9_ticketOf 0 = .ok (.iconst (-1), 1) := by decide +kernel
theorem dX9_ticketOf_1 : decode cX9_ticketOf 1 = .ok (.istore_n 2, 1) := by decide +kernel
theorem dX9_ticketOf_2 : decode cX9_ticketOf 2 = .ok (.iconst 0, 1) := by decide +kernel
theorem dX9_ticketOf_3 : decode cX9_ticketOf 3 = .ok (.istore_n 3, 1) := by decide +kernel
theorem dX9_ticketOf_4 : decode cX9_ticketOf 4 = .ok (.iload_n 3, 1) := by decide +kernel
theorem dX9_ticketOf_5 : decode cX9_ticketOf 5 = .ok (.aload_n 0, 1) := by decide +kernel
theorem dX9_ticketOf_6 : decode cX9_ticketOf 6 = .ok (.getfield 170, 3) := by decide +kernel
theorem dX9_ticketOf_9 : decode cX9_ticketOf 9 = .ok (.if_icmp .ge 27, 3) := by decide +kernel
theorem dX9_ticketOf_12 : decode cX9_ticketOf 12 = .ok (.aload_n 0, 1) := by decide +kernel
theorem dX9_ticketOf_13 : decode cX9_ticketOf 13 = .ok (.getfield 53, 3) := by decide +kernel
theorem dX9_ticketOf_16 : decode cX9_ticketOf 16 = .ok (.iconst 5, 1) := by decide +kernel
theorem dX9_ticketOf_17 : decode cX9_ticketOf 17 = .ok (.iload_n 3, 1) := by decide +kernel
theorem dX9_ticketOf_18 : decode cX9_ticketOf 18 = .ok (.imul, 1) := by decide +kernel
theorem dX9_ticketOf_19 : decode cX9_ticketOf 19 = .ok (.iaload, 1) := by decide +kernel
theorem dX9_ticketOf_20 : decode cX9_ticketOf 20 = .ok (.iload_n 1, 1) := by decide +kernel
theorem dX9_ticketOf_21 : decode cX9_ticketOf 21 = .ok (.if_icmp .ne 7, 3) := by decide +kernel
theorem dX9_ticketOf_24 : decode cX9_ticketOf 24 = .ok (.iload_n 3, 1) := by decide +kernel
theorem dX9_ticketOf_25 : decode cX9_ticketOf 25 = .ok (.goto 4, 3) := by decide +kernel
theorem dX9_ticketOf_28 : decode cX9_ticketOf 28 = .ok (.iload_n 2, 1) := by decide +kernel
theorem dX9_ticketOf_29 : decode cX9_ticketOf 29 = .ok (.istore_n 2, 1) := by decide +kernel
theorem dX9_ticketOf_30 : decode cX9_ticketOf 30 = .ok (.iinc 3 1, 3) := by decide +kernel
theorem dX9_ticketOf_33 : decode cX9_ticketOf 33 = .ok (.goto (-29), 3) := by decide +kernel
theorem dX9_ticketOf_36 : decode cX9_ticketOf 36 = .ok (.iload_n 2, 1) := by decide +kernel
theorem dX9_ticketOf_37 : decode cX9_ticketOf 37 = .ok (.ireturn, 1) := by decide +kernel
theorem dX9_isSeen_0 : decode cX9_isSeen 0 = .ok (.iconst 0, 1) := by decide +kernel
theorem dX9_isSeen_1 : decode cX9_isSeen 1 = .ok (.istore_n 3, 1) := by decide +kernel
theorem dX9_isSeen_2 : decode cX9_isSeen 2 = .ok (.iconst 0, 1) := by decide +kernel
theorem dX9_isSeen_3 : decode cX9_isSeen 3 = .ok (.istore 4, 2) := by decide +kernel
theorem dX9_isSeen_5 : decode cX9_isSeen 5 = .ok (.iload 4, 2) := by decide +kernel
theorem dX9_isSeen_7 : decode cX9_isSeen 7 = .ok (.aload_n 0, 1) := by decide +kernel
theorem dX9_isSeen_8 : decode cX9_isSeen 8 = .ok (.getfield 173, 3) := by decide +kernel
theorem dX9_isSeen_11 : decode cX9_isSeen 11 = .ok (.if_icmp .ge 41, 3) := by decide +kernel
theorem dX9_isSeen_14 : decode cX9_isSeen 14 = .ok (.iload_n 3, 1) := by decide +kernel
theorem dX9_isSeen_15 : decode cX9_isSeen 15 = .ok (.ifCond .ne 25, 3) := by decide +kernel
theorem dX9_isSeen_18 : decode cX9_isSeen 18 = .ok (.aload_n 0, 1) := by decide +kernel
theorem dX9_isSeen_19 : decode cX9_isSeen 19 = .ok (.getfield 56, 3) := by decide +kernel
theorem dX9_isSeen_22 : decode cX9_isSeen 22 = .ok (.iload 4, 2) := by decide +kernel
theorem dX9_isSeen_24 : decode cX9_isSeen 24 = .ok (.iaload, 1) := by decide +kernel
theorem dX9_isSeen_25 : decode cX9_isSeen 25 = .ok (.iload_n 1, 1) := by decide +kernel
theorem dX9_isSeen_26 : decode cX9_isSeen 26 = .ok (.if_icmp .ne 18, 3) := by decide +kernel
theorem dX9_isSeen_29 : decode cX9_isSeen 29 = .ok (.aload_n 0, 1) := by decide +kernel
theorem dX9_isSeen_30 : decode cX9_isSeen 30 = .ok (.getfield 59, 3) := by decide +kernel
theorem dX9_isSeen_33 : decode cX9_isSeen 33 = .ok (.iload 4, 2) := by decide +kernel
theorem dX9_isSeen_35 : decode cX9_isSeen 35 = .ok (.iaload, 1) := by decide +kernel
theorem dX9_isSeen_36 : decode cX9_isSeen 36 = .ok (.iload_n 2, 1) := by decide +kernel
theorem dX9_isSeen_37 : decode cX9_isSeen 37 = .ok (.if_icmp .ne 7, 3) := by decide +kernel
theorem dX9_isSeen_40 : decode cX9_isSeen 40 = .ok (.iconst 1, 1) := by decide +kernel
theorem dX9_isSeen_41 : decode cX9_isSeen 41 = .ok (.goto 4, 3) := by decide +kernel
theorem dX9_isSeen_44 : decode cX9_isSeen 44 = .ok (.iconst 0, 1) := by decide +kernel
theorem dX9_isSeen_45 : decode cX9_isSeen 45 = .ok (.istore_n 3, 1) := by decide +kernel
theorem dX9_isSeen_46 : decode cX9_isSeen 46 = .ok (.iinc 4 1, 3) := by decide +kernel
theorem dX9_isSeen_49 : decode cX9_isSeen 49 = .ok (.goto (-44), 3) := by decide +kernel
theorem dX9_isSeen_52 : decode cX9_isSeen 52 = .ok (.iload_n 3, 1) := by decide +kernel
theorem dX9_isSeen_53 : decode cX9_isSeen 53 = .ok (.ireturn, 1) := by decide +kernel
theorem dX9_sees_0 : decode cX9_sees 0 = .ok (.aload_n 0, 1) := by decide +kernel
theorem dX9_sees_1 : decode cX9_sees 1 = .ok (.getfield 173, 3) := by decide +kernel
theorem dX9_sees_4 : decode cX9_sees 4 = .ok (.iconst 4, 1) := by decide +kernel
theorem dX9_sees_5 : decode cX9_sees 5 = .ok (.if_icmp .ne 54, 3) := by decide +kernel
theorem dX9_sees_8 : decode cX9_sees 8 = .ok (.iconst 0, 1) := by decide +kernel
theorem dX9_sees_9 : decode cX9_sees 9 = .ok (.istore_n 3, 1) := by decide +kernel
theorem dX9_sees_10 : decode cX9_sees 10 = .ok (.iload_n 3, 1) := by decide +kernel
theorem dX9_sees_11 : decode cX9_sees 11 = .ok (.iconst 3, 1) := by decide +kernel
theorem dX9_sees_12 : decode cX9_sees 12 = .ok (.if_icmp .ge 37, 3) := by decide +kernel
theorem dX9_sees_15 : decode cX9_sees 15 = .ok (.aload_n 0, 1) := by decide +kernel
theorem dX9_sees_16 : decode cX9_sees 16 = .ok (.getfield 56, 3) := by decide +kernel
theorem dX9_sees_19 : decode cX9_sees 19 = .ok (.iload_n 3, 1) := by decide +kernel
theorem dX9_sees_20 : decode cX9_sees 20 = .ok (.aload_n 0, 1) := by decide +kernel
theorem dX9_sees_21 : decode cX9_sees 21 = .ok (.getfield 56, 3) := by decide +kernel
theorem dX9_sees_24 : decode cX9_sees 24 = .ok (.iload_n 3, 1) := by decide +kernel
theorem dX9_sees_25 : decode cX9_sees 25 = .ok (.iconst 1, 1) := by decide +kernel
theorem dX9_sees_26 : decode cX9_sees 26 = .ok (.iadd, 1) := by decide +kernel
theorem dX9_sees_27 : decode cX9_sees 27 = .ok (.iaload, 1) := by decide +kernel
theorem dX9_sees_28 : decode cX9_sees 28 = .ok (.iastore, 1) := by decide +kernel
theorem dX9_sees_29 : decode cX9_sees 29 = .ok (.aload_n 0, 1) := by decide +kernel
theorem dX9_sees_30 : decode cX9_sees 30 = .ok (.getfield 59, 3) := by decide +kernel
theorem dX9_sees_33 : decode cX9_sees 33 = .ok (.iload_n 3, 1) := by decide +kernel
theorem dX9_sees_34 : decode cX9_sees 34 = .ok (.aload_n 0, 1) := by decide +kernel
theorem dX9_sees_35 : decode cX9_sees 35 = .ok (.getfield 59, 3) := by decide +kernel
theorem dX9_sees_38 : decode cX9_sees 38 = .ok (.iload_n 3, 1) := by decide +kernel
theorem dX9_sees_39 : decode cX9_sees 39 = .ok (.iconst 1, 1) := by decide +kernel
theorem dX9_sees_40 : decode cX9_sees 40 = .ok (.iadd, 1) := by decide +kernel
theorem dX9_sees_41 : decode cX9_sees 41 = .ok (.iaload, 1) := by decide +kernel
theorem dX9_sees_42 : decode cX9_sees 42 = .ok (.iastore, 1) := by decide +kernel
theorem dX9_sees_43 : decode cX9_sees 43 = .ok (.iinc 3 1, 3) := by decide +kernel
theorem dX9_sees_46 : decode cX9_sees 46 = .ok (.goto (-36), 3) := by decide +kernel
theorem dX9_sees_49 : decode cX9_sees 49 = .ok (.aload_n 0, 1) := by decide +kernel
theorem dX9_sees_50 : decode cX9_sees 50 = .ok (.dup, 1) := by decide +kernel
theorem dX9_sees_51 : decode cX9_sees 51 = .ok (.getfield 173, 3) := by decide +kernel
theorem dX9_sees_54 : decode cX9_sees 54 = .ok (.iconst 1, 1) := by decide +kernel
theorem dX9_sees_55 : decode cX9_sees 55 = .ok (.isub, 1) := by decide +kernel
theorem dX9_sees_56 : decode cX9_sees 56 = .ok (.putfield 173, 3) := by decide +kernel
theorem dX9_sees_59 : decode cX9_sees 59 = .ok (.aload_n 0, 1) := by decide +kernel
theorem dX9_sees_60 : decode cX9_sees 60 = .ok (.getfield 56, 3) := by decide +kernel
theorem dX9_sees_63 : decode cX9_sees 63 = .ok (.aload_n 0, 1) := by decide +kernel
theorem dX9_sees_64 : decode cX9_sees 64 = .ok (.getfield 173, 3) := by decide +kernel
theorem dX9_sees_67 : decode cX9_sees 67 = .ok (.iload_n 1, 1) := by decide +kernel
theorem dX9_sees_68 : decode cX9_sees 68 = .ok (.iastore, 1) := by decide +kernel
theorem dX9_sees_69 : decode cX9_sees 69 = .ok (.aload_n 0, 1) := by decide +kernel
theorem dX9_sees_70 : decode cX9_sees 70 = .ok (.getfield 59, 3) := by decide +kernel
theorem dX9_sees_73 : decode cX9_sees 73 = .ok (.aload_n 0, 1) := by decide +kernel
theorem dX9_sees_74 : decode cX9_sees 74 = .ok (.getfield 173, 3) := by decide +kernel
theorem dX9_sees_77 : decode cX9_sees 77 = .ok (.iload_n 2, 1) := by decide +kernel
theorem dX9_sees_78 : decode cX9_sees 78 = .ok (.iastore, 1) := by decide +kernel
theorem dX9_sees_79 : decode cX9_sees 79 = .ok (.aload_n 0, 1) := by decide +kernel
theorem dX9_sees_80 : decode cX9_sees 80 = .ok (.dup, 1) := by decide +kernel
theorem dX9_sees_81 : decode cX9_sees 81 = .ok (.getfield 173, 3) := by decide +kernel
theorem dX9_sees_84 : decode cX9_sees 84 = .ok (.iconst 1, 1) := by decide +kernel
theorem dX9_sees_85 : decode cX9_sees 85 = .ok (.iadd, 1) := by decide +kernel
theorem dX9_sees_86 : decode cX9_sees 86 = .ok (.putfield 173, 3) := by decide +kernel
theorem dX9_sees_89 : decode cX9_sees 89 = .ok (.return_, 1) := by decide +kernel
set_option maxRecDepth 20000 in
theorem ggX9_comesHello_X9_greatest : GoodIn wsX9_comesHello wsX9_greatest := goodIn_r _ [8, 9, 10, 7, 11] (by decide +kernel) (by decide +kernel)
set_option maxRecDepth 20000 in
theorem gX9_comesHello_X9_greatest : GoodIn wsX9_comesHello (va_wsS RX9 176 yX9_greatest wsX9_greatest) := goodIn_app (goodIn_of _ (by decide +kernel)) ggX9_comesHello_X9_greatest
set_option maxRecDepth 20000 in
theorem ggX9_comesHello_X9_fails : GoodIn wsX9_comesHello wsX9_fails := goodIn_r _ [15, 4, 16, 102, 103, 104, 105, 106, 107, 108, 109, 110, 111, 112, 113, 114, 115, 116, 117, 118, 119, 120, 121, 122, 123, 124, 125, 126, 127, 128, 129, 130, 131, 132, 133, 134, 135, 136, 137, 138, 139, 140, 141, 142, 143, 144] (by decide +kernel) (by decide +kernel)
set_option maxRecDepth 20000 in
theorem gX9_comesHello_X9_fails : GoodIn wsX9_comesHello (wsV RX9 152 RX9 yX9_fails wsX9_fails) := goodIn_app (goodIn_of _ (by decide +kernel)) ggX9_comesHello_X9_fails
set_option maxRecDepth 20000 in
theorem ggX9_comesHello_X9_takes : GoodIn wsX9_comesHello wsX9_takes := goodIn_r _ [20, 21, 1, 22, 23, 7, 24, 25, 102, 103, 104, 105, 106, 107, 108, 109, 110, 111, 112, 113, 114, 115, 116, 117, 118, 119, 120, 121, 122, 123, 124, 125, 126, 127, 128, 129, 130, 131, 132, 133, 134, 135, 136, 137, 138, 139, 140, 141, 142, 143, 144] (by decide +kernel) (by decide +kernel)
set_option maxRecDepth 20000 in
theorem gX9_comesHello_X9_takes : GoodIn wsX9_comesHello (wsV RX9 142 RX9 yX9_takes wsX9_takes) := goodIn_app (goodIn_of _ (by decide +kernel)) ggX9_comesHello_X9_takes
set_option maxRecDepth 20000 in
theorem ggX9_comesHello_X9_clears : GoodIn wsX9_comesHello wsX9_clears := goodIn_r _ [29, 1, 102, 103, 104, 105, 106, 107, 108, 109, 110, 111, 112, 113, 114, 115, 116, 117, 118, 119, 120, 121, 122, 123, 124, 125, 126, 127, 128, 129, 130, 131, 132, 133, 134, 135, 136, 137, 138, 139, 140, 141, 142, 143, 144] (by decide +kernel) (by decide +kernel)
set_option maxRecDepth 20000 in
theorem gX9_comesHello_X9_clears : GoodIn wsX9_comesHello (wsV RX9 116 RX9 yX9_clears wsX9_clears) := goodIn_app (goodIn_of _ (by decide +kernel)) ggX9_comesHello_X9_clears
set_option maxRecDepth 20000 in
theorem ggX9_comesHello_X9_sends : GoodIn wsX9_comesHello wsX9_sends := goodIn_r _ [33, 34, 35, 36, 1, 102, 103, 104, 105, 106, 107, 108, 109, 110, 111, 112, 113, 114, 115, 116, 117, 118, 119, 120, 121, 122, 123, 124, 125, 126, 127, 128, 129, 130, 131, 132, 133, 134, 135, 136, 137, 138, 139, 140, 141, 142, 143, 144] (by decide +kernel) (by decide +kernel)
set_option maxRecDepth 20000 in
theorem gX9_comesHello_X9_sends : GoodIn wsX9_comesHello (wsV RX9 146 RX9 yX9_sends wsX9_sends) := goodIn_app (goodIn_of _ (by decide +kernel)) ggX9_comesHello_X9_sends
set_option maxRecDepth 20000 in
theorem ggX9_comesHello_X9_prime : GoodIn wsX9_comesHello wsX9_prime := goodIn_r _ [39] (by decide +kernel) (by decide +kernel)
set_option maxRecDepth 20000 in
theorem gX9_comesHello_X9_prime : GoodIn wsX9_comesHello (va_wsS RX9 92 yX9_prime wsX9_prime) := goodIn_app (goodIn_of _ (by decide +kernel)) ggX9_comesHello_X9_prime
set_option maxRecDepth 20000 in
theorem ggX9_comesHello_X9_in : GoodIn wsX9_comesHello wsX9_in := goodIn_r _ [42] (by decide +kernel) (by decide +kernel)
set_option maxRecDepth 20000 in
theorem gX9_comesHello_X9_in : GoodIn wsX9_comesHello (va_wsS RX9 87 yX9_in wsX9_in) := goodIn_app (goodIn_of _ (by decide +kernel)) ggX9_comesHello_X9_in
set_option maxRecDepth 20000 in
theorem ggX9_comesHello_X9_greets : GoodIn wsX9_comesHello wsX9_greets := goodIn_r _ [46, 1, 47, 48, 21, 49, 50, 51, 52, 53, 54, 55, 2, 4, 56, 57, 58, 7, 59, 60, 61, 62, 63, 64, 22, 23, 24, 25, 12, 13, 14, 15, 16, 65, 66, 67, 68, 69, 70, 40, 41, 42, 71, 72, 73, 74, 75, 76, 77, 78, 79, 80, 81, 17, 18, 19, 20, 37, 38, 39, 82, 83, 84, 85, 86, 87, 26, 27, 28, 29, 88, 89, 90, 91, 92, 93, 94, 95, 96, 97, 9, 10, 11, 98, 99, 100, 101, 30, 31, 32, 33, 34, 35, 36, 102, 103, 104, 105, 106, 107, 108, 109, 110, 111, 112, 113, 114, 115, 116, 117, 118, 119, 120, 121, 122, 123, 124, 125, 126, 127, 128, 129, 130, 131, 132, 133, 134, 135, 136, 137, 138, 139, 140, 141, 142, 143, 144] (by decide +kernel) (by decide +kernel)
set_option maxRecDepth 20000 in
theorem gX9_comesHello_X9_greets : GoodIn wsX9_comesHello (wsV RX9 179 RX9 yX9_greets wsX9_greets) := goodIn_app (goodIn_of _ (by decide +kernel)) ggX9_comesHello_X9_greets
theorem dX9_comesHello_0 : decode cX9_comesHello 0 = .ok (.aload_n 0, 1) := by decide +kernel
theorem dX9_comesHello_1 : decode cX9_comesHello 1 = .ok (.getfield 71, 3) := by decide +kernel
theorem dX9_comesHello_4 : decode cX9_comesHello 4 = .ok (.iconst 1, 1) := by decide +kernel
theorem dX9_comesHello_5 : decode cX9_comesHello 5 = .ok (.iaload, 1) := by decide +kernel
theorem dX9_comesHello_6 : decode cX9_comesHello 6 = .ok (.aload_n 0, 1) := by decide +kernel
theorem dX9_comesHello_7 : decode cX9_comesHello 7 = .ok (.getfield 7, 3) := by decide +kernel
theorem dX9_comesHello_10 : decode cX9_comesHello 10 = .ok (.iconst 1, 1) := by decide +kernel
theorem dX9_comesHello_11 : decode cX9_comesHello 11 = .ok (.iaload, 1) := by decide +kernel
theorem dX9_comesHello_12 : decode cX9_comesHello 12 = .ok (.iand, 1) := by decide +kernel
theorem dX9_comesHello_13 : decode cX9_comesHello 13 = .ok (.istore_n 1, 1) := by decide +kernel
theorem dX9_comesHello_14 : decode cX9_comesHello 14 = .ok (.aload_n 0, 1) := by decide +kernel
theorem dX9_comesHello_15 : decode cX9_comesHello 15 = .ok (.getfield 71, 3) := by decide +kernel
theorem dX9_comesHello_18 : decode cX9_comesHello 18 = .ok (.iconst 2, 1) := by decide +kernel
theorem dX9_comesHello_19 : decode cX9_comesHello 19 = .ok (.iaload, 1) := by decide +kernel
theorem dX9_comesHello_20 : decode cX9_comesHello 20 = .ok (.aload_n 0, 1) := by decide +kernel
theorem dX9_comesHello_21 : decode cX9_comesHello 21 = .ok (.getfield 13, 3) := by decide +kernel
theorem dX9_comesHello_24 : decode cX9_comesHello 24 = .ok (.iconst 1, 1) := by decide +kernel
theorem dX9_comesHello_25 : decode cX9_comesHello 25 = .ok (.iaload, 1) := by decide +kernel
theorem dX9_comesHello_26 : decode cX9_comesHello 26 = .ok (.iand, 1) := by decide +kernel
theorem dX9_comesHello_27 : decode cX9_comesHello 27 = .ok (.invokestatic 176, 3) := by decide +kernel
theorem dX9_comesHello_30 : decode cX9_comesHello 30 = .ok (.istore_n 2, 1) := by decide +kernel
theorem dX9_comesHello_31 : decode cX9_comesHello 31 = .ok (.aload_n 0, 1) := by decide +kernel
theorem dX9_comesHello_32 : decode cX9_comesHello 32 = .ok (.getfield 19, 3) := by decide +kernel
theorem dX9_comesHello_35 : decode cX9_comesHello 35 = .ok (.iconst 1, 1) := by decide +kernel
theorem dX9_comesHello_36 : decode cX9_comesHello 36 = .ok (.iaload, 1) := by decide +kernel
theorem dX9_comesHello_37 : decode cX9_comesHello 37 = .ok (.iconst 2, 1) := by decide +kernel
theorem dX9_comesHello_38 : decode cX9_comesHello 38 = .ok (.if_icmp .ne 7, 3) := by decide +kernel
theorem dX9_comesHello_41 : decode cX9_comesHello 41 = .ok (.iconst 1, 1) := by decide +kernel
theorem dX9_comesHello_42 : decode cX9_comesHello 42 = .ok (.goto 4, 3) := by decide +kernel
theorem dX9_comesHello_45 : decode cX9_comesHello 45 = .ok (.iconst 0, 1) := by decide +kernel
theorem dX9_comesHello_46 : decode cX9_comesHello 46 = .ok (.istore_n 3, 1) := by decide +kernel
theorem dX9_comesHello_47 : decode cX9_comesHello 47 = .ok (.iload_n 1, 1) := by decide +kernel
theorem dX9_comesHello_48 : decode cX9_comesHello 48 = .ok (.ifCond .ne 7, 3) := by decide +kernel
theorem dX9_comesHello_51 : decode cX9_comesHello 51 = .ok (.iconst 2, 1) := by decide +kernel
theorem dX9_comesHello_52 : decode cX9_comesHello 52 = .ok (.goto 31, 3) := by decide +kernel
theorem dX9_comesHello_55 : decode cX9_comesHello 55 = .ok (.iload_n 2, 1) := by decide +kernel
theorem dX9_comesHello_56 : decode cX9_comesHello 56 = .ok (.iconst (-1), 1) := by decide +kernel
theorem dX9_comesHello_57 : decode cX9_comesHello 57 = .ok (.if_icmp .ne 7, 3) := by decide +kernel
theorem dX9_comesHello_60 : decode cX9_comesHello 60 = .ok (.iconst 3, 1) := by decide +kernel
theorem dX9_comesHello_61 : decode cX9_comesHello 61 = .ok (.goto 22, 3) := by decide +kernel
theorem dX9_comesHello_64 : decode cX9_comesHello 64 = .ok (.iload_n 3, 1) := by decide +kernel
theorem dX9_comesHello_65 : decode cX9_comesHello 65 = .ok (.ifCond .eq 17, 3) := by decide +kernel
theorem dX9_comesHello_68 : decode cX9_comesHello 68 = .ok (.aload_n 0, 1) := by decide +kernel
theorem dX9_comesHello_69 : decode cX9_comesHello 69 = .ok (.getfield 71, 3) := by decide +kernel
theorem dX9_comesHello_72 : decode cX9_comesHello 72 = .ok (.iconst 3, 1) := by decide +kernel
theorem dX9_comesHello_73 : decode cX9_comesHello 73 = .ok (.iaload, 1) := by decide +kernel
theorem dX9_comesHello_74 : decode cX9_comesHello 74 = .ok (.iload_n 2, 1) := by decide +kernel
theorem dX9_comesHello_75 : decode cX9_comesHello 75 = .ok (.if_icmp .eq 7, 3) := by decide +kernel
theorem dX9_comesHello_78 : decode cX9_comesHello 78 = .ok (.iconst 4, 1) := by decide +kernel
theorem dX9_comesHello_79 : decode cX9_comesHello 79 = .ok (.goto 4, 3) := by decide +kernel
theorem dX9_comesHello_82 : decode cX9_comesHello 82 = .ok (.iconst 0, 1) := by decide +kernel
theorem dX9_comesHello_83 : decode cX9_comesHello 83 = .ok (.istore 4, 2) := by decide +kernel
theorem dX9_comesHello_85 : decode cX9_comesHello 85 = .ok (.iload 4, 2) := by decide +kernel
theorem dX9_comesHello_87 : decode cX9_comesHello 87 = .ok (.ifCond .le 13, 3) := by decide +kernel
theorem dX9_comesHello_90 : decode cX9_comesHello 90 = .ok (.aload_n 0, 1) := by decide +kernel
theorem dX9_comesHello_91 : decode cX9_comesHello 91 = .ok (.iconst 1, 1) := by decide +kernel
theorem dX9_comesHello_92 : decode cX9_comesHello 92 = .ok (.iload 4, 2) := by decide +kernel
theorem dX9_comesHello_94 : decode cX9_comesHello 94 = .ok (.invokevirtual 152, 3) := by decide +kernel
theorem dX9_comesHello_97 : decode cX9_comesHello 97 = .ok (.goto 96, 3) := by decide +kernel
theorem dX9_comesHello_100 : decode cX9_comesHello 100 = .ok (.aload_n 0, 1) := by decide +kernel
theorem dX9_comesHello_101 : decode cX9_comesHello 101 = .ok (.getfield 71, 3) := by decide +kernel
theorem dX9_comesHello_104 : decode cX9_comesHello 104 = .ok (.iconst 3, 1) := by decide +kernel
theorem dX9_comesHello_105 : decode cX9_comesHello 105 = .ok (.iaload, 1) := by decide +kernel
theorem dX9_comesHello_106 : decode cX9_comesHello 106 = .ok (.iload_n 2, 1) := by decide +kernel
theorem dX9_comesHello_107 : decode cX9_comesHello 107 = .ok (.if_icmp .eq 44, 3) := by decide +kernel
theorem dX9_comesHello_110 : decode cX9_comesHello 110 = .ok (.aload_n 0, 1) := by decide +kernel
theorem dX9_comesHello_111 : decode cX9_comesHello 111 = .ok (.iconst 1, 1) := by decide +kernel
theorem dX9_comesHello_112 : decode cX9_comesHello 112 = .ok (.bipush 8, 2) := by decide +kernel
theorem dX9_comesHello_114 : decode cX9_comesHello 114 = .ok (.invokevirtual 142, 3) := by decide +kernel
theorem dX9_comesHello_117 : decode cX9_comesHello 117 = .ok (.aload_n 0, 1) := by decide +kernel
theorem dX9_comesHello_118 : decode cX9_comesHello 118 = .ok (.iconst 2, 1) := by decide +kernel
theorem dX9_comesHello_119 : decode cX9_comesHello 119 = .ok (.invokevirtual 116, 3) := by decide +kernel
theorem dX9_comesHello_122 : decode cX9_comesHello 122 = .ok (.aload_n 0, 1) := by decide +kernel
theorem dX9_comesHello_123 : decode cX9_comesHello 123 = .ok (.getfield 71, 3) := by decide +kernel
theorem dX9_comesHello_126 : decode cX9_comesHello 126 = .ok (.iconst 1, 1) := by decide +kernel
theorem dX9_comesHello_127 : decode cX9_comesHello 127 = .ok (.iload_n 2, 1) := by decide +kernel
theorem dX9_comesHello_128 : decode cX9_comesHello 128 = .ok (.iastore, 1) := by decide +kernel
theorem dX9_comesHello_129 : decode cX9_comesHello 129 = .ok (.aload_n 0, 1) := by decide +kernel
theorem dX9_comesHello_130 : decode cX9_comesHello 130 = .ok (.iconst 0, 1) := by decide +kernel
theorem dX9_comesHello_131 : decode cX9_comesHello 131 = .ok (.invokevirtual 146, 3) := by decide +kernel
theorem dX9_comesHello_134 : decode cX9_comesHello 134 = .ok (.aload_n 0, 1) := by decide +kernel
theorem dX9_comesHello_135 : decode cX9_comesHello 135 = .ok (.iconst 1, 1) := by decide +kernel
theorem dX9_comesHello_136 : decode cX9_comesHello 136 = .ok (.bipush 8, 2) := by decide +kernel
theorem dX9_comesHello_138 : decode cX9_comesHello 138 = .ok (.invokevirtual 142, 3) := by decide +kernel
theorem dX9_comesHello_141 : decode cX9_comesHello 141 = .ok (.aload_n 0, 1) := by decide +kernel
theorem dX9_comesHello_142 : decode cX9_comesHello 142 = .ok (.getfield 19, 3) := by decide +kernel
theorem dX9_comesHello_145 : decode cX9_comesHello 145 = .ok (.iconst 1, 1) := by decide +kernel
theorem dX9_comesHello_146 : decode cX9_comesHello 146 = .ok (.iconst 2, 1) := by decide +kernel
theorem dX9_comesHello_147 : decode cX9_comesHello 147 = .ok (.iastore, 1) := by decide +kernel
theorem dX9_comesHello_148 : decode cX9_comesHello 148 = .ok (.goto 45, 3) := by decide +kernel
theorem dX9_comesHello_151 : decode cX9_comesHello 151 = .ok (.aload_n 0, 1) := by decide +kernel
theorem dX9_comesHello_152 : decode cX9_comesHello 152 = .ok (.getfield 71, 3) := by decide +kernel
theorem dX9_comesHello_155 : decode cX9_comesHello 155 = .ok (.iconst 4, 1) := by decide +kernel
theorem dX9_comesHello_156 : decode cX9_comesHello 156 = .ok (.iaload, 1) := by decide +kernel
theorem dX9_comesHello_157 : decode cX9_comesHello 157 = .ok (.i2l, 1) := by decide +kernel
theorem dX9_comesHello_158 : decode cX9_comesHello 158 = .ok (.lconst 1, 1) := by decide +kernel
theorem dX9_comesHello_159 : decode cX9_comesHello 159 = .ok (.iload_n 2, 1) := by decide +kernel
theorem dX9_comesHello_160 : decode cX9_comesHello 160 = .ok (.invokestatic 92, 3) := by decide +kernel
theorem dX9_comesHello_163 : decode cX9_comesHello 163 = .ok (.iconst 1, 1) := by decide +kernel
theorem dX9_comesHello_164 : decode cX9_comesHello 164 = .ok (.isub, 1) := by decide +kernel
theorem dX9_comesHello_165 : decode cX9_comesHello 165 = .ok (.i2l, 1) := by decide +kernel
theorem dX9_comesHello_166 : decode cX9_comesHello 166 = .ok (.invokestatic 87, 3) := by decide +kernel
theorem dX9_comesHello_169 : decode cX9_comesHello 169 = .ok (.ifCond .ne 12, 3) := by decide +kernel
theorem dX9_comesHello_172 : decode cX9_comesHello 172 = .ok (.aload_n 0, 1) := by decide +kernel
theorem dX9_comesHello_173 : decode cX9_comesHello 173 = .ok (.iconst 1, 1) := by decide +kernel
theorem dX9_comesHello_174 : decode cX9_comesHello 174 = .ok (.iconst 5, 1) := by decide +kernel
theorem dX9_comesHello_175 : decode cX9_comesHello 175 = .ok (.invokevirtual 152, 3) := by decide +kernel
theorem dX9_comesHello_178 : decode cX9_comesHello 178 = .ok (.goto 15, 3) := by decide +kernel
theorem dX9_comesHello_181 : decode cX9_comesHello 181 = .ok (.aload_n 0, 1) := by decide +kernel
theorem dX9_comesHello_182 : decode cX9_comesHello 182 = .ok (.iload_n 1, 1) := by decide +kernel
theorem dX9_comesHello_183 : decode cX9_comesHello 183 = .ok (.invokestatic 176, 3) := by decide +kernel
theorem dX9_comesHello_186 : decode cX9_comesHello 186 = .ok (.iconst 1, 1) := by decide +kernel
theorem dX9_comesHello_187 : decode cX9_comesHello 187 = .ok (.iadd, 1) := by decide +kernel
theorem dX9_comesHello_188 : decode cX9_comesHello 188 = .ok (.iload_n 2, 1) := by decide +kernel
theorem dX9_comesHello_189 : decode cX9_comesHello 189 = .ok (.iload_n 3, 1) := by decide +kernel
theorem dX9_comesHello_190 : decode cX9_comesHello 190 = .ok (.invokevirtual 179, 3) := by decide +kernel
theorem dX9_comesHello_193 : decode cX9_comesHello 193 = .ok (.return_, 1) := by decide +kernel
set_option maxRecDepth 20000 in
theorem ggX9_greets_X9_ticketOf : GoodIn wsX9_greets wsX9_ticketOf := goodIn_r _ [18, 19, 3, 94, 95, 96, 97, 98, 99, 100, 101, 102, 103, 104, 105, 106, 107, 108, 109, 110, 111, 112, 113, 114, 115, 116, 117, 118, 119, 120, 121, 122, 123, 124, 125, 126, 127, 128, 129, 130, 131, 132, 133, 134, 135, 136] (by decide +kernel) (by decide +kernel)
set_option maxRecDepth 20000 in
theorem gX9_greets_X9_ticketOf : GoodIn wsX9_greets (wsV RX9 183 RX9 yX9_ticketOf wsX9_ticketOf) := goodIn_app (goodIn_of _ (by decide +kernel)) ggX9_greets_X9_ticketOf
set_option maxRecDepth 20000 in
theorem ggX9_greets_X9_binder : GoodIn wsX9_greets wsX9_binder := goodIn_r _ [23, 1, 24, 25, 17, 26, 27, 94, 95, 96, 97, 98, 99, 100, 101, 102, 103, 104, 105, 106, 107, 108, 109, 110, 111, 112, 113, 114, 115, 116, 117, 118, 119, 120, 121, 122, 123, 124, 125, 126, 127, 128, 129, 130, 131, 132, 133, 134, 135, 136] (by decide +kernel) (by decide +kernel)
set_option maxRecDepth 20000 in
theorem gX9_greets_X9_binder : GoodIn wsX9_greets (wsV RX9 136 RX9 yX9_binder wsX9_binder) := goodIn_app (goodIn_of _ (by decide +kernel)) ggX9_greets_X9_binder
set_option maxRecDepth 20000 in
theorem ggX9_greets_X9_fails : GoodIn wsX9_greets wsX9_fails := goodIn_r _ [31, 13, 32, 94, 95, 96, 97, 98, 99, 100, 101, 102, 103, 104, 105, 106, 107, 108, 109, 110, 111, 112, 113, 114, 115, 116, 117, 118, 119, 120, 121, 122, 123, 124, 125, 126, 127, 128, 129, 130, 131, 132, 133, 134, 135, 136] (by decide +kernel) (by decide +kernel)
set_option maxRecDepth 20000 in
theorem gX9_greets_X9_fails : GoodIn wsX9_greets (wsV RX9 152 RX9 yX9_fails wsX9_fails) := goodIn_app (goodIn_of _ (by decide +kernel)) ggX9_greets_X9_fails
set_option maxRecDepth 20000 in
theorem ggX9_greets_X9_isFitting : GoodIn wsX9_greets wsX9_isFitting := goodIn_r _ [36, 1, 3, 2, 37, 38, 39, 40, 17, 41, 94, 95, 96, 97, 98, 99, 100, 101, 102, 103, 104, 105, 106, 107, 108, 109, 110, 111, 112, 113, 114, 115, 116, 117, 118, 119, 120, 121, 122, 123, 124, 125, 126, 127, 128, 129, 130, 131, 132, 133, 134, 135, 136] (by decide +kernel) (by decide +kernel)
set_option maxRecDepth 20000 in
theorem gX9_greets_X9_isFitting : GoodIn wsX9_greets (wsV RX9 186 RX9 yX9_isFitting wsX9_isFitting) := goodIn_app (goodIn_of _ (by decide +kernel)) ggX9_greets_X9_isFitting
set_option maxRecDepth 20000 in
theorem ggX9_greets_X9_isSeen : GoodIn wsX9_greets wsX9_isSeen := goodIn_r _ [45, 46, 47, 48, 94, 95, 96, 97, 98, 99, 100, 101, 102, 103, 104, 105, 106, 107, 108, 109, 110, 111, 112, 113, 114, 115, 116, 117, 118, 119, 120, 121, 122, 123, 124, 125, 126, 127, 128, 129, 130, 131, 132, 133, 134, 135, 136] (by decide +kernel) (by decide +kernel)
set_option maxRecDepth 20000 in
theorem gX9_greets_X9_isSeen : GoodIn wsX9_greets (wsV RX9 190 RX9 yX9_isSeen wsX9_isSeen) := goodIn_app (goodIn_of _ (by decide +kernel)) ggX9_greets_X9_isSeen
set_option maxRecDepth 20000 in
theorem ggX9_greets_X9_sees : GoodIn wsX9_greets wsX9_sees := goodIn_r _ [52, 46, 47, 48, 94, 95, 96, 97, 98, 99, 100, 101, 102, 103, 104, 105, 106, 107, 108, 109, 110, 111, 112, 113, 114, 115, 116, 117, 118, 119, 120, 121, 122, 123, 124, 125, 126, 127, 128, 129, 130, 131, 132, 133, 134, 135, 136] (by decide +kernel) (by decide +kernel)
set_option maxRecDepth 20000 in
theorem gX9_greets_X9_sees : GoodIn wsX9_greets (wsV RX9 193 RX9 yX9_sees wsX9_sees) := goodIn_app (goodIn_of _ (by decide +kernel)) ggX9_greets_X9_sees
set_option maxRecDepth 20000 in
theorem ggX9_greets_X9_takes : GoodIn wsX9_greets wsX9_takes := goodIn_r _ [56, 4, 1, 24, 25, 17, 26, 27, 94, 95, 96, 97, 98, 99, 100, 101, 102, 103, 104, 105, 106, 107, 108, 109, 110, 111, 112, 113, 114, 115, 116, 117, 118, 119, 120, 121, 122, 123, 124, 125, 126, 127, 128, 129, 130, 131, 132, 133, 134, 135, 136] (by decide +kernel) (by decide +kernel)
set_option maxRecDepth 20000 in
theorem gX9_greets_X9_takes : GoodIn wsX9_greets (wsV RX9 142 RX9 yX9_takes wsX9_takes) := goodIn_app (goodIn_of _ (by decide +kernel)) ggX9_greets_X9_takes
set_option maxRecDepth 20000 in
theorem ggX9_greets_X9_prime : GoodIn wsX9_greets wsX9_prime := goodIn_r _ [59] (by decide +kernel) (by decide +kernel)
set_option maxRecDepth 20000 in
theorem gX9_greets_X9_prime : GoodIn wsX9_greets (va_wsS RX9 92 yX9_prime wsX9_prime) := goodIn_app (goodIn_of _ (by decide +kernel)) ggX9_greets_X9_prime
set_option maxRecDepth 20000 in
theorem ggX9_greets_X9_power : GoodIn wsX9_greets wsX9_power := goodIn_r _ [62] (by decide +kernel) (by decide +kernel)
set_option maxRecDepth 20000 in
theorem gX9_greets_X9_power : GoodIn wsX9_greets (va_wsS RX9 96 yX9_power wsX9_power) := goodIn_app (goodIn_of _ (by decide +kernel)) ggX9_greets_X9_power
set_option maxRecDepth 20000 in
theorem ggX9_greets_X9_keyOf : GoodIn wsX9_greets wsX9_keyOf := goodIn_r _ [65, 24, 25, 17, 26, 27] (by decide +kernel) (by decide +kernel)
set_option maxRecDepth 20000 in
theorem gX9_greets_X9_keyOf : GoodIn wsX9_greets (va_wsS RX9 161 yX9_keyOf wsX9_keyOf) := goodIn_app (goodIn_of _ (by decide +kernel)) ggX9_greets_X9_keyOf
set_option maxRecDepth 20000 in
theorem ggX9_greets_X9_clears : GoodIn wsX9_greets wsX9_clears := goodIn_r _ [69, 1, 94, 95, 96, 97, 98, 99, 100, 101, 102, 103, 104, 105, 106, 107, 108, 109, 110, 111, 112, 113, 114, 115, 116, 117, 118, 119, 120, 121, 122, 123, 124, 125, 126, 127, 128, 129, 130, 131, 132, 133, 134, 135, 136] (by decide +kernel) (by decide +kernel)
set_option maxRecDepth 20000 in
theorem gX9_greets_X9_clears : GoodIn wsX9_greets (wsV RX9 116 RX9 yX9_clears wsX9_clears) := goodIn_app (goodIn_of _ (by decide +kernel)) ggX9_greets_X9_clears
set_option maxRecDepth 20000 in
theorem ggX9_greets_X9_shareOf : GoodIn wsX9_greets wsX9_shareOf := goodIn_r _ [72, 57, 58, 17, 59, 60, 61, 62] (by decide +kernel) (by decide +kernel)
set_option maxRecDepth 20000 in
theorem gX9_greets_X9_shareOf : GoodIn wsX9_greets (va_wsS RX9 130 yX9_shareOf wsX9_shareOf) := goodIn_app (goodIn_of _ (by decide +kernel)) ggX9_greets_X9_shareOf
set_option maxRecDepth 20000 in
theorem ggX9_greets_X9_hasAbove : GoodIn wsX9_greets wsX9_hasAbove := goodIn_r _ [75, 76, 77, 17, 78, 79, 39, 40, 41, 80, 81, 82] (by decide +kernel) (by decide +kernel)
set_option maxRecDepth 20000 in
theorem gX9_greets_X9_hasAbove : GoodIn wsX9_greets (va_wsS RX9 158 yX9_hasAbove wsX9_hasAbove) := goodIn_app (goodIn_of _ (by decide +kernel)) ggX9_greets_X9_hasAbove
set_option maxRecDepth 20000 in
theorem ggX9_greets_X9_proof : GoodIn wsX9_greets wsX9_proof := goodIn_r _ [86, 7, 4, 24, 25, 17, 26, 27, 94, 95, 96, 97, 98, 99, 100, 101, 102, 103, 104, 105, 106, 107, 108, 109, 110, 111, 112, 113, 114, 115, 116, 117, 118, 119, 120, 121, 122, 123, 124, 125, 126, 127, 128, 129, 130, 131, 132, 133, 134, 135, 136] (by decide +kernel) (by decide +kernel)
set_option maxRecDepth 20000 in
theorem gX9_greets_X9_proof : GoodIn wsX9_greets (wsV RX9 164 RX9 yX9_proof wsX9_proof) := goodIn_app (goodIn_of _ (by decide +kernel)) ggX9_greets_X9_proof
set_option maxRecDepth 20000 in
theorem ggX9_greets_X9_sends : GoodIn wsX9_greets wsX9_sends := goodIn_r _ [90, 91, 92, 93, 1, 94, 95, 96, 97, 98, 99, 100, 101, 102, 103, 104, 105, 106, 107, 108, 109, 110, 111, 112, 113, 114, 115, 116, 117, 118, 119, 120, 121, 122, 123, 124, 125, 126, 127, 128, 129, 130, 131, 132, 133, 134, 135, 136] (by decide +kernel) (by decide +kernel)
set_option maxRecDepth 20000 in
theorem gX9_greets_X9_sends : GoodIn wsX9_greets (wsV RX9 146 RX9 yX9_sends wsX9_sends) := goodIn_app (goodIn_of _ (by decide +kernel)) ggX9_greets_X9_sends
theorem dX9_greets_0 : decode cX9_greets 0 = .ok (.iload_n 1, 1) := by decide +kernel
theorem dX9_greets_1 : decode cX9_greets 1 = .ok (.iconst 3, 1) := by decide +kernel
theorem dX9_greets_2 : decode cX9_greets 2 = .ok (.if_icmp .ne 16, 3) := by decide +kernel
theorem dX9_greets_5 : decode cX9_greets 5 = .ok (.aload_n 0, 1) := by decide +kernel
theorem dX9_greets_6 : decode cX9_greets 6 = .ok (.aload_n 0, 1) := by decide +kernel
theorem dX9_greets_7 : decode cX9_greets 7 = .ok (.getfield 71, 3) := by decide +kernel
theorem dX9_greets_10 : decode cX9_greets 10 = .ok (.iconst 5, 1) := by decide +kernel
theorem dX9_greets_11 : decode cX9_greets 11 = .ok (.iaload, 1) := by decide +kernel
theorem dX9_greets_12 : decode cX9_greets 12 = .ok (.invokevirtual 183, 3) := by decide +kernel
theorem dX9_greets_15 : decode cX9_greets 15 = .ok (.goto 4, 3) := by decide +kernel
theorem dX9_greets_18 : decode cX9_greets 18 = .ok (.iconst (-1), 1) := by decide +kernel
theorem dX9_greets_19 : decode cX9_greets 19 = .ok (.istore 4, 2) := by decide +kernel
theorem dX9_greets_21 : decode cX9_greets 21 = .ok (.iload 4, 2) := by decide +kernel
theorem dX9_greets_23 : decode cX9_greets 23 = .ok (.iconst (-1), 1) := by decide +kernel
theorem dX9_greets_24 : decode cX9_greets 24 = .ok (.if_icmp .eq 37, 3) := by decide +kernel
theorem dX9_greets_27 : decode cX9_greets 27 = .ok (.aload_n 0, 1) := by decide +kernel
theorem dX9_greets_28 : decode cX9_greets 28 = .ok (.getfield 133, 3) := by decide +kernel
theorem dX9_greets_31 : decode cX9_greets 31 = .ok (.aload_n 0, 1) := by decide +kernel
theorem dX9_greets_32 : decode cX9_greets 32 = .ok (.getfield 53, 3) := by decide +kernel
theorem dX9_greets_35 : decode cX9_greets 35 = .ok (.iconst 5, 1) := by decide +kernel
theorem dX9_greets_36 : decode cX9_greets 36 = .ok (.iload 4, 2) := by decide +kernel
theorem dX9_greets_38 : decode cX9_greets 38 = .ok (.imul, 1) := by decide +kernel
theorem dX9_greets_39 : decode cX9_greets 39 = .ok (.iconst 2, 1) := by decide +kernel
theorem dX9_greets_40 : decode cX9_greets 40 = .ok (.iadd, 1) := by decide +kernel
theorem dX9_greets_41 : decode cX9_greets 41 = .ok (.iaload, 1) := by decide +kernel
theorem dX9_greets_42 : decode cX9_greets 42 = .ok (.isub, 1) := by decide +kernel
theorem dX9_greets_43 : decode cX9_greets 43 = .ok (.aload_n 0, 1) := by decide +kernel
theorem dX9_greets_44 : decode cX9_greets 44 = .ok (.getfield 53, 3) := by decide +kernel
theorem dX9_greets_47 : decode cX9_greets 47 = .ok (.iconst 5, 1) := by decide +kernel
theorem dX9_greets_48 : decode cX9_greets 48 = .ok (.iload 4, 2) := by decide +kernel
theorem dX9_greets_50 : decode cX9_greets 50 = .ok (.imul, 1) := by decide +kernel
theorem dX9_greets_51 : decode cX9_greets 51 = .ok (.iconst 1, 1) := by decide +kernel
theorem dX9_greets_52 : decode cX9_greets 52 = .ok (.iadd, 1) := by decide +kernel
theorem dX9_greets_53 : decode cX9_greets 53 = .ok (.iaload, 1) := by decide +kernel
theorem dX9_greets_54 : decode cX9_greets 54 = .ok (.if_icmp .gt 7, 3) := by decide +kernel
theorem dX9_greets_57 : decode cX9_greets 57 = .ok (.iconst 1, 1) := by decide +kernel
theorem dX9_greets_58 : decode cX9_greets 58 = .ok (.goto 4, 3) := by decide +kernel
theorem dX9_greets_61 : decode cX9_greets 61 = .ok (.iconst 0, 1) := by decide +kernel
theorem dX9_greets_62 : decode cX9_greets 62 = .ok (.istore 5, 2) := by decide +kernel
theorem dX9_greets_64 : decode cX9_greets 64 = .ok (.iload 5, 2) := by decide +kernel
theorem dX9_greets_66 : decode cX9_greets 66 = .ok (.ifCond .eq 17, 3) := by decide +kernel
theorem dX9_greets_69 : decode cX9_greets 69 = .ok (.aload_n 0, 1) := by decide +kernel
theorem dX9_greets_70 : decode cX9_greets 70 = .ok (.getfield 53, 3) := by decide +kernel
theorem dX9_greets_73 : decode cX9_greets 73 = .ok (.iconst 5, 1) := by decide +kernel
theorem dX9_greets_74 : decode cX9_greets 74 = .ok (.iload 4, 2) := by decide +kernel
theorem dX9_greets_76 : decode cX9_greets 76 = .ok (.imul, 1) := by decide +kernel
theorem dX9_greets_77 : decode cX9_greets 77 = .ok (.iconst 3, 1) := by decide +kernel
theorem dX9_greets_78 : decode cX9_greets 78 = .ok (.iadd, 1) := by decide +kernel
theorem dX9_greets_79 : decode cX9_greets 79 = .ok (.iaload, 1) := by decide +kernel
theorem dX9_greets_80 : decode cX9_greets 80 = .ok (.goto 4, 3) := by decide +kernel
theorem dX9_greets_83 : decode cX9_greets 83 = .ok (.iconst 0, 1) := by decide +kernel
theorem dX9_greets_84 : decode cX9_greets 84 = .ok (.istore 6, 2) := by decide +kernel
theorem dX9_greets_86 : decode cX9_greets 86 = .ok (.iload 5, 2) := by decide +kernel
theorem dX9_greets_88 : decode cX9_greets 88 = .ok (.ifCond .eq 33, 3) := by decide +kernel
theorem dX9_greets_91 : decode cX9_greets 91 = .ok (.aload_n 0, 1) := by decide +kernel
theorem dX9_greets_92 : decode cX9_greets 92 = .ok (.getfield 71, 3) := by decide +kernel
theorem dX9_greets_95 : decode cX9_greets 95 = .ok (.bipush 7, 2) := by decide +kernel
theorem dX9_greets_97 : decode cX9_greets 97 = .ok (.iaload, 1) := by decide +kernel
theorem dX9_greets_98 : decode cX9_greets 98 = .ok (.aload_n 0, 1) := by decide +kernel
theorem dX9_greets_99 : decode cX9_greets 99 = .ok (.iload 6, 2) := by decide +kernel
theorem dX9_greets_101 : decode cX9_greets 101 = .ok (.aload_n 0, 1) := by decide +kernel
theorem dX9_greets_102 : decode cX9_greets 102 = .ok (.getfield 25, 3) := by decide +kernel
theorem dX9_greets_105 : decode cX9_greets 105 = .ok (.iconst 1, 1) := by decide +kernel
theorem dX9_greets_106 : decode cX9_greets 106 = .ok (.iaload, 1) := by decide +kernel
theorem dX9_greets_107 : decode cX9_greets 107 = .ok (.invokevirtual 136, 3) := by decide +kernel
theorem dX9_greets_110 : decode cX9_greets 110 = .ok (.if_icmp .eq 11, 3) := by decide +kernel
theorem dX9_greets_113 : decode cX9_greets 113 = .ok (.aload_n 0, 1) := by decide +kernel
theorem dX9_greets_114 : decode cX9_greets 114 = .ok (.iconst 1, 1) := by decide +kernel
theorem dX9_greets_115 : decode cX9_greets 115 = .ok (.bipush 6, 2) := by decide +kernel
theorem dX9_greets_117 : decode cX9_greets 117 = .ok (.invokevirtual 152, 3) := by decide +kernel
theorem dX9_greets_120 : decode cX9_greets 120 = .ok (.return_, 1) := by decide +kernel
theorem dX9_greets_121 : decode cX9_greets 121 = .ok (.iload 5, 2) := by decide +kernel
theorem dX9_greets_123 : decode cX9_greets 123 = .ok (.ifCond .eq 50, 3) := by decide +kernel
theorem dX9_greets_126 : decode cX9_greets 126 = .ok (.aload_n 0, 1) := by decide +kernel
theorem dX9_greets_127 : decode cX9_greets 127 = .ok (.getfield 71, 3) := by decide +kernel
theorem dX9_greets_130 : decode cX9_greets 130 = .ok (.bipush 8, 2) := by decide +kernel
theorem dX9_greets_132 : decode cX9_greets 132 = .ok (.iaload, 1) := by decide +kernel
theorem dX9_greets_133 : decode cX9_greets 133 = .ok (.ifCond .lt 40, 3) := by decide +kernel
theorem dX9_greets_136 : decode cX9_greets 136 = .ok (.iload_n 3, 1) := by decide +kernel
theorem dX9_greets_137 : decode cX9_greets 137 = .ok (.ifCond .ne 36, 3) := by decide +kernel
theorem dX9_greets_140 : decode cX9_greets 140 = .ok (.aload_n 0, 1) := by decide +kernel
theorem dX9_greets_141 : decode cX9_greets 141 = .ok (.iload 4, 2) := by decide +kernel
theorem dX9_greets_143 : decode cX9_greets 143 = .ok (.invokevirtual 186, 3) := by decide +kernel
theorem dX9_greets_146 : decode cX9_greets 146 = .ok (.ifCond .eq 27, 3) := by decide +kernel
theorem dX9_greets_149 : decode cX9_greets 149 = .ok (.aload_n 0, 1) := by decide +kernel
theorem dX9_greets_150 : decode cX9_greets 150 = .ok (.aload_n 0, 1) := by decide +kernel
theorem dX9_greets_151 : decode cX9_greets 151 = .ok (.getfield 71, 3) := by decide +kernel
theorem dX9_greets_154 : decode cX9_greets 154 = .ok (.iconst 5, 1) := by decide +kernel
theorem dX9_greets_155 : decode cX9_greets 155 = .ok (.iaload, 1) := by decide +kernel
theorem dX9_greets_156 : decode cX9_greets 156 = .ok (.aload_n 0, 1) := by decide +kernel
theorem dX9_greets_157 : decode cX9_greets 157 = .ok (.getfield 71, 3) := by decide +kernel
theorem dX9_greets_160 : decode cX9_greets 160 = .ok (.bipush 7, 2) := by decide +kernel
theorem dX9_greets_162 : decode cX9_greets 162 = .ok (.iaload, 1) := by decide +kernel
theorem dX9_greets_163 : decode cX9_greets 163 = .ok (.invokevirtual 190, 3) := by decide +kernel
theorem dX9_greets_166 : decode cX9_greets 166 = .ok (.ifCond .ne 7, 3) := by decide +kernel
theorem dX9_greets_169 : decode cX9_greets 169 = .ok (.iconst 1, 1) := by decide +kernel
theorem dX9_greets_170 : decode cX9_greets 170 = .ok (.goto 4, 3) := by decide +kernel
theorem dX9_greets_173 : decode cX9_greets 173 = .ok (.iconst 0, 1) := by decide +kernel
theorem dX9_greets_174 : decode cX9_greets 174 = .ok (.istore 7, 2) := by decide +kernel
theorem dX9_greets_176 : decode cX9_greets 176 = .ok (.iload 7, 2) := by decide +kernel
theorem dX9_greets_178 : decode cX9_greets 178 = .ok (.ifCond .eq 46, 3) := by decide +kernel
theorem dX9_greets_181 : decode cX9_greets 181 = .ok (.aload_n 0, 1) := by decide +kernel
theorem dX9_greets_182 : decode cX9_greets 182 = .ok (.aload_n 0, 1) := by decide +kernel
theorem dX9_greets_183 : decode cX9_greets 183 = .ok (.getfield 71, 3) := by decide +kernel
theorem dX9_greets_186 : decode cX9_greets 186 = .ok (.iconst 5, 1) := by decide +kernel
theorem dX9_greets_187 : decode cX9_greets 187 = .ok (.iaload, 1) := by decide +kernel
theorem dX9_greets_188 : decode cX9_greets 188 = .ok (.aload_n 0, 1) := by decide +kernel
theorem dX9_greets_189 : decode cX9_greets 189 = .ok (.getfield 71, 3) := by decide +kernel
theorem dX9_greets_192 : decode cX9_greets 192 = .ok (.bipush 7, 2) := by decide +kernel
theorem dX9_greets_194 : decode cX9_greets 194 = .ok (.iaload, 1) := by decide +kernel
theorem dX9_greets_195 : decode cX9_greets 195 = .ok (.invokevirtual 193, 3) := by decide +kernel
theorem dX9_greets_198 : decode cX9_greets 198 = .ok (.aload_n 0, 1) := by decide +kernel
theorem dX9_greets_199 : decode cX9_greets 199 = .ok (.dup, 1) := by decide +kernel
theorem dX9_greets_200 : decode cX9_greets 200 = .ok (.getfield 196, 3) := by decide +kernel
theorem dX9_greets_203 : decode cX9_greets 203 = .ok (.iconst 1, 1) := by decide +kernel
theorem dX9_greets_204 : decode cX9_greets 204 = .ok (.iadd, 1) := by decide +kernel
theorem dX9_greets_205 : decode cX9_greets 205 = .ok (.putfield 196, 3) := by decide +kernel
theorem dX9_greets_208 : decode cX9_greets 208 = .ok (.aload_n 0, 1) := by decide +kernel
theorem dX9_greets_209 : decode cX9_greets 209 = .ok (.dup, 1) := by decide +kernel
theorem dX9_greets_210 : decode cX9_greets 210 = .ok (.getfield 199, 3) := by decide +kernel
theorem dX9_greets_213 : decode cX9_greets 213 = .ok (.aload_n 0, 1) := by decide +kernel
theorem dX9_greets_214 : decode cX9_greets 214 = .ok (.getfield 71, 3) := by decide +kernel
theorem dX9_greets_217 : decode cX9_greets 217 = .ok (.bipush 8, 2) := by decide +kernel
theorem dX9_greets_219 : decode cX9_greets 219 = .ok (.iaload, 1) := by decide +kernel
theorem dX9_greets_220 : decode cX9_greets 220 = .ok (.iadd, 1) := by decide +kernel
theorem dX9_greets_221 : decode cX9_greets 221 = .ok (.putfield 199, 3) := by decide +kernel
theorem dX9_greets_224 : decode cX9_greets 224 = .ok (.aload_n 0, 1) := by decide +kernel
theorem dX9_greets_225 : decode cX9_greets 225 = .ok (.iconst 1, 1) := by decide +kernel
theorem dX9_greets_226 : decode cX9_greets 226 = .ok (.bipush 8, 2) := by decide +kernel
theorem dX9_greets_228 : decode cX9_greets 228 = .ok (.invokevirtual 142, 3) := by decide +kernel
theorem dX9_greets_231 : decode cX9_greets 231 = .ok (.aload_n 0, 1) := by decide +kernel
theorem dX9_greets_232 : decode cX9_greets 232 = .ok (.getfield 37, 3) := by decide +kernel
theorem dX9_greets_235 : decode cX9_greets 235 = .ok (.iconst 1, 1) := by decide +kernel
theorem dX9_greets_236 : decode cX9_greets 236 = .ok (.aload_n 0, 1) := by decide +kernel
theorem dX9_greets_237 : decode cX9_greets 237 = .ok (.getfield 71, 3) := by decide +kernel
theorem dX9_greets_240 : decode cX9_greets 240 = .ok (.iconst 4, 1) := by decide +kernel
theorem dX9_greets_241 : decode cX9_greets 241 = .ok (.iaload, 1) := by decide +kernel
theorem dX9_greets_242 : decode cX9_greets 242 = .ok (.aload_n 0, 1) := by decide +kernel
theorem dX9_greets_243 : decode cX9_greets 243 = .ok (.getfield 16, 3) := by decide +kernel
theorem dX9_greets_246 : decode cX9_greets 246 = .ok (.iconst 1, 1) := by decide +kernel
theorem dX9_greets_247 : decode cX9_greets 247 = .ok (.iaload, 1) := by decide +kernel
theorem dX9_greets_248 : decode cX9_greets 248 = .ok (.iload_n 2, 1) := by decide +kernel
theorem dX9_greets_249 : decode cX9_greets 249 = .ok (.invokestatic 92, 3) := by decide +kernel
theorem dX9_greets_252 : decode cX9_greets 252 = .ok (.invokestatic 96, 3) := by decide +kernel
theorem dX9_greets_255 : decode cX9_greets 255 = .ok (.iload 6, 2) := by decide +kernel
theorem dX9_greets_257 : decode cX9_greets 257 = .ok (.invokestatic 161, 3) := by decide +kernel
theorem dX9_greets_260 : decode cX9_greets 260 = .ok (.iastore, 1) := by decide +kernel
theorem dX9_greets_261 : decode cX9_greets 261 = .ok (.aload_n 0, 1) := by decide +kernel
theorem dX9_greets_262 : decode cX9_greets 262 = .ok (.getfield 28, 3) := by decide +kernel
theorem dX9_greets_265 : decode cX9_greets 265 = .ok (.iconst 1, 1) := by decide +kernel
theorem dX9_greets_266 : decode cX9_greets 266 = .ok (.iload_n 1, 1) := by decide +kernel
theorem dX9_greets_267 : decode cX9_greets 267 = .ok (.iastore, 1) := by decide +kernel
theorem dX9_greets_268 : decode cX9_greets 268 = .ok (.aload_n 0, 1) := by decide +kernel
theorem dX9_greets_269 : decode cX9_greets 269 = .ok (.getfield 31, 3) := by decide +kernel
theorem dX9_greets_272 : decode cX9_greets 272 = .ok (.iconst 1, 1) := by decide +kernel
theorem dX9_greets_273 : decode cX9_greets 273 = .ok (.iload_n 2, 1) := by decide +kernel
theorem dX9_greets_274 : decode cX9_greets 274 = .ok (.iastore, 1) := by decide +kernel
theorem dX9_greets_275 : decode cX9_greets 275 = .ok (.aload_n 0, 1) := by decide +kernel
theorem dX9_greets_276 : decode cX9_greets 276 = .ok (.getfield 34, 3) := by decide +kernel
theorem dX9_greets_279 : decode cX9_greets 279 = .ok (.iconst 1, 1) := by decide +kernel
theorem dX9_greets_280 : decode cX9_greets 280 = .ok (.iload 5, 2) := by decide +kernel
theorem dX9_greets_282 : decode cX9_greets 282 = .ok (.ifCond .eq 7, 3) := by decide +kernel
theorem dX9_greets_285 : decode cX9_greets 285 = .ok (.iconst 1, 1) := by decide +kernel
theorem dX9_greets_286 : decode cX9_greets 286 = .ok (.goto 4, 3) := by decide +kernel
theorem dX9_greets_289 : decode cX9_greets 289 = .ok (.iconst 0, 1) := by decide +kernel
theorem dX9_greets_290 : decode cX9_greets 290 = .ok (.iastore, 1) := by decide +kernel
theorem dX9_greets_291 : decode cX9_greets 291 = .ok (.aload_n 0, 1) := by decide +kernel
theorem dX9_greets_292 : decode cX9_greets 292 = .ok (.iconst 3, 1) := by decide +kernel
theorem dX9_greets_293 : decode cX9_greets 293 = .ok (.invokevirtual 116, 3) := by decide +kernel
theorem dX9_greets_296 : decode cX9_greets 296 = .ok (.aload_n 0, 1) := by decide +kernel
theorem dX9_greets_297 : decode cX9_greets 297 = .ok (.getfield 71, 3) := by decide +kernel
theorem dX9_greets_300 : decode cX9_greets 300 = .ok (.iconst 1, 1) := by decide +kernel
theorem dX9_greets_301 : decode cX9_greets 301 = .ok (.iload_n 1, 1) := by decide +kernel
theorem dX9_greets_302 : decode cX9_greets 302 = .ok (.iastore, 1) := by decide +kernel
theorem dX9_greets_303 : decode cX9_greets 303 = .ok (.aload_n 0, 1) := by decide +kernel
theorem dX9_greets_304 : decode cX9_greets 304 = .ok (.getfield 71, 3) := by decide +kernel
theorem dX9_greets_307 : decode cX9_greets 307 = .ok (.iconst 2, 1) := by decide +kernel
theorem dX9_greets_308 : decode cX9_greets 308 = .ok (.iload_n 2, 1) := by decide +kernel
theorem dX9_greets_309 : decode cX9_greets 309 = .ok (.iastore, 1) := by decide +kernel
theorem dX9_greets_310 : decode cX9_greets 310 = .ok (.aload_n 0, 1) := by decide +kernel
theorem dX9_greets_311 : decode cX9_greets 311 = .ok (.getfield 71, 3) := by decide +kernel
theorem dX9_greets_314 : decode cX9_greets 314 = .ok (.iconst 3, 1) := by decide +kernel
theorem dX9_greets_315 : decode cX9_greets 315 = .ok (.iload_n 2, 1) := by decide +kernel
theorem dX9_greets_316 : decode cX9_greets 316 = .ok (.aload_n 0, 1) := by decide +kernel
theorem dX9_greets_317 : decode cX9_greets 317 = .ok (.getfield 16, 3) := by decide +kernel
theorem dX9_greets_320 : decode cX9_greets 320 = .ok (.iconst 1, 1) := by decide +kernel
theorem dX9_greets_321 : decode cX9_greets 321 = .ok (.iaload, 1) := by decide +kernel
theorem dX9_greets_322 : decode cX9_greets 322 = .ok (.invokestatic 130, 3) := by decide +kernel
theorem dX9_greets_325 : decode cX9_greets 325 = .ok (.iastore, 1) := by decide +kernel
theorem dX9_greets_326 : decode cX9_greets 326 = .ok (.aload_n 0, 1) := by decide +kernel
theorem dX9_greets_327 : decode cX9_greets 327 = .ok (.getfield 71, 3) := by decide +kernel
theorem dX9_greets_330 : decode cX9_greets 330 = .ok (.iconst 4, 1) := by decide +kernel
theorem dX9_greets_331 : decode cX9_greets 331 = .ok (.aload_n 0, 1) := by decide +kernel
theorem dX9_greets_332 : decode cX9_greets 332 = .ok (.getfield 7, 3) := by decide +kernel
theorem dX9_greets_335 : decode cX9_greets 335 = .ok (.iconst 1, 1) := by decide +kernel
theorem dX9_greets_336 : decode cX9_greets 336 = .ok (.iaload, 1) := by decide +kernel
theorem dX9_greets_337 : decode cX9_greets 337 = .ok (.iload_n 1, 1) := by decide +kernel
theorem dX9_greets_338 : decode cX9_greets 338 = .ok (.invokestatic 158, 3) := by decide +kernel
theorem dX9_greets_341 : decode cX9_greets 341 = .ok (.ifCond .eq 7, 3) := by decide +kernel
theorem dX9_greets_344 : decode cX9_greets 344 = .ok (.iconst 1, 1) := by decide +kernel
theorem dX9_greets_345 : decode cX9_greets 345 = .ok (.goto 4, 3) := by decide +kernel
theorem dX9_greets_348 : decode cX9_greets 348 = .ok (.iconst 0, 1) := by decide +kernel
theorem dX9_greets_349 : decode cX9_greets 349 = .ok (.iastore, 1) := by decide +kernel
theorem dX9_greets_350 : decode cX9_greets 350 = .ok (.aload_n 0, 1) := by decide +kernel
theorem dX9_greets_351 : decode cX9_greets 351 = .ok (.getfield 71, 3) := by decide +kernel
theorem dX9_greets_354 : decode cX9_greets 354 = .ok (.iconst 5, 1) := by decide +kernel
theorem dX9_greets_355 : decode cX9_greets 355 = .ok (.iload 5, 2) := by decide +kernel
theorem dX9_greets_357 : decode cX9_greets 357 = .ok (.ifCond .eq 7, 3) := by decide +kernel
theorem dX9_greets_360 : decode cX9_greets 360 = .ok (.iconst 1, 1) := by decide +kernel
theorem dX9_greets_361 : decode cX9_greets 361 = .ok (.goto 4, 3) := by decide +kernel
theorem dX9_greets_364 : decode cX9_greets 364 = .ok (.iconst 0, 1) := by decide +kernel
theorem dX9_greets_365 : decode cX9_greets 365 = .ok (.iastore, 1) := by decide +kernel
theorem dX9_greets_366 : decode cX9_greets 366 = .ok (.aload_n 0, 1) := by decide +kernel
theorem dX9_greets_367 : decode cX9_greets 367 = .ok (.getfield 71, 3) := by decide +kernel
theorem dX9_greets_370 : decode cX9_greets 370 = .ok (.bipush 6, 2) := by decide +kernel
theorem dX9_greets_372 : decode cX9_greets 372 = .ok (.iload 7, 2) := by decide +kernel
theorem dX9_greets_374 : decode cX9_greets 374 = .ok (.ifCond .eq 7, 3) := by decide +kernel
theorem dX9_greets_377 : decode cX9_greets 377 = .ok (.iconst 1, 1) := by decide +kernel
theorem dX9_greets_378 : decode cX9_greets 378 = .ok (.goto 4, 3) := by decide +kernel
theorem dX9_greets_381 : decode cX9_greets 381 = .ok (.iconst 0, 1) := by decide +kernel
theorem dX9_greets_382 : decode cX9_greets 382 = .ok (.iastore, 1) := by decide +kernel
theorem dX9_greets_383 : decode cX9_greets 383 = .ok (.aload_n 0, 1) := by decide +kernel
theorem dX9_greets_384 : decode cX9_greets 384 = .ok (.iconst 1, 1) := by decide +kernel
theorem dX9_greets_385 : decode cX9_greets 385 = .ok (.bipush 6, 2) := by decide +kernel
theorem dX9_greets_387 : decode cX9_greets 387 = .ok (.invokevirtual 142, 3) := by decide +kernel
theorem dX9_greets_390 : decode cX9_greets 390 = .ok (.aload_n 0, 1) := by decide +kernel
theorem dX9_greets_391 : decode cX9_greets 391 = .ok (.getfield 71, 3) := by decide +kernel
theorem dX9_greets_394 : decode cX9_greets 394 = .ok (.bipush 7, 2) := by decide +kernel
theorem dX9_greets_396 : decode cX9_greets 396 = .ok (.aload_n 0, 1) := by decide +kernel
theorem dX9_greets_397 : decode cX9_greets 397 = .ok (.iconst 1, 1) := by decide +kernel
theorem dX9_greets_398 : decode cX9_greets 398 = .ok (.iconst 1, 1) := by decide +kernel
theorem dX9_greets_399 : decode cX9_greets 399 = .ok (.invokevirtual 164, 3) := by decide +kernel
theorem dX9_greets_402 : decode cX9_greets 402 = .ok (.iastore, 1) := by decide +kernel
theorem dX9_greets_403 : decode cX9_greets 403 = .ok (.aload_n 0, 1) := by decide +kernel
theorem dX9_greets_404 : decode cX9_greets 404 = .ok (.iconst 0, 1) := by decide +kernel
theorem dX9_greets_405 : decode cX9_greets 405 = .ok (.invokevirtual 146, 3) := by decide +kernel
theorem dX9_greets_408 : decode cX9_greets 408 = .ok (.aload_n 0, 1) := by decide +kernel
theorem dX9_greets_409 : decode cX9_greets 409 = .ok (.getfield 19, 3) := by decide +kernel
theorem dX9_greets_412 : decode cX9_greets 412 = .ok (.iconst 1, 1) := by decide +kernel
theorem dX9_greets_413 : decode cX9_greets 413 = .ok (.iconst 3, 1) := by decide +kernel
theorem dX9_greets_414 : decode cX9_greets 414 = .ok (.iastore, 1) := by decide +kernel
theorem dX9_greets_415 : decode cX9_greets 415 = .ok (.return_, 1) := by decide +kernel
set_option maxRecDepth 20000 in
theorem ggX9_isFitting_X9_in : GoodIn wsX9_isFitting wsX9_in := goodIn_r _ [9] (by decide +kernel) (by decide +kernel)
set_option maxRecDepth 20000 in
theorem gX9_isFitting_X9_in : GoodIn wsX9_isFitting (va_wsS RX9 87 yX9_in wsX9_in) := goodIn_app (goodIn_of _ (by decide +kernel)) ggX9_isFitting_X9_in
theorem dX9_isFitting_0 : decode cX9_isFitting 0 = .ok (.aload_n 0, 1) := by decide +kernel
theorem dX9_isFitting_1 : decode cX9_isFitting 1 = .ok (.getfield 71, 3) := by decide +kernel
theorem dX9_isFitting_4 : decode cX9_isFitting 4 = .ok (.bipush 6, 2) := by decide +kernel
theorem dX9_isFitting_6 : decode cX9_isFitting 6 = .ok (.iaload, 1) := by decide +kernel
theorem dX9_isFitting_7 : decode cX9_isFitting 7 = .ok (.aload_n 0, 1) := by decide +kernel
theorem dX9_isFitting_8 : decode cX9_isFitting 8 = .ok (.getfield 53, 3) := by decide +kernel
theorem dX9_isFitting_11 : decode cX9_isFitting 11 = .ok (.iconst 5, 1) := by decide +kernel
theorem dX9_isFitting_12 : decode cX9_isFitting 12 = .ok (.iload_n 1, 1) := by decide +kernel
theorem dX9_isFitting_13 : decode cX9_isFitting 13 = .ok (.imul, 1) := by decide +kernel
theorem dX9_isFitting_14 : decode cX9_isFitting 14 = .ok (.iconst 4, 1) := by decide +kernel
theorem dX9_isFitting_15 : decode cX9_isFitting 15 = .ok (.iadd, 1) := by decide +kernel
theorem dX9_isFitting_16 : decode cX9_isFitting 16 = .ok (.iaload, 1) := by decide +kernel
theorem dX9_isFitting_17 : decode cX9_isFitting 17 = .ok (.isub, 1) := by decide +kernel
theorem dX9_isFitting_18 : decode cX9_isFitting 18 = .ok (.istore_n 2, 1) := by decide +kernel
theorem dX9_isFitting_19 : decode cX9_isFitting 19 = .ok (.iload_n 2, 1) := by decide +kernel
theorem dX9_isFitting_20 : decode cX9_isFitting 20 = .ok (.i2l, 1) := by decide +kernel
theorem dX9_isFitting_21 : decode cX9_isFitting 21 = .ok (.aload_n 0, 1) := by decide +kernel
theorem dX9_isFitting_22 : decode cX9_isFitting 22 = .ok (.getfield 133, 3) := by decide +kernel
theorem dX9_isFitting_25 : decode cX9_isFitting 25 = .ok (.aload_n 0, 1) := by decide +kernel
theorem dX9_isFitting_26 : decode cX9_isFitting 26 = .ok (.getfield 53, 3) := by decide +kernel
theorem dX9_isFitting_29 : decode cX9_isFitting 29 = .ok (.iconst 5, 1) := by decide +kernel
theorem dX9_isFitting_30 : decode cX9_isFitting 30 = .ok (.iload_n 1, 1) := by decide +kernel
theorem dX9_isFitting_31 : decode cX9_isFitting 31 = .ok (.imul, 1) := by decide +kernel
theorem dX9_isFitting_32 : decode cX9_isFitting 32 = .ok (.iconst 2, 1) := by decide +kernel
theorem dX9_isFitting_33 : decode cX9_isFitting 33 = .ok (.iadd, 1) := by decide +kernel
theorem dX9_isFitting_34 : decode cX9_isFitting 34 = .ok (.iaload, 1) := by decide +kernel
theorem dX9_isFitting_35 : decode cX9_isFitting 35 = .ok (.isub, 1) := by decide +kernel
theorem dX9_isFitting_36 : decode cX9_isFitting 36 = .ok (.i2l, 1) := by decide +kernel
theorem dX9_isFitting_37 : decode cX9_isFitting 37 = .ok (.lsub, 1) := by decide +kernel
theorem dX9_isFitting_38 : decode cX9_isFitting 38 = .ok (.ldc2_w 202, 3) := by decide +kernel
theorem dX9_isFitting_41 : decode cX9_isFitting 41 = .ok (.ldc2_w 204, 3) := by decide +kernel
theorem dX9_isFitting_44 : decode cX9_isFitting 44 = .ok (.invokestatic 87, 3) := by decide +kernel
theorem dX9_isFitting_47 : decode cX9_isFitting 47 = .ok (.ireturn, 1) := by decide +kernel
set_option maxRecDepth 20000 in
theorem ggX9_comesFinish_X9_proof : GoodIn wsX9_comesFinish wsX9_proof := goodIn_r _ [6, 7, 8, 9, 10, 5, 11, 12, 25, 26, 27, 28, 29, 30, 31, 32, 33, 34, 35, 36, 37, 38, 39, 40, 41, 42, 43, 44, 45, 46, 47, 48, 49, 50, 51, 52, 53, 54, 55, 56, 57, 58, 59, 60, 61, 62, 63, 64, 65, 66, 67] (by decide +kernel) (by decide +kernel)
set_option maxRecDepth 20000 in
theorem gX9_comesFinish_X9_proof : GoodIn wsX9_comesFinish (wsV RX9 164 RX9 yX9_proof wsX9_proof) := goodIn_app (goodIn_of _ (by decide +kernel)) ggX9_comesFinish_X9_proof
set_option maxRecDepth 20000 in
theorem ggX9_comesFinish_X9_fails : GoodIn wsX9_comesFinish wsX9_fails := goodIn_r _ [16, 17, 18, 25, 26, 27, 28, 29, 30, 31, 32, 33, 34, 35, 36, 37, 38, 39, 40, 41, 42, 43, 44, 45, 46, 47, 48, 49, 50, 51, 52, 53, 54, 55, 56, 57, 58, 59, 60, 61, 62, 63, 64, 65, 66, 67] (by decide +kernel) (by decide +kernel)
set_option maxRecDepth 20000 in
theorem gX9_comesFinish_X9_fails : GoodIn wsX9_comesFinish (wsV RX9 152 RX9 yX9_fails wsX9_fails) := goodIn_app (goodIn_of _ (by decide +kernel)) ggX9_comesFinish_X9_fails
set_option maxRecDepth 20000 in
theorem ggX9_comesFinish_X9_joins : GoodIn wsX9_comesFinish wsX9_joins := goodIn_r _ [22, 17, 23, 24, 25, 26, 27, 28, 29, 30, 31, 32, 33, 34, 35, 36, 37, 38, 39, 40, 41, 42, 43, 44, 45, 46, 47, 48, 49, 50, 51, 52, 53, 54, 55, 56, 57, 58, 59, 60, 61, 62, 63, 64, 65, 66, 67] (by decide +kernel) (by decide +kernel)
set_option maxRecDepth 20000 in
theorem gX9_comesFinish_X9_joins : GoodIn wsX9_comesFinish (wsV RX9 167 RX9 yX9_joins wsX9_joins) := goodIn_app (goodIn_of _ (by decide +kernel)) ggX9_comesFinish_X9_joins
theorem dX9_comesFinish_0 : decode cX9_comesFinish 0 = .ok (.aload_n 0, 1) := by decide +kernel
theorem dX9_comesFinish_1 : decode cX9_comesFinish 1 = .ok (.getfield 71, 3) := by decide +kernel
theorem dX9_comesFinish_4 : decode cX9_comesFinish 4 = .ok (.iconst 1, 1) := by decide +kernel
theorem dX9_comesFinish_5 : decode cX9_comesFinish 5 = .ok (.iaload, 1) := by decide +kernel
theorem dX9_comesFinish_6 : decode cX9_comesFinish 6 = .ok (.aload_n 0, 1) := by decide +kernel
theorem dX9_comesFinish_7 : decode cX9_comesFinish 7 = .ok (.iconst 1, 1) := by decide +kernel
theorem dX9_comesFinish_8 : decode cX9_comesFinish 8 = .ok (.iconst 2, 1) := by decide +kernel
theorem dX9_comesFinish_9 : decode cX9_comesFinish 9 = .ok (.invokevirtual 164, 3) := by decide +kernel
theorem dX9_comesFinish_12 : decode cX9_comesFinish 12 = .ok (.if_icmp .eq 13, 3) := by decide +kernel
theorem dX9_comesFinish_15 : decode cX9_comesFinish 15 = .ok (.aload_n 0, 1) := by decide +kernel
theorem dX9_comesFinish_16 : decode cX9_comesFinish 16 = .ok (.iconst 1, 1) := by decide +kernel
theorem dX9_comesFinish_17 : decode cX9_comesFinish 17 = .ok (.bipush 8, 2) := by decide +kernel
theorem dX9_comesFinish_19 : decode cX9_comesFinish 19 = .ok (.invokevirtual 152, 3) := by decide +kernel
theorem dX9_comesFinish_22 : decode cX9_comesFinish 22 = .ok (.goto 8, 3) := by decide +kernel
theorem dX9_comesFinish_25 : decode cX9_comesFinish 25 = .ok (.aload_n 0, 1) := by decide +kernel
theorem dX9_comesFinish_26 : decode cX9_comesFinish 26 = .ok (.iconst 1, 1) := by decide +kernel
theorem dX9_comesFinish_27 : decode cX9_comesFinish 27 = .ok (.invokevirtual 167, 3) := by decide +kernel
theorem dX9_comesFinish_30 : decode cX9_comesFinish 30 = .ok (.return_, 1) := by decide +kernel
set_option maxRecDepth 20000 in
theorem ggX9_comesLetter_X9_lock : GoodIn wsX9_comesLetter wsX9_lock := goodIn_r _ [9, 10, 11, 12, 13, 8, 14, 15, 16, 17, 18, 19, 20, 27, 28, 29, 30, 31, 32, 33, 34, 35, 36, 37, 38, 39, 40, 41, 42, 43, 44, 45, 46, 47, 48, 49, 50, 51, 52, 53, 54, 55, 56, 57, 58, 59, 60, 61, 62, 63, 64, 65, 66, 67, 68, 69] (by decide +kernel) (by decide +kernel)
set_option maxRecDepth 20000 in
theorem gX9_comesLetter_X9_lock : GoodIn wsX9_comesLetter (wsV RX9 206 RX9 yX9_lock wsX9_lock) := goodIn_app (goodIn_of _ (by decide +kernel)) ggX9_comesLetter_X9_lock
set_option maxRecDepth 20000 in
theorem ggX9_comesLetter_X9_mix : GoodIn wsX9_comesLetter wsX9_mix := goodIn_r _ [19, 20] (by decide +kernel) (by decide +kernel)
set_option maxRecDepth 20000 in
theorem gX9_comesLetter_X9_mix : GoodIn wsX9_comesLetter (va_wsS RX9 109 yX9_mix wsX9_mix) := goodIn_app (goodIn_of _ (by decide +kernel)) ggX9_comesLetter_X9_mix
set_option maxRecDepth 20000 in
theorem ggX9_comesLetter_X9_fails : GoodIn wsX9_comesLetter wsX9_fails := goodIn_r _ [24, 25, 26, 27, 28, 29, 30, 31, 32, 33, 34, 35, 36, 37, 38, 39, 40, 41, 42, 43, 44, 45, 46, 47, 48, 49, 50, 51, 52, 53, 54, 55, 56, 57, 58, 59, 60, 61, 62, 63, 64, 65, 66, 67, 68, 69] (by decide +kernel) (by decide +kernel)
set_option maxRecDepth 20000 in
theorem gX9_comesLetter_X9_fails : GoodIn wsX9_comesLetter (wsV RX9 152 RX9 yX9_fails wsX9_fails) := goodIn_app (goodIn_of _ (by decide +kernel)) ggX9_comesLetter_X9_fails
theorem dX9_comesLetter_0 : decode cX9_comesLetter 0 = .ok (.aload_n 0, 1) := by decide +kernel
theorem dX9_comesLetter_1 : decode cX9_comesLetter 1 = .ok (.iload_n 1, 1) := by decide +kernel
theorem dX9_comesLetter_2 : decode cX9_comesLetter 2 = .ok (.iload_n 1, 1) := by decide +kernel
theorem dX9_comesLetter_3 : decode cX9_comesLetter 3 = .ok (.invokevirtual 206, 3) := by decide +kernel
theorem dX9_comesLetter_6 : decode cX9_comesLetter 6 = .ok (.istore_n 2, 1) := by decide +kernel
theorem dX9_comesLetter_7 : decode cX9_comesLetter 7 = .ok (.aload_n 0, 1) := by decide +kernel
theorem dX9_comesLetter_8 : decode cX9_comesLetter 8 = .ok (.getfield 43, 3) := by decide +kernel
theorem dX9_comesLetter_11 : decode cX9_comesLetter 11 = .ok (.iconst 2, 1) := by decide +kernel
theorem dX9_comesLetter_12 : decode cX9_comesLetter 12 = .ok (.iload_n 1, 1) := by decide +kernel
theorem dX9_comesLetter_13 : decode cX9_comesLetter 13 = .ok (.imul, 1) := by decide +kernel
theorem dX9_comesLetter_14 : decode cX9_comesLetter 14 = .ok (.iload_n 1, 1) := by decide +kernel
theorem dX9_comesLetter_15 : decode cX9_comesLetter 15 = .ok (.iadd, 1) := by decide +kernel
theorem dX9_comesLetter_16 : decode cX9_comesLetter 16 = .ok (.iaload, 1) := by decide +kernel
theorem dX9_comesLetter_17 : decode cX9_comesLetter 17 = .ok (.istore_n 3, 1) := by decide +kernel
theorem dX9_comesLetter_18 : decode cX9_comesLetter 18 = .ok (.aload_n 0, 1) := by decide +kernel
theorem dX9_comesLetter_19 : decode cX9_comesLetter 19 = .ok (.getfield 71, 3) := by decide +kernel
theorem dX9_comesLetter_22 : decode cX9_comesLetter 22 = .ok (.iconst 2, 1) := by decide +kernel
theorem dX9_comesLetter_23 : decode cX9_comesLetter 23 = .ok (.iaload, 1) := by decide +kernel
theorem dX9_comesLetter_24 : decode cX9_comesLetter 24 = .ok (.iload_n 2, 1) := by decide +kernel
theorem dX9_comesLetter_25 : decode cX9_comesLetter 25 = .ok (.aload_n 0, 1) := by decide +kernel
theorem dX9_comesLetter_26 : decode cX9_comesLetter 26 = .ok (.getfield 71, 3) := by decide +kernel
theorem dX9_comesLetter_29 : decode cX9_comesLetter 29 = .ok (.iconst 1, 1) := by decide +kernel
theorem dX9_comesLetter_30 : decode cX9_comesLetter 30 = .ok (.iaload, 1) := by decide +kernel
theorem dX9_comesLetter_31 : decode cX9_comesLetter 31 = .ok (.invokestatic 109, 3) := by decide +kernel
theorem dX9_comesLetter_34 : decode cX9_comesLetter 34 = .ok (.iload_n 3, 1) := by decide +kernel
theorem dX9_comesLetter_35 : decode cX9_comesLetter 35 = .ok (.invokestatic 109, 3) := by decide +kernel
theorem dX9_comesLetter_38 : decode cX9_comesLetter 38 = .ok (.if_icmp .eq 11, 3) := by decide +kernel
theorem dX9_comesLetter_41 : decode cX9_comesLetter 41 = .ok (.aload_n 0, 1) := by decide +kernel
theorem dX9_comesLetter_42 : decode cX9_comesLetter 42 = .ok (.iload_n 1, 1) := by decide +kernel
theorem dX9_comesLetter_43 : decode cX9_comesLetter 43 = .ok (.bipush 9, 2) := by decide +kernel
theorem dX9_comesLetter_45 : decode cX9_comesLetter 45 = .ok (.invokevirtual 152, 3) := by decide +kernel
theorem dX9_comesLetter_48 : decode cX9_comesLetter 48 = .ok (.return_, 1) := by decide +kernel
theorem dX9_comesLetter_49 : decode cX9_comesLetter 49 = .ok (.aload_n 0, 1) := by decide +kernel
theorem dX9_comesLetter_50 : decode cX9_comesLetter 50 = .ok (.getfield 74, 3) := by decide +kernel
theorem dX9_comesLetter_53 : decode cX9_comesLetter 53 = .ok (.iload_n 1, 1) := by decide +kernel
theorem dX9_comesLetter_54 : decode cX9_comesLetter 54 = .ok (.dup2, 1) := by decide +kernel
theorem dX9_comesLetter_55 : decode cX9_comesLetter 55 = .ok (.iaload, 1) := by decide +kernel
theorem dX9_comesLetter_56 : decode cX9_comesLetter 56 = .ok (.iconst 1, 1) := by decide +kernel
theorem dX9_comesLetter_57 : decode cX9_comesLetter 57 = .ok (.iadd, 1) := by decide +kernel
theorem dX9_comesLetter_58 : decode cX9_comesLetter 58 = .ok (.iastore, 1) := by decide +kernel
theorem dX9_comesLetter_59 : decode cX9_comesLetter 59 = .ok (.aload_n 0, 1) := by decide +kernel
theorem dX9_comesLetter_60 : decode cX9_comesLetter 60 = .ok (.getfield 77, 3) := by decide +kernel
theorem dX9_comesLetter_63 : decode cX9_comesLetter 63 = .ok (.iload_n 1, 1) := by decide +kernel
theorem dX9_comesLetter_64 : decode cX9_comesLetter 64 = .ok (.dup2, 1) := by decide +kernel
theorem dX9_comesLetter_65 : decode cX9_comesLetter 65 = .ok (.iaload, 1) := by decide +kernel
theorem dX9_comesLetter_66 : decode cX9_comesLetter 66 = .ok (.aload_n 0, 1) := by decide +kernel
theorem dX9_comesLetter_67 : decode cX9_comesLetter 67 = .ok (.getfield 71, 3) := by decide +kernel
theorem dX9_comesLetter_70 : decode cX9_comesLetter 70 = .ok (.iconst 1, 1) := by decide +kernel
theorem dX9_comesLetter_71 : decode cX9_comesLetter 71 = .ok (.iaload, 1) := by decide +kernel
theorem dX9_comesLetter_72 : decode cX9_comesLetter 72 = .ok (.iload_n 2, 1) := by decide +kernel
theorem dX9_comesLetter_73 : decode cX9_comesLetter 73 = .ok (.iload_n 3, 1) := by decide +kernel
theorem dX9_comesLetter_74 : decode cX9_comesLetter 74 = .ok (.invokestatic 109, 3) := by decide +kernel
theorem dX9_comesLetter_77 : decode cX9_comesLetter 77 = .ok (.sipush 1023, 3) := by decide +kernel
theorem dX9_comesLetter_80 : decode cX9_comesLetter 80 = .ok (.iand, 1) := by decide +kernel
theorem dX9_comesLetter_81 : decode cX9_comesLetter 81 = .ok (.ixor, 1) := by decide +kernel
theorem dX9_comesLetter_82 : decode cX9_comesLetter 82 = .ok (.iadd, 1) := by decide +kernel
theorem dX9_comesLetter_83 : decode cX9_comesLetter 83 = .ok (.iastore, 1) := by decide +kernel
theorem dX9_comesLetter_84 : decode cX9_comesLetter 84 = .ok (.aload_n 0, 1) := by decide +kernel
theorem dX9_comesLetter_85 : decode cX9_comesLetter 85 = .ok (.getfield 43, 3) := by decide +kernel
theorem dX9_comesLetter_88 : decode cX9_comesLetter 88 = .ok (.iconst 2, 1) := by decide +kernel
theorem dX9_comesLetter_89 : decode cX9_comesLetter 89 = .ok (.iload_n 1, 1) := by decide +kernel
theorem dX9_comesLetter_90 : decode cX9_comesLetter 90 = .ok (.imul, 1) := by decide +kernel
theorem dX9_comesLetter_91 : decode cX9_comesLetter 91 = .ok (.iload_n 1, 1) := by decide +kernel
theorem dX9_comesLetter_92 : decode cX9_comesLetter 92 = .ok (.iadd, 1) := by decide +kernel
theorem dX9_comesLetter_93 : decode cX9_comesLetter 93 = .ok (.dup2, 1) := by decide +kernel
theorem dX9_comesLetter_94 : decode cX9_comesLetter 94 = .ok (.iaload, 1) := by decide +kernel
theorem dX9_comesLetter_95 : decode cX9_comesLetter 95 = .ok (.iconst 1, 1) := by decide +kernel
theorem dX9_comesLetter_96 : decode cX9_comesLetter 96 = .ok (.iadd, 1) := by decide +kernel
theorem dX9_comesLetter_97 : decode cX9_comesLetter 97 = .ok (.iastore, 1) := by decide +kernel
theorem dX9_comesLetter_98 : decode cX9_comesLetter 98 = .ok (.return_, 1) := by decide +kernel
set_option maxRecDepth 20000 in
theorem ggX9_comesUpdate_X9_lock : GoodIn wsX9_comesUpdate wsX9_lock := goodIn_r _ [8, 3, 9, 10, 11, 7, 12, 13, 14, 15, 16, 17, 18, 25, 26, 27, 28, 29, 30, 31, 32, 33, 34, 35, 36, 37, 38, 39, 40, 41, 42, 43, 44, 45, 46, 47, 48, 49, 50, 51, 52, 53, 54, 55, 56, 57, 58, 59, 60, 61, 62, 63, 64, 65, 66, 67] (by decide +kernel) (by decide +kernel)
set_option maxRecDepth 20000 in
theorem gX9_comesUpdate_X9_lock : GoodIn wsX9_comesUpdate (wsV RX9 206 RX9 yX9_lock wsX9_lock) := goodIn_app (goodIn_of _ (by decide +kernel)) ggX9_comesUpdate_X9_lock
set_option maxRecDepth 20000 in
theorem ggX9_comesUpdate_X9_mix : GoodIn wsX9_comesUpdate wsX9_mix := goodIn_r _ [17, 18] (by decide +kernel) (by decide +kernel)
set_option maxRecDepth 20000 in
theorem gX9_comesUpdate_X9_mix : GoodIn wsX9_comesUpdate (va_wsS RX9 109 yX9_mix wsX9_mix) := goodIn_app (goodIn_of _ (by decide +kernel)) ggX9_comesUpdate_X9_mix
set_option maxRecDepth 20000 in
theorem ggX9_comesUpdate_X9_fails : GoodIn wsX9_comesUpdate wsX9_fails := goodIn_r _ [22, 23, 24, 25, 26, 27, 28, 29, 30, 31, 32, 33, 34, 35, 36, 37, 38, 39, 40, 41, 42, 43, 44, 45, 46, 47, 48, 49, 50, 51, 52, 53, 54, 55, 56, 57, 58, 59, 60, 61, 62, 63, 64, 65, 66, 67] (by decide +kernel) (by decide +kernel)
set_option maxRecDepth 20000 in
theorem gX9_comesUpdate_X9_fails : GoodIn wsX9_comesUpdate (wsV RX9 152 RX9 yX9_fails wsX9_fails) := goodIn_app (goodIn_of _ (by decide +kernel)) ggX9_comesUpdate_X9_fails
theorem dX9_comesUpdate_0 : decode cX9_comesUpdate 0 = .ok (.aload_n 0, 1) := by decide +kernel
theorem dX9_comesUpdate_1 : decode cX9_comesUpdate 1 = .ok (.getfield 71, 3) := by decide +kernel
theorem dX9_comesUpdate_4 : decode cX9_comesUpdate 4 = .ok (.iconst 1, 1) := by decide +kernel
theorem dX9_comesUpdate_5 : decode cX9_comesUpdate 5 = .ok (.iaload, 1) := by decide +kernel
theorem dX9_comesUpdate_6 : decode cX9_comesUpdate 6 = .ok (.aload_n 0, 1) := by decide +kernel
theorem dX9_comesUpdate_7 : decode cX9_comesUpdate 7 = .ok (.iload_n 1, 1) := by decide +kernel
theorem dX9_comesUpdate_8 : decode cX9_comesUpdate 8 = .ok (.iload_n 1, 1) := by decide +kernel
theorem dX9_comesUpdate_9 : decode cX9_comesUpdate 9 = .ok (.invokevirtual 206, 3) := by decide +kernel
theorem dX9_comesUpdate_12 : decode cX9_comesUpdate 12 = .ok (.iconst (-1), 1) := by decide +kernel
theorem dX9_comesUpdate_13 : decode cX9_comesUpdate 13 = .ok (.invokestatic 109, 3) := by decide +kernel
theorem dX9_comesUpdate_16 : decode cX9_comesUpdate 16 = .ok (.aload_n 0, 1) := by decide +kernel
theorem dX9_comesUpdate_17 : decode cX9_comesUpdate 17 = .ok (.getfield 43, 3) := by decide +kernel
theorem dX9_comesUpdate_20 : decode cX9_comesUpdate 20 = .ok (.iconst 2, 1) := by decide +kernel
theorem dX9_comesUpdate_21 : decode cX9_comesUpdate 21 = .ok (.iload_n 1, 1) := by decide +kernel
theorem dX9_comesUpdate_22 : decode cX9_comesUpdate 22 = .ok (.imul, 1) := by decide +kernel
theorem dX9_comesUpdate_23 : decode cX9_comesUpdate 23 = .ok (.iload_n 1, 1) := by decide +kernel
theorem dX9_comesUpdate_24 : decode cX9_comesUpdate 24 = .ok (.iadd, 1) := by decide +kernel
theorem dX9_comesUpdate_25 : decode cX9_comesUpdate 25 = .ok (.iaload, 1) := by decide +kernel
theorem dX9_comesUpdate_26 : decode cX9_comesUpdate 26 = .ok (.invokestatic 109, 3) := by decide +kernel
theorem dX9_comesUpdate_29 : decode cX9_comesUpdate 29 = .ok (.if_icmp .eq 11, 3) := by decide +kernel
theorem dX9_comesUpdate_32 : decode cX9_comesUpdate 32 = .ok (.aload_n 0, 1) := by decide +kernel
theorem dX9_comesUpdate_33 : decode cX9_comesUpdate 33 = .ok (.iload_n 1, 1) := by decide +kernel
theorem dX9_comesUpdate_34 : decode cX9_comesUpdate 34 = .ok (.bipush 9, 2) := by decide +kernel
theorem dX9_comesUpdate_36 : decode cX9_comesUpdate 36 = .ok (.invokevirtual 152, 3) := by decide +kernel
theorem dX9_comesUpdate_39 : decode cX9_comesUpdate 39 = .ok (.return_, 1) := by decide +kernel
theorem dX9_comesUpdate_40 : decode cX9_comesUpdate 40 = .ok (.aload_n 0, 1) := by decide +kernel
theorem dX9_comesUpdate_41 : decode cX9_comesUpdate 41 = .ok (.getfield 40, 3) := by decide +kernel
theorem dX9_comesUpdate_44 : decode cX9_comesUpdate 44 = .ok (.iconst 2, 1) := by decide +kernel
theorem dX9_comesUpdate_45 : decode cX9_comesUpdate 45 = .ok (.iload_n 1, 1) := by decide +kernel
theorem dX9_comesUpdate_46 : decode cX9_comesUpdate 46 = .ok (.imul, 1) := by decide +kernel
theorem dX9_comesUpdate_47 : decode cX9_comesUpdate 47 = .ok (.iload_n 1, 1) := by decide +kernel
theorem dX9_comesUpdate_48 : decode cX9_comesUpdate 48 = .ok (.iadd, 1) := by decide +kernel
theorem dX9_comesUpdate_49 : decode cX9_comesUpdate 49 = .ok (.dup2, 1) := by decide +kernel
theorem dX9_comesUpdate_50 : decode cX9_comesUpdate 50 = .ok (.iaload, 1) := by decide +kernel
theorem dX9_comesUpdate_51 : decode cX9_comesUpdate 51 = .ok (.iconst 1, 1) := by decide +kernel
theorem dX9_comesUpdate_52 : decode cX9_comesUpdate 52 = .ok (.iadd, 1) := by decide +kernel
theorem dX9_comesUpdate_53 : decode cX9_comesUpdate 53 = .ok (.iastore, 1) := by decide +kernel
theorem dX9_comesUpdate_54 : decode cX9_comesUpdate 54 = .ok (.aload_n 0, 1) := by decide +kernel
theorem dX9_comesUpdate_55 : decode cX9_comesUpdate 55 = .ok (.getfield 43, 3) := by decide +kernel
theorem dX9_comesUpdate_58 : decode cX9_comesUpdate 58 = .ok (.iconst 2, 1) := by decide +kernel
theorem dX9_comesUpdate_59 : decode cX9_comesUpdate 59 = .ok (.iload_n 1, 1) := by decide +kernel
theorem dX9_comesUpdate_60 : decode cX9_comesUpdate 60 = .ok (.imul, 1) := by decide +kernel
theorem dX9_comesUpdate_61 : decode cX9_comesUpdate 61 = .ok (.iload_n 1, 1) := by decide +kernel
theorem dX9_comesUpdate_62 : decode cX9_comesUpdate 62 = .ok (.iadd, 1) := by decide +kernel
