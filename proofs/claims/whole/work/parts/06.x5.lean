theorem dX5_init_0 : decode cX5_init 0 = .ok (.aload_n 0, 1) := by decide +kernel
theorem dX5_init_1 : decode cX5_init 1 = .ok (.invokespecial 1, 3) := by decide +kernel
theorem dX5_init_4 : decode cX5_init 4 = .ok (.aload_n 0, 1) := by decide +kernel
theorem dX5_init_5 : decode cX5_init 5 = .ok (.iconst 5, 1) := by decide +kernel
theorem dX5_init_6 : decode cX5_init 6 = .ok (.newarray .boolean, 2) := by decide +kernel
theorem dX5_init_8 : decode cX5_init 8 = .ok (.putfield 7, 3) := by decide +kernel
theorem dX5_init_11 : decode cX5_init 11 = .ok (.aload_n 0, 1) := by decide +kernel
theorem dX5_init_12 : decode cX5_init 12 = .ok (.bipush 25, 2) := by decide +kernel
theorem dX5_init_14 : decode cX5_init 14 = .ok (.newarray .boolean, 2) := by decide +kernel
theorem dX5_init_16 : decode cX5_init 16 = .ok (.putfield 13, 3) := by decide +kernel
theorem dX5_init_19 : decode cX5_init 19 = .ok (.aload_n 0, 1) := by decide +kernel
theorem dX5_init_20 : decode cX5_init 20 = .ok (.bipush 6, 2) := by decide +kernel
theorem dX5_init_22 : decode cX5_init 22 = .ok (.newarray .boolean, 2) := by decide +kernel
theorem dX5_init_24 : decode cX5_init 24 = .ok (.putfield 16, 3) := by decide +kernel
theorem dX5_init_27 : decode cX5_init 27 = .ok (.aload_n 0, 1) := by decide +kernel
theorem dX5_init_28 : decode cX5_init 28 = .ok (.bipush 24, 2) := by decide +kernel
theorem dX5_init_30 : decode cX5_init 30 = .ok (.newarray .boolean, 2) := by decide +kernel
theorem dX5_init_32 : decode cX5_init 32 = .ok (.putfield 19, 3) := by decide +kernel
theorem dX5_init_35 : decode cX5_init 35 = .ok (.aload_n 0, 1) := by decide +kernel
theorem dX5_init_36 : decode cX5_init 36 = .ok (.bipush 24, 2) := by decide +kernel
theorem dX5_init_38 : decode cX5_init 38 = .ok (.newarray .boolean, 2) := by decide +kernel
theorem dX5_init_40 : decode cX5_init 40 = .ok (.putfield 22, 3) := by decide +kernel
theorem dX5_init_43 : decode cX5_init 43 = .ok (.aload_n 0, 1) := by decide +kernel
theorem dX5_init_44 : decode cX5_init 44 = .ok (.iconst 5, 1) := by decide +kernel
theorem dX5_init_45 : decode cX5_init 45 = .ok (.newarray .int, 2) := by decide +kernel
theorem dX5_init_47 : decode cX5_init 47 = .ok (.putfield 25, 3) := by decide +kernel
theorem dX5_init_50 : decode cX5_init 50 = .ok (.aload_n 0, 1) := by decide +kernel
theorem dX5_init_51 : decode cX5_init 51 = .ok (.iconst 5, 1) := by decide +kernel
theorem dX5_init_52 : decode cX5_init 52 = .ok (.newarray .int, 2) := by decide +kernel
theorem dX5_init_54 : decode cX5_init 54 = .ok (.putfield 29, 3) := by decide +kernel
theorem dX5_init_57 : decode cX5_init 57 = .ok (.aload_n 0, 1) := by decide +kernel
theorem dX5_init_58 : decode cX5_init 58 = .ok (.iconst 5, 1) := by decide +kernel
theorem dX5_init_59 : decode cX5_init 59 = .ok (.newarray .int, 2) := by decide +kernel
theorem dX5_init_61 : decode cX5_init 61 = .ok (.putfield 32, 3) := by decide +kernel
theorem dX5_init_64 : decode cX5_init 64 = .ok (.aload_n 0, 1) := by decide +kernel
theorem dX5_init_65 : decode cX5_init 65 = .ok (.sipush 600, 3) := by decide +kernel
theorem dX5_init_68 : decode cX5_init 68 = .ok (.newarray .int, 2) := by decide +kernel
theorem dX5_init_70 : decode cX5_init 70 = .ok (.putfield 35, 3) := by decide +kernel
theorem dX5_init_73 : decode cX5_init 73 = .ok (.aload_n 0, 1) := by decide +kernel
theorem dX5_init_74 : decode cX5_init 74 = .ok (.bipush 6, 2) := by decide +kernel
theorem dX5_init_76 : decode cX5_init 76 = .ok (.newarray .int, 2) := by decide +kernel
theorem dX5_init_78 : decode cX5_init 78 = .ok (.putfield 38, 3) := by decide +kernel
theorem dX5_init_81 : decode cX5_init 81 = .ok (.aload_n 0, 1) := by decide +kernel
theorem dX5_init_82 : decode cX5_init 82 = .ok (.bipush 24, 2) := by decide +kernel
theorem dX5_init_84 : decode cX5_init 84 = .ok (.newarray .int, 2) := by decide +kernel
theorem dX5_init_86 : decode cX5_init 86 = .ok (.putfield 41, 3) := by decide +kernel
theorem dX5_init_89 : decode cX5_init 89 = .ok (.aload_n 0, 1) := by decide +kernel
theorem dX5_init_90 : decode cX5_init 90 = .ok (.bipush 24, 2) := by decide +kernel
theorem dX5_init_92 : decode cX5_init 92 = .ok (.newarray .int, 2) := by decide +kernel
theorem dX5_init_94 : decode cX5_init 94 = .ok (.putfield 44, 3) := by decide +kernel
theorem dX5_init_97 : decode cX5_init 97 = .ok (.aload_n 0, 1) := by decide +kernel
theorem dX5_init_98 : decode cX5_init 98 = .ok (.bipush 24, 2) := by decide +kernel
theorem dX5_init_100 : decode cX5_init 100 = .ok (.newarray .int, 2) := by decide +kernel
theorem dX5_init_102 : decode cX5_init 102 = .ok (.putfield 47, 3) := by decide +kernel
theorem dX5_init_105 : decode cX5_init 105 = .ok (.aload_n 0, 1) := by decide +kernel
theorem dX5_init_106 : decode cX5_init 106 = .ok (.bipush 24, 2) := by decide +kernel
theorem dX5_init_108 : decode cX5_init 108 = .ok (.newarray .int, 2) := by decide +kernel
theorem dX5_init_110 : decode cX5_init 110 = .ok (.putfield 50, 3) := by decide +kernel
theorem dX5_init_113 : decode cX5_init 113 = .ok (.aload_n 0, 1) := by decide +kernel
theorem dX5_init_114 : decode cX5_init 114 = .ok (.iconst 4, 1) := by decide +kernel
theorem dX5_init_115 : decode cX5_init 115 = .ok (.newarray .int, 2) := by decide +kernel
theorem dX5_init_117 : decode cX5_init 117 = .ok (.putfield 53, 3) := by decide +kernel
theorem dX5_init_120 : decode cX5_init 120 = .ok (.aload_n 0, 1) := by decide +kernel
theorem dX5_init_121 : decode cX5_init 121 = .ok (.iconst 4, 1) := by decide +kernel
theorem dX5_init_122 : decode cX5_init 122 = .ok (.newarray .int, 2) := by decide +kernel
theorem dX5_init_124 : decode cX5_init 124 = .ok (.putfield 56, 3) := by decide +kernel
theorem dX5_init_127 : decode cX5_init 127 = .ok (.aload_n 0, 1) := by decide +kernel
theorem dX5_init_128 : decode cX5_init 128 = .ok (.iconst 4, 1) := by decide +kernel
theorem dX5_init_129 : decode cX5_init 129 = .ok (.newarray .int, 2) := by decide +kernel
theorem dX5_init_131 : decode cX5_init 131 = .ok (.putfield 59, 3) := by decide +kernel
theorem dX5_init_134 : decode cX5_init 134 = .ok (.aload_n 0, 1) := by decide +kernel
theorem dX5_init_135 : decode cX5_init 135 = .ok (.iconst 4, 1) := by decide +kernel
theorem dX5_init_136 : decode cX5_init 136 = .ok (.newarray .int, 2) := by decide +kernel
theorem dX5_init_138 : decode cX5_init 138 = .ok (.putfield 62, 3) := by decide +kernel
theorem dX5_init_141 : decode cX5_init 141 = .ok (.aload_n 0, 1) := by decide +kernel
theorem dX5_init_142 : decode cX5_init 142 = .ok (.iconst 4, 1) := by decide +kernel
theorem dX5_init_143 : decode cX5_init 143 = .ok (.newarray .int, 2) := by decide +kernel
theorem dX5_init_145 : decode cX5_init 145 = .ok (.putfield 65, 3) := by decide +kernel
theorem dX5_init_148 : decode cX5_init 148 = .ok (.aload_n 0, 1) := by decide +kernel
theorem dX5_init_149 : decode cX5_init 149 = .ok (.bipush 24, 2) := by decide +kernel
theorem dX5_init_151 : decode cX5_init 151 = .ok (.newarray .int, 2) := by decide +kernel
theorem dX5_init_153 : decode cX5_init 153 = .ok (.putfield 68, 3) := by decide +kernel
theorem dX5_init_156 : decode cX5_init 156 = .ok (.aload_n 0, 1) := by decide +kernel
theorem dX5_init_157 : decode cX5_init 157 = .ok (.iconst 4, 1) := by decide +kernel
theorem dX5_init_158 : decode cX5_init 158 = .ok (.newarray .int, 2) := by decide +kernel
theorem dX5_init_160 : decode cX5_init 160 = .ok (.putfield 71, 3) := by decide +kernel
theorem dX5_init_163 : decode cX5_init 163 = .ok (.aload_n 0, 1) := by decide +kernel
theorem dX5_init_164 : decode cX5_init 164 = .ok (.sipush 250, 3) := by decide +kernel
theorem dX5_init_167 : decode cX5_init 167 = .ok (.newarray .char, 2) := by decide +kernel
theorem dX5_init_169 : decode cX5_init 169 = .ok (.putfield 74, 3) := by decide +kernel
theorem dX5_init_172 : decode cX5_init 172 = .ok (.aload_n 0, 1) := by decide +kernel
theorem dX5_init_173 : decode cX5_init 173 = .ok (.sipush 250, 3) := by decide +kernel
theorem dX5_init_176 : decode cX5_init 176 = .ok (.newarray .int, 2) := by decide +kernel
theorem dX5_init_178 : decode cX5_init 178 = .ok (.putfield 78, 3) := by decide +kernel
theorem dX5_init_181 : decode cX5_init 181 = .ok (.aload_n 0, 1) := by decide +kernel
theorem dX5_init_182 : decode cX5_init 182 = .ok (.sipush 250, 3) := by decide +kernel
theorem dX5_init_185 : decode cX5_init 185 = .ok (.newarray .int, 2) := by decide +kernel
theorem dX5_init_187 : decode cX5_init 187 = .ok (.putfield 81, 3) := by decide +kernel
theorem dX5_init_190 : decode cX5_init 190 = .ok (.aload_n 0, 1) := by decide +kernel
theorem dX5_init_191 : decode cX5_init 191 = .ok (.sipush 250, 3) := by decide +kernel
theorem dX5_init_194 : decode cX5_init 194 = .ok (.newarray .int, 2) := by decide +kernel
theorem dX5_init_196 : decode cX5_init 196 = .ok (.putfield 84, 3) := by decide +kernel
theorem dX5_init_199 : decode cX5_init 199 = .ok (.aload_n 0, 1) := by decide +kernel
theorem dX5_init_200 : decode cX5_init 200 = .ok (.iconst 0, 1) := by decide +kernel
theorem dX5_init_201 : decode cX5_init 201 = .ok (.putfield 87, 3) := by decide +kernel
theorem dX5_init_204 : decode cX5_init 204 = .ok (.aload_n 0, 1) := by decide +kernel
theorem dX5_init_205 : decode cX5_init 205 = .ok (.iconst 0, 1) := by decide +kernel
theorem dX5_init_206 : decode cX5_init 206 = .ok (.putfield 91, 3) := by decide +kernel
theorem dX5_init_209 : decode cX5_init 209 = .ok (.aload_n 0, 1) := by decide +kernel
theorem dX5_init_210 : decode cX5_init 210 = .ok (.iconst 0, 1) := by decide +kernel
theorem dX5_init_211 : decode cX5_init 211 = .ok (.putfield 94, 3) := by decide +kernel
theorem dX5_init_214 : decode cX5_init 214 = .ok (.aload_n 0, 1) := by decide +kernel
theorem dX5_init_215 : decode cX5_init 215 = .ok (.iconst 0, 1) := by decide +kernel
theorem dX5_init_216 : decode cX5_init 216 = .ok (.putfield 97, 3) := by decide +kernel
theorem dX5_init_219 : decode cX5_init 219 = .ok (.aload_n 0, 1) := by decide +kernel
theorem dX5_init_220 : decode cX5_init 220 = .ok (.lconst 0, 1) := by decide +kernel
theorem dX5_init_221 : decode cX5_init 221 = .ok (.putfield 100, 3) := by decide +kernel
theorem dX5_init_224 : decode cX5_init 224 = .ok (.iconst 0, 1) := by decide +kernel
theorem dX5_init_225 : decode cX5_init 225 = .ok (.istore_n 1, 1) := by decide +kernel
theorem dX5_init_226 : decode cX5_init 226 = .ok (.iload_n 1, 1) := by decide +kernel
theorem dX5_init_227 : decode cX5_init 227 = .ok (.iconst 5, 1) := by decide +kernel
theorem dX5_init_228 : decode cX5_init 228 = .ok (.if_icmp .ge 16, 3) := by decide +kernel
theorem dX5_init_231 : decode cX5_init 231 = .ok (.aload_n 0, 1) := by decide +kernel
theorem dX5_init_232 : decode cX5_init 232 = .ok (.getfield 29, 3) := by decide +kernel
theorem dX5_init_235 : decode cX5_init 235 = .ok (.iload_n 1, 1) := by decide +kernel
theorem dX5_init_236 : decode cX5_init 236 = .ok (.iconst (-1), 1) := by decide +kernel
theorem dX5_init_237 : decode cX5_init 237 = .ok (.iastore, 1) := by decide +kernel
theorem dX5_init_238 : decode cX5_init 238 = .ok (.iinc 1 1, 3) := by decide +kernel
theorem dX5_init_241 : decode cX5_init 241 = .ok (.goto (-15), 3) := by decide +kernel
theorem dX5_init_244 : decode cX5_init 244 = .ok (.iconst 0, 1) := by decide +kernel
theorem dX5_init_245 : decode cX5_init 245 = .ok (.istore_n 1, 1) := by decide +kernel
theorem dX5_init_246 : decode cX5_init 246 = .ok (.iload_n 1, 1) := by decide +kernel
theorem dX5_init_247 : decode cX5_init 247 = .ok (.iconst 4, 1) := by decide +kernel
theorem dX5_init_248 : decode cX5_init 248 = .ok (.if_icmp .ge 23, 3) := by decide +kernel
theorem dX5_init_251 : decode cX5_init 251 = .ok (.aload_n 0, 1) := by decide +kernel
theorem dX5_init_252 : decode cX5_init 252 = .ok (.getfield 53, 3) := by decide +kernel
theorem dX5_init_255 : decode cX5_init 255 = .ok (.iload_n 1, 1) := by decide +kernel
theorem dX5_init_256 : decode cX5_init 256 = .ok (.iconst (-1), 1) := by decide +kernel
theorem dX5_init_257 : decode cX5_init 257 = .ok (.iastore, 1) := by decide +kernel
theorem dX5_init_258 : decode cX5_init 258 = .ok (.aload_n 0, 1) := by decide +kernel
theorem dX5_init_259 : decode cX5_init 259 = .ok (.getfield 62, 3) := by decide +kernel
theorem dX5_init_262 : decode cX5_init 262 = .ok (.iload_n 1, 1) := by decide +kernel
theorem dX5_init_263 : decode cX5_init 263 = .ok (.iconst (-1), 1) := by decide +kernel
theorem dX5_init_264 : decode cX5_init 264 = .ok (.iastore, 1) := by decide +kernel
theorem dX5_init_265 : decode cX5_init 265 = .ok (.iinc 1 1, 3) := by decide +kernel
theorem dX5_init_268 : decode cX5_init 268 = .ok (.goto (-22), 3) := by decide +kernel
theorem dX5_init_271 : decode cX5_init 271 = .ok (.return_, 1) := by decide +kernel
theorem dX5_thrown_0 : decode cX5_thrown 0 = .ok (.aload_n 0, 1) := by decide +kernel
theorem dX5_thrown_1 : decode cX5_thrown 1 = .ok (.getfield 87, 3) := by decide +kernel
theorem dX5_thrown_4 : decode cX5_thrown 4 = .ok (.ireturn, 1) := by decide +kernel
theorem dX5_in_0 : decode cX5_in 0 = .ok (.iload_n 0, 1) := by decide +kernel
theorem dX5_in_1 : decode cX5_in 1 = .ok (.iload_n 1, 1) := by decide +kernel
theorem dX5_in_2 : decode cX5_in 2 = .ok (.if_icmp .lt 12, 3) := by decide +kernel
theorem dX5_in_5 : decode cX5_in 5 = .ok (.iload_n 0, 1) := by decide +kernel
theorem dX5_in_6 : decode cX5_in 6 = .ok (.iload_n 2, 1) := by decide +kernel
theorem dX5_in_7 : decode cX5_in 7 = .ok (.if_icmp .gt 7, 3) := by decide +kernel
theorem dX5_in_10 : decode cX5_in 10 = .ok (.iconst 1, 1) := by decide +kernel
theorem dX5_in_11 : decode cX5_in 11 = .ok (.goto 4, 3) := by decide +kernel
theorem dX5_in_14 : decode cX5_in 14 = .ok (.iconst 0, 1) := by decide +kernel
theorem dX5_in_15 : decode cX5_in 15 = .ok (.ireturn, 1) := by decide +kernel
theorem dX5_plain_0 : decode cX5_plain 0 = .ok (.aload_n 0, 1) := by decide +kernel
theorem dX5_plain_1 : decode cX5_plain 1 = .ok (.iconst 0, 1) := by decide +kernel
theorem dX5_plain_2 : decode cX5_plain 2 = .ok (.putfield 87, 3) := by decide +kernel
theorem dX5_plain_5 : decode cX5_plain 5 = .ok (.iload_n 1, 1) := by decide +kernel
theorem dX5_plain_6 : decode cX5_plain 6 = .ok (.ireturn, 1) := by decide +kernel
theorem dX5_checked_0 : decode cX5_checked 0 = .ok (.aload_n 0, 1) := by decide +kernel
theorem dX5_checked_1 : decode cX5_checked 1 = .ok (.iload_n 1, 1) := by decide +kernel
theorem dX5_checked_2 : decode cX5_checked 2 = .ok (.ifCond .eq 7, 3) := by decide +kernel
theorem dX5_checked_5 : decode cX5_checked 5 = .ok (.iconst 0, 1) := by decide +kernel
theorem dX5_checked_6 : decode cX5_checked 6 = .ok (.goto 4, 3) := by decide +kernel
theorem dX5_checked_9 : decode cX5_checked 9 = .ok (.iconst 1, 1) := by decide +kernel
theorem dX5_checked_10 : decode cX5_checked 10 = .ok (.putfield 87, 3) := by decide +kernel
theorem dX5_checked_13 : decode cX5_checked 13 = .ok (.aload_n 0, 1) := by decide +kernel
theorem dX5_checked_14 : decode cX5_checked 14 = .ok (.getfield 87, 3) := by decide +kernel
theorem dX5_checked_17 : decode cX5_checked 17 = .ok (.ireturn, 1) := by decide +kernel
set_option maxRecDepth 20000 in
theorem ggX5_isMember_X5_in : GoodIn wsX5_isMember wsX5_in := goodIn_r _ [4] (by decide +kernel) (by decide +kernel)
set_option maxRecDepth 20000 in
theorem gX5_isMember_X5_in : GoodIn wsX5_isMember (va_wsS RX5 104 yX5_in wsX5_in) := goodIn_app (goodIn_of _ (by decide +kernel)) ggX5_isMember_X5_in
theorem dX5_isMember_0 : decode cX5_isMember 0 = .ok (.iload_n 0, 1) := by decide +kernel
theorem dX5_isMember_1 : decode cX5_isMember 1 = .ok (.iconst 0, 1) := by decide +kernel
theorem dX5_isMember_2 : decode cX5_isMember 2 = .ok (.iconst 4, 1) := by decide +kernel
theorem dX5_isMember_3 : decode cX5_isMember 3 = .ok (.invokestatic 104, 3) := by decide +kernel
theorem dX5_isMember_6 : decode cX5_isMember 6 = .ok (.ireturn, 1) := by decide +kernel
set_option maxRecDepth 20000 in
theorem ggX5_isLock_X5_in : GoodIn wsX5_isLock wsX5_in := goodIn_r _ [4] (by decide +kernel) (by decide +kernel)
set_option maxRecDepth 20000 in
theorem gX5_isLock_X5_in : GoodIn wsX5_isLock (va_wsS RX5 104 yX5_in wsX5_in) := goodIn_app (goodIn_of _ (by decide +kernel)) ggX5_isLock_X5_in
theorem dX5_isLock_0 : decode cX5_isLock 0 = .ok (.iload_n 0, 1) := by decide +kernel
theorem dX5_isLock_1 : decode cX5_isLock 1 = .ok (.iconst 0, 1) := by decide +kernel
theorem dX5_isLock_2 : decode cX5_isLock 2 = .ok (.iconst 3, 1) := by decide +kernel
theorem dX5_isLock_3 : decode cX5_isLock 3 = .ok (.invokestatic 104, 3) := by decide +kernel
theorem dX5_isLock_6 : decode cX5_isLock 6 = .ok (.ireturn, 1) := by decide +kernel
set_option maxRecDepth 20000 in
theorem ggX5_isClient_X5_in : GoodIn wsX5_isClient wsX5_in := goodIn_r _ [5] (by decide +kernel) (by decide +kernel)
set_option maxRecDepth 20000 in
theorem gX5_isClient_X5_in : GoodIn wsX5_isClient (va_wsS RX5 104 yX5_in wsX5_in) := goodIn_app (goodIn_of _ (by decide +kernel)) ggX5_isClient_X5_in
theorem dX5_isClient_0 : decode cX5_isClient 0 = .ok (.iload_n 1, 1) := by decide +kernel
theorem dX5_isClient_1 : decode cX5_isClient 1 = .ok (.iconst 0, 1) := by decide +kernel
theorem dX5_isClient_2 : decode cX5_isClient 2 = .ok (.aload_n 0, 1) := by decide +kernel
theorem dX5_isClient_3 : decode cX5_isClient 3 = .ok (.getfield 94, 3) := by decide +kernel
theorem dX5_isClient_6 : decode cX5_isClient 6 = .ok (.iconst 1, 1) := by decide +kernel
theorem dX5_isClient_7 : decode cX5_isClient 7 = .ok (.isub, 1) := by decide +kernel
theorem dX5_isClient_8 : decode cX5_isClient 8 = .ok (.invokestatic 104, 3) := by decide +kernel
theorem dX5_isClient_11 : decode cX5_isClient 11 = .ok (.ireturn, 1) := by decide +kernel
theorem dX5_at_0 : decode cX5_at 0 = .ok (.iconst 4, 1) := by decide +kernel
theorem dX5_at_1 : decode cX5_at 1 = .ok (.iload_n 0, 1) := by decide +kernel
theorem dX5_at_2 : decode cX5_at 2 = .ok (.imul, 1) := by decide +kernel
theorem dX5_at_3 : decode cX5_at 3 = .ok (.iload_n 1, 1) := by decide +kernel
theorem dX5_at_4 : decode cX5_at 4 = .ok (.iadd, 1) := by decide +kernel
theorem dX5_at_5 : decode cX5_at 5 = .ok (.ireturn, 1) := by decide +kernel
set_option maxRecDepth 20000 in
theorem ggX5_pass_X5_in : GoodIn wsX5_pass wsX5_in := goodIn_r _ [5] (by decide +kernel) (by decide +kernel)
set_option maxRecDepth 20000 in
theorem gX5_pass_X5_in : GoodIn wsX5_pass (va_wsS RX5 104 yX5_in wsX5_in) := goodIn_app (goodIn_of _ (by decide +kernel)) ggX5_pass_X5_in
set_option maxRecDepth 20000 in
theorem ggX5_pass_X5_checked : GoodIn wsX5_pass wsX5_checked := goodIn_r _ [9, 10, 11, 12, 13, 14, 15, 16, 17, 18, 19, 20, 21, 22, 23, 24, 25, 26, 27, 28, 29, 30, 31, 32, 33, 34, 35, 36, 37, 38, 39, 40] (by decide +kernel) (by decide +kernel)
set_option maxRecDepth 20000 in
theorem gX5_pass_X5_checked : GoodIn wsX5_pass (wsV RX5 108 RX5 yX5_checked wsX5_checked) := goodIn_app (goodIn_of _ (by decide +kernel)) ggX5_pass_X5_checked
theorem dX5_pass_0 : decode cX5_pass 0 = .ok (.aload_n 0, 1) := by decide +kernel
theorem dX5_pass_1 : decode cX5_pass 1 = .ok (.iload_n 1, 1) := by decide +kernel
theorem dX5_pass_2 : decode cX5_pass 2 = .ok (.iconst 1, 1) := by decide +kernel
theorem dX5_pass_3 : decode cX5_pass 3 = .ok (.bipush 60, 2) := by decide +kernel
theorem dX5_pass_5 : decode cX5_pass 5 = .ok (.invokestatic 104, 3) := by decide +kernel
theorem dX5_pass_8 : decode cX5_pass 8 = .ok (.invokevirtual 108, 3) := by decide +kernel
theorem dX5_pass_11 : decode cX5_pass 11 = .ok (.ifCond .le 5, 3) := by decide +kernel
theorem dX5_pass_14 : decode cX5_pass 14 = .ok (.iconst 0, 1) := by decide +kernel
theorem dX5_pass_15 : decode cX5_pass 15 = .ok (.ireturn, 1) := by decide +kernel
theorem dX5_pass_16 : decode cX5_pass 16 = .ok (.aload_n 0, 1) := by decide +kernel
theorem dX5_pass_17 : decode cX5_pass 17 = .ok (.dup, 1) := by decide +kernel
theorem dX5_pass_18 : decode cX5_pass 18 = .ok (.getfield 91, 3) := by decide +kernel
theorem dX5_pass_21 : decode cX5_pass 21 = .ok (.iload_n 1, 1) := by decide +kernel
theorem dX5_pass_22 : decode cX5_pass 22 = .ok (.iadd, 1) := by decide +kernel
theorem dX5_pass_23 : decode cX5_pass 23 = .ok (.putfield 91, 3) := by decide +kernel
theorem dX5_pass_26 : decode cX5_pass 26 = .ok (.aload_n 0, 1) := by decide +kernel
theorem dX5_pass_27 : decode cX5_pass 27 = .ok (.getfield 91, 3) := by decide +kernel
theorem dX5_pass_30 : decode cX5_pass 30 = .ok (.ireturn, 1) := by decide +kernel
set_option maxRecDepth 20000 in
theorem ggX5_time_X5_plain : GoodIn wsX5_time wsX5_plain := goodIn_r _ [6, 7, 8, 9, 10, 11, 12, 13, 14, 15, 16, 17, 18, 19, 20, 21, 22, 23, 24, 25, 26, 27, 28, 29, 30, 31, 32, 33, 34, 35, 36, 37] (by decide +kernel) (by decide +kernel)
set_option maxRecDepth 20000 in
theorem gX5_time_X5_plain : GoodIn wsX5_time (wsV RX5 112 RX5 yX5_plain wsX5_plain) := goodIn_app (goodIn_of _ (by decide +kernel)) ggX5_time_X5_plain
theorem dX5_time_0 : decode cX5_time 0 = .ok (.aload_n 0, 1) := by decide +kernel
theorem dX5_time_1 : decode cX5_time 1 = .ok (.aload_n 0, 1) := by decide +kernel
theorem dX5_time_2 : decode cX5_time 2 = .ok (.getfield 91, 3) := by decide +kernel
theorem dX5_time_5 : decode cX5_time 5 = .ok (.invokevirtual 112, 3) := by decide +kernel
theorem dX5_time_8 : decode cX5_time 8 = .ok (.ireturn, 1) := by decide +kernel
set_option maxRecDepth 20000 in
theorem ggX5_setDown_X5_isMember : GoodIn wsX5_setDown wsX5_isMember := goodIn_r _ [5, 6, 7, 4, 8] (by decide +kernel) (by decide +kernel)
set_option maxRecDepth 20000 in
theorem gX5_setDown_X5_isMember : GoodIn wsX5_setDown (va_wsS RX5 116 yX5_isMember wsX5_isMember) := goodIn_app (goodIn_of _ (by decide +kernel)) ggX5_setDown_X5_isMember
set_option maxRecDepth 20000 in
theorem ggX5_setDown_X5_checked : GoodIn wsX5_setDown wsX5_checked := goodIn_r _ [12, 13, 14, 15, 16, 17, 18, 19, 20, 21, 22, 23, 24, 25, 26, 27, 28, 29, 30, 31, 32, 33, 34, 35, 36, 37, 38, 39, 40, 41, 42, 43] (by decide +kernel) (by decide +kernel)
set_option maxRecDepth 20000 in
theorem gX5_setDown_X5_checked : GoodIn wsX5_setDown (wsV RX5 108 RX5 yX5_checked wsX5_checked) := goodIn_app (goodIn_of _ (by decide +kernel)) ggX5_setDown_X5_checked
theorem dX5_setDown_0 : decode cX5_setDown 0 = .ok (.aload_n 0, 1) := by decide +kernel
theorem dX5_setDown_1 : decode cX5_setDown 1 = .ok (.iload_n 1, 1) := by decide +kernel
theorem dX5_setDown_2 : decode cX5_setDown 2 = .ok (.invokestatic 116, 3) := by decide +kernel
theorem dX5_setDown_5 : decode cX5_setDown 5 = .ok (.invokevirtual 108, 3) := by decide +kernel
theorem dX5_setDown_8 : decode cX5_setDown 8 = .ok (.ifCond .le 5, 3) := by decide +kernel
theorem dX5_setDown_11 : decode cX5_setDown 11 = .ok (.iconst 0, 1) := by decide +kernel
theorem dX5_setDown_12 : decode cX5_setDown 12 = .ok (.ireturn, 1) := by decide +kernel
theorem dX5_setDown_13 : decode cX5_setDown 13 = .ok (.aload_n 0, 1) := by decide +kernel
theorem dX5_setDown_14 : decode cX5_setDown 14 = .ok (.getfield 7, 3) := by decide +kernel
theorem dX5_setDown_17 : decode cX5_setDown 17 = .ok (.iload_n 1, 1) := by decide +kernel
theorem dX5_setDown_18 : decode cX5_setDown 18 = .ok (.baload, 1) := by decide +kernel
theorem dX5_setDown_19 : decode cX5_setDown 19 = .ok (.istore_n 3, 1) := by decide +kernel
theorem dX5_setDown_20 : decode cX5_setDown 20 = .ok (.aload_n 0, 1) := by decide +kernel
theorem dX5_setDown_21 : decode cX5_setDown 21 = .ok (.getfield 7, 3) := by decide +kernel
theorem dX5_setDown_24 : decode cX5_setDown 24 = .ok (.iload_n 1, 1) := by decide +kernel
theorem dX5_setDown_25 : decode cX5_setDown 25 = .ok (.iload_n 2, 1) := by decide +kernel
theorem dX5_setDown_26 : decode cX5_setDown 26 = .ok (.bastore, 1) := by decide +kernel
theorem dX5_setDown_27 : decode cX5_setDown 27 = .ok (.iload_n 3, 1) := by decide +kernel
theorem dX5_setDown_28 : decode cX5_setDown 28 = .ok (.ireturn, 1) := by decide +kernel
set_option maxRecDepth 20000 in
theorem ggX5_setCut_X5_isMember : GoodIn wsX5_setCut wsX5_isMember := goodIn_r _ [6, 7, 8, 5, 9] (by decide +kernel) (by decide +kernel)
set_option maxRecDepth 20000 in
theorem gX5_setCut_X5_isMember : GoodIn wsX5_setCut (va_wsS RX5 116 yX5_isMember wsX5_isMember) := goodIn_app (goodIn_of _ (by decide +kernel)) ggX5_setCut_X5_isMember
theorem dX5_setCut_0 : decode cX5_setCut 0 = .ok (.aload_n 0, 1) := by decide +kernel
theorem dX5_setCut_1 : decode cX5_setCut 1 = .ok (.iload_n 1, 1) := by decide +kernel
theorem dX5_setCut_2 : decode cX5_setCut 2 = .ok (.invokestatic 116, 3) := by decide +kernel
theorem dX5_setCut_5 : decode cX5_setCut 5 = .ok (.ifCond .eq 10, 3) := by decide +kernel
theorem dX5_setCut_8 : decode cX5_setCut 8 = .ok (.iload_n 2, 1) := by decide +kernel
theorem dX5_setCut_9 : decode cX5_setCut 9 = .ok (.invokestatic 116, 3) := by decide +kernel
theorem dX5_setCut_12 : decode cX5_setCut 12 = .ok (.ifCond .ne 7, 3) := by decide +kernel
theorem dX5_setCut_15 : decode cX5_setCut 15 = .ok (.iconst 1, 1) := by decide +kernel
theorem dX5_setCut_16 : decode cX5_setCut 16 = .ok (.goto 13, 3) := by decide +kernel
theorem dX5_setCut_19 : decode cX5_setCut 19 = .ok (.iload_n 1, 1) := by decide +kernel
theorem dX5_setCut_20 : decode cX5_setCut 20 = .ok (.iload_n 2, 1) := by decide +kernel
theorem dX5_setCut_21 : decode cX5_setCut 21 = .ok (.if_icmp .ne 7, 3) := by decide +kernel
theorem dX5_setCut_24 : decode cX5_setCut 24 = .ok (.iconst 2, 1) := by decide +kernel
theorem dX5_setCut_25 : decode cX5_setCut 25 = .ok (.goto 4, 3) := by decide +kernel
theorem dX5_setCut_28 : decode cX5_setCut 28 = .ok (.iconst 0, 1) := by decide +kernel
theorem dX5_setCut_29 : decode cX5_setCut 29 = .ok (.putfield 87, 3) := by decide +kernel
theorem dX5_setCut_32 : decode cX5_setCut 32 = .ok (.aload_n 0, 1) := by decide +kernel
theorem dX5_setCut_33 : decode cX5_setCut 33 = .ok (.getfield 87, 3) := by decide +kernel
theorem dX5_setCut_36 : decode cX5_setCut 36 = .ok (.ifCond .le 5, 3) := by decide +kernel
theorem dX5_setCut_39 : decode cX5_setCut 39 = .ok (.iconst 0, 1) := by decide +kernel
theorem dX5_setCut_40 : decode cX5_setCut 40 = .ok (.ireturn, 1) := by decide +kernel
theorem dX5_setCut_41 : decode cX5_setCut 41 = .ok (.aload_n 0, 1) := by decide +kernel
theorem dX5_setCut_42 : decode cX5_setCut 42 = .ok (.getfield 13, 3) := by decide +kernel
theorem dX5_setCut_45 : decode cX5_setCut 45 = .ok (.iconst 5, 1) := by decide +kernel
theorem dX5_setCut_46 : decode cX5_setCut 46 = .ok (.iload_n 1, 1) := by decide +kernel
theorem dX5_setCut_47 : decode cX5_setCut 47 = .ok (.imul, 1) := by decide +kernel
theorem dX5_setCut_48 : decode cX5_setCut 48 = .ok (.iload_n 2, 1) := by decide +kernel
theorem dX5_setCut_49 : decode cX5_setCut 49 = .ok (.iadd, 1) := by decide +kernel
theorem dX5_setCut_50 : decode cX5_setCut 50 = .ok (.baload, 1) := by decide +kernel
theorem dX5_setCut_51 : decode cX5_setCut 51 = .ok (.istore 4, 2) := by decide +kernel
theorem dX5_setCut_53 : decode cX5_setCut 53 = .ok (.aload_n 0, 1) := by decide +kernel
theorem dX5_setCut_54 : decode cX5_setCut 54 = .ok (.getfield 13, 3) := by decide +kernel
theorem dX5_setCut_57 : decode cX5_setCut 57 = .ok (.iconst 5, 1) := by decide +kernel
theorem dX5_setCut_58 : decode cX5_setCut 58 = .ok (.iload_n 1, 1) := by decide +kernel
theorem dX5_setCut_59 : decode cX5_setCut 59 = .ok (.imul, 1) := by decide +kernel
theorem dX5_setCut_60 : decode cX5_setCut 60 = .ok (.iload_n 2, 1) := by decide +kernel
theorem dX5_setCut_61 : decode cX5_setCut 61 = .ok (.iadd, 1) := by decide +kernel
theorem dX5_setCut_62 : decode cX5_setCut 62 = .ok (.iload_n 3, 1) := by decide +kernel
theorem dX5_setCut_63 : decode cX5_setCut 63 = .ok (.bastore, 1) := by decide +kernel
theorem dX5_setCut_64 : decode cX5_setCut 64 = .ok (.aload_n 0, 1) := by decide +kernel
theorem dX5_setCut_65 : decode cX5_setCut 65 = .ok (.getfield 13, 3) := by decide +kernel
theorem dX5_setCut_68 : decode cX5_setCut 68 = .ok (.iconst 5, 1) := by decide +kernel
theorem dX5_setCut_69 : decode cX5_setCut 69 = .ok (.iload_n 2, 1) := by decide +kernel
theorem dX5_setCut_70 : decode cX5_setCut 70 = .ok (.imul, 1) := by decide +kernel
theorem dX5_setCut_71 : decode cX5_setCut 71 = .ok (.iload_n 1, 1) := by decide +kernel
theorem dX5_setCut_72 : decode cX5_setCut 72 = .ok (.iadd, 1) := by decide +kernel
theorem dX5_setCut_73 : decode cX5_setCut 73 = .ok (.iload_n 3, 1) := by decide +kernel
theorem dX5_setCut_74 : decode cX5_setCut 74 = .ok (.bastore, 1) := by decide +kernel
theorem dX5_setCut_75 : decode cX5_setCut 75 = .ok (.iload 4, 2) := by decide +kernel
theorem dX5_setCut_77 : decode cX5_setCut 77 = .ok (.ireturn, 1) := by decide +kernel
theorem dX5_reaches_0 : decode cX5_reaches 0 = .ok (.aload_n 0, 1) := by decide +kernel
theorem dX5_reaches_1 : decode cX5_reaches 1 = .ok (.getfield 7, 3) := by decide +kernel
theorem dX5_reaches_4 : decode cX5_reaches 4 = .ok (.iload_n 1, 1) := by decide +kernel
theorem dX5_reaches_5 : decode cX5_reaches 5 = .ok (.baload, 1) := by decide +kernel
theorem dX5_reaches_6 : decode cX5_reaches 6 = .ok (.ifCond .ne 29, 3) := by decide +kernel
theorem dX5_reaches_9 : decode cX5_reaches 9 = .ok (.aload_n 0, 1) := by decide +kernel
theorem dX5_reaches_10 : decode cX5_reaches 10 = .ok (.getfield 7, 3) := by decide +kernel
theorem dX5_reaches_13 : decode cX5_reaches 13 = .ok (.iload_n 2, 1) := by decide +kernel
theorem dX5_reaches_14 : decode cX5_reaches 14 = .ok (.baload, 1) := by decide +kernel
theorem dX5_reaches_15 : decode cX5_reaches 15 = .ok (.ifCond .ne 20, 3) := by decide +kernel
theorem dX5_reaches_18 : decode cX5_reaches 18 = .ok (.aload_n 0, 1) := by decide +kernel
theorem dX5_reaches_19 : decode cX5_reaches 19 = .ok (.getfield 13, 3) := by decide +kernel
theorem dX5_reaches_22 : decode cX5_reaches 22 = .ok (.iconst 5, 1) := by decide +kernel
theorem dX5_reaches_23 : decode cX5_reaches 23 = .ok (.iload_n 1, 1) := by decide +kernel
theorem dX5_reaches_24 : decode cX5_reaches 24 = .ok (.imul, 1) := by decide +kernel
theorem dX5_reaches_25 : decode cX5_reaches 25 = .ok (.iload_n 2, 1) := by decide +kernel
theorem dX5_reaches_26 : decode cX5_reaches 26 = .ok (.iadd, 1) := by decide +kernel
theorem dX5_reaches_27 : decode cX5_reaches 27 = .ok (.baload, 1) := by decide +kernel
theorem dX5_reaches_28 : decode cX5_reaches 28 = .ok (.ifCond .ne 7, 3) := by decide +kernel
theorem dX5_reaches_31 : decode cX5_reaches 31 = .ok (.iconst 1, 1) := by decide +kernel
theorem dX5_reaches_32 : decode cX5_reaches 32 = .ok (.goto 4, 3) := by decide +kernel
theorem dX5_reaches_35 : decode cX5_reaches 35 = .ok (.iconst 0, 1) := by decide +kernel
theorem dX5_reaches_36 : decode cX5_reaches 36 = .ok (.ireturn, 1) := by decide +kernel
set_option maxRecDepth 20000 in
theorem ggX5_reachedBy_X5_reaches : GoodIn wsX5_reachedBy wsX5_reaches := goodIn_ca (goodIn_r _ [5, 6, 7, 8, 9, 10, 11, 12, 13, 14, 15, 16, 17, 18, 19, 20, 21, 22, 23, 24, 25, 26, 27, 28, 29, 30, 31, 32, 33, 34, 35, 36, 37] (by decide +kernel) (by decide +kernel)) (goodIn_sub (fun _ h => List.mem_cons_of_mem _ (List.mem_append_right _ h)) (by decide +kernel))
set_option maxRecDepth 20000 in
theorem gX5_reachedBy_X5_reaches : GoodIn wsX5_reachedBy (wsV RX5 120 RX5 yX5_reaches wsX5_reaches) := goodIn_app (goodIn_of _ (by decide +kernel)) ggX5_reachedBy_X5_reaches
theorem dX5_reachedBy_0 : decode cX5_reachedBy 0 = .ok (.iconst 0, 1) := by decide +kernel
theorem dX5_reachedBy_1 : decode cX5_reachedBy 1 = .ok (.istore_n 2, 1) := by decide +kernel
theorem dX5_reachedBy_2 : decode cX5_reachedBy 2 = .ok (.iconst 0, 1) := by decide +kernel
theorem dX5_reachedBy_3 : decode cX5_reachedBy 3 = .ok (.istore_n 3, 1) := by decide +kernel
theorem dX5_reachedBy_4 : decode cX5_reachedBy 4 = .ok (.iload_n 3, 1) := by decide +kernel
theorem dX5_reachedBy_5 : decode cX5_reachedBy 5 = .ok (.iconst 5, 1) := by decide +kernel
theorem dX5_reachedBy_6 : decode cX5_reachedBy 6 = .ok (.if_icmp .ge 26, 3) := by decide +kernel
theorem dX5_reachedBy_9 : decode cX5_reachedBy 9 = .ok (.iload_n 2, 1) := by decide +kernel
theorem dX5_reachedBy_10 : decode cX5_reachedBy 10 = .ok (.aload_n 0, 1) := by decide +kernel
theorem dX5_reachedBy_11 : decode cX5_reachedBy 11 = .ok (.iload_n 1, 1) := by decide +kernel
theorem dX5_reachedBy_12 : decode cX5_reachedBy 12 = .ok (.iload_n 3, 1) := by decide +kernel
theorem dX5_reachedBy_13 : decode cX5_reachedBy 13 = .ok (.invokevirtual 120, 3) := by decide +kernel
theorem dX5_reachedBy_16 : decode cX5_reachedBy 16 = .ok (.ifCond .eq 7, 3) := by decide +kernel
theorem dX5_reachedBy_19 : decode cX5_reachedBy 19 = .ok (.iconst 1, 1) := by decide +kernel
theorem dX5_reachedBy_20 : decode cX5_reachedBy 20 = .ok (.goto 4, 3) := by decide +kernel
theorem dX5_reachedBy_23 : decode cX5_reachedBy 23 = .ok (.iconst 0, 1) := by decide +kernel
theorem dX5_reachedBy_24 : decode cX5_reachedBy 24 = .ok (.iadd, 1) := by decide +kernel
theorem dX5_reachedBy_25 : decode cX5_reachedBy 25 = .ok (.istore_n 2, 1) := by decide +kernel
theorem dX5_reachedBy_26 : decode cX5_reachedBy 26 = .ok (.iinc 3 1, 3) := by decide +kernel
theorem dX5_reachedBy_29 : decode cX5_reachedBy 29 = .ok (.goto (-25), 3) := by decide +kernel
theorem dX5_reachedBy_32 : decode cX5_reachedBy 32 = .ok (.iload_n 2, 1) := by decide +kernel
theorem dX5_reachedBy_33 : decode cX5_reachedBy 33 = .ok (.ireturn, 1) := by decide +kernel
set_option maxRecDepth 20000 in
theorem ggX5_reached_X5_isMember : GoodIn wsX5_reached wsX5_isMember := goodIn_r _ [4, 5, 6, 3, 7] (by decide +kernel) (by decide +kernel)
set_option maxRecDepth 20000 in
theorem gX5_reached_X5_isMember : GoodIn wsX5_reached (va_wsS RX5 116 yX5_isMember wsX5_isMember) := goodIn_app (goodIn_of _ (by decide +kernel)) ggX5_reached_X5_isMember
set_option maxRecDepth 20000 in
theorem ggX5_reached_X5_checked : GoodIn wsX5_reached wsX5_checked := goodIn_r _ [11, 12, 23, 24, 25, 26, 27, 28, 29, 30, 31, 32, 33, 34, 35, 36, 37, 38, 39, 40, 41, 42, 43, 44, 45, 46, 47, 48, 49, 50, 51, 52] (by decide +kernel) (by decide +kernel)
set_option maxRecDepth 20000 in
theorem gX5_reached_X5_checked : GoodIn wsX5_reached (wsV RX5 108 RX5 yX5_checked wsX5_checked) := goodIn_app (goodIn_of _ (by decide +kernel)) ggX5_reached_X5_checked
set_option maxRecDepth 20000 in
theorem ggX5_reached_X5_reachedBy : GoodIn wsX5_reached wsX5_reachedBy := goodIn_ca (goodIn_r _ [16, 17, 18, 19, 3, 20, 21, 22, 23, 24, 25, 26, 27, 28, 29, 30, 31, 32, 33, 34, 35, 36, 37, 38, 39, 40, 41, 42, 43, 44, 45, 46, 47, 48, 49, 50, 51, 52] (by decide +kernel) (by decide +kernel)) (goodIn_sub (fun _ h => List.mem_cons_of_mem _ (List.mem_append_right _ h)) (by decide +kernel))
set_option maxRecDepth 20000 in
theorem gX5_reached_X5_reachedBy : GoodIn wsX5_reached (wsV RX5 124 RX5 yX5_reachedBy wsX5_reachedBy) := goodIn_app (goodIn_of _ (by decide +kernel)) ggX5_reached_X5_reachedBy
theorem dX5_reached_0 : decode cX5_reached 0 = .ok (.aload_n 0, 1) := by decide +kernel
theorem dX5_reached_1 : decode cX5_reached 1 = .ok (.iload_n 1, 1) := by decide +kernel
theorem dX5_reached_2 : decode cX5_reached 2 = .ok (.invokestatic 116, 3) := by decide +kernel
theorem dX5_reached_5 : decode cX5_reached 5 = .ok (.invokevirtual 108, 3) := by decide +kernel
theorem dX5_reached_8 : decode cX5_reached 8 = .ok (.ifCond .le 7, 3) := by decide +kernel
theorem dX5_reached_11 : decode cX5_reached 11 = .ok (.iconst 0, 1) := by decide +kernel
theorem dX5_reached_12 : decode cX5_reached 12 = .ok (.goto 8, 3) := by decide +kernel
theorem dX5_reached_15 : decode cX5_reached 15 = .ok (.aload_n 0, 1) := by decide +kernel
theorem dX5_reached_16 : decode cX5_reached 16 = .ok (.iload_n 1, 1) := by decide +kernel
theorem dX5_reached_17 : decode cX5_reached 17 = .ok (.invokevirtual 124, 3) := by decide +kernel
theorem dX5_reached_20 : decode cX5_reached 20 = .ok (.ireturn, 1) := by decide +kernel
set_option maxRecDepth 20000 in
theorem ggX5_stand_X5_isMember : GoodIn wsX5_stand wsX5_isMember := goodIn_r _ [10, 11, 12, 9, 13] (by decide +kernel) (by decide +kernel)
set_option maxRecDepth 20000 in
theorem gX5_stand_X5_isMember : GoodIn wsX5_stand (va_wsS RX5 116 yX5_isMember wsX5_isMember) := goodIn_app (goodIn_of _ (by decide +kernel)) ggX5_stand_X5_isMember
set_option maxRecDepth 20000 in
theorem ggX5_stand_X5_reaches : GoodIn wsX5_stand wsX5_reaches := goodIn_ca (goodIn_r _ [17, 1, 18, 19, 20, 21, 22, 23, 24, 25, 26, 27, 28, 29, 30, 31, 32, 33, 34, 35, 36, 37, 38, 39, 40, 41, 42, 43, 44, 45, 46, 47, 48] (by decide +kernel) (by decide +kernel)) (goodIn_sub (fun _ h => List.mem_cons_of_mem _ (List.mem_append_right _ h)) (by decide +kernel))
set_option maxRecDepth 20000 in
theorem gX5_stand_X5_reaches : GoodIn wsX5_stand (wsV RX5 120 RX5 yX5_reaches wsX5_reaches) := goodIn_app (goodIn_of _ (by decide +kernel)) ggX5_stand_X5_reaches
theorem dX5_stand_0 : decode cX5_stand 0 = .ok (.aload_n 0, 1) := by decide +kernel
theorem dX5_stand_1 : decode cX5_stand 1 = .ok (.iload_n 1, 1) := by decide +kernel
theorem dX5_stand_2 : decode cX5_stand 2 = .ok (.invokestatic 116, 3) := by decide +kernel
theorem dX5_stand_5 : decode cX5_stand 5 = .ok (.ifCond .ne 7, 3) := by decide +kernel
theorem dX5_stand_8 : decode cX5_stand 8 = .ok (.iconst 1, 1) := by decide +kernel
theorem dX5_stand_9 : decode cX5_stand 9 = .ok (.goto 17, 3) := by decide +kernel
theorem dX5_stand_12 : decode cX5_stand 12 = .ok (.aload_n 0, 1) := by decide +kernel
theorem dX5_stand_13 : decode cX5_stand 13 = .ok (.getfield 7, 3) := by decide +kernel
theorem dX5_stand_16 : decode cX5_stand 16 = .ok (.iload_n 1, 1) := by decide +kernel
theorem dX5_stand_17 : decode cX5_stand 17 = .ok (.baload, 1) := by decide +kernel
theorem dX5_stand_18 : decode cX5_stand 18 = .ok (.ifCond .eq 7, 3) := by decide +kernel
theorem dX5_stand_21 : decode cX5_stand 21 = .ok (.iconst 2, 1) := by decide +kernel
theorem dX5_stand_22 : decode cX5_stand 22 = .ok (.goto 4, 3) := by decide +kernel
theorem dX5_stand_25 : decode cX5_stand 25 = .ok (.iconst 0, 1) := by decide +kernel
theorem dX5_stand_26 : decode cX5_stand 26 = .ok (.putfield 87, 3) := by decide +kernel
theorem dX5_stand_29 : decode cX5_stand 29 = .ok (.aload_n 0, 1) := by decide +kernel
theorem dX5_stand_30 : decode cX5_stand 30 = .ok (.getfield 87, 3) := by decide +kernel
theorem dX5_stand_33 : decode cX5_stand 33 = .ok (.ifCond .le 5, 3) := by decide +kernel
theorem dX5_stand_36 : decode cX5_stand 36 = .ok (.iconst 0, 1) := by decide +kernel
theorem dX5_stand_37 : decode cX5_stand 37 = .ok (.ireturn, 1) := by decide +kernel
theorem dX5_stand_38 : decode cX5_stand 38 = .ok (.aload_n 0, 1) := by decide +kernel
theorem dX5_stand_39 : decode cX5_stand 39 = .ok (.getfield 25, 3) := by decide +kernel
theorem dX5_stand_42 : decode cX5_stand 42 = .ok (.iload_n 1, 1) := by decide +kernel
theorem dX5_stand_43 : decode cX5_stand 43 = .ok (.dup2, 1) := by decide +kernel
theorem dX5_stand_44 : decode cX5_stand 44 = .ok (.iaload, 1) := by decide +kernel
theorem dX5_stand_45 : decode cX5_stand 45 = .ok (.iconst 1, 1) := by decide +kernel
theorem dX5_stand_46 : decode cX5_stand 46 = .ok (.iadd, 1) := by decide +kernel
theorem dX5_stand_47 : decode cX5_stand 47 = .ok (.iastore, 1) := by decide +kernel
theorem dX5_stand_48 : decode cX5_stand 48 = .ok (.iconst 1, 1) := by decide +kernel
theorem dX5_stand_49 : decode cX5_stand 49 = .ok (.istore_n 2, 1) := by decide +kernel
theorem dX5_stand_50 : decode cX5_stand 50 = .ok (.iconst 0, 1) := by decide +kernel
theorem dX5_stand_51 : decode cX5_stand 51 = .ok (.istore_n 3, 1) := by decide +kernel
theorem dX5_stand_52 : decode cX5_stand 52 = .ok (.iload_n 3, 1) := by decide +kernel
theorem dX5_stand_53 : decode cX5_stand 53 = .ok (.iconst 5, 1) := by decide +kernel
theorem dX5_stand_54 : decode cX5_stand 54 = .ok (.if_icmp .ge 76, 3) := by decide +kernel
theorem dX5_stand_57 : decode cX5_stand 57 = .ok (.iload_n 3, 1) := by decide +kernel
theorem dX5_stand_58 : decode cX5_stand 58 = .ok (.iload_n 1, 1) := by decide +kernel
theorem dX5_stand_59 : decode cX5_stand 59 = .ok (.if_icmp .eq 65, 3) := by decide +kernel
theorem dX5_stand_62 : decode cX5_stand 62 = .ok (.aload_n 0, 1) := by decide +kernel
theorem dX5_stand_63 : decode cX5_stand 63 = .ok (.iload_n 1, 1) := by decide +kernel
theorem dX5_stand_64 : decode cX5_stand 64 = .ok (.iload_n 3, 1) := by decide +kernel
theorem dX5_stand_65 : decode cX5_stand 65 = .ok (.invokevirtual 120, 3) := by decide +kernel
theorem dX5_stand_68 : decode cX5_stand 68 = .ok (.ifCond .eq 56, 3) := by decide +kernel
theorem dX5_stand_71 : decode cX5_stand 71 = .ok (.aload_n 0, 1) := by decide +kernel
theorem dX5_stand_72 : decode cX5_stand 72 = .ok (.getfield 25, 3) := by decide +kernel
theorem dX5_stand_75 : decode cX5_stand 75 = .ok (.iload_n 3, 1) := by decide +kernel
theorem dX5_stand_76 : decode cX5_stand 76 = .ok (.iaload, 1) := by decide +kernel
theorem dX5_stand_77 : decode cX5_stand 77 = .ok (.aload_n 0, 1) := by decide +kernel
theorem dX5_stand_78 : decode cX5_stand 78 = .ok (.getfield 25, 3) := by decide +kernel
theorem dX5_stand_81 : decode cX5_stand 81 = .ok (.iload_n 1, 1) := by decide +kernel
theorem dX5_stand_82 : decode cX5_stand 82 = .ok (.iaload, 1) := by decide +kernel
theorem dX5_stand_83 : decode cX5_stand 83 = .ok (.if_icmp .lt 6, 3) := by decide +kernel
theorem dX5_stand_86 : decode cX5_stand 86 = .ok (.goto 38, 3) := by decide +kernel
theorem dX5_stand_89 : decode cX5_stand 89 = .ok (.aload_n 0, 1) := by decide +kernel
theorem dX5_stand_90 : decode cX5_stand 90 = .ok (.getfield 25, 3) := by decide +kernel
theorem dX5_stand_93 : decode cX5_stand 93 = .ok (.iload_n 3, 1) := by decide +kernel
theorem dX5_stand_94 : decode cX5_stand 94 = .ok (.aload_n 0, 1) := by decide +kernel
theorem dX5_stand_95 : decode cX5_stand 95 = .ok (.getfield 25, 3) := by decide +kernel
theorem dX5_stand_98 : decode cX5_stand 98 = .ok (.iload_n 1, 1) := by decide +kernel
theorem dX5_stand_99 : decode cX5_stand 99 = .ok (.iaload, 1) := by decide +kernel
theorem dX5_stand_100 : decode cX5_stand 100 = .ok (.iastore, 1) := by decide +kernel
theorem dX5_stand_101 : decode cX5_stand 101 = .ok (.iload_n 2, 1) := by decide +kernel
theorem dX5_stand_102 : decode cX5_stand 102 = .ok (.aload_n 0, 1) := by decide +kernel
theorem dX5_stand_103 : decode cX5_stand 103 = .ok (.getfield 32, 3) := by decide +kernel
theorem dX5_stand_106 : decode cX5_stand 106 = .ok (.iload_n 3, 1) := by decide +kernel
theorem dX5_stand_107 : decode cX5_stand 107 = .ok (.iaload, 1) := by decide +kernel
theorem dX5_stand_108 : decode cX5_stand 108 = .ok (.aload_n 0, 1) := by decide +kernel
theorem dX5_stand_109 : decode cX5_stand 109 = .ok (.getfield 32, 3) := by decide +kernel
theorem dX5_stand_112 : decode cX5_stand 112 = .ok (.iload_n 1, 1) := by decide +kernel
theorem dX5_stand_113 : decode cX5_stand 113 = .ok (.iaload, 1) := by decide +kernel
theorem dX5_stand_114 : decode cX5_stand 114 = .ok (.if_icmp .le 7, 3) := by decide +kernel
theorem dX5_stand_117 : decode cX5_stand 117 = .ok (.iconst 0, 1) := by decide +kernel
theorem dX5_stand_118 : decode cX5_stand 118 = .ok (.goto 4, 3) := by decide +kernel
theorem dX5_stand_121 : decode cX5_stand 121 = .ok (.iconst 1, 1) := by decide +kernel
theorem dX5_stand_122 : decode cX5_stand 122 = .ok (.iadd, 1) := by decide +kernel
theorem dX5_stand_123 : decode cX5_stand 123 = .ok (.istore_n 2, 1) := by decide +kernel
theorem dX5_stand_124 : decode cX5_stand 124 = .ok (.iinc 3 1, 3) := by decide +kernel
theorem dX5_stand_127 : decode cX5_stand 127 = .ok (.goto (-75), 3) := by decide +kernel
theorem dX5_stand_130 : decode cX5_stand 130 = .ok (.iload_n 2, 1) := by decide +kernel
theorem dX5_stand_131 : decode cX5_stand 131 = .ok (.iconst 3, 1) := by decide +kernel
theorem dX5_stand_132 : decode cX5_stand 132 = .ok (.if_icmp .lt 29, 3) := by decide +kernel
theorem dX5_stand_135 : decode cX5_stand 135 = .ok (.aload_n 0, 1) := by decide +kernel
theorem dX5_stand_136 : decode cX5_stand 136 = .ok (.getfield 29, 3) := by decide +kernel
theorem dX5_stand_139 : decode cX5_stand 139 = .ok (.iload_n 1, 1) := by decide +kernel
theorem dX5_stand_140 : decode cX5_stand 140 = .ok (.aload_n 0, 1) := by decide +kernel
theorem dX5_stand_141 : decode cX5_stand 141 = .ok (.getfield 25, 3) := by decide +kernel
theorem dX5_stand_144 : decode cX5_stand 144 = .ok (.iload_n 1, 1) := by decide +kernel
theorem dX5_stand_145 : decode cX5_stand 145 = .ok (.iaload, 1) := by decide +kernel
theorem dX5_stand_146 : decode cX5_stand 146 = .ok (.iastore, 1) := by decide +kernel
theorem dX5_stand_147 : decode cX5_stand 147 = .ok (.aload_n 0, 1) := by decide +kernel
theorem dX5_stand_148 : decode cX5_stand 148 = .ok (.getfield 35, 3) := by decide +kernel
theorem dX5_stand_151 : decode cX5_stand 151 = .ok (.aload_n 0, 1) := by decide +kernel
theorem dX5_stand_152 : decode cX5_stand 152 = .ok (.getfield 25, 3) := by decide +kernel
theorem dX5_stand_155 : decode cX5_stand 155 = .ok (.iload_n 1, 1) := by decide +kernel
theorem dX5_stand_156 : decode cX5_stand 156 = .ok (.iaload, 1) := by decide +kernel
theorem dX5_stand_157 : decode cX5_stand 157 = .ok (.iload_n 1, 1) := by decide +kernel
theorem dX5_stand_158 : decode cX5_stand 158 = .ok (.iconst 1, 1) := by decide +kernel
theorem dX5_stand_159 : decode cX5_stand 159 = .ok (.iadd, 1) := by decide +kernel
theorem dX5_stand_160 : decode cX5_stand 160 = .ok (.iastore, 1) := by decide +kernel
theorem dX5_stand_161 : decode cX5_stand 161 = .ok (.iload_n 2, 1) := by decide +kernel
theorem dX5_stand_162 : decode cX5_stand 162 = .ok (.ireturn, 1) := by decide +kernel
set_option maxRecDepth 20000 in
theorem ggX5_termOf_X5_isMember : GoodIn wsX5_termOf wsX5_isMember := goodIn_r _ [5, 6, 7, 4, 8] (by decide +kernel) (by decide +kernel)
set_option maxRecDepth 20000 in
theorem gX5_termOf_X5_isMember : GoodIn wsX5_termOf (va_wsS RX5 116 yX5_isMember wsX5_isMember) := goodIn_app (goodIn_of _ (by decide +kernel)) ggX5_termOf_X5_isMember
set_option maxRecDepth 20000 in
theorem ggX5_termOf_X5_checked : GoodIn wsX5_termOf wsX5_checked := goodIn_r _ [12, 13, 14, 15, 16, 17, 18, 19, 20, 21, 22, 23, 24, 25, 26, 27, 28, 29, 30, 31, 32, 33, 34, 35, 36, 37, 38, 39, 40, 41, 42, 43] (by decide +kernel) (by decide +kernel)
set_option maxRecDepth 20000 in
theorem gX5_termOf_X5_checked : GoodIn wsX5_termOf (wsV RX5 108 RX5 yX5_checked wsX5_checked) := goodIn_app (goodIn_of _ (by decide +kernel)) ggX5_termOf_X5_checked
theorem dX5_termOf_0 : decode cX5_termOf 0 = .ok (.aload_n 0, 1) := by decide +kernel
theorem dX5_termOf_1 : decode cX5_termOf 1 = .ok (.iload_n 1, 1) := by decide +kernel
theorem dX5_termOf_2 : decode cX5_termOf 2 = .ok (.invokestatic 116, 3) := by decide +kernel
theorem dX5_termOf_5 : decode cX5_termOf 5 = .ok (.invokevirtual 108, 3) := by decide +kernel
theorem dX5_termOf_8 : decode cX5_termOf 8 = .ok (.ifCond .le 7, 3) := by decide +kernel
theorem dX5_termOf_11 : decode cX5_termOf 11 = .ok (.iconst 0, 1) := by decide +kernel
theorem dX5_termOf_12 : decode cX5_termOf 12 = .ok (.goto 9, 3) := by decide +kernel
theorem dX5_termOf_15 : decode cX5_termOf 15 = .ok (.aload_n 0, 1) := by decide +kernel
theorem dX5_termOf_16 : decode cX5_termOf 16 = .ok (.getfield 25, 3) := by decide +kernel
theorem dX5_termOf_19 : decode cX5_termOf 19 = .ok (.iload_n 1, 1) := by decide +kernel
theorem dX5_termOf_20 : decode cX5_termOf 20 = .ok (.iaload, 1) := by decide +kernel
theorem dX5_termOf_21 : decode cX5_termOf 21 = .ok (.ireturn, 1) := by decide +kernel
theorem dX5_leads_0 : decode cX5_leads 0 = .ok (.aload_n 0, 1) := by decide +kernel
theorem dX5_leads_1 : decode cX5_leads 1 = .ok (.getfield 29, 3) := by decide +kernel
theorem dX5_leads_4 : decode cX5_leads 4 = .ok (.iload_n 1, 1) := by decide +kernel
theorem dX5_leads_5 : decode cX5_leads 5 = .ok (.iaload, 1) := by decide +kernel
theorem dX5_leads_6 : decode cX5_leads 6 = .ok (.aload_n 0, 1) := by decide +kernel
theorem dX5_leads_7 : decode cX5_leads 7 = .ok (.getfield 25, 3) := by decide +kernel
theorem dX5_leads_10 : decode cX5_leads 10 = .ok (.iload_n 1, 1) := by decide +kernel
theorem dX5_leads_11 : decode cX5_leads 11 = .ok (.iaload, 1) := by decide +kernel
theorem dX5_leads_12 : decode cX5_leads 12 = .ok (.if_icmp .ne 7, 3) := by decide +kernel
theorem dX5_leads_15 : decode cX5_leads 15 = .ok (.iconst 1, 1) := by decide +kernel
theorem dX5_leads_16 : decode cX5_leads 16 = .ok (.goto 4, 3) := by decide +kernel
theorem dX5_leads_19 : decode cX5_leads 19 = .ok (.iconst 0, 1) := by decide +kernel
theorem dX5_leads_20 : decode cX5_leads 20 = .ok (.ireturn, 1) := by decide +kernel
set_option maxRecDepth 20000 in
theorem ggX5_isLeader_X5_isMember : GoodIn wsX5_isLeader wsX5_isMember := goodIn_r _ [4, 5, 6, 3, 7] (by decide +kernel) (by decide +kernel)
set_option maxRecDepth 20000 in
theorem gX5_isLeader_X5_isMember : GoodIn wsX5_isLeader (va_wsS RX5 116 yX5_isMember wsX5_isMember) := goodIn_app (goodIn_of _ (by decide +kernel)) ggX5_isLeader_X5_isMember
set_option maxRecDepth 20000 in
theorem ggX5_isLeader_X5_checked : GoodIn wsX5_isLeader wsX5_checked := goodIn_r _ [11, 12, 19, 20, 21, 22, 23, 24, 25, 26, 27, 28, 29, 30, 31, 32, 33, 34, 35, 36, 37, 38, 39, 40, 41, 42, 43, 44, 45, 46, 47, 48] (by decide +kernel) (by decide +kernel)
set_option maxRecDepth 20000 in
theorem gX5_isLeader_X5_checked : GoodIn wsX5_isLeader (wsV RX5 108 RX5 yX5_checked wsX5_checked) := goodIn_app (goodIn_of _ (by decide +kernel)) ggX5_isLeader_X5_checked
set_option maxRecDepth 20000 in
theorem ggX5_isLeader_X5_leads : GoodIn wsX5_isLeader wsX5_leads := goodIn_ca (goodIn_r _ [16, 17, 18, 19, 20, 21, 22, 23, 24, 25, 26, 27, 28, 29, 30, 31, 32, 33, 34, 35, 36, 37, 38, 39, 40, 41, 42, 43, 44, 45, 46, 47, 48] (by decide +kernel) (by decide +kernel)) (goodIn_sub (fun _ h => List.mem_cons_of_mem _ (List.mem_append_right _ h)) (by decide +kernel))
set_option maxRecDepth 20000 in
theorem gX5_isLeader_X5_leads : GoodIn wsX5_isLeader (wsV RX5 127 RX5 yX5_leads wsX5_leads) := goodIn_app (goodIn_of _ (by decide +kernel)) ggX5_isLeader_X5_leads
theorem dX5_isLeader_0 : decode cX5_isLeader 0 = .ok (.aload_n 0, 1) := by decide +kernel
theorem dX5_isLeader_1 : decode cX5_isLeader 1 = .ok (.iload_n 1, 1) := by decide +kernel
theorem dX5_isLeader_2 : decode cX5_isLeader 2 = .ok (.invokestatic 116, 3) := by decide +kernel
theorem dX5_isLeader_5 : decode cX5_isLeader 5 = .ok (.invokevirtual 108, 3) := by decide +kernel
theorem dX5_isLeader_8 : decode cX5_isLeader 8 = .ok (.ifCond .ne 15, 3) := by decide +kernel
theorem dX5_isLeader_11 : decode cX5_isLeader 11 = .ok (.aload_n 0, 1) := by decide +kernel
theorem dX5_isLeader_12 : decode cX5_isLeader 12 = .ok (.iload_n 1, 1) := by decide +kernel
theorem dX5_isLeader_13 : decode cX5_isLeader 13 = .ok (.invokevirtual 127, 3) := by decide +kernel
theorem dX5_isLeader_16 : decode cX5_isLeader 16 = .ok (.ifCond .eq 7, 3) := by decide +kernel
theorem dX5_isLeader_19 : decode cX5_isLeader 19 = .ok (.iconst 1, 1) := by decide +kernel
theorem dX5_isLeader_20 : decode cX5_isLeader 20 = .ok (.goto 4, 3) := by decide +kernel
theorem dX5_isLeader_23 : decode cX5_isLeader 23 = .ok (.iconst 0, 1) := by decide +kernel
theorem dX5_isLeader_24 : decode cX5_isLeader 24 = .ok (.ireturn, 1) := by decide +kernel
set_option maxRecDepth 20000 in
theorem ggX5_leaderOf_X5_in : GoodIn wsX5_leaderOf wsX5_in := goodIn_r _ [5] (by decide +kernel) (by decide +kernel)
set_option maxRecDepth 20000 in
theorem gX5_leaderOf_X5_in : GoodIn wsX5_leaderOf (va_wsS RX5 104 yX5_in wsX5_in) := goodIn_app (goodIn_of _ (by decide +kernel)) ggX5_leaderOf_X5_in
set_option maxRecDepth 20000 in
theorem ggX5_leaderOf_X5_checked : GoodIn wsX5_leaderOf wsX5_checked := goodIn_r _ [9, 10, 11, 12, 13, 14, 15, 16, 17, 18, 19, 20, 21, 22, 23, 24, 25, 26, 27, 28, 29, 30, 31, 32, 33, 34, 35, 36, 37, 38, 39, 40] (by decide +kernel) (by decide +kernel)
set_option maxRecDepth 20000 in
theorem gX5_leaderOf_X5_checked : GoodIn wsX5_leaderOf (wsV RX5 108 RX5 yX5_checked wsX5_checked) := goodIn_app (goodIn_of _ (by decide +kernel)) ggX5_leaderOf_X5_checked
theorem dX5_leaderOf_0 : decode cX5_leaderOf 0 = .ok (.aload_n 0, 1) := by decide +kernel
theorem dX5_leaderOf_1 : decode cX5_leaderOf 1 = .ok (.iload_n 1, 1) := by decide +kernel
theorem dX5_leaderOf_2 : decode cX5_leaderOf 2 = .ok (.iconst 0, 1) := by decide +kernel
theorem dX5_leaderOf_3 : decode cX5_leaderOf 3 = .ok (.sipush 599, 3) := by decide +kernel
theorem dX5_leaderOf_6 : decode cX5_leaderOf 6 = .ok (.invokestatic 104, 3) := by decide +kernel
theorem dX5_leaderOf_9 : decode cX5_leaderOf 9 = .ok (.ifCond .eq 16, 3) := by decide +kernel
theorem dX5_leaderOf_12 : decode cX5_leaderOf 12 = .ok (.aload_n 0, 1) := by decide +kernel
theorem dX5_leaderOf_13 : decode cX5_leaderOf 13 = .ok (.getfield 35, 3) := by decide +kernel
theorem dX5_leaderOf_16 : decode cX5_leaderOf 16 = .ok (.iload_n 1, 1) := by decide +kernel
theorem dX5_leaderOf_17 : decode cX5_leaderOf 17 = .ok (.iaload, 1) := by decide +kernel
theorem dX5_leaderOf_18 : decode cX5_leaderOf 18 = .ok (.ifCond .le 7, 3) := by decide +kernel
theorem dX5_leaderOf_21 : decode cX5_leaderOf 21 = .ok (.iconst 1, 1) := by decide +kernel
theorem dX5_leaderOf_22 : decode cX5_leaderOf 22 = .ok (.goto 4, 3) := by decide +kernel
theorem dX5_leaderOf_25 : decode cX5_leaderOf 25 = .ok (.iconst 0, 1) := by decide +kernel
theorem dX5_leaderOf_26 : decode cX5_leaderOf 26 = .ok (.invokevirtual 108, 3) := by decide +kernel
theorem dX5_leaderOf_29 : decode cX5_leaderOf 29 = .ok (.ifCond .le 7, 3) := by decide +kernel
theorem dX5_leaderOf_32 : decode cX5_leaderOf 32 = .ok (.iconst 0, 1) := by decide +kernel
theorem dX5_leaderOf_33 : decode cX5_leaderOf 33 = .ok (.goto 11, 3) := by decide +kernel
theorem dX5_leaderOf_36 : decode cX5_leaderOf 36 = .ok (.aload_n 0, 1) := by decide +kernel
theorem dX5_leaderOf_37 : decode cX5_leaderOf 37 = .ok (.getfield 35, 3) := by decide +kernel
theorem dX5_leaderOf_40 : decode cX5_leaderOf 40 = .ok (.iload_n 1, 1) := by decide +kernel
theorem dX5_leaderOf_41 : decode cX5_leaderOf 41 = .ok (.iaload, 1) := by decide +kernel
theorem dX5_leaderOf_42 : decode cX5_leaderOf 42 = .ok (.iconst 1, 1) := by decide +kernel
theorem dX5_leaderOf_43 : decode cX5_leaderOf 43 = .ok (.isub, 1) := by decide +kernel
theorem dX5_leaderOf_44 : decode cX5_leaderOf 44 = .ok (.ireturn, 1) := by decide +kernel
set_option maxRecDepth 20000 in
theorem ggX5_known_X5_isMember : GoodIn wsX5_known wsX5_isMember := goodIn_r _ [5, 6, 7, 4, 8] (by decide +kernel) (by decide +kernel)
set_option maxRecDepth 20000 in
theorem gX5_known_X5_isMember : GoodIn wsX5_known (va_wsS RX5 116 yX5_isMember wsX5_isMember) := goodIn_app (goodIn_of _ (by decide +kernel)) ggX5_known_X5_isMember
set_option maxRecDepth 20000 in
theorem ggX5_known_X5_checked : GoodIn wsX5_known wsX5_checked := goodIn_r _ [12, 13, 14, 15, 16, 17, 18, 19, 20, 21, 22, 23, 24, 25, 26, 27, 28, 29, 30, 31, 32, 33, 34, 35, 36, 37, 38, 39, 40, 41, 42, 43] (by decide +kernel) (by decide +kernel)
set_option maxRecDepth 20000 in
theorem gX5_known_X5_checked : GoodIn wsX5_known (wsV RX5 108 RX5 yX5_checked wsX5_checked) := goodIn_app (goodIn_of _ (by decide +kernel)) ggX5_known_X5_checked
theorem dX5_known_0 : decode cX5_known 0 = .ok (.aload_n 0, 1) := by decide +kernel
theorem dX5_known_1 : decode cX5_known 1 = .ok (.iload_n 1, 1) := by decide +kernel
theorem dX5_known_2 : decode cX5_known 2 = .ok (.invokestatic 116, 3) := by decide +kernel
theorem dX5_known_5 : decode cX5_known 5 = .ok (.invokevirtual 108, 3) := by decide +kernel
theorem dX5_known_8 : decode cX5_known 8 = .ok (.ifCond .le 7, 3) := by decide +kernel
theorem dX5_known_11 : decode cX5_known 11 = .ok (.iconst 0, 1) := by decide +kernel
theorem dX5_known_12 : decode cX5_known 12 = .ok (.goto 9, 3) := by decide +kernel
theorem dX5_known_15 : decode cX5_known 15 = .ok (.aload_n 0, 1) := by decide +kernel
theorem dX5_known_16 : decode cX5_known 16 = .ok (.getfield 32, 3) := by decide +kernel
theorem dX5_known_19 : decode cX5_known 19 = .ok (.iload_n 1, 1) := by decide +kernel
theorem dX5_known_20 : decode cX5_known 20 = .ok (.iaload, 1) := by decide +kernel
theorem dX5_known_21 : decode cX5_known 21 = .ok (.ireturn, 1) := by decide +kernel
theorem dX5_ownerBy_0 : decode cX5_ownerBy 0 = .ok (.iconst (-1), 1) := by decide +kernel
theorem dX5_ownerBy_1 : decode cX5_ownerBy 1 = .ok (.istore_n 3, 1) := by decide +kernel
theorem dX5_ownerBy_2 : decode cX5_ownerBy 2 = .ok (.iconst 0, 1) := by decide +kernel
theorem dX5_ownerBy_3 : decode cX5_ownerBy 3 = .ok (.istore 4, 2) := by decide +kernel
theorem dX5_ownerBy_5 : decode cX5_ownerBy 5 = .ok (.iload 4, 2) := by decide +kernel
theorem dX5_ownerBy_7 : decode cX5_ownerBy 7 = .ok (.iload_n 2, 1) := by decide +kernel
theorem dX5_ownerBy_8 : decode cX5_ownerBy 8 = .ok (.if_icmp .ge 59, 3) := by decide +kernel
theorem dX5_ownerBy_11 : decode cX5_ownerBy 11 = .ok (.aload_n 0, 1) := by decide +kernel
theorem dX5_ownerBy_12 : decode cX5_ownerBy 12 = .ok (.getfield 81, 3) := by decide +kernel
theorem dX5_ownerBy_15 : decode cX5_ownerBy 15 = .ok (.iload 4, 2) := by decide +kernel
theorem dX5_ownerBy_17 : decode cX5_ownerBy 17 = .ok (.iaload, 1) := by decide +kernel
theorem dX5_ownerBy_18 : decode cX5_ownerBy 18 = .ok (.iload_n 1, 1) := by decide +kernel
theorem dX5_ownerBy_19 : decode cX5_ownerBy 19 = .ok (.if_icmp .ne 42, 3) := by decide +kernel
theorem dX5_ownerBy_22 : decode cX5_ownerBy 22 = .ok (.aload_n 0, 1) := by decide +kernel
theorem dX5_ownerBy_23 : decode cX5_ownerBy 23 = .ok (.getfield 74, 3) := by decide +kernel
theorem dX5_ownerBy_26 : decode cX5_ownerBy 26 = .ok (.iload 4, 2) := by decide +kernel
theorem dX5_ownerBy_28 : decode cX5_ownerBy 28 = .ok (.caload, 1) := by decide +kernel
theorem dX5_ownerBy_29 : decode cX5_ownerBy 29 = .ok (.bipush 118, 2) := by decide +kernel
theorem dX5_ownerBy_31 : decode cX5_ownerBy 31 = .ok (.if_icmp .ne 6, 3) := by decide +kernel
theorem dX5_ownerBy_34 : decode cX5_ownerBy 34 = .ok (.goto 27, 3) := by decide +kernel
theorem dX5_ownerBy_37 : decode cX5_ownerBy 37 = .ok (.aload_n 0, 1) := by decide +kernel
theorem dX5_ownerBy_38 : decode cX5_ownerBy 38 = .ok (.getfield 74, 3) := by decide +kernel
theorem dX5_ownerBy_41 : decode cX5_ownerBy 41 = .ok (.iload 4, 2) := by decide +kernel
theorem dX5_ownerBy_43 : decode cX5_ownerBy 43 = .ok (.caload, 1) := by decide +kernel
theorem dX5_ownerBy_44 : decode cX5_ownerBy 44 = .ok (.bipush 117, 2) := by decide +kernel
theorem dX5_ownerBy_46 : decode cX5_ownerBy 46 = .ok (.if_icmp .ne 7, 3) := by decide +kernel
theorem dX5_ownerBy_49 : decode cX5_ownerBy 49 = .ok (.iconst (-1), 1) := by decide +kernel
theorem dX5_ownerBy_50 : decode cX5_ownerBy 50 = .ok (.goto 10, 3) := by decide +kernel
theorem dX5_ownerBy_53 : decode cX5_ownerBy 53 = .ok (.aload_n 0, 1) := by decide +kernel
theorem dX5_ownerBy_54 : decode cX5_ownerBy 54 = .ok (.getfield 84, 3) := by decide +kernel
theorem dX5_ownerBy_57 : decode cX5_ownerBy 57 = .ok (.iload 4, 2) := by decide +kernel
theorem dX5_ownerBy_59 : decode cX5_ownerBy 59 = .ok (.iaload, 1) := by decide +kernel
theorem dX5_ownerBy_60 : decode cX5_ownerBy 60 = .ok (.istore_n 3, 1) := by decide +kernel
theorem dX5_ownerBy_61 : decode cX5_ownerBy 61 = .ok (.iinc 4 1, 3) := by decide +kernel
theorem dX5_ownerBy_64 : decode cX5_ownerBy 64 = .ok (.goto (-59), 3) := by decide +kernel
theorem dX5_ownerBy_67 : decode cX5_ownerBy 67 = .ok (.iload_n 3, 1) := by decide +kernel
theorem dX5_ownerBy_68 : decode cX5_ownerBy 68 = .ok (.ireturn, 1) := by decide +kernel
set_option maxRecDepth 20000 in
theorem ggX5_ownerKnown_X5_isMember : GoodIn wsX5_ownerKnown wsX5_isMember := goodIn_r _ [6, 7, 8, 5, 9] (by decide +kernel) (by decide +kernel)
set_option maxRecDepth 20000 in
theorem gX5_ownerKnown_X5_isMember : GoodIn wsX5_ownerKnown (va_wsS RX5 116 yX5_isMember wsX5_isMember) := goodIn_app (goodIn_of _ (by decide +kernel)) ggX5_ownerKnown_X5_isMember
set_option maxRecDepth 20000 in
theorem ggX5_ownerKnown_X5_isLock : GoodIn wsX5_ownerKnown wsX5_isLock := goodIn_r _ [12, 7, 8, 5, 9] (by decide +kernel) (by decide +kernel)
set_option maxRecDepth 20000 in
theorem gX5_ownerKnown_X5_isLock : GoodIn wsX5_ownerKnown (va_wsS RX5 130 yX5_isLock wsX5_isLock) := goodIn_app (goodIn_of _ (by decide +kernel)) ggX5_ownerKnown_X5_isLock
set_option maxRecDepth 20000 in
theorem ggX5_ownerKnown_X5_ownerBy : GoodIn wsX5_ownerKnown wsX5_ownerBy := goodIn_ca (goodIn_r _ [16, 17, 18, 19, 20, 21, 22, 23, 24, 25, 26, 27, 28, 29, 30, 31, 32, 33, 34, 35, 36, 37, 38, 39, 40, 41, 42, 43, 44, 45, 46, 47, 48, 49] (by decide +kernel) (by decide +kernel)) (goodIn_sub (fun _ h => List.mem_cons_of_mem _ (List.mem_append_right _ h)) (by decide +kernel))
set_option maxRecDepth 20000 in
theorem gX5_ownerKnown_X5_ownerBy : GoodIn wsX5_ownerKnown (wsV RX5 133 RX5 yX5_ownerBy wsX5_ownerBy) := goodIn_app (goodIn_of _ (by decide +kernel)) ggX5_ownerKnown_X5_ownerBy
theorem dX5_ownerKnown_0 : decode cX5_ownerKnown 0 = .ok (.aload_n 0, 1) := by decide +kernel
theorem dX5_ownerKnown_1 : decode cX5_ownerKnown 1 = .ok (.iload_n 1, 1) := by decide +kernel
theorem dX5_ownerKnown_2 : decode cX5_ownerKnown 2 = .ok (.invokestatic 116, 3) := by decide +kernel
theorem dX5_ownerKnown_5 : decode cX5_ownerKnown 5 = .ok (.ifCond .eq 10, 3) := by decide +kernel
theorem dX5_ownerKnown_8 : decode cX5_ownerKnown 8 = .ok (.iload_n 2, 1) := by decide +kernel
theorem dX5_ownerKnown_9 : decode cX5_ownerKnown 9 = .ok (.invokestatic 130, 3) := by decide +kernel
theorem dX5_ownerKnown_12 : decode cX5_ownerKnown 12 = .ok (.ifCond .ne 7, 3) := by decide +kernel
theorem dX5_ownerKnown_15 : decode cX5_ownerKnown 15 = .ok (.iconst 1, 1) := by decide +kernel
theorem dX5_ownerKnown_16 : decode cX5_ownerKnown 16 = .ok (.goto 22, 3) := by decide +kernel
theorem dX5_ownerKnown_19 : decode cX5_ownerKnown 19 = .ok (.aload_n 0, 1) := by decide +kernel
theorem dX5_ownerKnown_20 : decode cX5_ownerKnown 20 = .ok (.iload_n 2, 1) := by decide +kernel
theorem dX5_ownerKnown_21 : decode cX5_ownerKnown 21 = .ok (.aload_n 0, 1) := by decide +kernel
theorem dX5_ownerKnown_22 : decode cX5_ownerKnown 22 = .ok (.getfield 32, 3) := by decide +kernel
theorem dX5_ownerKnown_25 : decode cX5_ownerKnown 25 = .ok (.iload_n 1, 1) := by decide +kernel
theorem dX5_ownerKnown_26 : decode cX5_ownerKnown 26 = .ok (.iaload, 1) := by decide +kernel
theorem dX5_ownerKnown_27 : decode cX5_ownerKnown 27 = .ok (.invokevirtual 133, 3) := by decide +kernel
theorem dX5_ownerKnown_30 : decode cX5_ownerKnown 30 = .ok (.ifCond .ge 7, 3) := by decide +kernel
theorem dX5_ownerKnown_33 : decode cX5_ownerKnown 33 = .ok (.iconst 2, 1) := by decide +kernel
theorem dX5_ownerKnown_34 : decode cX5_ownerKnown 34 = .ok (.goto 4, 3) := by decide +kernel
theorem dX5_ownerKnown_37 : decode cX5_ownerKnown 37 = .ok (.iconst 0, 1) := by decide +kernel
theorem dX5_ownerKnown_38 : decode cX5_ownerKnown 38 = .ok (.putfield 87, 3) := by decide +kernel
theorem dX5_ownerKnown_41 : decode cX5_ownerKnown 41 = .ok (.aload_n 0, 1) := by decide +kernel
theorem dX5_ownerKnown_42 : decode cX5_ownerKnown 42 = .ok (.getfield 87, 3) := by decide +kernel
theorem dX5_ownerKnown_45 : decode cX5_ownerKnown 45 = .ok (.ifCond .le 7, 3) := by decide +kernel
theorem dX5_ownerKnown_48 : decode cX5_ownerKnown 48 = .ok (.iconst 0, 1) := by decide +kernel
theorem dX5_ownerKnown_49 : decode cX5_ownerKnown 49 = .ok (.goto 14, 3) := by decide +kernel
theorem dX5_ownerKnown_52 : decode cX5_ownerKnown 52 = .ok (.aload_n 0, 1) := by decide +kernel
theorem dX5_ownerKnown_53 : decode cX5_ownerKnown 53 = .ok (.iload_n 2, 1) := by decide +kernel
theorem dX5_ownerKnown_54 : decode cX5_ownerKnown 54 = .ok (.aload_n 0, 1) := by decide +kernel
theorem dX5_ownerKnown_55 : decode cX5_ownerKnown 55 = .ok (.getfield 32, 3) := by decide +kernel
theorem dX5_ownerKnown_58 : decode cX5_ownerKnown 58 = .ok (.iload_n 1, 1) := by decide +kernel
theorem dX5_ownerKnown_59 : decode cX5_ownerKnown 59 = .ok (.iaload, 1) := by decide +kernel
theorem dX5_ownerKnown_60 : decode cX5_ownerKnown 60 = .ok (.invokevirtual 133, 3) := by decide +kernel
theorem dX5_ownerKnown_63 : decode cX5_ownerKnown 63 = .ok (.ireturn, 1) := by decide +kernel
set_option maxRecDepth 20000 in
theorem ggX5_addClient_X5_checked : GoodIn wsX5_addClient wsX5_checked := goodIn_r _ [6, 7, 8, 9, 10, 11, 12, 13, 14, 15, 16, 17, 18, 19, 20, 21, 22, 23, 24, 25, 26, 27, 28, 29, 30, 31, 32, 33, 34, 35, 36, 37] (by decide +kernel) (by decide +kernel)
set_option maxRecDepth 20000 in
theorem gX5_addClient_X5_checked : GoodIn wsX5_addClient (wsV RX5 108 RX5 yX5_checked wsX5_checked) := goodIn_app (goodIn_of _ (by decide +kernel)) ggX5_addClient_X5_checked
theorem dX5_addClient_0 : decode cX5_addClient 0 = .ok (.aload_n 0, 1) := by decide +kernel
theorem dX5_addClient_1 : decode cX5_addClient 1 = .ok (.aload_n 0, 1) := by decide +kernel
theorem dX5_addClient_2 : decode cX5_addClient 2 = .ok (.getfield 94, 3) := by decide +kernel
theorem dX5_addClient_5 : decode cX5_addClient 5 = .ok (.bipush 6, 2) := by decide +kernel
theorem dX5_addClient_7 : decode cX5_addClient 7 = .ok (.if_icmp .ge 7, 3) := by decide +kernel
theorem dX5_addClient_10 : decode cX5_addClient 10 = .ok (.iconst 1, 1) := by decide +kernel
theorem dX5_addClient_11 : decode cX5_addClient 11 = .ok (.goto 4, 3) := by decide +kernel
theorem dX5_addClient_14 : decode cX5_addClient 14 = .ok (.iconst 0, 1) := by decide +kernel
theorem dX5_addClient_15 : decode cX5_addClient 15 = .ok (.invokevirtual 108, 3) := by decide +kernel
theorem dX5_addClient_18 : decode cX5_addClient 18 = .ok (.ifCond .le 5, 3) := by decide +kernel
theorem dX5_addClient_21 : decode cX5_addClient 21 = .ok (.iconst 0, 1) := by decide +kernel
theorem dX5_addClient_22 : decode cX5_addClient 22 = .ok (.ireturn, 1) := by decide +kernel
theorem dX5_addClient_23 : decode cX5_addClient 23 = .ok (.aload_n 0, 1) := by decide +kernel
theorem dX5_addClient_24 : decode cX5_addClient 24 = .ok (.dup, 1) := by decide +kernel
theorem dX5_addClient_25 : decode cX5_addClient 25 = .ok (.getfield 94, 3) := by decide +kernel
theorem dX5_addClient_28 : decode cX5_addClient 28 = .ok (.iconst 1, 1) := by decide +kernel
theorem dX5_addClient_29 : decode cX5_addClient 29 = .ok (.iadd, 1) := by decide +kernel
theorem dX5_addClient_30 : decode cX5_addClient 30 = .ok (.putfield 94, 3) := by decide +kernel
theorem dX5_addClient_33 : decode cX5_addClient 33 = .ok (.aload_n 0, 1) := by decide +kernel
theorem dX5_addClient_34 : decode cX5_addClient 34 = .ok (.getfield 94, 3) := by decide +kernel
theorem dX5_addClient_37 : decode cX5_addClient 37 = .ok (.iconst 1, 1) := by decide +kernel
theorem dX5_addClient_38 : decode cX5_addClient 38 = .ok (.isub, 1) := by decide +kernel
theorem dX5_addClient_39 : decode cX5_addClient 39 = .ok (.ireturn, 1) := by decide +kernel
set_option maxRecDepth 20000 in
theorem ggX5_setOffset_X5_isClient : GoodIn wsX5_setOffset wsX5_isClient := goodIn_r _ [7, 8, 9, 10, 6, 11, 12, 13, 14, 15, 16, 17, 18, 19, 20, 21, 22, 23, 24, 25, 26, 27, 28, 29, 30, 31, 32, 33, 34, 35, 36, 37, 38, 39, 40, 41] (by decide +kernel) (by decide +kernel)
set_option maxRecDepth 20000 in
theorem gX5_setOffset_X5_isClient : GoodIn wsX5_setOffset (wsV RX5 137 RX5 yX5_isClient wsX5_isClient) := goodIn_app (goodIn_of _ (by decide +kernel)) ggX5_setOffset_X5_isClient
set_option maxRecDepth 20000 in
theorem ggX5_setOffset_X5_in : GoodIn wsX5_setOffset wsX5_in := goodIn_r _ [11] (by decide +kernel) (by decide +kernel)
set_option maxRecDepth 20000 in
theorem gX5_setOffset_X5_in : GoodIn wsX5_setOffset (va_wsS RX5 104 yX5_in wsX5_in) := goodIn_app (goodIn_of _ (by decide +kernel)) ggX5_setOffset_X5_in
theorem dX5_setOffset_0 : decode cX5_setOffset 0 = .ok (.aload_n 0, 1) := by decide +kernel
theorem dX5_setOffset_1 : decode cX5_setOffset 1 = .ok (.aload_n 0, 1) := by decide +kernel
theorem dX5_setOffset_2 : decode cX5_setOffset 2 = .ok (.iload_n 1, 1) := by decide +kernel
theorem dX5_setOffset_3 : decode cX5_setOffset 3 = .ok (.invokevirtual 137, 3) := by decide +kernel
theorem dX5_setOffset_6 : decode cX5_setOffset 6 = .ok (.ifCond .ne 7, 3) := by decide +kernel
theorem dX5_setOffset_9 : decode cX5_setOffset 9 = .ok (.iconst 1, 1) := by decide +kernel
theorem dX5_setOffset_10 : decode cX5_setOffset 10 = .ok (.goto 18, 3) := by decide +kernel
theorem dX5_setOffset_13 : decode cX5_setOffset 13 = .ok (.iload_n 2, 1) := by decide +kernel
theorem dX5_setOffset_14 : decode cX5_setOffset 14 = .ok (.bipush (-2), 2) := by decide +kernel
theorem dX5_setOffset_16 : decode cX5_setOffset 16 = .ok (.iconst 2, 1) := by decide +kernel
theorem dX5_setOffset_17 : decode cX5_setOffset 17 = .ok (.invokestatic 104, 3) := by decide +kernel
theorem dX5_setOffset_20 : decode cX5_setOffset 20 = .ok (.ifCond .ne 7, 3) := by decide +kernel
theorem dX5_setOffset_23 : decode cX5_setOffset 23 = .ok (.iconst 2, 1) := by decide +kernel
theorem dX5_setOffset_24 : decode cX5_setOffset 24 = .ok (.goto 4, 3) := by decide +kernel
theorem dX5_setOffset_27 : decode cX5_setOffset 27 = .ok (.iconst 0, 1) := by decide +kernel
theorem dX5_setOffset_28 : decode cX5_setOffset 28 = .ok (.putfield 87, 3) := by decide +kernel
theorem dX5_setOffset_31 : decode cX5_setOffset 31 = .ok (.aload_n 0, 1) := by decide +kernel
theorem dX5_setOffset_32 : decode cX5_setOffset 32 = .ok (.getfield 87, 3) := by decide +kernel
theorem dX5_setOffset_35 : decode cX5_setOffset 35 = .ok (.ifCond .le 5, 3) := by decide +kernel
theorem dX5_setOffset_38 : decode cX5_setOffset 38 = .ok (.iconst 0, 1) := by decide +kernel
theorem dX5_setOffset_39 : decode cX5_setOffset 39 = .ok (.ireturn, 1) := by decide +kernel
theorem dX5_setOffset_40 : decode cX5_setOffset 40 = .ok (.aload_n 0, 1) := by decide +kernel
theorem dX5_setOffset_41 : decode cX5_setOffset 41 = .ok (.getfield 38, 3) := by decide +kernel
theorem dX5_setOffset_44 : decode cX5_setOffset 44 = .ok (.iload_n 1, 1) := by decide +kernel
theorem dX5_setOffset_45 : decode cX5_setOffset 45 = .ok (.iaload, 1) := by decide +kernel
theorem dX5_setOffset_46 : decode cX5_setOffset 46 = .ok (.istore_n 3, 1) := by decide +kernel
theorem dX5_setOffset_47 : decode cX5_setOffset 47 = .ok (.aload_n 0, 1) := by decide +kernel
theorem dX5_setOffset_48 : decode cX5_setOffset 48 = .ok (.getfield 38, 3) := by decide +kernel
theorem dX5_setOffset_51 : decode cX5_setOffset 51 = .ok (.iload_n 1, 1) := by decide +kernel
theorem dX5_setOffset_52 : decode cX5_setOffset 52 = .ok (.iload_n 2, 1) := by decide +kernel
theorem dX5_setOffset_53 : decode cX5_setOffset 53 = .ok (.iastore, 1) := by decide +kernel
theorem dX5_setOffset_54 : decode cX5_setOffset 54 = .ok (.iload_n 3, 1) := by decide +kernel
theorem dX5_setOffset_55 : decode cX5_setOffset 55 = .ok (.ireturn, 1) := by decide +kernel
set_option maxRecDepth 20000 in
theorem ggX5_setPaused_X5_isClient : GoodIn wsX5_setPaused wsX5_isClient := goodIn_r _ [6, 7, 8, 9, 5, 10, 16, 17, 18, 19, 20, 21, 22, 23, 24, 25, 26, 27, 28, 29, 30, 31, 32, 33, 34, 35, 36, 37, 38, 39, 40, 41, 42, 43, 44, 45] (by decide +kernel) (by decide +kernel)
set_option maxRecDepth 20000 in
theorem gX5_setPaused_X5_isClient : GoodIn wsX5_setPaused (wsV RX5 137 RX5 yX5_isClient wsX5_isClient) := goodIn_app (goodIn_of _ (by decide +kernel)) ggX5_setPaused_X5_isClient
set_option maxRecDepth 20000 in
theorem ggX5_setPaused_X5_checked : GoodIn wsX5_setPaused wsX5_checked := goodIn_r _ [14, 15, 16, 17, 18, 19, 20, 21, 22, 23, 24, 25, 26, 27, 28, 29, 30, 31, 32, 33, 34, 35, 36, 37, 38, 39, 40, 41, 42, 43, 44, 45] (by decide +kernel) (by decide +kernel)
set_option maxRecDepth 20000 in
theorem gX5_setPaused_X5_checked : GoodIn wsX5_setPaused (wsV RX5 108 RX5 yX5_checked wsX5_checked) := goodIn_app (goodIn_of _ (by decide +kernel)) ggX5_setPaused_X5_checked
theorem dX5_setPaused_0 : decode cX5_setPaused 0 = .ok (.aload_n 0, 1) := by decide +kernel
theorem dX5_setPaused_1 : decode cX5_setPaused 1 = .ok (.aload_n 0, 1) := by decide +kernel
theorem dX5_setPaused_2 : decode cX5_setPaused 2 = .ok (.iload_n 1, 1) := by decide +kernel
theorem dX5_setPaused_3 : decode cX5_setPaused 3 = .ok (.invokevirtual 137, 3) := by decide +kernel
theorem dX5_setPaused_6 : decode cX5_setPaused 6 = .ok (.invokevirtual 108, 3) := by decide +kernel
theorem dX5_setPaused_9 : decode cX5_setPaused 9 = .ok (.ifCond .le 5, 3) := by decide +kernel
theorem dX5_setPaused_12 : decode cX5_setPaused 12 = .ok (.iconst 0, 1) := by decide +kernel
theorem dX5_setPaused_13 : decode cX5_setPaused 13 = .ok (.ireturn, 1) := by decide +kernel
theorem dX5_setPaused_14 : decode cX5_setPaused 14 = .ok (.aload_n 0, 1) := by decide +kernel
theorem dX5_setPaused_15 : decode cX5_setPaused 15 = .ok (.getfield 16, 3) := by decide +kernel
theorem dX5_setPaused_18 : decode cX5_setPaused 18 = .ok (.iload_n 1, 1) := by decide +kernel
theorem dX5_setPaused_19 : decode cX5_setPaused 19 = .ok (.baload, 1) := by decide +kernel
theorem dX5_setPaused_20 : decode cX5_setPaused 20 = .ok (.istore_n 3, 1) := by decide +kernel
theorem dX5_setPaused_21 : decode cX5_setPaused 21 = .ok (.aload_n 0, 1) := by decide +kernel
theorem dX5_setPaused_22 : decode cX5_setPaused 22 = .ok (.getfield 16, 3) := by decide +kernel
theorem dX5_setPaused_25 : decode cX5_setPaused 25 = .ok (.iload_n 1, 1) := by decide +kernel
theorem dX5_setPaused_26 : decode cX5_setPaused 26 = .ok (.iload_n 2, 1) := by decide +kernel
theorem dX5_setPaused_27 : decode cX5_setPaused 27 = .ok (.bastore, 1) := by decide +kernel
theorem dX5_setPaused_28 : decode cX5_setPaused 28 = .ok (.iload_n 3, 1) := by decide +kernel
theorem dX5_setPaused_29 : decode cX5_setPaused 29 = .ok (.ireturn, 1) := by decide +kernel
theorem dX5_clock_0 : decode cX5_clock 0 = .ok (.aload_n 0, 1) := by decide +kernel
theorem dX5_clock_1 : decode cX5_clock 1 = .ok (.getfield 91, 3) := by decide +kernel
theorem dX5_clock_4 : decode cX5_clock 4 = .ok (.aload_n 0, 1) := by decide +kernel
theorem dX5_clock_5 : decode cX5_clock 5 = .ok (.getfield 38, 3) := by decide +kernel
theorem dX5_clock_8 : decode cX5_clock 8 = .ok (.iload_n 1, 1) := by decide +kernel
theorem dX5_clock_9 : decode cX5_clock 9 = .ok (.iaload, 1) := by decide +kernel
theorem dX5_clock_10 : decode cX5_clock 10 = .ok (.iadd, 1) := by decide +kernel
theorem dX5_clock_11 : decode cX5_clock 11 = .ok (.ireturn, 1) := by decide +kernel
set_option maxRecDepth 20000 in
theorem ggX5_clockOf_X5_isClient : GoodIn wsX5_clockOf wsX5_isClient := goodIn_r _ [5, 6, 7, 8, 4, 9, 21, 22, 23, 24, 25, 26, 27, 28, 29, 30, 31, 32, 33, 34, 35, 36, 37, 38, 39, 40, 41, 42, 43, 44, 45, 46, 47, 48, 49, 50] (by decide +kernel) (by decide +kernel)
set_option maxRecDepth 20000 in
theorem gX5_clockOf_X5_isClient : GoodIn wsX5_clockOf (wsV RX5 137 RX5 yX5_isClient wsX5_isClient) := goodIn_app (goodIn_of _ (by decide +kernel)) ggX5_clockOf_X5_isClient
set_option maxRecDepth 20000 in
theorem ggX5_clockOf_X5_checked : GoodIn wsX5_clockOf wsX5_checked := goodIn_r _ [13, 14, 21, 22, 23, 24, 25, 26, 27, 28, 29, 30, 31, 32, 33, 34, 35, 36, 37, 38, 39, 40, 41, 42, 43, 44, 45, 46, 47, 48, 49, 50] (by decide +kernel) (by decide +kernel)
set_option maxRecDepth 20000 in
theorem gX5_clockOf_X5_checked : GoodIn wsX5_clockOf (wsV RX5 108 RX5 yX5_checked wsX5_checked) := goodIn_app (goodIn_of _ (by decide +kernel)) ggX5_clockOf_X5_checked
set_option maxRecDepth 20000 in
theorem ggX5_clockOf_X5_clock : GoodIn wsX5_clockOf wsX5_clock := goodIn_ca (goodIn_r _ [18, 19, 20, 21, 22, 23, 24, 25, 26, 27, 28, 29, 30, 31, 32, 33, 34, 35, 36, 37, 38, 39, 40, 41, 42, 43, 44, 45, 46, 47, 48, 49, 50] (by decide +kernel) (by decide +kernel)) (goodIn_sub (fun _ h => List.mem_cons_of_mem _ (List.mem_append_right _ h)) (by decide +kernel))
set_option maxRecDepth 20000 in
theorem gX5_clockOf_X5_clock : GoodIn wsX5_clockOf (wsV RX5 140 RX5 yX5_clock wsX5_clock) := goodIn_app (goodIn_of _ (by decide +kernel)) ggX5_clockOf_X5_clock
theorem dX5_clockOf_0 : decode cX5_clockOf 0 = .ok (.aload_n 0, 1) := by decide +kernel
theorem dX5_clockOf_1 : decode cX5_clockOf 1 = .ok (.aload_n 0, 1) := by decide +kernel
theorem dX5_clockOf_2 : decode cX5_clockOf 2 = .ok (.iload_n 1, 1) := by decide +kernel
theorem dX5_clockOf_3 : decode cX5_clockOf 3 = .ok (.invokevirtual 137, 3) := by decide +kernel
theorem dX5_clockOf_6 : decode cX5_clockOf 6 = .ok (.invokevirtual 108, 3) := by decide +kernel
theorem dX5_clockOf_9 : decode cX5_clockOf 9 = .ok (.ifCond .le 7, 3) := by decide +kernel
theorem dX5_clockOf_12 : decode cX5_clockOf 12 = .ok (.iconst 0, 1) := by decide +kernel
theorem dX5_clockOf_13 : decode cX5_clockOf 13 = .ok (.goto 8, 3) := by decide +kernel
theorem dX5_clockOf_16 : decode cX5_clockOf 16 = .ok (.aload_n 0, 1) := by decide +kernel
theorem dX5_clockOf_17 : decode cX5_clockOf 17 = .ok (.iload_n 1, 1) := by decide +kernel
theorem dX5_clockOf_18 : decode cX5_clockOf 18 = .ok (.invokevirtual 140, 3) := by decide +kernel
theorem dX5_clockOf_21 : decode cX5_clockOf 21 = .ok (.ireturn, 1) := by decide +kernel
set_option maxRecDepth 20000 in
theorem ggX5_wrongAsk_X5_isClient : GoodIn wsX5_wrongAsk wsX5_isClient := goodIn_r _ [5, 6, 7, 8, 4, 9, 16, 17, 18, 19, 20, 21, 22, 23, 24, 25, 26, 27, 28, 29, 30, 31, 32, 33, 34, 35, 36, 37, 38, 39, 40, 41, 42, 43, 44, 45] (by decide +kernel) (by decide +kernel)
set_option maxRecDepth 20000 in
theorem gX5_wrongAsk_X5_isClient : GoodIn wsX5_wrongAsk (wsV RX5 137 RX5 yX5_isClient wsX5_isClient) := goodIn_app (goodIn_of _ (by decide +kernel)) ggX5_wrongAsk_X5_isClient
set_option maxRecDepth 20000 in
theorem ggX5_wrongAsk_X5_isLock : GoodIn wsX5_wrongAsk wsX5_isLock := goodIn_r _ [12, 7, 8, 4, 9] (by decide +kernel) (by decide +kernel)
set_option maxRecDepth 20000 in
theorem gX5_wrongAsk_X5_isLock : GoodIn wsX5_wrongAsk (va_wsS RX5 130 yX5_isLock wsX5_isLock) := goodIn_app (goodIn_of _ (by decide +kernel)) ggX5_wrongAsk_X5_isLock
set_option maxRecDepth 20000 in
theorem ggX5_wrongAsk_X5_isMember : GoodIn wsX5_wrongAsk wsX5_isMember := goodIn_r _ [15, 7, 8, 4, 9] (by decide +kernel) (by decide +kernel)
set_option maxRecDepth 20000 in
theorem gX5_wrongAsk_X5_isMember : GoodIn wsX5_wrongAsk (va_wsS RX5 116 yX5_isMember wsX5_isMember) := goodIn_app (goodIn_of _ (by decide +kernel)) ggX5_wrongAsk_X5_isMember
theorem dX5_wrongAsk_0 : decode cX5_wrongAsk 0 = .ok (.aload_n 0, 1) := by decide +kernel
theorem dX5_wrongAsk_1 : decode cX5_wrongAsk 1 = .ok (.iload_n 1, 1) := by decide +kernel
theorem dX5_wrongAsk_2 : decode cX5_wrongAsk 2 = .ok (.invokevirtual 137, 3) := by decide +kernel
theorem dX5_wrongAsk_5 : decode cX5_wrongAsk 5 = .ok (.ifCond .ne 5, 3) := by decide +kernel
theorem dX5_wrongAsk_8 : decode cX5_wrongAsk 8 = .ok (.iconst 1, 1) := by decide +kernel
theorem dX5_wrongAsk_9 : decode cX5_wrongAsk 9 = .ok (.ireturn, 1) := by decide +kernel
theorem dX5_wrongAsk_10 : decode cX5_wrongAsk 10 = .ok (.iload_n 2, 1) := by decide +kernel
theorem dX5_wrongAsk_11 : decode cX5_wrongAsk 11 = .ok (.invokestatic 130, 3) := by decide +kernel
theorem dX5_wrongAsk_14 : decode cX5_wrongAsk 14 = .ok (.ifCond .eq 10, 3) := by decide +kernel
theorem dX5_wrongAsk_17 : decode cX5_wrongAsk 17 = .ok (.iload_n 3, 1) := by decide +kernel
theorem dX5_wrongAsk_18 : decode cX5_wrongAsk 18 = .ok (.invokestatic 116, 3) := by decide +kernel
theorem dX5_wrongAsk_21 : decode cX5_wrongAsk 21 = .ok (.ifCond .ne 7, 3) := by decide +kernel
theorem dX5_wrongAsk_24 : decode cX5_wrongAsk 24 = .ok (.iconst 2, 1) := by decide +kernel
theorem dX5_wrongAsk_25 : decode cX5_wrongAsk 25 = .ok (.goto 4, 3) := by decide +kernel
theorem dX5_wrongAsk_28 : decode cX5_wrongAsk 28 = .ok (.iconst 0, 1) := by decide +kernel
theorem dX5_wrongAsk_29 : decode cX5_wrongAsk 29 = .ok (.ireturn, 1) := by decide +kernel
set_option maxRecDepth 20000 in
theorem ggX5_cannotAsk_X5_leads : GoodIn wsX5_cannotAsk wsX5_leads := goodIn_ca (goodIn_r _ [8, 9, 10, 11, 12, 13, 14, 15, 16, 17, 18, 19, 20, 21, 22, 23, 24, 25, 26, 27, 28, 29, 30, 31, 32, 33, 34, 35, 36, 37, 38, 39, 40] (by decide +kernel) (by decide +kernel)) (goodIn_sub (fun _ h => List.mem_cons_of_mem _ (List.mem_append_right _ h)) (by decide +kernel))
set_option maxRecDepth 20000 in
theorem gX5_cannotAsk_X5_leads : GoodIn wsX5_cannotAsk (wsV RX5 127 RX5 yX5_leads wsX5_leads) := goodIn_app (goodIn_of _ (by decide +kernel)) ggX5_cannotAsk_X5_leads
theorem dX5_cannotAsk_0 : decode cX5_cannotAsk 0 = .ok (.aload_n 0, 1) := by decide +kernel
theorem dX5_cannotAsk_1 : decode cX5_cannotAsk 1 = .ok (.getfield 16, 3) := by decide +kernel
theorem dX5_cannotAsk_4 : decode cX5_cannotAsk 4 = .ok (.iload_n 1, 1) := by decide +kernel
theorem dX5_cannotAsk_5 : decode cX5_cannotAsk 5 = .ok (.baload, 1) := by decide +kernel
theorem dX5_cannotAsk_6 : decode cX5_cannotAsk 6 = .ok (.ifCond .ne 30, 3) := by decide +kernel
theorem dX5_cannotAsk_9 : decode cX5_cannotAsk 9 = .ok (.aload_n 0, 1) := by decide +kernel
theorem dX5_cannotAsk_10 : decode cX5_cannotAsk 10 = .ok (.getfield 7, 3) := by decide +kernel
theorem dX5_cannotAsk_13 : decode cX5_cannotAsk 13 = .ok (.iload_n 2, 1) := by decide +kernel
theorem dX5_cannotAsk_14 : decode cX5_cannotAsk 14 = .ok (.baload, 1) := by decide +kernel
theorem dX5_cannotAsk_15 : decode cX5_cannotAsk 15 = .ok (.ifCond .ne 21, 3) := by decide +kernel
theorem dX5_cannotAsk_18 : decode cX5_cannotAsk 18 = .ok (.aload_n 0, 1) := by decide +kernel
theorem dX5_cannotAsk_19 : decode cX5_cannotAsk 19 = .ok (.iload_n 2, 1) := by decide +kernel
theorem dX5_cannotAsk_20 : decode cX5_cannotAsk 20 = .ok (.invokevirtual 127, 3) := by decide +kernel
theorem dX5_cannotAsk_23 : decode cX5_cannotAsk 23 = .ok (.ifCond .eq 13, 3) := by decide +kernel
theorem dX5_cannotAsk_26 : decode cX5_cannotAsk 26 = .ok (.aload_n 0, 1) := by decide +kernel
theorem dX5_cannotAsk_27 : decode cX5_cannotAsk 27 = .ok (.getfield 97, 3) := by decide +kernel
theorem dX5_cannotAsk_30 : decode cX5_cannotAsk 30 = .ok (.sipush 250, 3) := by decide +kernel
theorem dX5_cannotAsk_33 : decode cX5_cannotAsk 33 = .ok (.if_icmp .ne 7, 3) := by decide +kernel
theorem dX5_cannotAsk_36 : decode cX5_cannotAsk 36 = .ok (.iconst 1, 1) := by decide +kernel
theorem dX5_cannotAsk_37 : decode cX5_cannotAsk 37 = .ok (.goto 4, 3) := by decide +kernel
theorem dX5_cannotAsk_40 : decode cX5_cannotAsk 40 = .ok (.iconst 0, 1) := by decide +kernel
theorem dX5_cannotAsk_41 : decode cX5_cannotAsk 41 = .ok (.ireturn, 1) := by decide +kernel
set_option maxRecDepth 20000 in
theorem ggX5_looks_X5_reaches : GoodIn wsX5_looks wsX5_reaches := goodIn_ca (goodIn_r _ [6, 7, 8, 13, 14, 15, 16, 17, 18, 19, 20, 21, 22, 23, 24, 25, 26, 27, 28, 29, 30, 31, 32, 33, 34, 35, 36, 37, 38, 39, 40, 41, 42] (by decide +kernel) (by decide +kernel)) (goodIn_sub (fun _ h => List.mem_cons_of_mem _ (List.mem_append_right _ h)) (by decide +kernel))
set_option maxRecDepth 20000 in
theorem gX5_looks_X5_reaches : GoodIn wsX5_looks (wsV RX5 120 RX5 yX5_reaches wsX5_reaches) := goodIn_app (goodIn_of _ (by decide +kernel)) ggX5_looks_X5_reaches
set_option maxRecDepth 20000 in
theorem ggX5_looks_X5_reachedBy : GoodIn wsX5_looks wsX5_reachedBy := goodIn_ca (goodIn_r _ [12, 2, 3, 4, 5, 6, 7, 8, 13, 14, 15, 16, 17, 18, 19, 20, 21, 22, 23, 24, 25, 26, 27, 28, 29, 30, 31, 32, 33, 34, 35, 36, 37, 38, 39, 40, 41, 42] (by decide +kernel) (by decide +kernel)) (goodIn_sub (fun _ h => List.mem_cons_of_mem _ (List.mem_append_right _ h)) (by decide +kernel))
set_option maxRecDepth 20000 in
theorem gX5_looks_X5_reachedBy : GoodIn wsX5_looks (wsV RX5 124 RX5 yX5_reachedBy wsX5_reachedBy) := goodIn_app (goodIn_of _ (by decide +kernel)) ggX5_looks_X5_reachedBy
theorem dX5_looks_0 : decode cX5_looks 0 = .ok (.aload_n 0, 1) := by decide +kernel
theorem dX5_looks_1 : decode cX5_looks 1 = .ok (.getfield 25, 3) := by decide +kernel
theorem dX5_looks_4 : decode cX5_looks 4 = .ok (.iload_n 1, 1) := by decide +kernel
theorem dX5_looks_5 : decode cX5_looks 5 = .ok (.iaload, 1) := by decide +kernel
theorem dX5_looks_6 : decode cX5_looks 6 = .ok (.istore_n 2, 1) := by decide +kernel
theorem dX5_looks_7 : decode cX5_looks 7 = .ok (.iconst 0, 1) := by decide +kernel
theorem dX5_looks_8 : decode cX5_looks 8 = .ok (.istore_n 3, 1) := by decide +kernel
theorem dX5_looks_9 : decode cX5_looks 9 = .ok (.iload_n 3, 1) := by decide +kernel
theorem dX5_looks_10 : decode cX5_looks 10 = .ok (.iconst 5, 1) := by decide +kernel
theorem dX5_looks_11 : decode cX5_looks 11 = .ok (.if_icmp .ge 35, 3) := by decide +kernel
theorem dX5_looks_14 : decode cX5_looks 14 = .ok (.aload_n 0, 1) := by decide +kernel
theorem dX5_looks_15 : decode cX5_looks 15 = .ok (.iload_n 1, 1) := by decide +kernel
theorem dX5_looks_16 : decode cX5_looks 16 = .ok (.iload_n 3, 1) := by decide +kernel
theorem dX5_looks_17 : decode cX5_looks 17 = .ok (.invokevirtual 120, 3) := by decide +kernel
theorem dX5_looks_20 : decode cX5_looks 20 = .ok (.ifCond .eq 20, 3) := by decide +kernel
theorem dX5_looks_23 : decode cX5_looks 23 = .ok (.aload_n 0, 1) := by decide +kernel
theorem dX5_looks_24 : decode cX5_looks 24 = .ok (.getfield 25, 3) := by decide +kernel
theorem dX5_looks_27 : decode cX5_looks 27 = .ok (.iload_n 3, 1) := by decide +kernel
theorem dX5_looks_28 : decode cX5_looks 28 = .ok (.iaload, 1) := by decide +kernel
theorem dX5_looks_29 : decode cX5_looks 29 = .ok (.iload_n 2, 1) := by decide +kernel
theorem dX5_looks_30 : decode cX5_looks 30 = .ok (.if_icmp .le 10, 3) := by decide +kernel
theorem dX5_looks_33 : decode cX5_looks 33 = .ok (.aload_n 0, 1) := by decide +kernel
theorem dX5_looks_34 : decode cX5_looks 34 = .ok (.getfield 25, 3) := by decide +kernel
theorem dX5_looks_37 : decode cX5_looks 37 = .ok (.iload_n 3, 1) := by decide +kernel
theorem dX5_looks_38 : decode cX5_looks 38 = .ok (.iaload, 1) := by decide +kernel
theorem dX5_looks_39 : decode cX5_looks 39 = .ok (.istore_n 2, 1) := by decide +kernel
theorem dX5_looks_40 : decode cX5_looks 40 = .ok (.iinc 3 1, 3) := by decide +kernel
theorem dX5_looks_43 : decode cX5_looks 43 = .ok (.goto (-34), 3) := by decide +kernel
theorem dX5_looks_46 : decode cX5_looks 46 = .ok (.iload_n 2, 1) := by decide +kernel
theorem dX5_looks_47 : decode cX5_looks 47 = .ok (.aload_n 0, 1) := by decide +kernel
theorem dX5_looks_48 : decode cX5_looks 48 = .ok (.getfield 25, 3) := by decide +kernel
theorem dX5_looks_51 : decode cX5_looks 51 = .ok (.iload_n 1, 1) := by decide +kernel
theorem dX5_looks_52 : decode cX5_looks 52 = .ok (.iaload, 1) := by decide +kernel
theorem dX5_looks_53 : decode cX5_looks 53 = .ok (.if_icmp .le 13, 3) := by decide +kernel
theorem dX5_looks_56 : decode cX5_looks 56 = .ok (.aload_n 0, 1) := by decide +kernel
theorem dX5_looks_57 : decode cX5_looks 57 = .ok (.getfield 25, 3) := by decide +kernel
theorem dX5_looks_60 : decode cX5_looks 60 = .ok (.iload_n 1, 1) := by decide +kernel
theorem dX5_looks_61 : decode cX5_looks 61 = .ok (.iload_n 2, 1) := by decide +kernel
theorem dX5_looks_62 : decode cX5_looks 62 = .ok (.iastore, 1) := by decide +kernel
theorem dX5_looks_63 : decode cX5_looks 63 = .ok (.bipush 116, 2) := by decide +kernel
theorem dX5_looks_65 : decode cX5_looks 65 = .ok (.ireturn, 1) := by decide +kernel
theorem dX5_looks_66 : decode cX5_looks 66 = .ok (.aload_n 0, 1) := by decide +kernel
theorem dX5_looks_67 : decode cX5_looks 67 = .ok (.iload_n 1, 1) := by decide +kernel
theorem dX5_looks_68 : decode cX5_looks 68 = .ok (.invokevirtual 124, 3) := by decide +kernel
theorem dX5_looks_71 : decode cX5_looks 71 = .ok (.iconst 3, 1) := by decide +kernel
theorem dX5_looks_72 : decode cX5_looks 72 = .ok (.if_icmp .ge 6, 3) := by decide +kernel
theorem dX5_looks_75 : decode cX5_looks 75 = .ok (.bipush 110, 2) := by decide +kernel
theorem dX5_looks_77 : decode cX5_looks 77 = .ok (.ireturn, 1) := by decide +kernel
theorem dX5_looks_78 : decode cX5_looks 78 = .ok (.iconst 0, 1) := by decide +kernel
theorem dX5_looks_79 : decode cX5_looks 79 = .ok (.istore_n 3, 1) := by decide +kernel
theorem dX5_looks_80 : decode cX5_looks 80 = .ok (.iload_n 3, 1) := by decide +kernel
theorem dX5_looks_81 : decode cX5_looks 81 = .ok (.iconst 5, 1) := by decide +kernel
theorem dX5_looks_82 : decode cX5_looks 82 = .ok (.if_icmp .ge 30, 3) := by decide +kernel
theorem dX5_looks_85 : decode cX5_looks 85 = .ok (.aload_n 0, 1) := by decide +kernel
theorem dX5_looks_86 : decode cX5_looks 86 = .ok (.iload_n 1, 1) := by decide +kernel
theorem dX5_looks_87 : decode cX5_looks 87 = .ok (.iload_n 3, 1) := by decide +kernel
theorem dX5_looks_88 : decode cX5_looks 88 = .ok (.invokevirtual 120, 3) := by decide +kernel
theorem dX5_looks_91 : decode cX5_looks 91 = .ok (.ifCond .eq 15, 3) := by decide +kernel
theorem dX5_looks_94 : decode cX5_looks 94 = .ok (.aload_n 0, 1) := by decide +kernel
theorem dX5_looks_95 : decode cX5_looks 95 = .ok (.getfield 25, 3) := by decide +kernel
theorem dX5_looks_98 : decode cX5_looks 98 = .ok (.iload_n 3, 1) := by decide +kernel
theorem dX5_looks_99 : decode cX5_looks 99 = .ok (.aload_n 0, 1) := by decide +kernel
theorem dX5_looks_100 : decode cX5_looks 100 = .ok (.getfield 25, 3) := by decide +kernel
theorem dX5_looks_103 : decode cX5_looks 103 = .ok (.iload_n 1, 1) := by decide +kernel
theorem dX5_looks_104 : decode cX5_looks 104 = .ok (.iaload, 1) := by decide +kernel
theorem dX5_looks_105 : decode cX5_looks 105 = .ok (.iastore, 1) := by decide +kernel
theorem dX5_looks_106 : decode cX5_looks 106 = .ok (.iinc 3 1, 3) := by decide +kernel
theorem dX5_looks_109 : decode cX5_looks 109 = .ok (.goto (-29), 3) := by decide +kernel
theorem dX5_looks_112 : decode cX5_looks 112 = .ok (.bipush 45, 2) := by decide +kernel
theorem dX5_looks_114 : decode cX5_looks 114 = .ok (.ireturn, 1) := by decide +kernel
set_option maxRecDepth 20000 in
theorem ggX5_enters_X5_reaches : GoodIn wsX5_enters wsX5_reaches := goodIn_ca (goodIn_r _ [12, 13, 14, 15, 16, 17, 18, 19, 20, 21, 22, 23, 24, 25, 26, 27, 28, 29, 30, 31, 32, 33, 34, 35, 36, 37, 38, 39, 40, 41, 42, 43, 44] (by decide +kernel) (by decide +kernel)) (goodIn_sub (fun _ h => List.mem_cons_of_mem _ (List.mem_append_right _ h)) (by decide +kernel))
set_option maxRecDepth 20000 in
theorem gX5_enters_X5_reaches : GoodIn wsX5_enters (wsV RX5 120 RX5 yX5_reaches wsX5_reaches) := goodIn_app (goodIn_of _ (by decide +kernel)) ggX5_enters_X5_reaches
theorem dX5_enters_0 : decode cX5_enters 0 = .ok (.aload_n 0, 1) := by decide +kernel
theorem dX5_enters_1 : decode cX5_enters 1 = .ok (.getfield 74, 3) := by decide +kernel
theorem dX5_enters_4 : decode cX5_enters 4 = .ok (.aload_n 0, 1) := by decide +kernel
theorem dX5_enters_5 : decode cX5_enters 5 = .ok (.getfield 97, 3) := by decide +kernel
theorem dX5_enters_8 : decode cX5_enters 8 = .ok (.iload_n 1, 1) := by decide +kernel
theorem dX5_enters_9 : decode cX5_enters 9 = .ok (.castore, 1) := by decide +kernel
theorem dX5_enters_10 : decode cX5_enters 10 = .ok (.aload_n 0, 1) := by decide +kernel
theorem dX5_enters_11 : decode cX5_enters 11 = .ok (.getfield 78, 3) := by decide +kernel
theorem dX5_enters_14 : decode cX5_enters 14 = .ok (.aload_n 0, 1) := by decide +kernel
theorem dX5_enters_15 : decode cX5_enters 15 = .ok (.getfield 97, 3) := by decide +kernel
theorem dX5_enters_18 : decode cX5_enters 18 = .ok (.aload_n 0, 1) := by decide +kernel
theorem dX5_enters_19 : decode cX5_enters 19 = .ok (.getfield 25, 3) := by decide +kernel
theorem dX5_enters_22 : decode cX5_enters 22 = .ok (.iload 4, 2) := by decide +kernel
theorem dX5_enters_24 : decode cX5_enters 24 = .ok (.iaload, 1) := by decide +kernel
theorem dX5_enters_25 : decode cX5_enters 25 = .ok (.iastore, 1) := by decide +kernel
theorem dX5_enters_26 : decode cX5_enters 26 = .ok (.aload_n 0, 1) := by decide +kernel
theorem dX5_enters_27 : decode cX5_enters 27 = .ok (.getfield 81, 3) := by decide +kernel
theorem dX5_enters_30 : decode cX5_enters 30 = .ok (.aload_n 0, 1) := by decide +kernel
theorem dX5_enters_31 : decode cX5_enters 31 = .ok (.getfield 97, 3) := by decide +kernel
theorem dX5_enters_34 : decode cX5_enters 34 = .ok (.iload_n 3, 1) := by decide +kernel
theorem dX5_enters_35 : decode cX5_enters 35 = .ok (.iastore, 1) := by decide +kernel
theorem dX5_enters_36 : decode cX5_enters 36 = .ok (.aload_n 0, 1) := by decide +kernel
theorem dX5_enters_37 : decode cX5_enters 37 = .ok (.getfield 84, 3) := by decide +kernel
theorem dX5_enters_40 : decode cX5_enters 40 = .ok (.aload_n 0, 1) := by decide +kernel
theorem dX5_enters_41 : decode cX5_enters 41 = .ok (.getfield 97, 3) := by decide +kernel
theorem dX5_enters_44 : decode cX5_enters 44 = .ok (.iload_n 2, 1) := by decide +kernel
theorem dX5_enters_45 : decode cX5_enters 45 = .ok (.iastore, 1) := by decide +kernel
theorem dX5_enters_46 : decode cX5_enters 46 = .ok (.aload_n 0, 1) := by decide +kernel
theorem dX5_enters_47 : decode cX5_enters 47 = .ok (.dup, 1) := by decide +kernel
theorem dX5_enters_48 : decode cX5_enters 48 = .ok (.getfield 97, 3) := by decide +kernel
theorem dX5_enters_51 : decode cX5_enters 51 = .ok (.iconst 1, 1) := by decide +kernel
theorem dX5_enters_52 : decode cX5_enters 52 = .ok (.iadd, 1) := by decide +kernel
theorem dX5_enters_53 : decode cX5_enters 53 = .ok (.putfield 97, 3) := by decide +kernel
theorem dX5_enters_56 : decode cX5_enters 56 = .ok (.iconst 0, 1) := by decide +kernel
theorem dX5_enters_57 : decode cX5_enters 57 = .ok (.istore 5, 2) := by decide +kernel
theorem dX5_enters_59 : decode cX5_enters 59 = .ok (.iload 5, 2) := by decide +kernel
theorem dX5_enters_61 : decode cX5_enters 61 = .ok (.iconst 5, 1) := by decide +kernel
theorem dX5_enters_62 : decode cX5_enters 62 = .ok (.if_icmp .ge 31, 3) := by decide +kernel
theorem dX5_enters_65 : decode cX5_enters 65 = .ok (.aload_n 0, 1) := by decide +kernel
theorem dX5_enters_66 : decode cX5_enters 66 = .ok (.iload 4, 2) := by decide +kernel
theorem dX5_enters_68 : decode cX5_enters 68 = .ok (.iload 5, 2) := by decide +kernel
theorem dX5_enters_70 : decode cX5_enters 70 = .ok (.invokevirtual 120, 3) := by decide +kernel
theorem dX5_enters_73 : decode cX5_enters 73 = .ok (.ifCond .eq 14, 3) := by decide +kernel
theorem dX5_enters_76 : decode cX5_enters 76 = .ok (.aload_n 0, 1) := by decide +kernel
theorem dX5_enters_77 : decode cX5_enters 77 = .ok (.getfield 32, 3) := by decide +kernel
theorem dX5_enters_80 : decode cX5_enters 80 = .ok (.iload 5, 2) := by decide +kernel
theorem dX5_enters_82 : decode cX5_enters 82 = .ok (.aload_n 0, 1) := by decide +kernel
theorem dX5_enters_83 : decode cX5_enters 83 = .ok (.getfield 97, 3) := by decide +kernel
theorem dX5_enters_86 : decode cX5_enters 86 = .ok (.iastore, 1) := by decide +kernel
theorem dX5_enters_87 : decode cX5_enters 87 = .ok (.iinc 5 1, 3) := by decide +kernel
theorem dX5_enters_90 : decode cX5_enters 90 = .ok (.goto (-31), 3) := by decide +kernel
theorem dX5_enters_93 : decode cX5_enters 93 = .ok (.bipush 103, 2) := by decide +kernel
theorem dX5_enters_95 : decode cX5_enters 95 = .ok (.ireturn, 1) := by decide +kernel
theorem dX5_isFree_0 : decode cX5_isFree 0 = .ok (.aload_n 0, 1) := by decide +kernel
theorem dX5_isFree_1 : decode cX5_isFree 1 = .ok (.getfield 53, 3) := by decide +kernel
theorem dX5_isFree_4 : decode cX5_isFree 4 = .ok (.iload_n 1, 1) := by decide +kernel
theorem dX5_isFree_5 : decode cX5_isFree 5 = .ok (.iaload, 1) := by decide +kernel
theorem dX5_isFree_6 : decode cX5_isFree 6 = .ok (.ifCond .lt 16, 3) := by decide +kernel
theorem dX5_isFree_9 : decode cX5_isFree 9 = .ok (.aload_n 0, 1) := by decide +kernel
theorem dX5_isFree_10 : decode cX5_isFree 10 = .ok (.getfield 56, 3) := by decide +kernel
theorem dX5_isFree_13 : decode cX5_isFree 13 = .ok (.iload_n 1, 1) := by decide +kernel
theorem dX5_isFree_14 : decode cX5_isFree 14 = .ok (.iaload, 1) := by decide +kernel
theorem dX5_isFree_15 : decode cX5_isFree 15 = .ok (.aload_n 0, 1) := by decide +kernel
theorem dX5_isFree_16 : decode cX5_isFree 16 = .ok (.getfield 91, 3) := by decide +kernel
theorem dX5_isFree_19 : decode cX5_isFree 19 = .ok (.if_icmp .gt 7, 3) := by decide +kernel
theorem dX5_isFree_22 : decode cX5_isFree 22 = .ok (.iconst 1, 1) := by decide +kernel
theorem dX5_isFree_23 : decode cX5_isFree 23 = .ok (.goto 4, 3) := by decide +kernel
theorem dX5_isFree_26 : decode cX5_isFree 26 = .ok (.iconst 0, 1) := by decide +kernel
theorem dX5_isFree_27 : decode cX5_isFree 27 = .ok (.ireturn, 1) := by decide +kernel
theorem dX5_placeIn_0 : decode cX5_placeIn 0 = .ok (.iconst 0, 1) := by decide +kernel
theorem dX5_placeIn_1 : decode cX5_placeIn 1 = .ok (.istore_n 3, 1) := by decide +kernel
theorem dX5_placeIn_2 : decode cX5_placeIn 2 = .ok (.iload_n 3, 1) := by decide +kernel
theorem dX5_placeIn_3 : decode cX5_placeIn 3 = .ok (.aload_n 0, 1) := by decide +kernel
theorem dX5_placeIn_4 : decode cX5_placeIn 4 = .ok (.getfield 71, 3) := by decide +kernel
theorem dX5_placeIn_7 : decode cX5_placeIn 7 = .ok (.iload_n 2, 1) := by decide +kernel
theorem dX5_placeIn_8 : decode cX5_placeIn 8 = .ok (.iaload, 1) := by decide +kernel
theorem dX5_placeIn_9 : decode cX5_placeIn 9 = .ok (.if_icmp .ge 26, 3) := by decide +kernel
theorem dX5_placeIn_12 : decode cX5_placeIn 12 = .ok (.aload_n 0, 1) := by decide +kernel
theorem dX5_placeIn_13 : decode cX5_placeIn 13 = .ok (.getfield 68, 3) := by decide +kernel
theorem dX5_placeIn_16 : decode cX5_placeIn 16 = .ok (.bipush 6, 2) := by decide +kernel
theorem dX5_placeIn_18 : decode cX5_placeIn 18 = .ok (.iload_n 2, 1) := by decide +kernel
theorem dX5_placeIn_19 : decode cX5_placeIn 19 = .ok (.imul, 1) := by decide +kernel
theorem dX5_placeIn_20 : decode cX5_placeIn 20 = .ok (.iload_n 3, 1) := by decide +kernel
theorem dX5_placeIn_21 : decode cX5_placeIn 21 = .ok (.iadd, 1) := by decide +kernel
theorem dX5_placeIn_22 : decode cX5_placeIn 22 = .ok (.iaload, 1) := by decide +kernel
theorem dX5_placeIn_23 : decode cX5_placeIn 23 = .ok (.iload_n 1, 1) := by decide +kernel
theorem dX5_placeIn_24 : decode cX5_placeIn 24 = .ok (.if_icmp .ne 5, 3) := by decide +kernel
theorem dX5_placeIn_27 : decode cX5_placeIn 27 = .ok (.iload_n 3, 1) := by decide +kernel
theorem dX5_placeIn_28 : decode cX5_placeIn 28 = .ok (.ireturn, 1) := by decide +kernel
theorem dX5_placeIn_29 : decode cX5_placeIn 29 = .ok (.iinc 3 1, 3) := by decide +kernel
theorem dX5_placeIn_32 : decode cX5_placeIn 32 = .ok (.goto (-30), 3) := by decide +kernel
theorem dX5_placeIn_35 : decode cX5_placeIn 35 = .ok (.iconst (-1), 1) := by decide +kernel
theorem dX5_placeIn_36 : decode cX5_placeIn 36 = .ok (.ireturn, 1) := by decide +kernel
set_option maxRecDepth 20000 in
theorem ggX5_leaves_X5_placeIn : GoodIn wsX5_leaves wsX5_placeIn := goodIn_ca (goodIn_r _ [7, 1, 2, 8, 9, 10, 11, 12, 13, 14, 15, 16, 17, 18, 19, 20, 21, 22, 23, 24, 25, 26, 27, 28, 29, 30, 31, 32, 33, 34, 35, 36, 37] (by decide +kernel) (by decide +kernel)) (goodIn_sub (fun _ h => List.mem_cons_of_mem _ (List.mem_append_right _ h)) (by decide +kernel))
set_option maxRecDepth 20000 in
theorem gX5_leaves_X5_placeIn : GoodIn wsX5_leaves (wsV RX5 143 RX5 yX5_placeIn wsX5_placeIn) := goodIn_app (goodIn_of _ (by decide +kernel)) ggX5_leaves_X5_placeIn
theorem dX5_leaves_0 : decode cX5_leaves 0 = .ok (.aload_n 0, 1) := by decide +kernel
theorem dX5_leaves_1 : decode cX5_leaves 1 = .ok (.iload_n 1, 1) := by decide +kernel
theorem dX5_leaves_2 : decode cX5_leaves 2 = .ok (.iload_n 2, 1) := by decide +kernel
theorem dX5_leaves_3 : decode cX5_leaves 3 = .ok (.invokevirtual 143, 3) := by decide +kernel
theorem dX5_leaves_6 : decode cX5_leaves 6 = .ok (.istore_n 3, 1) := by decide +kernel
theorem dX5_leaves_7 : decode cX5_leaves 7 = .ok (.iload_n 3, 1) := by decide +kernel
theorem dX5_leaves_8 : decode cX5_leaves 8 = .ok (.ifCond .ge 4, 3) := by decide +kernel
theorem dX5_leaves_11 : decode cX5_leaves 11 = .ok (.return_, 1) := by decide +kernel
theorem dX5_leaves_12 : decode cX5_leaves 12 = .ok (.aload_n 0, 1) := by decide +kernel
theorem dX5_leaves_13 : decode cX5_leaves 13 = .ok (.getfield 71, 3) := by decide +kernel
theorem dX5_leaves_16 : decode cX5_leaves 16 = .ok (.iload_n 2, 1) := by decide +kernel
theorem dX5_leaves_17 : decode cX5_leaves 17 = .ok (.dup2, 1) := by decide +kernel
theorem dX5_leaves_18 : decode cX5_leaves 18 = .ok (.iaload, 1) := by decide +kernel
theorem dX5_leaves_19 : decode cX5_leaves 19 = .ok (.iconst 1, 1) := by decide +kernel
theorem dX5_leaves_20 : decode cX5_leaves 20 = .ok (.isub, 1) := by decide +kernel
theorem dX5_leaves_21 : decode cX5_leaves 21 = .ok (.iastore, 1) := by decide +kernel
theorem dX5_leaves_22 : decode cX5_leaves 22 = .ok (.iload_n 3, 1) := by decide +kernel
theorem dX5_leaves_23 : decode cX5_leaves 23 = .ok (.istore 4, 2) := by decide +kernel
theorem dX5_leaves_25 : decode cX5_leaves 25 = .ok (.iload 4, 2) := by decide +kernel
theorem dX5_leaves_27 : decode cX5_leaves 27 = .ok (.aload_n 0, 1) := by decide +kernel
theorem dX5_leaves_28 : decode cX5_leaves 28 = .ok (.getfield 71, 3) := by decide +kernel
theorem dX5_leaves_31 : decode cX5_leaves 31 = .ok (.iload_n 2, 1) := by decide +kernel
theorem dX5_leaves_32 : decode cX5_leaves 32 = .ok (.iaload, 1) := by decide +kernel
theorem dX5_leaves_33 : decode cX5_leaves 33 = .ok (.if_icmp .ge 35, 3) := by decide +kernel
theorem dX5_leaves_36 : decode cX5_leaves 36 = .ok (.aload_n 0, 1) := by decide +kernel
theorem dX5_leaves_37 : decode cX5_leaves 37 = .ok (.getfield 68, 3) := by decide +kernel
theorem dX5_leaves_40 : decode cX5_leaves 40 = .ok (.bipush 6, 2) := by decide +kernel
theorem dX5_leaves_42 : decode cX5_leaves 42 = .ok (.iload_n 2, 1) := by decide +kernel
theorem dX5_leaves_43 : decode cX5_leaves 43 = .ok (.imul, 1) := by decide +kernel
theorem dX5_leaves_44 : decode cX5_leaves 44 = .ok (.iload 4, 2) := by decide +kernel
theorem dX5_leaves_46 : decode cX5_leaves 46 = .ok (.iadd, 1) := by decide +kernel
theorem dX5_leaves_47 : decode cX5_leaves 47 = .ok (.aload_n 0, 1) := by decide +kernel
theorem dX5_leaves_48 : decode cX5_leaves 48 = .ok (.getfield 68, 3) := by decide +kernel
theorem dX5_leaves_51 : decode cX5_leaves 51 = .ok (.bipush 6, 2) := by decide +kernel
theorem dX5_leaves_53 : decode cX5_leaves 53 = .ok (.iload_n 2, 1) := by decide +kernel
theorem dX5_leaves_54 : decode cX5_leaves 54 = .ok (.imul, 1) := by decide +kernel
theorem dX5_leaves_55 : decode cX5_leaves 55 = .ok (.iload 4, 2) := by decide +kernel
theorem dX5_leaves_57 : decode cX5_leaves 57 = .ok (.iadd, 1) := by decide +kernel
theorem dX5_leaves_58 : decode cX5_leaves 58 = .ok (.iconst 1, 1) := by decide +kernel
theorem dX5_leaves_59 : decode cX5_leaves 59 = .ok (.iadd, 1) := by decide +kernel
theorem dX5_leaves_60 : decode cX5_leaves 60 = .ok (.iaload, 1) := by decide +kernel
theorem dX5_leaves_61 : decode cX5_leaves 61 = .ok (.iastore, 1) := by decide +kernel
theorem dX5_leaves_62 : decode cX5_leaves 62 = .ok (.iinc 4 1, 3) := by decide +kernel
theorem dX5_leaves_65 : decode cX5_leaves 65 = .ok (.goto (-40), 3) := by decide +kernel
theorem dX5_leaves_68 : decode cX5_leaves 68 = .ok (.return_, 1) := by decide +kernel
set_option maxRecDepth 20000 in
theorem ggX5_notesClaim_X5_at : GoodIn wsX5_notesClaim wsX5_at := goodIn_r _ [6] (by decide +kernel) (by decide +kernel)
set_option maxRecDepth 20000 in
theorem gX5_notesClaim_X5_at : GoodIn wsX5_notesClaim (va_wsS RX5 146 yX5_at wsX5_at) := goodIn_app (goodIn_of _ (by decide +kernel)) ggX5_notesClaim_X5_at
set_option maxRecDepth 20000 in
theorem ggX5_notesClaim_X5_clock : GoodIn wsX5_notesClaim wsX5_clock := goodIn_ca (goodIn_r _ [10, 11, 12, 13, 14, 15, 16, 17, 18, 19, 20, 21, 22, 23, 24, 25, 26, 27, 28, 29, 30, 31, 32, 33, 34, 35, 36, 37, 38, 39, 40, 41, 42] (by decide +kernel) (by decide +kernel)) (goodIn_sub (fun _ h => List.mem_cons_of_mem _ (List.mem_append_right _ h)) (by decide +kernel))
set_option maxRecDepth 20000 in
theorem gX5_notesClaim_X5_clock : GoodIn wsX5_notesClaim (wsV RX5 140 RX5 yX5_clock wsX5_clock) := goodIn_app (goodIn_of _ (by decide +kernel)) ggX5_notesClaim_X5_clock
theorem dX5_notesClaim_0 : decode cX5_notesClaim 0 = .ok (.aload_n 0, 1) := by decide +kernel
theorem dX5_notesClaim_1 : decode cX5_notesClaim 1 = .ok (.getfield 19, 3) := by decide +kernel
theorem dX5_notesClaim_4 : decode cX5_notesClaim 4 = .ok (.iload_n 1, 1) := by decide +kernel
theorem dX5_notesClaim_5 : decode cX5_notesClaim 5 = .ok (.iload_n 2, 1) := by decide +kernel
theorem dX5_notesClaim_6 : decode cX5_notesClaim 6 = .ok (.invokestatic 146, 3) := by decide +kernel
theorem dX5_notesClaim_9 : decode cX5_notesClaim 9 = .ok (.iconst 1, 1) := by decide +kernel
theorem dX5_notesClaim_10 : decode cX5_notesClaim 10 = .ok (.bastore, 1) := by decide +kernel
theorem dX5_notesClaim_11 : decode cX5_notesClaim 11 = .ok (.aload_n 0, 1) := by decide +kernel
theorem dX5_notesClaim_12 : decode cX5_notesClaim 12 = .ok (.getfield 41, 3) := by decide +kernel
theorem dX5_notesClaim_15 : decode cX5_notesClaim 15 = .ok (.iload_n 1, 1) := by decide +kernel
theorem dX5_notesClaim_16 : decode cX5_notesClaim 16 = .ok (.iload_n 2, 1) := by decide +kernel
theorem dX5_notesClaim_17 : decode cX5_notesClaim 17 = .ok (.invokestatic 146, 3) := by decide +kernel
theorem dX5_notesClaim_20 : decode cX5_notesClaim 20 = .ok (.aload_n 0, 1) := by decide +kernel
theorem dX5_notesClaim_21 : decode cX5_notesClaim 21 = .ok (.iload_n 1, 1) := by decide +kernel
theorem dX5_notesClaim_22 : decode cX5_notesClaim 22 = .ok (.invokevirtual 140, 3) := by decide +kernel
theorem dX5_notesClaim_25 : decode cX5_notesClaim 25 = .ok (.iastore, 1) := by decide +kernel
theorem dX5_notesClaim_26 : decode cX5_notesClaim 26 = .ok (.return_, 1) := by decide +kernel
set_option maxRecDepth 20000 in
theorem ggX5_grants_X5_leaves : GoodIn wsX5_grants wsX5_leaves := goodIn_ca (goodIn_r _ [11, 12, 13, 14, 15, 16, 10, 17, 32, 33, 34, 35, 36, 37, 38, 39, 40, 41, 42, 43, 44, 45, 46, 47, 48, 49, 50, 51, 52, 53, 54, 55, 56, 57, 58, 59, 60, 61] (by decide +kernel) (by decide +kernel)) (goodIn_sub (fun _ h => List.mem_cons_of_mem _ (List.mem_append_right _ h)) (by decide +kernel))
set_option maxRecDepth 20000 in
theorem gX5_grants_X5_leaves : GoodIn wsX5_grants (wsV RX5 149 RX5 yX5_leaves wsX5_leaves) := goodIn_app (goodIn_of _ (by decide +kernel)) ggX5_grants_X5_leaves
set_option maxRecDepth 20000 in
theorem ggX5_grants_X5_notesClaim : GoodIn wsX5_grants wsX5_notesClaim := goodIn_ca (goodIn_r _ [21, 22, 23, 24, 25, 10, 26, 27, 28, 29, 30, 5, 31, 32, 33, 34, 35, 36, 37, 38, 39, 40, 41, 42, 43, 44, 45, 46, 47, 48, 49, 50, 51, 52, 53, 54, 55, 56, 57, 58, 59, 60, 61] (by decide +kernel) (by decide +kernel)) (goodIn_sub (fun _ h => List.mem_cons_of_mem _ (List.mem_append_right _ h)) (by decide +kernel))
set_option maxRecDepth 20000 in
theorem gX5_grants_X5_notesClaim : GoodIn wsX5_grants (wsV RX5 153 RX5 yX5_notesClaim wsX5_notesClaim) := goodIn_app (goodIn_of _ (by decide +kernel)) ggX5_grants_X5_notesClaim
theorem dX5_grants_0 : decode cX5_grants 0 = .ok (.aload_n 0, 1) := by decide +kernel
theorem dX5_grants_1 : decode cX5_grants 1 = .ok (.iload_n 1, 1) := by decide +kernel
theorem dX5_grants_2 : decode cX5_grants 2 = .ok (.iload_n 2, 1) := by decide +kernel
theorem dX5_grants_3 : decode cX5_grants 3 = .ok (.invokevirtual 149, 3) := by decide +kernel
theorem dX5_grants_6 : decode cX5_grants 6 = .ok (.aload_n 0, 1) := by decide +kernel
theorem dX5_grants_7 : decode cX5_grants 7 = .ok (.getfield 53, 3) := by decide +kernel
theorem dX5_grants_10 : decode cX5_grants 10 = .ok (.iload_n 2, 1) := by decide +kernel
theorem dX5_grants_11 : decode cX5_grants 11 = .ok (.iaload, 1) := by decide +kernel
theorem dX5_grants_12 : decode cX5_grants 12 = .ok (.ifCond .lt 26, 3) := by decide +kernel
theorem dX5_grants_15 : decode cX5_grants 15 = .ok (.aload_n 0, 1) := by decide +kernel
theorem dX5_grants_16 : decode cX5_grants 16 = .ok (.dup, 1) := by decide +kernel
theorem dX5_grants_17 : decode cX5_grants 17 = .ok (.getfield 100, 3) := by decide +kernel
theorem dX5_grants_20 : decode cX5_grants 20 = .ok (.aload_n 0, 1) := by decide +kernel
theorem dX5_grants_21 : decode cX5_grants 21 = .ok (.getfield 56, 3) := by decide +kernel
theorem dX5_grants_24 : decode cX5_grants 24 = .ok (.iload_n 2, 1) := by decide +kernel
theorem dX5_grants_25 : decode cX5_grants 25 = .ok (.iaload, 1) := by decide +kernel
theorem dX5_grants_26 : decode cX5_grants 26 = .ok (.aload_n 0, 1) := by decide +kernel
theorem dX5_grants_27 : decode cX5_grants 27 = .ok (.getfield 59, 3) := by decide +kernel
theorem dX5_grants_30 : decode cX5_grants 30 = .ok (.iload_n 2, 1) := by decide +kernel
theorem dX5_grants_31 : decode cX5_grants 31 = .ok (.iaload, 1) := by decide +kernel
theorem dX5_grants_32 : decode cX5_grants 32 = .ok (.isub, 1) := by decide +kernel
theorem dX5_grants_33 : decode cX5_grants 33 = .ok (.i2l, 1) := by decide +kernel
theorem dX5_grants_34 : decode cX5_grants 34 = .ok (.ladd, 1) := by decide +kernel
theorem dX5_grants_35 : decode cX5_grants 35 = .ok (.putfield 100, 3) := by decide +kernel
theorem dX5_grants_38 : decode cX5_grants 38 = .ok (.aload_n 0, 1) := by decide +kernel
theorem dX5_grants_39 : decode cX5_grants 39 = .ok (.getfield 53, 3) := by decide +kernel
theorem dX5_grants_42 : decode cX5_grants 42 = .ok (.iload_n 2, 1) := by decide +kernel
theorem dX5_grants_43 : decode cX5_grants 43 = .ok (.iload_n 1, 1) := by decide +kernel
theorem dX5_grants_44 : decode cX5_grants 44 = .ok (.iastore, 1) := by decide +kernel
theorem dX5_grants_45 : decode cX5_grants 45 = .ok (.aload_n 0, 1) := by decide +kernel
theorem dX5_grants_46 : decode cX5_grants 46 = .ok (.getfield 59, 3) := by decide +kernel
theorem dX5_grants_49 : decode cX5_grants 49 = .ok (.iload_n 2, 1) := by decide +kernel
theorem dX5_grants_50 : decode cX5_grants 50 = .ok (.aload_n 0, 1) := by decide +kernel
theorem dX5_grants_51 : decode cX5_grants 51 = .ok (.getfield 91, 3) := by decide +kernel
theorem dX5_grants_54 : decode cX5_grants 54 = .ok (.iastore, 1) := by decide +kernel
theorem dX5_grants_55 : decode cX5_grants 55 = .ok (.aload_n 0, 1) := by decide +kernel
theorem dX5_grants_56 : decode cX5_grants 56 = .ok (.getfield 56, 3) := by decide +kernel
theorem dX5_grants_59 : decode cX5_grants 59 = .ok (.iload_n 2, 1) := by decide +kernel
theorem dX5_grants_60 : decode cX5_grants 60 = .ok (.aload_n 0, 1) := by decide +kernel
theorem dX5_grants_61 : decode cX5_grants 61 = .ok (.getfield 91, 3) := by decide +kernel
theorem dX5_grants_64 : decode cX5_grants 64 = .ok (.bipush 12, 2) := by decide +kernel
theorem dX5_grants_66 : decode cX5_grants 66 = .ok (.iadd, 1) := by decide +kernel
theorem dX5_grants_67 : decode cX5_grants 67 = .ok (.iastore, 1) := by decide +kernel
theorem dX5_grants_68 : decode cX5_grants 68 = .ok (.aload_n 0, 1) := by decide +kernel
theorem dX5_grants_69 : decode cX5_grants 69 = .ok (.getfield 62, 3) := by decide +kernel
theorem dX5_grants_72 : decode cX5_grants 72 = .ok (.iload_n 2, 1) := by decide +kernel
theorem dX5_grants_73 : decode cX5_grants 73 = .ok (.iconst (-1), 1) := by decide +kernel
theorem dX5_grants_74 : decode cX5_grants 74 = .ok (.iastore, 1) := by decide +kernel
theorem dX5_grants_75 : decode cX5_grants 75 = .ok (.aload_n 0, 1) := by decide +kernel
theorem dX5_grants_76 : decode cX5_grants 76 = .ok (.iload_n 1, 1) := by decide +kernel
theorem dX5_grants_77 : decode cX5_grants 77 = .ok (.iload_n 2, 1) := by decide +kernel
theorem dX5_grants_78 : decode cX5_grants 78 = .ok (.invokevirtual 153, 3) := by decide +kernel
theorem dX5_grants_81 : decode cX5_grants 81 = .ok (.return_, 1) := by decide +kernel
set_option maxRecDepth 20000 in
theorem ggX5_requests_X5_isFree : GoodIn wsX5_requests wsX5_isFree := goodIn_ca (goodIn_r _ [9, 1, 10, 11, 57, 58, 59, 60, 61, 62, 63, 64, 65, 66, 67, 68, 69, 70, 71, 72, 73, 74, 75, 76, 77, 78, 79, 80, 81, 82, 83, 84, 85, 86] (by decide +kernel) (by decide +kernel)) (goodIn_sub (fun _ h => List.mem_cons_of_mem _ (List.mem_append_right _ h)) (by decide +kernel))
set_option maxRecDepth 20000 in
theorem gX5_requests_X5_isFree : GoodIn wsX5_requests (wsV RX5 156 RX5 yX5_isFree wsX5_isFree) := goodIn_app (goodIn_of _ (by decide +kernel)) ggX5_requests_X5_isFree
set_option maxRecDepth 20000 in
theorem ggX5_requests_X5_placeIn : GoodIn wsX5_requests wsX5_placeIn := goodIn_ca (goodIn_r _ [15, 2, 3, 57, 58, 59, 60, 61, 62, 63, 64, 65, 66, 67, 68, 69, 70, 71, 72, 73, 74, 75, 76, 77, 78, 79, 80, 81, 82, 83, 84, 85, 86] (by decide +kernel) (by decide +kernel)) (goodIn_sub (fun _ h => List.mem_cons_of_mem _ (List.mem_append_right _ h)) (by decide +kernel))
set_option maxRecDepth 20000 in
theorem gX5_requests_X5_placeIn : GoodIn wsX5_requests (wsV RX5 143 RX5 yX5_placeIn wsX5_placeIn) := goodIn_app (goodIn_of _ (by decide +kernel)) ggX5_requests_X5_placeIn
set_option maxRecDepth 20000 in
theorem ggX5_requests_X5_grants : GoodIn wsX5_requests wsX5_grants := goodIn_ca (goodIn_r _ [19, 1, 20, 10, 21, 11, 4, 22, 23, 24, 8, 25, 2, 3, 12, 13, 14, 15, 26, 27, 28, 29, 30, 31, 32, 33, 34, 35, 36, 37, 38, 39, 57, 58, 59, 60, 61, 62, 63, 64, 65, 66, 67, 68, 69, 70, 71, 72, 73, 74, 75, 76, 77, 78, 79, 80, 81, 82, 83, 84, 85, 86] (by decide +kernel) (by decide +kernel)) (goodIn_sub (fun _ h => List.mem_cons_of_mem _ (List.mem_append_right _ h)) (by decide +kernel))
set_option maxRecDepth 20000 in
theorem gX5_requests_X5_grants : GoodIn wsX5_requests (wsV RX5 159 RX5 yX5_grants wsX5_grants) := goodIn_app (goodIn_of _ (by decide +kernel)) ggX5_requests_X5_grants
set_option maxRecDepth 20000 in
theorem ggX5_requests_X5_enters : GoodIn wsX5_requests wsX5_enters := goodIn_ca (goodIn_r _ [43, 44, 45, 46, 47, 48, 49, 50, 51, 52, 53, 8, 54, 55, 56, 57, 58, 59, 60, 61, 62, 63, 64, 65, 66, 67, 68, 69, 70, 71, 72, 73, 74, 75, 76, 77, 78, 79, 80, 81, 82, 83, 84, 85, 86] (by decide +kernel) (by decide +kernel)) (goodIn_sub (fun _ h => List.mem_cons_of_mem _ (List.mem_append_right _ h)) (by decide +kernel))
set_option maxRecDepth 20000 in
theorem gX5_requests_X5_enters : GoodIn wsX5_requests (wsV RX5 162 RX5 yX5_enters wsX5_enters) := goodIn_app (goodIn_of _ (by decide +kernel)) ggX5_requests_X5_enters
set_option maxRecDepth 20000 in
theorem ggX5_requests_X5_leaves : GoodIn wsX5_requests wsX5_leaves := goodIn_ca (goodIn_r _ [25, 2, 3, 12, 13, 14, 8, 15, 57, 58, 59, 60, 61, 62, 63, 64, 65, 66, 67, 68, 69, 70, 71, 72, 73, 74, 75, 76, 77, 78, 79, 80, 81, 82, 83, 84, 85, 86] (by decide +kernel) (by decide +kernel)) (goodIn_sub (fun _ h => List.mem_cons_of_mem _ (List.mem_append_right _ h)) (by decide +kernel))
set_option maxRecDepth 20000 in
theorem gX5_requests_X5_leaves : GoodIn wsX5_requests (wsV RX5 149 RX5 yX5_leaves wsX5_leaves) := goodIn_app (goodIn_of _ (by decide +kernel)) ggX5_requests_X5_leaves
theorem dX5_requests_0 : decode cX5_requests 0 = .ok (.aload_n 0, 1) := by decide +kernel
theorem dX5_requests_1 : decode cX5_requests 1 = .ok (.iload_n 2, 1) := by decide +kernel
theorem dX5_requests_2 : decode cX5_requests 2 = .ok (.invokevirtual 156, 3) := by decide +kernel
theorem dX5_requests_5 : decode cX5_requests 5 = .ok (.ifCond .ne 16, 3) := by decide +kernel
theorem dX5_requests_8 : decode cX5_requests 8 = .ok (.aload_n 0, 1) := by decide +kernel
theorem dX5_requests_9 : decode cX5_requests 9 = .ok (.getfield 53, 3) := by decide +kernel
theorem dX5_requests_12 : decode cX5_requests 12 = .ok (.iload_n 2, 1) := by decide +kernel
theorem dX5_requests_13 : decode cX5_requests 13 = .ok (.iaload, 1) := by decide +kernel
theorem dX5_requests_14 : decode cX5_requests 14 = .ok (.iload_n 1, 1) := by decide +kernel
theorem dX5_requests_15 : decode cX5_requests 15 = .ok (.if_icmp .ne 6, 3) := by decide +kernel
theorem dX5_requests_18 : decode cX5_requests 18 = .ok (.bipush 104, 2) := by decide +kernel
theorem dX5_requests_20 : decode cX5_requests 20 = .ok (.ireturn, 1) := by decide +kernel
theorem dX5_requests_21 : decode cX5_requests 21 = .ok (.aload_n 0, 1) := by decide +kernel
theorem dX5_requests_22 : decode cX5_requests 22 = .ok (.iload_n 2, 1) := by decide +kernel
theorem dX5_requests_23 : decode cX5_requests 23 = .ok (.invokevirtual 156, 3) := by decide +kernel
theorem dX5_requests_26 : decode cX5_requests 26 = .ok (.ifCond .eq 37, 3) := by decide +kernel
theorem dX5_requests_29 : decode cX5_requests 29 = .ok (.aload_n 0, 1) := by decide +kernel
theorem dX5_requests_30 : decode cX5_requests 30 = .ok (.getfield 71, 3) := by decide +kernel
theorem dX5_requests_33 : decode cX5_requests 33 = .ok (.iload_n 2, 1) := by decide +kernel
theorem dX5_requests_34 : decode cX5_requests 34 = .ok (.iaload, 1) := by decide +kernel
theorem dX5_requests_35 : decode cX5_requests 35 = .ok (.ifCond .eq 12, 3) := by decide +kernel
theorem dX5_requests_38 : decode cX5_requests 38 = .ok (.aload_n 0, 1) := by decide +kernel
theorem dX5_requests_39 : decode cX5_requests 39 = .ok (.iload_n 1, 1) := by decide +kernel
theorem dX5_requests_40 : decode cX5_requests 40 = .ok (.iload_n 2, 1) := by decide +kernel
theorem dX5_requests_41 : decode cX5_requests 41 = .ok (.invokevirtual 143, 3) := by decide +kernel
theorem dX5_requests_44 : decode cX5_requests 44 = .ok (.ifCond .ne 19, 3) := by decide +kernel
theorem dX5_requests_47 : decode cX5_requests 47 = .ok (.aload_n 0, 1) := by decide +kernel
theorem dX5_requests_48 : decode cX5_requests 48 = .ok (.iload_n 1, 1) := by decide +kernel
theorem dX5_requests_49 : decode cX5_requests 49 = .ok (.iload_n 2, 1) := by decide +kernel
theorem dX5_requests_50 : decode cX5_requests 50 = .ok (.invokevirtual 159, 3) := by decide +kernel
theorem dX5_requests_53 : decode cX5_requests 53 = .ok (.aload_n 0, 1) := by decide +kernel
theorem dX5_requests_54 : decode cX5_requests 54 = .ok (.bipush 108, 2) := by decide +kernel
theorem dX5_requests_56 : decode cX5_requests 56 = .ok (.iload_n 1, 1) := by decide +kernel
theorem dX5_requests_57 : decode cX5_requests 57 = .ok (.iload_n 2, 1) := by decide +kernel
theorem dX5_requests_58 : decode cX5_requests 58 = .ok (.iload_n 3, 1) := by decide +kernel
theorem dX5_requests_59 : decode cX5_requests 59 = .ok (.invokevirtual 162, 3) := by decide +kernel
theorem dX5_requests_62 : decode cX5_requests 62 = .ok (.ireturn, 1) := by decide +kernel
theorem dX5_requests_63 : decode cX5_requests 63 = .ok (.iload 4, 2) := by decide +kernel
theorem dX5_requests_65 : decode cX5_requests 65 = .ok (.ifCond .ne 42, 3) := by decide +kernel
theorem dX5_requests_68 : decode cX5_requests 68 = .ok (.aload_n 0, 1) := by decide +kernel
theorem dX5_requests_69 : decode cX5_requests 69 = .ok (.iload_n 1, 1) := by decide +kernel
theorem dX5_requests_70 : decode cX5_requests 70 = .ok (.iload_n 2, 1) := by decide +kernel
theorem dX5_requests_71 : decode cX5_requests 71 = .ok (.invokevirtual 143, 3) := by decide +kernel
theorem dX5_requests_74 : decode cX5_requests 74 = .ok (.ifCond .ge 30, 3) := by decide +kernel
theorem dX5_requests_77 : decode cX5_requests 77 = .ok (.aload_n 0, 1) := by decide +kernel
theorem dX5_requests_78 : decode cX5_requests 78 = .ok (.getfield 68, 3) := by decide +kernel
theorem dX5_requests_81 : decode cX5_requests 81 = .ok (.bipush 6, 2) := by decide +kernel
theorem dX5_requests_83 : decode cX5_requests 83 = .ok (.iload_n 2, 1) := by decide +kernel
theorem dX5_requests_84 : decode cX5_requests 84 = .ok (.imul, 1) := by decide +kernel
theorem dX5_requests_85 : decode cX5_requests 85 = .ok (.aload_n 0, 1) := by decide +kernel
theorem dX5_requests_86 : decode cX5_requests 86 = .ok (.getfield 71, 3) := by decide +kernel
theorem dX5_requests_89 : decode cX5_requests 89 = .ok (.iload_n 2, 1) := by decide +kernel
theorem dX5_requests_90 : decode cX5_requests 90 = .ok (.iaload, 1) := by decide +kernel
theorem dX5_requests_91 : decode cX5_requests 91 = .ok (.iadd, 1) := by decide +kernel
theorem dX5_requests_92 : decode cX5_requests 92 = .ok (.iload_n 1, 1) := by decide +kernel
theorem dX5_requests_93 : decode cX5_requests 93 = .ok (.iastore, 1) := by decide +kernel
theorem dX5_requests_94 : decode cX5_requests 94 = .ok (.aload_n 0, 1) := by decide +kernel
theorem dX5_requests_95 : decode cX5_requests 95 = .ok (.getfield 71, 3) := by decide +kernel
theorem dX5_requests_98 : decode cX5_requests 98 = .ok (.iload_n 2, 1) := by decide +kernel
theorem dX5_requests_99 : decode cX5_requests 99 = .ok (.dup2, 1) := by decide +kernel
theorem dX5_requests_100 : decode cX5_requests 100 = .ok (.iaload, 1) := by decide +kernel
theorem dX5_requests_101 : decode cX5_requests 101 = .ok (.iconst 1, 1) := by decide +kernel
theorem dX5_requests_102 : decode cX5_requests 102 = .ok (.iadd, 1) := by decide +kernel
theorem dX5_requests_103 : decode cX5_requests 103 = .ok (.iastore, 1) := by decide +kernel
theorem dX5_requests_104 : decode cX5_requests 104 = .ok (.bipush 119, 2) := by decide +kernel
theorem dX5_requests_106 : decode cX5_requests 106 = .ok (.ireturn, 1) := by decide +kernel
theorem dX5_requests_107 : decode cX5_requests 107 = .ok (.aload_n 0, 1) := by decide +kernel
theorem dX5_requests_108 : decode cX5_requests 108 = .ok (.iload_n 1, 1) := by decide +kernel
theorem dX5_requests_109 : decode cX5_requests 109 = .ok (.iload_n 2, 1) := by decide +kernel
theorem dX5_requests_110 : decode cX5_requests 110 = .ok (.invokevirtual 149, 3) := by decide +kernel
theorem dX5_requests_113 : decode cX5_requests 113 = .ok (.aload_n 0, 1) := by decide +kernel
theorem dX5_requests_114 : decode cX5_requests 114 = .ok (.getfield 71, 3) := by decide +kernel
theorem dX5_requests_117 : decode cX5_requests 117 = .ok (.iload_n 2, 1) := by decide +kernel
theorem dX5_requests_118 : decode cX5_requests 118 = .ok (.iaload, 1) := by decide +kernel
theorem dX5_requests_119 : decode cX5_requests 119 = .ok (.istore 5, 2) := by decide +kernel
theorem dX5_requests_121 : decode cX5_requests 121 = .ok (.iload 5, 2) := by decide +kernel
theorem dX5_requests_123 : decode cX5_requests 123 = .ok (.ifCond .le 35, 3) := by decide +kernel
theorem dX5_requests_126 : decode cX5_requests 126 = .ok (.aload_n 0, 1) := by decide +kernel
theorem dX5_requests_127 : decode cX5_requests 127 = .ok (.getfield 68, 3) := by decide +kernel
theorem dX5_requests_130 : decode cX5_requests 130 = .ok (.bipush 6, 2) := by decide +kernel
theorem dX5_requests_132 : decode cX5_requests 132 = .ok (.iload_n 2, 1) := by decide +kernel
theorem dX5_requests_133 : decode cX5_requests 133 = .ok (.imul, 1) := by decide +kernel
theorem dX5_requests_134 : decode cX5_requests 134 = .ok (.iload 5, 2) := by decide +kernel
theorem dX5_requests_136 : decode cX5_requests 136 = .ok (.iadd, 1) := by decide +kernel
theorem dX5_requests_137 : decode cX5_requests 137 = .ok (.aload_n 0, 1) := by decide +kernel
theorem dX5_requests_138 : decode cX5_requests 138 = .ok (.getfield 68, 3) := by decide +kernel
theorem dX5_requests_141 : decode cX5_requests 141 = .ok (.bipush 6, 2) := by decide +kernel
theorem dX5_requests_143 : decode cX5_requests 143 = .ok (.iload_n 2, 1) := by decide +kernel
theorem dX5_requests_144 : decode cX5_requests 144 = .ok (.imul, 1) := by decide +kernel
theorem dX5_requests_145 : decode cX5_requests 145 = .ok (.iload 5, 2) := by decide +kernel
theorem dX5_requests_147 : decode cX5_requests 147 = .ok (.iadd, 1) := by decide +kernel
theorem dX5_requests_148 : decode cX5_requests 148 = .ok (.iconst 1, 1) := by decide +kernel
theorem dX5_requests_149 : decode cX5_requests 149 = .ok (.isub, 1) := by decide +kernel
theorem dX5_requests_150 : decode cX5_requests 150 = .ok (.iaload, 1) := by decide +kernel
theorem dX5_requests_151 : decode cX5_requests 151 = .ok (.iastore, 1) := by decide +kernel
theorem dX5_requests_152 : decode cX5_requests 152 = .ok (.iinc 5 (-1), 3) := by decide +kernel
theorem dX5_requests_155 : decode cX5_requests 155 = .ok (.goto (-34), 3) := by decide +kernel
theorem dX5_requests_158 : decode cX5_requests 158 = .ok (.aload_n 0, 1) := by decide +kernel
theorem dX5_requests_159 : decode cX5_requests 159 = .ok (.getfield 68, 3) := by decide +kernel
theorem dX5_requests_162 : decode cX5_requests 162 = .ok (.bipush 6, 2) := by decide +kernel
theorem dX5_requests_164 : decode cX5_requests 164 = .ok (.iload_n 2, 1) := by decide +kernel
theorem dX5_requests_165 : decode cX5_requests 165 = .ok (.imul, 1) := by decide +kernel
theorem dX5_requests_166 : decode cX5_requests 166 = .ok (.iload_n 1, 1) := by decide +kernel
theorem dX5_requests_167 : decode cX5_requests 167 = .ok (.iastore, 1) := by decide +kernel
theorem dX5_requests_168 : decode cX5_requests 168 = .ok (.aload_n 0, 1) := by decide +kernel
theorem dX5_requests_169 : decode cX5_requests 169 = .ok (.getfield 71, 3) := by decide +kernel
theorem dX5_requests_172 : decode cX5_requests 172 = .ok (.iload_n 2, 1) := by decide +kernel
theorem dX5_requests_173 : decode cX5_requests 173 = .ok (.dup2, 1) := by decide +kernel
theorem dX5_requests_174 : decode cX5_requests 174 = .ok (.iaload, 1) := by decide +kernel
theorem dX5_requests_175 : decode cX5_requests 175 = .ok (.iconst 1, 1) := by decide +kernel
theorem dX5_requests_176 : decode cX5_requests 176 = .ok (.iadd, 1) := by decide +kernel
theorem dX5_requests_177 : decode cX5_requests 177 = .ok (.iastore, 1) := by decide +kernel
theorem dX5_requests_178 : decode cX5_requests 178 = .ok (.aload_n 0, 1) := by decide +kernel
theorem dX5_requests_179 : decode cX5_requests 179 = .ok (.getfield 62, 3) := by decide +kernel
theorem dX5_requests_182 : decode cX5_requests 182 = .ok (.iload_n 2, 1) := by decide +kernel
theorem dX5_requests_183 : decode cX5_requests 183 = .ok (.iload_n 1, 1) := by decide +kernel
theorem dX5_requests_184 : decode cX5_requests 184 = .ok (.iastore, 1) := by decide +kernel
theorem dX5_requests_185 : decode cX5_requests 185 = .ok (.bipush 109, 2) := by decide +kernel
theorem dX5_requests_187 : decode cX5_requests 187 = .ok (.ireturn, 1) := by decide +kernel
set_option maxRecDepth 20000 in
theorem ggX5_asks_X5_wrongAsk : GoodIn wsX5_asks wsX5_wrongAsk := goodIn_r _ [6, 7, 8, 9, 5, 10, 11, 12, 13, 14, 15, 16, 17, 18, 19, 20, 98, 99, 100, 101, 102, 103, 104, 105, 106, 107, 108, 109, 110, 111, 112, 113, 114, 115, 116, 117, 118, 119, 120, 121, 122, 123, 124, 125, 126, 127] (by decide +kernel) (by decide +kernel)
set_option maxRecDepth 20000 in
theorem gX5_asks_X5_wrongAsk : GoodIn wsX5_asks (wsV RX5 166 RX5 yX5_wrongAsk wsX5_wrongAsk) := goodIn_app (goodIn_of _ (by decide +kernel)) ggX5_asks_X5_wrongAsk
set_option maxRecDepth 20000 in
theorem ggX5_asks_X5_cannotAsk : GoodIn wsX5_asks wsX5_cannotAsk := goodIn_ca (goodIn_r _ [24, 25, 26, 27, 28, 29, 30, 5, 31, 32, 33, 98, 99, 100, 101, 102, 103, 104, 105, 106, 107, 108, 109, 110, 111, 112, 113, 114, 115, 116, 117, 118, 119, 120, 121, 122, 123, 124, 125, 126, 127] (by decide +kernel) (by decide +kernel)) (goodIn_sub (fun _ h => List.mem_cons_of_mem _ (List.mem_append_right _ h)) (by decide +kernel))
set_option maxRecDepth 20000 in
theorem gX5_asks_X5_cannotAsk : GoodIn wsX5_asks (wsV RX5 170 RX5 yX5_cannotAsk wsX5_cannotAsk) := goodIn_app (goodIn_of _ (by decide +kernel)) ggX5_asks_X5_cannotAsk
set_option maxRecDepth 20000 in
theorem ggX5_asks_X5_looks : GoodIn wsX5_asks wsX5_looks := goodIn_ca (goodIn_r _ [37, 33, 38, 39, 40, 5, 41, 26, 42, 43, 44, 45, 46, 98, 99, 100, 101, 102, 103, 104, 105, 106, 107, 108, 109, 110, 111, 112, 113, 114, 115, 116, 117, 118, 119, 120, 121, 122, 123, 124, 125, 126, 127] (by decide +kernel) (by decide +kernel)) (goodIn_sub (fun _ h => List.mem_cons_of_mem _ (List.mem_append_right _ h)) (by decide +kernel))
set_option maxRecDepth 20000 in
theorem gX5_asks_X5_looks : GoodIn wsX5_asks (wsV RX5 173 RX5 yX5_looks wsX5_looks) := goodIn_app (goodIn_of _ (by decide +kernel)) ggX5_asks_X5_looks
set_option maxRecDepth 20000 in
theorem ggX5_asks_X5_requests : GoodIn wsX5_asks wsX5_requests := goodIn_ca (goodIn_r _ [50, 51, 52, 53, 54, 55, 56, 57, 5, 58, 59, 60, 61, 62, 63, 64, 65, 66, 67, 68, 69, 70, 71, 72, 73, 74, 75, 76, 77, 78, 79, 80, 81, 82, 83, 84, 85, 86, 87, 88, 89, 90, 91, 92, 93, 27, 94, 33, 95, 96, 97, 38, 39, 40, 41, 26, 42, 98, 99, 100, 101, 102, 103, 104, 105, 106, 107, 108, 109, 110, 111, 112, 113, 114, 115, 116, 117, 118, 119, 120, 121, 122, 123, 124, 125, 126, 127] (by decide +kernel) (by decide +kernel)) (goodIn_sub (fun _ h => List.mem_cons_of_mem _ (List.mem_append_right _ h)) (by decide +kernel))
set_option maxRecDepth 20000 in
theorem gX5_asks_X5_requests : GoodIn wsX5_asks (wsV RX5 177 RX5 yX5_requests wsX5_requests) := goodIn_app (goodIn_of _ (by decide +kernel)) ggX5_asks_X5_requests
theorem dX5_asks_0 : decode cX5_asks 0 = .ok (.aload_n 0, 1) := by decide +kernel
theorem dX5_asks_1 : decode cX5_asks 1 = .ok (.aload_n 0, 1) := by decide +kernel
theorem dX5_asks_2 : decode cX5_asks 2 = .ok (.iload_n 1, 1) := by decide +kernel
theorem dX5_asks_3 : decode cX5_asks 3 = .ok (.iload_n 2, 1) := by decide +kernel
theorem dX5_asks_4 : decode cX5_asks 4 = .ok (.iload_n 3, 1) := by decide +kernel
theorem dX5_asks_5 : decode cX5_asks 5 = .ok (.invokevirtual 166, 3) := by decide +kernel
theorem dX5_asks_8 : decode cX5_asks 8 = .ok (.putfield 87, 3) := by decide +kernel
theorem dX5_asks_11 : decode cX5_asks 11 = .ok (.aload_n 0, 1) := by decide +kernel
theorem dX5_asks_12 : decode cX5_asks 12 = .ok (.getfield 87, 3) := by decide +kernel
theorem dX5_asks_15 : decode cX5_asks 15 = .ok (.ifCond .ne 17, 3) := by decide +kernel
theorem dX5_asks_18 : decode cX5_asks 18 = .ok (.aload_n 0, 1) := by decide +kernel
theorem dX5_asks_19 : decode cX5_asks 19 = .ok (.iload_n 1, 1) := by decide +kernel
theorem dX5_asks_20 : decode cX5_asks 20 = .ok (.iload_n 3, 1) := by decide +kernel
theorem dX5_asks_21 : decode cX5_asks 21 = .ok (.invokevirtual 170, 3) := by decide +kernel
theorem dX5_asks_24 : decode cX5_asks 24 = .ok (.ifCond .eq 8, 3) := by decide +kernel
theorem dX5_asks_27 : decode cX5_asks 27 = .ok (.aload_n 0, 1) := by decide +kernel
theorem dX5_asks_28 : decode cX5_asks 28 = .ok (.iconst 3, 1) := by decide +kernel
theorem dX5_asks_29 : decode cX5_asks 29 = .ok (.putfield 87, 3) := by decide +kernel
theorem dX5_asks_32 : decode cX5_asks 32 = .ok (.aload_n 0, 1) := by decide +kernel
theorem dX5_asks_33 : decode cX5_asks 33 = .ok (.getfield 87, 3) := by decide +kernel
theorem dX5_asks_36 : decode cX5_asks 36 = .ok (.ifCond .le 6, 3) := by decide +kernel
theorem dX5_asks_39 : decode cX5_asks 39 = .ok (.bipush 32, 2) := by decide +kernel
theorem dX5_asks_41 : decode cX5_asks 41 = .ok (.ireturn, 1) := by decide +kernel
theorem dX5_asks_42 : decode cX5_asks 42 = .ok (.aload_n 0, 1) := by decide +kernel
theorem dX5_asks_43 : decode cX5_asks 43 = .ok (.iload_n 3, 1) := by decide +kernel
theorem dX5_asks_44 : decode cX5_asks 44 = .ok (.invokevirtual 173, 3) := by decide +kernel
theorem dX5_asks_47 : decode cX5_asks 47 = .ok (.istore 5, 2) := by decide +kernel
theorem dX5_asks_49 : decode cX5_asks 49 = .ok (.iload 5, 2) := by decide +kernel
theorem dX5_asks_51 : decode cX5_asks 51 = .ok (.bipush 45, 2) := by decide +kernel
theorem dX5_asks_53 : decode cX5_asks 53 = .ok (.if_icmp .ne 15, 3) := by decide +kernel
theorem dX5_asks_56 : decode cX5_asks 56 = .ok (.aload_n 0, 1) := by decide +kernel
theorem dX5_asks_57 : decode cX5_asks 57 = .ok (.iload_n 1, 1) := by decide +kernel
theorem dX5_asks_58 : decode cX5_asks 58 = .ok (.iload_n 2, 1) := by decide +kernel
theorem dX5_asks_59 : decode cX5_asks 59 = .ok (.iload_n 3, 1) := by decide +kernel
theorem dX5_asks_60 : decode cX5_asks 60 = .ok (.iload 4, 2) := by decide +kernel
theorem dX5_asks_62 : decode cX5_asks 62 = .ok (.invokevirtual 177, 3) := by decide +kernel
theorem dX5_asks_65 : decode cX5_asks 65 = .ok (.goto 5, 3) := by decide +kernel
theorem dX5_asks_68 : decode cX5_asks 68 = .ok (.iload 5, 2) := by decide +kernel
theorem dX5_asks_70 : decode cX5_asks 70 = .ok (.ireturn, 1) := by decide +kernel
set_option maxRecDepth 20000 in
theorem ggX5_request_X5_asks : GoodIn wsX5_request wsX5_asks := goodIn_ca (goodIn_r _ [5, 6, 7, 8, 9, 4, 10, 11, 12, 13, 14, 15, 16, 17, 18, 19, 20, 21, 22, 23, 24, 25, 26, 27, 28, 29, 30, 31, 32, 33, 34, 35, 36, 37, 38, 39, 40, 41, 42, 43, 44, 45, 46, 47, 48, 49, 50, 51, 52, 53, 54, 55, 56, 57, 58, 59, 60, 61, 62, 63, 64, 65, 66, 67, 68, 69, 70, 71, 72, 73, 74, 75, 76, 77, 78, 79, 80, 81, 82, 83, 84, 85, 86, 87, 88, 89, 90, 91, 92, 93, 94, 95, 96, 97, 98, 99, 100, 101, 102, 103, 104, 105, 106, 107, 108, 109, 110, 111, 112, 113, 114, 115, 116, 117, 118, 119, 120, 121, 122, 123, 124, 125, 126, 127, 128, 129, 130, 131] (by decide +kernel) (by decide +kernel)) (goodIn_sub (fun _ h => List.mem_cons_of_mem _ (List.mem_append_right _ h)) (by decide +kernel))
set_option maxRecDepth 20000 in
theorem gX5_request_X5_asks : GoodIn wsX5_request (wsV RX5 181 RX5 yX5_asks wsX5_asks) := goodIn_app (goodIn_of _ (by decide +kernel)) ggX5_request_X5_asks
theorem dX5_request_0 : decode cX5_request 0 = .ok (.aload_n 0, 1) := by decide +kernel
theorem dX5_request_1 : decode cX5_request 1 = .ok (.iload_n 1, 1) := by decide +kernel
theorem dX5_request_2 : decode cX5_request 2 = .ok (.iload_n 2, 1) := by decide +kernel
theorem dX5_request_3 : decode cX5_request 3 = .ok (.iload_n 3, 1) := by decide +kernel
theorem dX5_request_4 : decode cX5_request 4 = .ok (.iconst 0, 1) := by decide +kernel
theorem dX5_request_5 : decode cX5_request 5 = .ok (.invokevirtual 181, 3) := by decide +kernel
theorem dX5_request_8 : decode cX5_request 8 = .ok (.ireturn, 1) := by decide +kernel
set_option maxRecDepth 20000 in
theorem ggX5_steal_X5_asks : GoodIn wsX5_steal wsX5_asks := goodIn_ca (goodIn_r _ [5, 6, 7, 8, 9, 4, 10, 11, 12, 13, 14, 15, 16, 17, 18, 19, 20, 21, 22, 23, 24, 25, 26, 27, 28, 29, 30, 31, 32, 33, 34, 35, 36, 37, 38, 39, 40, 41, 42, 43, 44, 45, 46, 47, 48, 49, 50, 51, 52, 53, 54, 55, 56, 57, 58, 59, 60, 61, 62, 63, 64, 65, 66, 67, 68, 69, 70, 71, 72, 73, 74, 75, 76, 77, 78, 79, 80, 81, 82, 83, 84, 85, 86, 87, 88, 89, 90, 91, 92, 93, 94, 95, 96, 97, 98, 99, 100, 101, 102, 103, 104, 105, 106, 107, 108, 109, 110, 111, 112, 113, 114, 115, 116, 117, 118, 119, 120, 121, 122, 123, 124, 125, 126, 127, 128, 129, 130, 131] (by decide +kernel) (by decide +kernel)) (goodIn_sub (fun _ h => List.mem_cons_of_mem _ (List.mem_append_right _ h)) (by decide +kernel))
set_option maxRecDepth 20000 in
theorem gX5_steal_X5_asks : GoodIn wsX5_steal (wsV RX5 181 RX5 yX5_asks wsX5_asks) := goodIn_app (goodIn_of _ (by decide +kernel)) ggX5_steal_X5_asks
theorem dX5_steal_0 : decode cX5_steal 0 = .ok (.aload_n 0, 1) := by decide +kernel
theorem dX5_steal_1 : decode cX5_steal 1 = .ok (.iload_n 1, 1) := by decide +kernel
theorem dX5_steal_2 : decode cX5_steal 2 = .ok (.iload_n 2, 1) := by decide +kernel
theorem dX5_steal_3 : decode cX5_steal 3 = .ok (.iload_n 3, 1) := by decide +kernel
theorem dX5_steal_4 : decode cX5_steal 4 = .ok (.iconst 1, 1) := by decide +kernel
theorem dX5_steal_5 : decode cX5_steal 5 = .ok (.invokevirtual 181, 3) := by decide +kernel
theorem dX5_steal_8 : decode cX5_steal 8 = .ok (.ireturn, 1) := by decide +kernel
set_option maxRecDepth 20000 in
theorem ggX5_owns_X5_isFree : GoodIn wsX5_owns wsX5_isFree := goodIn_ca (goodIn_r _ [6, 1, 7, 8, 9, 10, 11, 12, 13, 14, 15, 16, 17, 18, 19, 20, 21, 22, 23, 24, 25, 26, 27, 28, 29, 30, 31, 32, 33, 34, 35, 36, 37, 38] (by decide +kernel) (by decide +kernel)) (goodIn_sub (fun _ h => List.mem_cons_of_mem _ (List.mem_append_right _ h)) (by decide +kernel))
set_option maxRecDepth 20000 in
theorem gX5_owns_X5_isFree : GoodIn wsX5_owns (wsV RX5 156 RX5 yX5_isFree wsX5_isFree) := goodIn_app (goodIn_of _ (by decide +kernel)) ggX5_owns_X5_isFree
theorem dX5_owns_0 : decode cX5_owns 0 = .ok (.aload_n 0, 1) := by decide +kernel
theorem dX5_owns_1 : decode cX5_owns 1 = .ok (.iload_n 2, 1) := by decide +kernel
theorem dX5_owns_2 : decode cX5_owns 2 = .ok (.invokevirtual 156, 3) := by decide +kernel
theorem dX5_owns_5 : decode cX5_owns 5 = .ok (.ifCond .ne 17, 3) := by decide +kernel
theorem dX5_owns_8 : decode cX5_owns 8 = .ok (.aload_n 0, 1) := by decide +kernel
theorem dX5_owns_9 : decode cX5_owns 9 = .ok (.getfield 53, 3) := by decide +kernel
theorem dX5_owns_12 : decode cX5_owns 12 = .ok (.iload_n 2, 1) := by decide +kernel
theorem dX5_owns_13 : decode cX5_owns 13 = .ok (.iaload, 1) := by decide +kernel
theorem dX5_owns_14 : decode cX5_owns 14 = .ok (.iload_n 1, 1) := by decide +kernel
theorem dX5_owns_15 : decode cX5_owns 15 = .ok (.if_icmp .ne 7, 3) := by decide +kernel
theorem dX5_owns_18 : decode cX5_owns 18 = .ok (.iconst 1, 1) := by decide +kernel
theorem dX5_owns_19 : decode cX5_owns 19 = .ok (.goto 4, 3) := by decide +kernel
theorem dX5_owns_22 : decode cX5_owns 22 = .ok (.iconst 0, 1) := by decide +kernel
theorem dX5_owns_23 : decode cX5_owns 23 = .ok (.ireturn, 1) := by decide +kernel
set_option maxRecDepth 20000 in
theorem ggX5_renew_X5_wrongAsk : GoodIn wsX5_renew wsX5_wrongAsk := goodIn_r _ [9, 10, 11, 12, 8, 13, 14, 15, 16, 17, 18, 19, 20, 21, 22, 23, 82, 83, 84, 85, 86, 87, 88, 89, 90, 91, 92, 93, 94, 95, 96, 97, 98, 99, 100, 101, 102, 103, 104, 105, 106, 107, 108, 109, 110, 111] (by decide +kernel) (by decide +kernel)
set_option maxRecDepth 20000 in
theorem gX5_renew_X5_wrongAsk : GoodIn wsX5_renew (wsV RX5 166 RX5 yX5_wrongAsk wsX5_wrongAsk) := goodIn_app (goodIn_of _ (by decide +kernel)) ggX5_renew_X5_wrongAsk
set_option maxRecDepth 20000 in
theorem ggX5_renew_X5_cannotAsk : GoodIn wsX5_renew wsX5_cannotAsk := goodIn_ca (goodIn_r _ [27, 28, 29, 30, 31, 32, 33, 8, 34, 35, 36, 82, 83, 84, 85, 86, 87, 88, 89, 90, 91, 92, 93, 94, 95, 96, 97, 98, 99, 100, 101, 102, 103, 104, 105, 106, 107, 108, 109, 110, 111] (by decide +kernel) (by decide +kernel)) (goodIn_sub (fun _ h => List.mem_cons_of_mem _ (List.mem_append_right _ h)) (by decide +kernel))
set_option maxRecDepth 20000 in
theorem gX5_renew_X5_cannotAsk : GoodIn wsX5_renew (wsV RX5 170 RX5 yX5_cannotAsk wsX5_cannotAsk) := goodIn_app (goodIn_of _ (by decide +kernel)) ggX5_renew_X5_cannotAsk
set_option maxRecDepth 20000 in
theorem ggX5_renew_X5_looks : GoodIn wsX5_renew wsX5_looks := goodIn_ca (goodIn_r _ [40, 36, 41, 42, 43, 8, 44, 29, 45, 46, 47, 48, 49, 82, 83, 84, 85, 86, 87, 88, 89, 90, 91, 92, 93, 94, 95, 96, 97, 98, 99, 100, 101, 102, 103, 104, 105, 106, 107, 108, 109, 110, 111] (by decide +kernel) (by decide +kernel)) (goodIn_sub (fun _ h => List.mem_cons_of_mem _ (List.mem_append_right _ h)) (by decide +kernel))
set_option maxRecDepth 20000 in
theorem gX5_renew_X5_looks : GoodIn wsX5_renew (wsV RX5 173 RX5 yX5_looks wsX5_looks) := goodIn_app (goodIn_of _ (by decide +kernel)) ggX5_renew_X5_looks
set_option maxRecDepth 20000 in
theorem ggX5_renew_X5_owns : GoodIn wsX5_renew wsX5_owns := goodIn_ca (goodIn_r _ [53, 54, 55, 56, 57, 8, 58, 3, 4, 82, 83, 84, 85, 86, 87, 88, 89, 90, 91, 92, 93, 94, 95, 96, 97, 98, 99, 100, 101, 102, 103, 104, 105, 106, 107, 108, 109, 110, 111] (by decide +kernel) (by decide +kernel)) (goodIn_sub (fun _ h => List.mem_cons_of_mem _ (List.mem_append_right _ h)) (by decide +kernel))
set_option maxRecDepth 20000 in
theorem gX5_renew_X5_owns : GoodIn wsX5_renew (wsV RX5 184 RX5 yX5_owns wsX5_owns) := goodIn_app (goodIn_of _ (by decide +kernel)) ggX5_renew_X5_owns
set_option maxRecDepth 20000 in
theorem ggX5_renew_X5_notesClaim : GoodIn wsX5_renew wsX5_notesClaim := goodIn_ca (goodIn_r _ [62, 63, 64, 65, 66, 8, 67, 68, 69, 70, 71, 4, 72, 82, 83, 84, 85, 86, 87, 88, 89, 90, 91, 92, 93, 94, 95, 96, 97, 98, 99, 100, 101, 102, 103, 104, 105, 106, 107, 108, 109, 110, 111] (by decide +kernel) (by decide +kernel)) (goodIn_sub (fun _ h => List.mem_cons_of_mem _ (List.mem_append_right _ h)) (by decide +kernel))
set_option maxRecDepth 20000 in
theorem gX5_renew_X5_notesClaim : GoodIn wsX5_renew (wsV RX5 153 RX5 yX5_notesClaim wsX5_notesClaim) := goodIn_app (goodIn_of _ (by decide +kernel)) ggX5_renew_X5_notesClaim
set_option maxRecDepth 20000 in
theorem ggX5_renew_X5_enters : GoodIn wsX5_renew wsX5_enters := goodIn_ca (goodIn_r _ [76, 77, 30, 78, 36, 79, 80, 81, 41, 42, 43, 8, 44, 29, 45, 82, 83, 84, 85, 86, 87, 88, 89, 90, 91, 92, 93, 94, 95, 96, 97, 98, 99, 100, 101, 102, 103, 104, 105, 106, 107, 108, 109, 110, 111] (by decide +kernel) (by decide +kernel)) (goodIn_sub (fun _ h => List.mem_cons_of_mem _ (List.mem_append_right _ h)) (by decide +kernel))
set_option maxRecDepth 20000 in
theorem gX5_renew_X5_enters : GoodIn wsX5_renew (wsV RX5 162 RX5 yX5_enters wsX5_enters) := goodIn_app (goodIn_of _ (by decide +kernel)) ggX5_renew_X5_enters
theorem dX5_renew_0 : decode cX5_renew 0 = .ok (.aload_n 0, 1) := by decide +kernel
theorem dX5_renew_1 : decode cX5_renew 1 = .ok (.aload_n 0, 1) := by decide +kernel
theorem dX5_renew_2 : decode cX5_renew 2 = .ok (.iload_n 1, 1) := by decide +kernel
theorem dX5_renew_3 : decode cX5_renew 3 = .ok (.iload_n 2, 1) := by decide +kernel
theorem dX5_renew_4 : decode cX5_renew 4 = .ok (.iload_n 3, 1) := by decide +kernel
theorem dX5_renew_5 : decode cX5_renew 5 = .ok (.invokevirtual 166, 3) := by decide +kernel
theorem dX5_renew_8 : decode cX5_renew 8 = .ok (.putfield 87, 3) := by decide +kernel
theorem dX5_renew_11 : decode cX5_renew 11 = .ok (.aload_n 0, 1) := by decide +kernel
theorem dX5_renew_12 : decode cX5_renew 12 = .ok (.getfield 87, 3) := by decide +kernel
theorem dX5_renew_15 : decode cX5_renew 15 = .ok (.ifCond .ne 17, 3) := by decide +kernel
theorem dX5_renew_18 : decode cX5_renew 18 = .ok (.aload_n 0, 1) := by decide +kernel
theorem dX5_renew_19 : decode cX5_renew 19 = .ok (.iload_n 1, 1) := by decide +kernel
theorem dX5_renew_20 : decode cX5_renew 20 = .ok (.iload_n 3, 1) := by decide +kernel
theorem dX5_renew_21 : decode cX5_renew 21 = .ok (.invokevirtual 170, 3) := by decide +kernel
theorem dX5_renew_24 : decode cX5_renew 24 = .ok (.ifCond .eq 8, 3) := by decide +kernel
theorem dX5_renew_27 : decode cX5_renew 27 = .ok (.aload_n 0, 1) := by decide +kernel
theorem dX5_renew_28 : decode cX5_renew 28 = .ok (.iconst 3, 1) := by decide +kernel
theorem dX5_renew_29 : decode cX5_renew 29 = .ok (.putfield 87, 3) := by decide +kernel
theorem dX5_renew_32 : decode cX5_renew 32 = .ok (.aload_n 0, 1) := by decide +kernel
theorem dX5_renew_33 : decode cX5_renew 33 = .ok (.getfield 87, 3) := by decide +kernel
theorem dX5_renew_36 : decode cX5_renew 36 = .ok (.ifCond .le 6, 3) := by decide +kernel
theorem dX5_renew_39 : decode cX5_renew 39 = .ok (.bipush 32, 2) := by decide +kernel
theorem dX5_renew_41 : decode cX5_renew 41 = .ok (.ireturn, 1) := by decide +kernel
theorem dX5_renew_42 : decode cX5_renew 42 = .ok (.aload_n 0, 1) := by decide +kernel
theorem dX5_renew_43 : decode cX5_renew 43 = .ok (.iload_n 3, 1) := by decide +kernel
theorem dX5_renew_44 : decode cX5_renew 44 = .ok (.invokevirtual 173, 3) := by decide +kernel
theorem dX5_renew_47 : decode cX5_renew 47 = .ok (.istore 4, 2) := by decide +kernel
theorem dX5_renew_49 : decode cX5_renew 49 = .ok (.iload 4, 2) := by decide +kernel
theorem dX5_renew_51 : decode cX5_renew 51 = .ok (.bipush 45, 2) := by decide +kernel
theorem dX5_renew_53 : decode cX5_renew 53 = .ok (.if_icmp .eq 6, 3) := by decide +kernel
theorem dX5_renew_56 : decode cX5_renew 56 = .ok (.iload 4, 2) := by decide +kernel
theorem dX5_renew_58 : decode cX5_renew 58 = .ok (.ireturn, 1) := by decide +kernel
theorem dX5_renew_59 : decode cX5_renew 59 = .ok (.aload_n 0, 1) := by decide +kernel
theorem dX5_renew_60 : decode cX5_renew 60 = .ok (.iload_n 1, 1) := by decide +kernel
theorem dX5_renew_61 : decode cX5_renew 61 = .ok (.iload_n 2, 1) := by decide +kernel
theorem dX5_renew_62 : decode cX5_renew 62 = .ok (.invokevirtual 184, 3) := by decide +kernel
theorem dX5_renew_65 : decode cX5_renew 65 = .ok (.ifCond .ne 6, 3) := by decide +kernel
theorem dX5_renew_68 : decode cX5_renew 68 = .ok (.bipush 111, 2) := by decide +kernel
theorem dX5_renew_70 : decode cX5_renew 70 = .ok (.ireturn, 1) := by decide +kernel
theorem dX5_renew_71 : decode cX5_renew 71 = .ok (.aload_n 0, 1) := by decide +kernel
theorem dX5_renew_72 : decode cX5_renew 72 = .ok (.getfield 62, 3) := by decide +kernel
theorem dX5_renew_75 : decode cX5_renew 75 = .ok (.iload_n 2, 1) := by decide +kernel
theorem dX5_renew_76 : decode cX5_renew 76 = .ok (.iaload, 1) := by decide +kernel
theorem dX5_renew_77 : decode cX5_renew 77 = .ok (.ifCond .lt 6, 3) := by decide +kernel
theorem dX5_renew_80 : decode cX5_renew 80 = .ok (.bipush 115, 2) := by decide +kernel
theorem dX5_renew_82 : decode cX5_renew 82 = .ok (.ireturn, 1) := by decide +kernel
theorem dX5_renew_83 : decode cX5_renew 83 = .ok (.aload_n 0, 1) := by decide +kernel
theorem dX5_renew_84 : decode cX5_renew 84 = .ok (.getfield 56, 3) := by decide +kernel
theorem dX5_renew_87 : decode cX5_renew 87 = .ok (.iload_n 2, 1) := by decide +kernel
theorem dX5_renew_88 : decode cX5_renew 88 = .ok (.aload_n 0, 1) := by decide +kernel
theorem dX5_renew_89 : decode cX5_renew 89 = .ok (.getfield 91, 3) := by decide +kernel
theorem dX5_renew_92 : decode cX5_renew 92 = .ok (.bipush 12, 2) := by decide +kernel
theorem dX5_renew_94 : decode cX5_renew 94 = .ok (.iadd, 1) := by decide +kernel
theorem dX5_renew_95 : decode cX5_renew 95 = .ok (.iastore, 1) := by decide +kernel
theorem dX5_renew_96 : decode cX5_renew 96 = .ok (.aload_n 0, 1) := by decide +kernel
theorem dX5_renew_97 : decode cX5_renew 97 = .ok (.iload_n 1, 1) := by decide +kernel
theorem dX5_renew_98 : decode cX5_renew 98 = .ok (.iload_n 2, 1) := by decide +kernel
theorem dX5_renew_99 : decode cX5_renew 99 = .ok (.invokevirtual 153, 3) := by decide +kernel
theorem dX5_renew_102 : decode cX5_renew 102 = .ok (.aload_n 0, 1) := by decide +kernel
theorem dX5_renew_103 : decode cX5_renew 103 = .ok (.bipush 114, 2) := by decide +kernel
theorem dX5_renew_105 : decode cX5_renew 105 = .ok (.iload_n 1, 1) := by decide +kernel
theorem dX5_renew_106 : decode cX5_renew 106 = .ok (.iload_n 2, 1) := by decide +kernel
theorem dX5_renew_107 : decode cX5_renew 107 = .ok (.iload_n 3, 1) := by decide +kernel
theorem dX5_renew_108 : decode cX5_renew 108 = .ok (.invokevirtual 162, 3) := by decide +kernel
theorem dX5_renew_111 : decode cX5_renew 111 = .ok (.ireturn, 1) := by decide +kernel
set_option maxRecDepth 20000 in
theorem ggX5_release_X5_wrongAsk : GoodIn wsX5_release wsX5_wrongAsk := goodIn_r _ [11, 12, 13, 14, 10, 15, 16, 17, 18, 19, 20, 21, 22, 23, 24, 25, 73, 74, 75, 76, 77, 78, 79, 80, 81, 82, 83, 84, 85, 86, 87, 88, 89, 90, 91, 92, 93, 94, 95, 96, 97, 98, 99, 100, 101, 102] (by decide +kernel) (by decide +kernel)
set_option maxRecDepth 20000 in
theorem gX5_release_X5_wrongAsk : GoodIn wsX5_release (wsV RX5 166 RX5 yX5_wrongAsk wsX5_wrongAsk) := goodIn_app (goodIn_of _ (by decide +kernel)) ggX5_release_X5_wrongAsk
set_option maxRecDepth 20000 in
theorem ggX5_release_X5_cannotAsk : GoodIn wsX5_release wsX5_cannotAsk := goodIn_ca (goodIn_r _ [29, 30, 31, 32, 33, 34, 35, 10, 36, 37, 38, 73, 74, 75, 76, 77, 78, 79, 80, 81, 82, 83, 84, 85, 86, 87, 88, 89, 90, 91, 92, 93, 94, 95, 96, 97, 98, 99, 100, 101, 102] (by decide +kernel) (by decide +kernel)) (goodIn_sub (fun _ h => List.mem_cons_of_mem _ (List.mem_append_right _ h)) (by decide +kernel))
set_option maxRecDepth 20000 in
theorem gX5_release_X5_cannotAsk : GoodIn wsX5_release (wsV RX5 170 RX5 yX5_cannotAsk wsX5_cannotAsk) := goodIn_app (goodIn_of _ (by decide +kernel)) ggX5_release_X5_cannotAsk
set_option maxRecDepth 20000 in
theorem ggX5_release_X5_looks : GoodIn wsX5_release wsX5_looks := goodIn_ca (goodIn_r _ [42, 38, 43, 44, 45, 10, 46, 31, 47, 48, 49, 50, 51, 73, 74, 75, 76, 77, 78, 79, 80, 81, 82, 83, 84, 85, 86, 87, 88, 89, 90, 91, 92, 93, 94, 95, 96, 97, 98, 99, 100, 101, 102] (by decide +kernel) (by decide +kernel)) (goodIn_sub (fun _ h => List.mem_cons_of_mem _ (List.mem_append_right _ h)) (by decide +kernel))
set_option maxRecDepth 20000 in
theorem gX5_release_X5_looks : GoodIn wsX5_release (wsV RX5 173 RX5 yX5_looks wsX5_looks) := goodIn_app (goodIn_of _ (by decide +kernel)) ggX5_release_X5_looks
set_option maxRecDepth 20000 in
theorem ggX5_release_X5_owns : GoodIn wsX5_release wsX5_owns := goodIn_ca (goodIn_r _ [55, 5, 56, 57, 58, 10, 59, 60, 3, 73, 74, 75, 76, 77, 78, 79, 80, 81, 82, 83, 84, 85, 86, 87, 88, 89, 90, 91, 92, 93, 94, 95, 96, 97, 98, 99, 100, 101, 102] (by decide +kernel) (by decide +kernel)) (goodIn_sub (fun _ h => List.mem_cons_of_mem _ (List.mem_append_right _ h)) (by decide +kernel))
set_option maxRecDepth 20000 in
theorem gX5_release_X5_owns : GoodIn wsX5_release (wsV RX5 184 RX5 yX5_owns wsX5_owns) := goodIn_app (goodIn_of _ (by decide +kernel)) ggX5_release_X5_owns
set_option maxRecDepth 20000 in
theorem ggX5_release_X5_at : GoodIn wsX5_release wsX5_at := goodIn_r _ [63] (by decide +kernel) (by decide +kernel)
set_option maxRecDepth 20000 in
theorem gX5_release_X5_at : GoodIn wsX5_release (va_wsS RX5 146 yX5_at wsX5_at) := goodIn_app (goodIn_of _ (by decide +kernel)) ggX5_release_X5_at
set_option maxRecDepth 20000 in
theorem ggX5_release_X5_enters : GoodIn wsX5_release wsX5_enters := goodIn_ca (goodIn_r _ [67, 68, 32, 69, 38, 70, 71, 72, 43, 44, 45, 10, 46, 31, 47, 73, 74, 75, 76, 77, 78, 79, 80, 81, 82, 83, 84, 85, 86, 87, 88, 89, 90, 91, 92, 93, 94, 95, 96, 97, 98, 99, 100, 101, 102] (by decide +kernel) (by decide +kernel)) (goodIn_sub (fun _ h => List.mem_cons_of_mem _ (List.mem_append_right _ h)) (by decide +kernel))
set_option maxRecDepth 20000 in
theorem gX5_release_X5_enters : GoodIn wsX5_release (wsV RX5 162 RX5 yX5_enters wsX5_enters) := goodIn_app (goodIn_of _ (by decide +kernel)) ggX5_release_X5_enters
theorem dX5_release_0 : decode cX5_release 0 = .ok (.aload_n 0, 1) := by decide +kernel
theorem dX5_release_1 : decode cX5_release 1 = .ok (.aload_n 0, 1) := by decide +kernel
theorem dX5_release_2 : decode cX5_release 2 = .ok (.iload_n 1, 1) := by decide +kernel
theorem dX5_release_3 : decode cX5_release 3 = .ok (.iload_n 2, 1) := by decide +kernel
theorem dX5_release_4 : decode cX5_release 4 = .ok (.iload_n 3, 1) := by decide +kernel
theorem dX5_release_5 : decode cX5_release 5 = .ok (.invokevirtual 166, 3) := by decide +kernel
theorem dX5_release_8 : decode cX5_release 8 = .ok (.putfield 87, 3) := by decide +kernel
theorem dX5_release_11 : decode cX5_release 11 = .ok (.aload_n 0, 1) := by decide +kernel
theorem dX5_release_12 : decode cX5_release 12 = .ok (.getfield 87, 3) := by decide +kernel
theorem dX5_release_15 : decode cX5_release 15 = .ok (.ifCond .ne 17, 3) := by decide +kernel
theorem dX5_release_18 : decode cX5_release 18 = .ok (.aload_n 0, 1) := by decide +kernel
theorem dX5_release_19 : decode cX5_release 19 = .ok (.iload_n 1, 1) := by decide +kernel
theorem dX5_release_20 : decode cX5_release 20 = .ok (.iload_n 3, 1) := by decide +kernel
theorem dX5_release_21 : decode cX5_release 21 = .ok (.invokevirtual 170, 3) := by decide +kernel
theorem dX5_release_24 : decode cX5_release 24 = .ok (.ifCond .eq 8, 3) := by decide +kernel
theorem dX5_release_27 : decode cX5_release 27 = .ok (.aload_n 0, 1) := by decide +kernel
theorem dX5_release_28 : decode cX5_release 28 = .ok (.iconst 3, 1) := by decide +kernel
theorem dX5_release_29 : decode cX5_release 29 = .ok (.putfield 87, 3) := by decide +kernel
theorem dX5_release_32 : decode cX5_release 32 = .ok (.aload_n 0, 1) := by decide +kernel
theorem dX5_release_33 : decode cX5_release 33 = .ok (.getfield 87, 3) := by decide +kernel
theorem dX5_release_36 : decode cX5_release 36 = .ok (.ifCond .le 6, 3) := by decide +kernel
theorem dX5_release_39 : decode cX5_release 39 = .ok (.bipush 32, 2) := by decide +kernel
theorem dX5_release_41 : decode cX5_release 41 = .ok (.ireturn, 1) := by decide +kernel
theorem dX5_release_42 : decode cX5_release 42 = .ok (.aload_n 0, 1) := by decide +kernel
theorem dX5_release_43 : decode cX5_release 43 = .ok (.iload_n 3, 1) := by decide +kernel
theorem dX5_release_44 : decode cX5_release 44 = .ok (.invokevirtual 173, 3) := by decide +kernel
theorem dX5_release_47 : decode cX5_release 47 = .ok (.istore 4, 2) := by decide +kernel
theorem dX5_release_49 : decode cX5_release 49 = .ok (.iload 4, 2) := by decide +kernel
theorem dX5_release_51 : decode cX5_release 51 = .ok (.bipush 45, 2) := by decide +kernel
theorem dX5_release_53 : decode cX5_release 53 = .ok (.if_icmp .eq 6, 3) := by decide +kernel
theorem dX5_release_56 : decode cX5_release 56 = .ok (.iload 4, 2) := by decide +kernel
theorem dX5_release_58 : decode cX5_release 58 = .ok (.ireturn, 1) := by decide +kernel
theorem dX5_release_59 : decode cX5_release 59 = .ok (.aload_n 0, 1) := by decide +kernel
theorem dX5_release_60 : decode cX5_release 60 = .ok (.iload_n 1, 1) := by decide +kernel
theorem dX5_release_61 : decode cX5_release 61 = .ok (.iload_n 2, 1) := by decide +kernel
theorem dX5_release_62 : decode cX5_release 62 = .ok (.invokevirtual 184, 3) := by decide +kernel
theorem dX5_release_65 : decode cX5_release 65 = .ok (.ifCond .ne 6, 3) := by decide +kernel
theorem dX5_release_68 : decode cX5_release 68 = .ok (.bipush 111, 2) := by decide +kernel
theorem dX5_release_70 : decode cX5_release 70 = .ok (.ireturn, 1) := by decide +kernel
theorem dX5_release_71 : decode cX5_release 71 = .ok (.aload_n 0, 1) := by decide +kernel
theorem dX5_release_72 : decode cX5_release 72 = .ok (.dup, 1) := by decide +kernel
theorem dX5_release_73 : decode cX5_release 73 = .ok (.getfield 100, 3) := by decide +kernel
theorem dX5_release_76 : decode cX5_release 76 = .ok (.aload_n 0, 1) := by decide +kernel
theorem dX5_release_77 : decode cX5_release 77 = .ok (.getfield 91, 3) := by decide +kernel
theorem dX5_release_80 : decode cX5_release 80 = .ok (.aload_n 0, 1) := by decide +kernel
theorem dX5_release_81 : decode cX5_release 81 = .ok (.getfield 59, 3) := by decide +kernel
theorem dX5_release_84 : decode cX5_release 84 = .ok (.iload_n 2, 1) := by decide +kernel
theorem dX5_release_85 : decode cX5_release 85 = .ok (.iaload, 1) := by decide +kernel
theorem dX5_release_86 : decode cX5_release 86 = .ok (.isub, 1) := by decide +kernel
theorem dX5_release_87 : decode cX5_release 87 = .ok (.i2l, 1) := by decide +kernel
theorem dX5_release_88 : decode cX5_release 88 = .ok (.ladd, 1) := by decide +kernel
theorem dX5_release_89 : decode cX5_release 89 = .ok (.putfield 100, 3) := by decide +kernel
theorem dX5_release_92 : decode cX5_release 92 = .ok (.aload_n 0, 1) := by decide +kernel
theorem dX5_release_93 : decode cX5_release 93 = .ok (.getfield 53, 3) := by decide +kernel
theorem dX5_release_96 : decode cX5_release 96 = .ok (.iload_n 2, 1) := by decide +kernel
theorem dX5_release_97 : decode cX5_release 97 = .ok (.iconst (-1), 1) := by decide +kernel
theorem dX5_release_98 : decode cX5_release 98 = .ok (.iastore, 1) := by decide +kernel
theorem dX5_release_99 : decode cX5_release 99 = .ok (.aload_n 0, 1) := by decide +kernel
theorem dX5_release_100 : decode cX5_release 100 = .ok (.getfield 19, 3) := by decide +kernel
theorem dX5_release_103 : decode cX5_release 103 = .ok (.iload_n 1, 1) := by decide +kernel
theorem dX5_release_104 : decode cX5_release 104 = .ok (.iload_n 2, 1) := by decide +kernel
theorem dX5_release_105 : decode cX5_release 105 = .ok (.invokestatic 146, 3) := by decide +kernel
theorem dX5_release_108 : decode cX5_release 108 = .ok (.iconst 0, 1) := by decide +kernel
theorem dX5_release_109 : decode cX5_release 109 = .ok (.bastore, 1) := by decide +kernel
theorem dX5_release_110 : decode cX5_release 110 = .ok (.aload_n 0, 1) := by decide +kernel
theorem dX5_release_111 : decode cX5_release 111 = .ok (.bipush 117, 2) := by decide +kernel
theorem dX5_release_113 : decode cX5_release 113 = .ok (.iload_n 1, 1) := by decide +kernel
theorem dX5_release_114 : decode cX5_release 114 = .ok (.iload_n 2, 1) := by decide +kernel
theorem dX5_release_115 : decode cX5_release 115 = .ok (.iload_n 3, 1) := by decide +kernel
theorem dX5_release_116 : decode cX5_release 116 = .ok (.invokevirtual 162, 3) := by decide +kernel
theorem dX5_release_119 : decode cX5_release 119 = .ok (.ireturn, 1) := by decide +kernel
set_option maxRecDepth 20000 in
theorem ggX5_quit_X5_isClient : GoodIn wsX5_quit wsX5_isClient := goodIn_r _ [8, 9, 10, 11, 7, 12, 25, 26, 27, 28, 29, 30, 31, 32, 33, 34, 35, 36, 37, 38, 39, 40, 41, 42, 43, 44, 45, 46, 47, 48, 49, 50, 51, 52, 53, 54] (by decide +kernel) (by decide +kernel)
set_option maxRecDepth 20000 in
theorem gX5_quit_X5_isClient : GoodIn wsX5_quit (wsV RX5 137 RX5 yX5_isClient wsX5_isClient) := goodIn_app (goodIn_of _ (by decide +kernel)) ggX5_quit_X5_isClient
set_option maxRecDepth 20000 in
theorem ggX5_quit_X5_isLock : GoodIn wsX5_quit wsX5_isLock := goodIn_r _ [15, 10, 11, 7, 12] (by decide +kernel) (by decide +kernel)
set_option maxRecDepth 20000 in
theorem gX5_quit_X5_isLock : GoodIn wsX5_quit (va_wsS RX5 130 yX5_isLock wsX5_isLock) := goodIn_app (goodIn_of _ (by decide +kernel)) ggX5_quit_X5_isLock
set_option maxRecDepth 20000 in
theorem ggX5_quit_X5_placeIn : GoodIn wsX5_quit wsX5_placeIn := goodIn_ca (goodIn_r _ [19, 3, 20, 25, 26, 27, 28, 29, 30, 31, 32, 33, 34, 35, 36, 37, 38, 39, 40, 41, 42, 43, 44, 45, 46, 47, 48, 49, 50, 51, 52, 53, 54] (by decide +kernel) (by decide +kernel)) (goodIn_sub (fun _ h => List.mem_cons_of_mem _ (List.mem_append_right _ h)) (by decide +kernel))
set_option maxRecDepth 20000 in
theorem gX5_quit_X5_placeIn : GoodIn wsX5_quit (wsV RX5 143 RX5 yX5_placeIn wsX5_placeIn) := goodIn_app (goodIn_of _ (by decide +kernel)) ggX5_quit_X5_placeIn
set_option maxRecDepth 20000 in
theorem ggX5_quit_X5_leaves : GoodIn wsX5_quit wsX5_leaves := goodIn_ca (goodIn_r _ [24, 3, 20, 16, 17, 18, 7, 19, 25, 26, 27, 28, 29, 30, 31, 32, 33, 34, 35, 36, 37, 38, 39, 40, 41, 42, 43, 44, 45, 46, 47, 48, 49, 50, 51, 52, 53, 54] (by decide +kernel) (by decide +kernel)) (goodIn_sub (fun _ h => List.mem_cons_of_mem _ (List.mem_append_right _ h)) (by decide +kernel))
set_option maxRecDepth 20000 in
theorem gX5_quit_X5_leaves : GoodIn wsX5_quit (wsV RX5 149 RX5 yX5_leaves wsX5_leaves) := goodIn_app (goodIn_of _ (by decide +kernel)) ggX5_quit_X5_leaves
theorem dX5_quit_0 : decode cX5_quit 0 = .ok (.aload_n 0, 1) := by decide +kernel
theorem dX5_quit_1 : decode cX5_quit 1 = .ok (.aload_n 0, 1) := by decide +kernel
theorem dX5_quit_2 : decode cX5_quit 2 = .ok (.iload_n 1, 1) := by decide +kernel
theorem dX5_quit_3 : decode cX5_quit 3 = .ok (.invokevirtual 137, 3) := by decide +kernel
theorem dX5_quit_6 : decode cX5_quit 6 = .ok (.ifCond .ne 7, 3) := by decide +kernel
theorem dX5_quit_9 : decode cX5_quit 9 = .ok (.iconst 1, 1) := by decide +kernel
theorem dX5_quit_10 : decode cX5_quit 10 = .ok (.goto 28, 3) := by decide +kernel
theorem dX5_quit_13 : decode cX5_quit 13 = .ok (.iload_n 2, 1) := by decide +kernel
theorem dX5_quit_14 : decode cX5_quit 14 = .ok (.invokestatic 130, 3) := by decide +kernel
theorem dX5_quit_17 : decode cX5_quit 17 = .ok (.ifCond .ne 7, 3) := by decide +kernel
theorem dX5_quit_20 : decode cX5_quit 20 = .ok (.iconst 2, 1) := by decide +kernel
theorem dX5_quit_21 : decode cX5_quit 21 = .ok (.goto 17, 3) := by decide +kernel
theorem dX5_quit_24 : decode cX5_quit 24 = .ok (.aload_n 0, 1) := by decide +kernel
theorem dX5_quit_25 : decode cX5_quit 25 = .ok (.iload_n 1, 1) := by decide +kernel
theorem dX5_quit_26 : decode cX5_quit 26 = .ok (.iload_n 2, 1) := by decide +kernel
theorem dX5_quit_27 : decode cX5_quit 27 = .ok (.invokevirtual 143, 3) := by decide +kernel
theorem dX5_quit_30 : decode cX5_quit 30 = .ok (.ifCond .ge 7, 3) := by decide +kernel
theorem dX5_quit_33 : decode cX5_quit 33 = .ok (.iconst 3, 1) := by decide +kernel
theorem dX5_quit_34 : decode cX5_quit 34 = .ok (.goto 4, 3) := by decide +kernel
theorem dX5_quit_37 : decode cX5_quit 37 = .ok (.iconst 0, 1) := by decide +kernel
theorem dX5_quit_38 : decode cX5_quit 38 = .ok (.putfield 87, 3) := by decide +kernel
theorem dX5_quit_41 : decode cX5_quit 41 = .ok (.aload_n 0, 1) := by decide +kernel
theorem dX5_quit_42 : decode cX5_quit 42 = .ok (.getfield 87, 3) := by decide +kernel
theorem dX5_quit_45 : decode cX5_quit 45 = .ok (.ifCond .le 5, 3) := by decide +kernel
theorem dX5_quit_48 : decode cX5_quit 48 = .ok (.iconst 0, 1) := by decide +kernel
theorem dX5_quit_49 : decode cX5_quit 49 = .ok (.ireturn, 1) := by decide +kernel
theorem dX5_quit_50 : decode cX5_quit 50 = .ok (.aload_n 0, 1) := by decide +kernel
theorem dX5_quit_51 : decode cX5_quit 51 = .ok (.iload_n 1, 1) := by decide +kernel
theorem dX5_quit_52 : decode cX5_quit 52 = .ok (.iload_n 2, 1) := by decide +kernel
theorem dX5_quit_53 : decode cX5_quit 53 = .ok (.invokevirtual 149, 3) := by decide +kernel
theorem dX5_quit_56 : decode cX5_quit 56 = .ok (.aload_n 0, 1) := by decide +kernel
theorem dX5_quit_57 : decode cX5_quit 57 = .ok (.getfield 62, 3) := by decide +kernel
theorem dX5_quit_60 : decode cX5_quit 60 = .ok (.iload_n 2, 1) := by decide +kernel
theorem dX5_quit_61 : decode cX5_quit 61 = .ok (.iaload, 1) := by decide +kernel
theorem dX5_quit_62 : decode cX5_quit 62 = .ok (.iload_n 1, 1) := by decide +kernel
theorem dX5_quit_63 : decode cX5_quit 63 = .ok (.if_icmp .ne 10, 3) := by decide +kernel
theorem dX5_quit_66 : decode cX5_quit 66 = .ok (.aload_n 0, 1) := by decide +kernel
theorem dX5_quit_67 : decode cX5_quit 67 = .ok (.getfield 62, 3) := by decide +kernel
theorem dX5_quit_70 : decode cX5_quit 70 = .ok (.iload_n 2, 1) := by decide +kernel
theorem dX5_quit_71 : decode cX5_quit 71 = .ok (.iconst (-1), 1) := by decide +kernel
theorem dX5_quit_72 : decode cX5_quit 72 = .ok (.iastore, 1) := by decide +kernel
theorem dX5_quit_73 : decode cX5_quit 73 = .ok (.aload_n 0, 1) := by decide +kernel
theorem dX5_quit_74 : decode cX5_quit 74 = .ok (.getfield 71, 3) := by decide +kernel
theorem dX5_quit_77 : decode cX5_quit 77 = .ok (.iload_n 2, 1) := by decide +kernel
theorem dX5_quit_78 : decode cX5_quit 78 = .ok (.iaload, 1) := by decide +kernel
theorem dX5_quit_79 : decode cX5_quit 79 = .ok (.ireturn, 1) := by decide +kernel
set_option maxRecDepth 20000 in
theorem ggX5_read_X5_wrongAsk : GoodIn wsX5_read wsX5_wrongAsk := goodIn_r _ [12, 13, 14, 15, 11, 16, 17, 18, 19, 20, 21, 22, 23, 24, 25, 26, 61, 62, 63, 64, 65, 66, 67, 68, 69, 70, 71, 72, 73, 74, 75, 76, 77, 78, 79, 80, 81, 82, 83, 84, 85, 86, 87, 88, 89, 90] (by decide +kernel) (by decide +kernel)
set_option maxRecDepth 20000 in
theorem gX5_read_X5_wrongAsk : GoodIn wsX5_read (wsV RX5 166 RX5 yX5_wrongAsk wsX5_wrongAsk) := goodIn_app (goodIn_of _ (by decide +kernel)) ggX5_read_X5_wrongAsk
set_option maxRecDepth 20000 in
theorem ggX5_read_X5_cannotAsk : GoodIn wsX5_read wsX5_cannotAsk := goodIn_ca (goodIn_r _ [30, 31, 32, 33, 34, 35, 36, 11, 37, 38, 39, 61, 62, 63, 64, 65, 66, 67, 68, 69, 70, 71, 72, 73, 74, 75, 76, 77, 78, 79, 80, 81, 82, 83, 84, 85, 86, 87, 88, 89, 90] (by decide +kernel) (by decide +kernel)) (goodIn_sub (fun _ h => List.mem_cons_of_mem _ (List.mem_append_right _ h)) (by decide +kernel))
set_option maxRecDepth 20000 in
theorem gX5_read_X5_cannotAsk : GoodIn wsX5_read (wsV RX5 170 RX5 yX5_cannotAsk wsX5_cannotAsk) := goodIn_app (goodIn_of _ (by decide +kernel)) ggX5_read_X5_cannotAsk
set_option maxRecDepth 20000 in
theorem ggX5_read_X5_looks : GoodIn wsX5_read wsX5_looks := goodIn_ca (goodIn_r _ [43, 39, 44, 45, 46, 11, 47, 32, 48, 49, 50, 51, 52, 61, 62, 63, 64, 65, 66, 67, 68, 69, 70, 71, 72, 73, 74, 75, 76, 77, 78, 79, 80, 81, 82, 83, 84, 85, 86, 87, 88, 89, 90] (by decide +kernel) (by decide +kernel)) (goodIn_sub (fun _ h => List.mem_cons_of_mem _ (List.mem_append_right _ h)) (by decide +kernel))
set_option maxRecDepth 20000 in
theorem gX5_read_X5_looks : GoodIn wsX5_read (wsV RX5 173 RX5 yX5_looks wsX5_looks) := goodIn_app (goodIn_of _ (by decide +kernel)) ggX5_read_X5_looks
set_option maxRecDepth 20000 in
theorem ggX5_read_X5_at : GoodIn wsX5_read wsX5_at := goodIn_r _ [55] (by decide +kernel) (by decide +kernel)
set_option maxRecDepth 20000 in
theorem gX5_read_X5_at : GoodIn wsX5_read (va_wsS RX5 146 yX5_at wsX5_at) := goodIn_app (goodIn_of _ (by decide +kernel)) ggX5_read_X5_at
set_option maxRecDepth 20000 in
theorem ggX5_read_X5_clock : GoodIn wsX5_read wsX5_clock := goodIn_ca (goodIn_r _ [59, 7, 60, 61, 62, 63, 64, 65, 66, 67, 68, 69, 70, 71, 72, 73, 74, 75, 76, 77, 78, 79, 80, 81, 82, 83, 84, 85, 86, 87, 88, 89, 90] (by decide +kernel) (by decide +kernel)) (goodIn_sub (fun _ h => List.mem_cons_of_mem _ (List.mem_append_right _ h)) (by decide +kernel))
set_option maxRecDepth 20000 in
theorem gX5_read_X5_clock : GoodIn wsX5_read (wsV RX5 140 RX5 yX5_clock wsX5_clock) := goodIn_app (goodIn_of _ (by decide +kernel)) ggX5_read_X5_clock
theorem dX5_read_0 : decode cX5_read 0 = .ok (.aload_n 0, 1) := by decide +kernel
theorem dX5_read_1 : decode cX5_read 1 = .ok (.aload_n 0, 1) := by decide +kernel
theorem dX5_read_2 : decode cX5_read 2 = .ok (.iload_n 1, 1) := by decide +kernel
theorem dX5_read_3 : decode cX5_read 3 = .ok (.iload_n 2, 1) := by decide +kernel
theorem dX5_read_4 : decode cX5_read 4 = .ok (.iload_n 3, 1) := by decide +kernel
theorem dX5_read_5 : decode cX5_read 5 = .ok (.invokevirtual 166, 3) := by decide +kernel
theorem dX5_read_8 : decode cX5_read 8 = .ok (.putfield 87, 3) := by decide +kernel
theorem dX5_read_11 : decode cX5_read 11 = .ok (.aload_n 0, 1) := by decide +kernel
theorem dX5_read_12 : decode cX5_read 12 = .ok (.getfield 87, 3) := by decide +kernel
theorem dX5_read_15 : decode cX5_read 15 = .ok (.ifCond .ne 17, 3) := by decide +kernel
theorem dX5_read_18 : decode cX5_read 18 = .ok (.aload_n 0, 1) := by decide +kernel
theorem dX5_read_19 : decode cX5_read 19 = .ok (.iload_n 1, 1) := by decide +kernel
theorem dX5_read_20 : decode cX5_read 20 = .ok (.iload_n 3, 1) := by decide +kernel
theorem dX5_read_21 : decode cX5_read 21 = .ok (.invokevirtual 170, 3) := by decide +kernel
theorem dX5_read_24 : decode cX5_read 24 = .ok (.ifCond .eq 8, 3) := by decide +kernel
theorem dX5_read_27 : decode cX5_read 27 = .ok (.aload_n 0, 1) := by decide +kernel
theorem dX5_read_28 : decode cX5_read 28 = .ok (.iconst 3, 1) := by decide +kernel
theorem dX5_read_29 : decode cX5_read 29 = .ok (.putfield 87, 3) := by decide +kernel
theorem dX5_read_32 : decode cX5_read 32 = .ok (.aload_n 0, 1) := by decide +kernel
theorem dX5_read_33 : decode cX5_read 33 = .ok (.getfield 87, 3) := by decide +kernel
theorem dX5_read_36 : decode cX5_read 36 = .ok (.ifCond .le 6, 3) := by decide +kernel
theorem dX5_read_39 : decode cX5_read 39 = .ok (.bipush 32, 2) := by decide +kernel
theorem dX5_read_41 : decode cX5_read 41 = .ok (.ireturn, 1) := by decide +kernel
theorem dX5_read_42 : decode cX5_read 42 = .ok (.aload_n 0, 1) := by decide +kernel
theorem dX5_read_43 : decode cX5_read 43 = .ok (.iload_n 3, 1) := by decide +kernel
theorem dX5_read_44 : decode cX5_read 44 = .ok (.invokevirtual 173, 3) := by decide +kernel
theorem dX5_read_47 : decode cX5_read 47 = .ok (.istore 4, 2) := by decide +kernel
theorem dX5_read_49 : decode cX5_read 49 = .ok (.iload 4, 2) := by decide +kernel
theorem dX5_read_51 : decode cX5_read 51 = .ok (.bipush 45, 2) := by decide +kernel
theorem dX5_read_53 : decode cX5_read 53 = .ok (.if_icmp .eq 6, 3) := by decide +kernel
theorem dX5_read_56 : decode cX5_read 56 = .ok (.iload 4, 2) := by decide +kernel
theorem dX5_read_58 : decode cX5_read 58 = .ok (.ireturn, 1) := by decide +kernel
theorem dX5_read_59 : decode cX5_read 59 = .ok (.aload_n 0, 1) := by decide +kernel
theorem dX5_read_60 : decode cX5_read 60 = .ok (.getfield 22, 3) := by decide +kernel
theorem dX5_read_63 : decode cX5_read 63 = .ok (.iload_n 1, 1) := by decide +kernel
theorem dX5_read_64 : decode cX5_read 64 = .ok (.iload_n 2, 1) := by decide +kernel
theorem dX5_read_65 : decode cX5_read 65 = .ok (.invokestatic 146, 3) := by decide +kernel
theorem dX5_read_68 : decode cX5_read 68 = .ok (.iconst 1, 1) := by decide +kernel
theorem dX5_read_69 : decode cX5_read 69 = .ok (.bastore, 1) := by decide +kernel
theorem dX5_read_70 : decode cX5_read 70 = .ok (.aload_n 0, 1) := by decide +kernel
theorem dX5_read_71 : decode cX5_read 71 = .ok (.getfield 44, 3) := by decide +kernel
theorem dX5_read_74 : decode cX5_read 74 = .ok (.iload_n 1, 1) := by decide +kernel
theorem dX5_read_75 : decode cX5_read 75 = .ok (.iload_n 2, 1) := by decide +kernel
theorem dX5_read_76 : decode cX5_read 76 = .ok (.invokestatic 146, 3) := by decide +kernel
theorem dX5_read_79 : decode cX5_read 79 = .ok (.aload_n 0, 1) := by decide +kernel
theorem dX5_read_80 : decode cX5_read 80 = .ok (.iload_n 1, 1) := by decide +kernel
theorem dX5_read_81 : decode cX5_read 81 = .ok (.invokevirtual 140, 3) := by decide +kernel
theorem dX5_read_84 : decode cX5_read 84 = .ok (.iastore, 1) := by decide +kernel
theorem dX5_read_85 : decode cX5_read 85 = .ok (.aload_n 0, 1) := by decide +kernel
theorem dX5_read_86 : decode cX5_read 86 = .ok (.getfield 47, 3) := by decide +kernel
theorem dX5_read_89 : decode cX5_read 89 = .ok (.iload_n 1, 1) := by decide +kernel
theorem dX5_read_90 : decode cX5_read 90 = .ok (.iload_n 2, 1) := by decide +kernel
theorem dX5_read_91 : decode cX5_read 91 = .ok (.invokestatic 146, 3) := by decide +kernel
theorem dX5_read_94 : decode cX5_read 94 = .ok (.aload_n 0, 1) := by decide +kernel
theorem dX5_read_95 : decode cX5_read 95 = .ok (.getfield 65, 3) := by decide +kernel
theorem dX5_read_98 : decode cX5_read 98 = .ok (.iload_n 2, 1) := by decide +kernel
theorem dX5_read_99 : decode cX5_read 99 = .ok (.iaload, 1) := by decide +kernel
theorem dX5_read_100 : decode cX5_read 100 = .ok (.iastore, 1) := by decide +kernel
theorem dX5_read_101 : decode cX5_read 101 = .ok (.aload_n 0, 1) := by decide +kernel
theorem dX5_read_102 : decode cX5_read 102 = .ok (.getfield 50, 3) := by decide +kernel
theorem dX5_read_105 : decode cX5_read 105 = .ok (.iload_n 1, 1) := by decide +kernel
theorem dX5_read_106 : decode cX5_read 106 = .ok (.iload_n 2, 1) := by decide +kernel
theorem dX5_read_107 : decode cX5_read 107 = .ok (.invokestatic 146, 3) := by decide +kernel
theorem dX5_read_110 : decode cX5_read 110 = .ok (.aload_n 0, 1) := by decide +kernel
theorem dX5_read_111 : decode cX5_read 111 = .ok (.getfield 91, 3) := by decide +kernel
theorem dX5_read_114 : decode cX5_read 114 = .ok (.bipush 10, 2) := by decide +kernel
theorem dX5_read_116 : decode cX5_read 116 = .ok (.iadd, 1) := by decide +kernel
theorem dX5_read_117 : decode cX5_read 117 = .ok (.iastore, 1) := by decide +kernel
theorem dX5_read_118 : decode cX5_read 118 = .ok (.bipush 103, 2) := by decide +kernel
theorem dX5_read_120 : decode cX5_read 120 = .ok (.ireturn, 1) := by decide +kernel
set_option maxRecDepth 20000 in
theorem ggX5_isClaimed_X5_at : GoodIn wsX5_isClaimed wsX5_at := goodIn_r _ [7] (by decide +kernel) (by decide +kernel)
set_option maxRecDepth 20000 in
theorem gX5_isClaimed_X5_at : GoodIn wsX5_isClaimed (va_wsS RX5 146 yX5_at wsX5_at) := goodIn_app (goodIn_of _ (by decide +kernel)) ggX5_isClaimed_X5_at
set_option maxRecDepth 20000 in
theorem ggX5_isClaimed_X5_clock : GoodIn wsX5_isClaimed wsX5_clock := goodIn_ca (goodIn_r _ [11, 12, 13, 14, 15, 16, 17, 18, 19, 20, 21, 22, 23, 24, 25, 26, 27, 28, 29, 30, 31, 32, 33, 34, 35, 36, 37, 38, 39, 40, 41, 42, 43] (by decide +kernel) (by decide +kernel)) (goodIn_sub (fun _ h => List.mem_cons_of_mem _ (List.mem_append_right _ h)) (by decide +kernel))
set_option maxRecDepth 20000 in
theorem gX5_isClaimed_X5_clock : GoodIn wsX5_isClaimed (wsV RX5 140 RX5 yX5_clock wsX5_clock) := goodIn_app (goodIn_of _ (by decide +kernel)) ggX5_isClaimed_X5_clock
theorem dX5_isClaimed_0 : decode cX5_isClaimed 0 = .ok (.aload_n 0, 1) := by decide +kernel
theorem dX5_isClaimed_1 : decode cX5_isClaimed 1 = .ok (.getfield 16, 3) := by decide +kernel
theorem dX5_isClaimed_4 : decode cX5_isClaimed 4 = .ok (.iload_n 1, 1) := by decide +kernel
theorem dX5_isClaimed_5 : decode cX5_isClaimed 5 = .ok (.baload, 1) := by decide +kernel
theorem dX5_isClaimed_6 : decode cX5_isClaimed 6 = .ok (.ifCond .ne 41, 3) := by decide +kernel
theorem dX5_isClaimed_9 : decode cX5_isClaimed 9 = .ok (.aload_n 0, 1) := by decide +kernel
theorem dX5_isClaimed_10 : decode cX5_isClaimed 10 = .ok (.getfield 19, 3) := by decide +kernel
theorem dX5_isClaimed_13 : decode cX5_isClaimed 13 = .ok (.iload_n 1, 1) := by decide +kernel
theorem dX5_isClaimed_14 : decode cX5_isClaimed 14 = .ok (.iload_n 2, 1) := by decide +kernel
theorem dX5_isClaimed_15 : decode cX5_isClaimed 15 = .ok (.invokestatic 146, 3) := by decide +kernel
theorem dX5_isClaimed_18 : decode cX5_isClaimed 18 = .ok (.baload, 1) := by decide +kernel
theorem dX5_isClaimed_19 : decode cX5_isClaimed 19 = .ok (.ifCond .eq 28, 3) := by decide +kernel
theorem dX5_isClaimed_22 : decode cX5_isClaimed 22 = .ok (.aload_n 0, 1) := by decide +kernel
theorem dX5_isClaimed_23 : decode cX5_isClaimed 23 = .ok (.iload_n 1, 1) := by decide +kernel
theorem dX5_isClaimed_24 : decode cX5_isClaimed 24 = .ok (.invokevirtual 140, 3) := by decide +kernel
theorem dX5_isClaimed_27 : decode cX5_isClaimed 27 = .ok (.aload_n 0, 1) := by decide +kernel
theorem dX5_isClaimed_28 : decode cX5_isClaimed 28 = .ok (.getfield 41, 3) := by decide +kernel
theorem dX5_isClaimed_31 : decode cX5_isClaimed 31 = .ok (.iload_n 1, 1) := by decide +kernel
theorem dX5_isClaimed_32 : decode cX5_isClaimed 32 = .ok (.iload_n 2, 1) := by decide +kernel
theorem dX5_isClaimed_33 : decode cX5_isClaimed 33 = .ok (.invokestatic 146, 3) := by decide +kernel
theorem dX5_isClaimed_36 : decode cX5_isClaimed 36 = .ok (.iaload, 1) := by decide +kernel
theorem dX5_isClaimed_37 : decode cX5_isClaimed 37 = .ok (.isub, 1) := by decide +kernel
theorem dX5_isClaimed_38 : decode cX5_isClaimed 38 = .ok (.bipush 8, 2) := by decide +kernel
theorem dX5_isClaimed_40 : decode cX5_isClaimed 40 = .ok (.if_icmp .ge 7, 3) := by decide +kernel
theorem dX5_isClaimed_43 : decode cX5_isClaimed 43 = .ok (.iconst 1, 1) := by decide +kernel
theorem dX5_isClaimed_44 : decode cX5_isClaimed 44 = .ok (.goto 4, 3) := by decide +kernel
theorem dX5_isClaimed_47 : decode cX5_isClaimed 47 = .ok (.iconst 0, 1) := by decide +kernel
theorem dX5_isClaimed_48 : decode cX5_isClaimed 48 = .ok (.ireturn, 1) := by decide +kernel
set_option maxRecDepth 20000 in
theorem ggX5_isBlocked_X5_at : GoodIn wsX5_isBlocked wsX5_at := goodIn_r _ [8] (by decide +kernel) (by decide +kernel)
set_option maxRecDepth 20000 in
theorem gX5_isBlocked_X5_at : GoodIn wsX5_isBlocked (va_wsS RX5 146 yX5_at wsX5_at) := goodIn_app (goodIn_of _ (by decide +kernel)) ggX5_isBlocked_X5_at
theorem dX5_isBlocked_0 : decode cX5_isBlocked 0 = .ok (.iconst 0, 1) := by decide +kernel
theorem dX5_isBlocked_1 : decode cX5_isBlocked 1 = .ok (.istore_n 2, 1) := by decide +kernel
theorem dX5_isBlocked_2 : decode cX5_isBlocked 2 = .ok (.iload_n 2, 1) := by decide +kernel
theorem dX5_isBlocked_3 : decode cX5_isBlocked 3 = .ok (.aload_n 0, 1) := by decide +kernel
theorem dX5_isBlocked_4 : decode cX5_isBlocked 4 = .ok (.getfield 94, 3) := by decide +kernel
theorem dX5_isBlocked_7 : decode cX5_isBlocked 7 = .ok (.if_icmp .ge 37, 3) := by decide +kernel
theorem dX5_isBlocked_10 : decode cX5_isBlocked 10 = .ok (.aload_n 0, 1) := by decide +kernel
theorem dX5_isBlocked_11 : decode cX5_isBlocked 11 = .ok (.getfield 16, 3) := by decide +kernel
theorem dX5_isBlocked_14 : decode cX5_isBlocked 14 = .ok (.iload_n 2, 1) := by decide +kernel
theorem dX5_isBlocked_15 : decode cX5_isBlocked 15 = .ok (.baload, 1) := by decide +kernel
theorem dX5_isBlocked_16 : decode cX5_isBlocked 16 = .ok (.ifCond .eq 22, 3) := by decide +kernel
theorem dX5_isBlocked_19 : decode cX5_isBlocked 19 = .ok (.aload_n 0, 1) := by decide +kernel
theorem dX5_isBlocked_20 : decode cX5_isBlocked 20 = .ok (.getfield 50, 3) := by decide +kernel
theorem dX5_isBlocked_23 : decode cX5_isBlocked 23 = .ok (.iload_n 2, 1) := by decide +kernel
theorem dX5_isBlocked_24 : decode cX5_isBlocked 24 = .ok (.iload_n 1, 1) := by decide +kernel
theorem dX5_isBlocked_25 : decode cX5_isBlocked 25 = .ok (.invokestatic 146, 3) := by decide +kernel
theorem dX5_isBlocked_28 : decode cX5_isBlocked 28 = .ok (.iaload, 1) := by decide +kernel
theorem dX5_isBlocked_29 : decode cX5_isBlocked 29 = .ok (.aload_n 0, 1) := by decide +kernel
theorem dX5_isBlocked_30 : decode cX5_isBlocked 30 = .ok (.getfield 91, 3) := by decide +kernel
theorem dX5_isBlocked_33 : decode cX5_isBlocked 33 = .ok (.if_icmp .le 5, 3) := by decide +kernel
theorem dX5_isBlocked_36 : decode cX5_isBlocked 36 = .ok (.iconst 1, 1) := by decide +kernel
theorem dX5_isBlocked_37 : decode cX5_isBlocked 37 = .ok (.ireturn, 1) := by decide +kernel
theorem dX5_isBlocked_38 : decode cX5_isBlocked 38 = .ok (.iinc 2 1, 3) := by decide +kernel
theorem dX5_isBlocked_41 : decode cX5_isBlocked 41 = .ok (.goto (-39), 3) := by decide +kernel
theorem dX5_isBlocked_44 : decode cX5_isBlocked 44 = .ok (.iconst 0, 1) := by decide +kernel
theorem dX5_isBlocked_45 : decode cX5_isBlocked 45 = .ok (.ireturn, 1) := by decide +kernel
set_option maxRecDepth 20000 in
theorem ggX5_write_X5_wrongAsk : GoodIn wsX5_write wsX5_wrongAsk := goodIn_r _ [10, 11, 12, 13, 9, 14, 2, 15, 16, 17, 18, 19, 20, 21, 22, 23, 88, 89, 90, 91, 92, 93, 94, 95, 96, 97, 98, 99, 100, 101, 102, 103, 104, 105, 106, 107, 108, 109, 110, 111, 112, 113, 114, 115, 116, 117] (by decide +kernel) (by decide +kernel)
set_option maxRecDepth 20000 in
theorem gX5_write_X5_wrongAsk : GoodIn wsX5_write (wsV RX5 166 RX5 yX5_wrongAsk wsX5_wrongAsk) := goodIn_app (goodIn_of _ (by decide +kernel)) ggX5_write_X5_wrongAsk
set_option maxRecDepth 20000 in
theorem ggX5_write_X5_in : GoodIn wsX5_write wsX5_in := goodIn_r _ [17] (by decide +kernel) (by decide +kernel)
set_option maxRecDepth 20000 in
theorem gX5_write_X5_in : GoodIn wsX5_write (va_wsS RX5 104 yX5_in wsX5_in) := goodIn_app (goodIn_of _ (by decide +kernel)) ggX5_write_X5_in
set_option maxRecDepth 20000 in
theorem ggX5_write_X5_cannotAsk : GoodIn wsX5_write wsX5_cannotAsk := goodIn_ca (goodIn_r _ [27, 28, 29, 30, 31, 32, 33, 9, 34, 35, 36, 88, 89, 90, 91, 92, 93, 94, 95, 96, 97, 98, 99, 100, 101, 102, 103, 104, 105, 106, 107, 108, 109, 110, 111, 112, 113, 114, 115, 116, 117] (by decide +kernel) (by decide +kernel)) (goodIn_sub (fun _ h => List.mem_cons_of_mem _ (List.mem_append_right _ h)) (by decide +kernel))
set_option maxRecDepth 20000 in
theorem gX5_write_X5_cannotAsk : GoodIn wsX5_write (wsV RX5 170 RX5 yX5_cannotAsk wsX5_cannotAsk) := goodIn_app (goodIn_of _ (by decide +kernel)) ggX5_write_X5_cannotAsk
set_option maxRecDepth 20000 in
theorem ggX5_write_X5_looks : GoodIn wsX5_write wsX5_looks := goodIn_ca (goodIn_r _ [40, 36, 41, 42, 43, 9, 44, 29, 45, 46, 47, 48, 49, 88, 89, 90, 91, 92, 93, 94, 95, 96, 97, 98, 99, 100, 101, 102, 103, 104, 105, 106, 107, 108, 109, 110, 111, 112, 113, 114, 115, 116, 117] (by decide +kernel) (by decide +kernel)) (goodIn_sub (fun _ h => List.mem_cons_of_mem _ (List.mem_append_right _ h)) (by decide +kernel))
set_option maxRecDepth 20000 in
theorem gX5_write_X5_looks : GoodIn wsX5_write (wsV RX5 173 RX5 yX5_looks wsX5_looks) := goodIn_app (goodIn_of _ (by decide +kernel)) ggX5_write_X5_looks
set_option maxRecDepth 20000 in
theorem ggX5_write_X5_owns : GoodIn wsX5_write wsX5_owns := goodIn_ca (goodIn_r _ [53, 54, 55, 56, 57, 9, 58, 59, 60, 88, 89, 90, 91, 92, 93, 94, 95, 96, 97, 98, 99, 100, 101, 102, 103, 104, 105, 106, 107, 108, 109, 110, 111, 112, 113, 114, 115, 116, 117] (by decide +kernel) (by decide +kernel)) (goodIn_sub (fun _ h => List.mem_cons_of_mem _ (List.mem_append_right _ h)) (by decide +kernel))
set_option maxRecDepth 20000 in
theorem gX5_write_X5_owns : GoodIn wsX5_write (wsV RX5 184 RX5 yX5_owns wsX5_owns) := goodIn_app (goodIn_of _ (by decide +kernel)) ggX5_write_X5_owns
set_option maxRecDepth 20000 in
theorem ggX5_write_X5_isClaimed : GoodIn wsX5_write wsX5_isClaimed := goodIn_ca (goodIn_r _ [64, 28, 65, 66, 67, 68, 9, 69, 70, 71, 72, 73, 60, 74, 88, 89, 90, 91, 92, 93, 94, 95, 96, 97, 98, 99, 100, 101, 102, 103, 104, 105, 106, 107, 108, 109, 110, 111, 112, 113, 114, 115, 116, 117] (by decide +kernel) (by decide +kernel)) (goodIn_sub (fun _ h => List.mem_cons_of_mem _ (List.mem_append_right _ h)) (by decide +kernel))
set_option maxRecDepth 20000 in
theorem gX5_write_X5_isClaimed : GoodIn wsX5_write (wsV RX5 187 RX5 yX5_isClaimed wsX5_isClaimed) := goodIn_app (goodIn_of _ (by decide +kernel)) ggX5_write_X5_isClaimed
set_option maxRecDepth 20000 in
theorem ggX5_write_X5_isBlocked : GoodIn wsX5_write wsX5_isBlocked := goodIn_ca (goodIn_r _ [78, 2, 28, 4, 60, 67, 68, 9, 69, 88, 89, 90, 91, 92, 93, 94, 95, 96, 97, 98, 99, 100, 101, 102, 103, 104, 105, 106, 107, 108, 109, 110, 111, 112, 113, 114, 115, 116, 117] (by decide +kernel) (by decide +kernel)) (goodIn_sub (fun _ h => List.mem_cons_of_mem _ (List.mem_append_right _ h)) (by decide +kernel))
set_option maxRecDepth 20000 in
theorem gX5_write_X5_isBlocked : GoodIn wsX5_write (wsV RX5 190 RX5 yX5_isBlocked wsX5_isBlocked) := goodIn_app (goodIn_of _ (by decide +kernel)) ggX5_write_X5_isBlocked
set_option maxRecDepth 20000 in
theorem ggX5_write_X5_at : GoodIn wsX5_write wsX5_at := goodIn_r _ [69] (by decide +kernel) (by decide +kernel)
set_option maxRecDepth 20000 in
theorem gX5_write_X5_at : GoodIn wsX5_write (va_wsS RX5 146 yX5_at wsX5_at) := goodIn_app (goodIn_of _ (by decide +kernel)) ggX5_write_X5_at
set_option maxRecDepth 20000 in
theorem ggX5_write_X5_enters : GoodIn wsX5_write wsX5_enters := goodIn_ca (goodIn_r _ [82, 83, 30, 84, 36, 85, 86, 87, 41, 42, 43, 9, 44, 29, 45, 88, 89, 90, 91, 92, 93, 94, 95, 96, 97, 98, 99, 100, 101, 102, 103, 104, 105, 106, 107, 108, 109, 110, 111, 112, 113, 114, 115, 116, 117] (by decide +kernel) (by decide +kernel)) (goodIn_sub (fun _ h => List.mem_cons_of_mem _ (List.mem_append_right _ h)) (by decide +kernel))
set_option maxRecDepth 20000 in
theorem gX5_write_X5_enters : GoodIn wsX5_write (wsV RX5 162 RX5 yX5_enters wsX5_enters) := goodIn_app (goodIn_of _ (by decide +kernel)) ggX5_write_X5_enters
theorem dX5_write_0 : decode cX5_write 0 = .ok (.aload_n 0, 1) := by decide +kernel
theorem dX5_write_1 : decode cX5_write 1 = .ok (.aload_n 0, 1) := by decide +kernel
theorem dX5_write_2 : decode cX5_write 2 = .ok (.iload_n 1, 1) := by decide +kernel
theorem dX5_write_3 : decode cX5_write 3 = .ok (.iload_n 2, 1) := by decide +kernel
theorem dX5_write_4 : decode cX5_write 4 = .ok (.iload_n 3, 1) := by decide +kernel
theorem dX5_write_5 : decode cX5_write 5 = .ok (.invokevirtual 166, 3) := by decide +kernel
theorem dX5_write_8 : decode cX5_write 8 = .ok (.putfield 87, 3) := by decide +kernel
theorem dX5_write_11 : decode cX5_write 11 = .ok (.aload_n 0, 1) := by decide +kernel
theorem dX5_write_12 : decode cX5_write 12 = .ok (.getfield 87, 3) := by decide +kernel
theorem dX5_write_15 : decode cX5_write 15 = .ok (.ifCond .ne 20, 3) := by decide +kernel
theorem dX5_write_18 : decode cX5_write 18 = .ok (.iload 4, 2) := by decide +kernel
theorem dX5_write_20 : decode cX5_write 20 = .ok (.iconst 0, 1) := by decide +kernel
theorem dX5_write_21 : decode cX5_write 21 = .ok (.sipush 999, 3) := by decide +kernel
theorem dX5_write_24 : decode cX5_write 24 = .ok (.invokestatic 104, 3) := by decide +kernel
theorem dX5_write_27 : decode cX5_write 27 = .ok (.ifCond .ne 8, 3) := by decide +kernel
theorem dX5_write_30 : decode cX5_write 30 = .ok (.aload_n 0, 1) := by decide +kernel
theorem dX5_write_31 : decode cX5_write 31 = .ok (.iconst 3, 1) := by decide +kernel
theorem dX5_write_32 : decode cX5_write 32 = .ok (.putfield 87, 3) := by decide +kernel
theorem dX5_write_35 : decode cX5_write 35 = .ok (.aload_n 0, 1) := by decide +kernel
theorem dX5_write_36 : decode cX5_write 36 = .ok (.getfield 87, 3) := by decide +kernel
theorem dX5_write_39 : decode cX5_write 39 = .ok (.ifCond .ne 17, 3) := by decide +kernel
theorem dX5_write_42 : decode cX5_write 42 = .ok (.aload_n 0, 1) := by decide +kernel
theorem dX5_write_43 : decode cX5_write 43 = .ok (.iload_n 1, 1) := by decide +kernel
theorem dX5_write_44 : decode cX5_write 44 = .ok (.iload_n 3, 1) := by decide +kernel
theorem dX5_write_45 : decode cX5_write 45 = .ok (.invokevirtual 170, 3) := by decide +kernel
theorem dX5_write_48 : decode cX5_write 48 = .ok (.ifCond .eq 8, 3) := by decide +kernel
theorem dX5_write_51 : decode cX5_write 51 = .ok (.aload_n 0, 1) := by decide +kernel
theorem dX5_write_52 : decode cX5_write 52 = .ok (.iconst 4, 1) := by decide +kernel
theorem dX5_write_53 : decode cX5_write 53 = .ok (.putfield 87, 3) := by decide +kernel
theorem dX5_write_56 : decode cX5_write 56 = .ok (.aload_n 0, 1) := by decide +kernel
theorem dX5_write_57 : decode cX5_write 57 = .ok (.getfield 87, 3) := by decide +kernel
theorem dX5_write_60 : decode cX5_write 60 = .ok (.ifCond .le 6, 3) := by decide +kernel
theorem dX5_write_63 : decode cX5_write 63 = .ok (.bipush 32, 2) := by decide +kernel
theorem dX5_write_65 : decode cX5_write 65 = .ok (.ireturn, 1) := by decide +kernel
theorem dX5_write_66 : decode cX5_write 66 = .ok (.aload_n 0, 1) := by decide +kernel
theorem dX5_write_67 : decode cX5_write 67 = .ok (.iload_n 3, 1) := by decide +kernel
theorem dX5_write_68 : decode cX5_write 68 = .ok (.invokevirtual 173, 3) := by decide +kernel
theorem dX5_write_71 : decode cX5_write 71 = .ok (.istore 5, 2) := by decide +kernel
theorem dX5_write_73 : decode cX5_write 73 = .ok (.iload 5, 2) := by decide +kernel
theorem dX5_write_75 : decode cX5_write 75 = .ok (.bipush 45, 2) := by decide +kernel
theorem dX5_write_77 : decode cX5_write 77 = .ok (.if_icmp .eq 6, 3) := by decide +kernel
theorem dX5_write_80 : decode cX5_write 80 = .ok (.iload 5, 2) := by decide +kernel
theorem dX5_write_82 : decode cX5_write 82 = .ok (.ireturn, 1) := by decide +kernel
theorem dX5_write_83 : decode cX5_write 83 = .ok (.aload_n 0, 1) := by decide +kernel
theorem dX5_write_84 : decode cX5_write 84 = .ok (.iload_n 1, 1) := by decide +kernel
theorem dX5_write_85 : decode cX5_write 85 = .ok (.iload_n 2, 1) := by decide +kernel
theorem dX5_write_86 : decode cX5_write 86 = .ok (.invokevirtual 184, 3) := by decide +kernel
theorem dX5_write_89 : decode cX5_write 89 = .ok (.ifCond .eq 12, 3) := by decide +kernel
theorem dX5_write_92 : decode cX5_write 92 = .ok (.aload_n 0, 1) := by decide +kernel
theorem dX5_write_93 : decode cX5_write 93 = .ok (.iload_n 1, 1) := by decide +kernel
theorem dX5_write_94 : decode cX5_write 94 = .ok (.iload_n 2, 1) := by decide +kernel
theorem dX5_write_95 : decode cX5_write 95 = .ok (.invokevirtual 187, 3) := by decide +kernel
theorem dX5_write_98 : decode cX5_write 98 = .ok (.ifCond .ne 6, 3) := by decide +kernel
theorem dX5_write_101 : decode cX5_write 101 = .ok (.bipush 111, 2) := by decide +kernel
theorem dX5_write_103 : decode cX5_write 103 = .ok (.ireturn, 1) := by decide +kernel
theorem dX5_write_104 : decode cX5_write 104 = .ok (.aload_n 0, 1) := by decide +kernel
theorem dX5_write_105 : decode cX5_write 105 = .ok (.iload_n 2, 1) := by decide +kernel
theorem dX5_write_106 : decode cX5_write 106 = .ok (.invokevirtual 190, 3) := by decide +kernel
theorem dX5_write_109 : decode cX5_write 109 = .ok (.ifCond .eq 6, 3) := by decide +kernel
theorem dX5_write_112 : decode cX5_write 112 = .ok (.bipush 98, 2) := by decide +kernel
theorem dX5_write_114 : decode cX5_write 114 = .ok (.ireturn, 1) := by decide +kernel
theorem dX5_write_115 : decode cX5_write 115 = .ok (.iconst 0, 1) := by decide +kernel
theorem dX5_write_116 : decode cX5_write 116 = .ok (.istore 6, 2) := by decide +kernel
theorem dX5_write_118 : decode cX5_write 118 = .ok (.iload 6, 2) := by decide +kernel
theorem dX5_write_120 : decode cX5_write 120 = .ok (.aload_n 0, 1) := by decide +kernel
theorem dX5_write_121 : decode cX5_write 121 = .ok (.getfield 94, 3) := by decide +kernel
theorem dX5_write_124 : decode cX5_write 124 = .ok (.if_icmp .ge 33, 3) := by decide +kernel
theorem dX5_write_127 : decode cX5_write 127 = .ok (.aload_n 0, 1) := by decide +kernel
theorem dX5_write_128 : decode cX5_write 128 = .ok (.getfield 22, 3) := by decide +kernel
theorem dX5_write_131 : decode cX5_write 131 = .ok (.iload 6, 2) := by decide +kernel
theorem dX5_write_133 : decode cX5_write 133 = .ok (.iload_n 2, 1) := by decide +kernel
theorem dX5_write_134 : decode cX5_write 134 = .ok (.invokestatic 146, 3) := by decide +kernel
theorem dX5_write_137 : decode cX5_write 137 = .ok (.iconst 0, 1) := by decide +kernel
theorem dX5_write_138 : decode cX5_write 138 = .ok (.bastore, 1) := by decide +kernel
theorem dX5_write_139 : decode cX5_write 139 = .ok (.aload_n 0, 1) := by decide +kernel
theorem dX5_write_140 : decode cX5_write 140 = .ok (.getfield 50, 3) := by decide +kernel
theorem dX5_write_143 : decode cX5_write 143 = .ok (.iload 6, 2) := by decide +kernel
theorem dX5_write_145 : decode cX5_write 145 = .ok (.iload_n 2, 1) := by decide +kernel
theorem dX5_write_146 : decode cX5_write 146 = .ok (.invokestatic 146, 3) := by decide +kernel
theorem dX5_write_149 : decode cX5_write 149 = .ok (.iconst 0, 1) := by decide +kernel
theorem dX5_write_150 : decode cX5_write 150 = .ok (.iastore, 1) := by decide +kernel
theorem dX5_write_151 : decode cX5_write 151 = .ok (.iinc 6 1, 3) := by decide +kernel
theorem dX5_write_154 : decode cX5_write 154 = .ok (.goto (-36), 3) := by decide +kernel
theorem dX5_write_157 : decode cX5_write 157 = .ok (.aload_n 0, 1) := by decide +kernel
theorem dX5_write_158 : decode cX5_write 158 = .ok (.getfield 65, 3) := by decide +kernel
theorem dX5_write_161 : decode cX5_write 161 = .ok (.iload_n 2, 1) := by decide +kernel
theorem dX5_write_162 : decode cX5_write 162 = .ok (.iload 4, 2) := by decide +kernel
theorem dX5_write_164 : decode cX5_write 164 = .ok (.iastore, 1) := by decide +kernel
theorem dX5_write_165 : decode cX5_write 165 = .ok (.aload_n 0, 1) := by decide +kernel
theorem dX5_write_166 : decode cX5_write 166 = .ok (.bipush 118, 2) := by decide +kernel
theorem dX5_write_168 : decode cX5_write 168 = .ok (.iload_n 1, 1) := by decide +kernel
theorem dX5_write_169 : decode cX5_write 169 = .ok (.iload_n 2, 1) := by decide +kernel
theorem dX5_write_170 : decode cX5_write 170 = .ok (.iload_n 3, 1) := by decide +kernel
theorem dX5_write_171 : decode cX5_write 171 = .ok (.invokevirtual 162, 3) := by decide +kernel
theorem dX5_write_174 : decode cX5_write 174 = .ok (.ireturn, 1) := by decide +kernel
set_option maxRecDepth 20000 in
theorem ggX5_wrongLock_X5_isLock : GoodIn wsX5_wrongLock wsX5_isLock := goodIn_r _ [4, 5, 6, 3, 7] (by decide +kernel) (by decide +kernel)
set_option maxRecDepth 20000 in
theorem gX5_wrongLock_X5_isLock : GoodIn wsX5_wrongLock (va_wsS RX5 130 yX5_isLock wsX5_isLock) := goodIn_app (goodIn_of _ (by decide +kernel)) ggX5_wrongLock_X5_isLock
theorem dX5_wrongLock_0 : decode cX5_wrongLock 0 = .ok (.iload_n 1, 1) := by decide +kernel
theorem dX5_wrongLock_1 : decode cX5_wrongLock 1 = .ok (.invokestatic 130, 3) := by decide +kernel
theorem dX5_wrongLock_4 : decode cX5_wrongLock 4 = .ok (.ifCond .ne 7, 3) := by decide +kernel
theorem dX5_wrongLock_7 : decode cX5_wrongLock 7 = .ok (.iconst 1, 1) := by decide +kernel
theorem dX5_wrongLock_8 : decode cX5_wrongLock 8 = .ok (.goto 12, 3) := by decide +kernel
theorem dX5_wrongLock_11 : decode cX5_wrongLock 11 = .ok (.iload_n 2, 1) := by decide +kernel
theorem dX5_wrongLock_12 : decode cX5_wrongLock 12 = .ok (.ifCond .eq 7, 3) := by decide +kernel
theorem dX5_wrongLock_15 : decode cX5_wrongLock 15 = .ok (.iconst 0, 1) := by decide +kernel
theorem dX5_wrongLock_16 : decode cX5_wrongLock 16 = .ok (.goto 4, 3) := by decide +kernel
theorem dX5_wrongLock_19 : decode cX5_wrongLock 19 = .ok (.iconst 2, 1) := by decide +kernel
theorem dX5_wrongLock_20 : decode cX5_wrongLock 20 = .ok (.ireturn, 1) := by decide +kernel
set_option maxRecDepth 20000 in
theorem ggX5_owner_X5_isLock : GoodIn wsX5_owner wsX5_isLock := goodIn_r _ [6, 7, 8, 5, 9] (by decide +kernel) (by decide +kernel)
set_option maxRecDepth 20000 in
theorem gX5_owner_X5_isLock : GoodIn wsX5_owner (va_wsS RX5 130 yX5_isLock wsX5_isLock) := goodIn_app (goodIn_of _ (by decide +kernel)) ggX5_owner_X5_isLock
set_option maxRecDepth 20000 in
theorem ggX5_owner_X5_isFree : GoodIn wsX5_owner wsX5_isFree := goodIn_ca (goodIn_r _ [13, 2, 14, 15, 20, 21, 22, 23, 24, 25, 26, 27, 28, 29, 30, 31, 32, 33, 34, 35, 36, 37, 38, 39, 40, 41, 42, 43, 44, 45, 46, 47, 48, 49] (by decide +kernel) (by decide +kernel)) (goodIn_sub (fun _ h => List.mem_cons_of_mem _ (List.mem_append_right _ h)) (by decide +kernel))
set_option maxRecDepth 20000 in
theorem gX5_owner_X5_isFree : GoodIn wsX5_owner (wsV RX5 156 RX5 yX5_isFree wsX5_isFree) := goodIn_app (goodIn_of _ (by decide +kernel)) ggX5_owner_X5_isFree
set_option maxRecDepth 20000 in
theorem ggX5_owner_X5_wrongLock : GoodIn wsX5_owner wsX5_wrongLock := goodIn_r _ [19, 3, 4, 5, 6, 7, 8, 9] (by decide +kernel) (by decide +kernel)
set_option maxRecDepth 20000 in
theorem gX5_owner_X5_wrongLock : GoodIn wsX5_owner (wsV RX5 193 RX5 yX5_wrongLock wsX5_wrongLock) := goodIn_app (goodIn_of _ (by decide +kernel)) ggX5_owner_X5_wrongLock
theorem dX5_owner_0 : decode cX5_owner 0 = .ok (.aload_n 0, 1) := by decide +kernel
theorem dX5_owner_1 : decode cX5_owner 1 = .ok (.aload_n 0, 1) := by decide +kernel
theorem dX5_owner_2 : decode cX5_owner 2 = .ok (.iload_n 1, 1) := by decide +kernel
theorem dX5_owner_3 : decode cX5_owner 3 = .ok (.iload_n 1, 1) := by decide +kernel
theorem dX5_owner_4 : decode cX5_owner 4 = .ok (.invokestatic 130, 3) := by decide +kernel
theorem dX5_owner_7 : decode cX5_owner 7 = .ok (.ifCond .eq 15, 3) := by decide +kernel
theorem dX5_owner_10 : decode cX5_owner 10 = .ok (.aload_n 0, 1) := by decide +kernel
theorem dX5_owner_11 : decode cX5_owner 11 = .ok (.iload_n 1, 1) := by decide +kernel
theorem dX5_owner_12 : decode cX5_owner 12 = .ok (.invokevirtual 156, 3) := by decide +kernel
theorem dX5_owner_15 : decode cX5_owner 15 = .ok (.ifCond .ne 7, 3) := by decide +kernel
theorem dX5_owner_18 : decode cX5_owner 18 = .ok (.iconst 1, 1) := by decide +kernel
theorem dX5_owner_19 : decode cX5_owner 19 = .ok (.goto 4, 3) := by decide +kernel
theorem dX5_owner_22 : decode cX5_owner 22 = .ok (.iconst 0, 1) := by decide +kernel
theorem dX5_owner_23 : decode cX5_owner 23 = .ok (.invokevirtual 193, 3) := by decide +kernel
theorem dX5_owner_26 : decode cX5_owner 26 = .ok (.putfield 87, 3) := by decide +kernel
theorem dX5_owner_29 : decode cX5_owner 29 = .ok (.aload_n 0, 1) := by decide +kernel
theorem dX5_owner_30 : decode cX5_owner 30 = .ok (.getfield 87, 3) := by decide +kernel
theorem dX5_owner_33 : decode cX5_owner 33 = .ok (.ifCond .le 7, 3) := by decide +kernel
theorem dX5_owner_36 : decode cX5_owner 36 = .ok (.iconst 0, 1) := by decide +kernel
theorem dX5_owner_37 : decode cX5_owner 37 = .ok (.goto 9, 3) := by decide +kernel
theorem dX5_owner_40 : decode cX5_owner 40 = .ok (.aload_n 0, 1) := by decide +kernel
theorem dX5_owner_41 : decode cX5_owner 41 = .ok (.getfield 53, 3) := by decide +kernel
theorem dX5_owner_44 : decode cX5_owner 44 = .ok (.iload_n 1, 1) := by decide +kernel
theorem dX5_owner_45 : decode cX5_owner 45 = .ok (.iaload, 1) := by decide +kernel
theorem dX5_owner_46 : decode cX5_owner 46 = .ok (.ireturn, 1) := by decide +kernel
set_option maxRecDepth 20000 in
theorem ggX5_ownerByLog_X5_owner : GoodIn wsX5_ownerByLog wsX5_owner := goodIn_ca (goodIn_r _ [5, 6, 7, 8, 9, 4, 10, 11, 12, 13, 14, 15, 16, 17, 18, 19, 20, 21, 22, 23, 24, 25, 26, 27, 28, 29, 30, 31, 32, 33, 34, 35, 36, 37, 38, 39, 40, 41, 42, 43, 44, 45, 46, 47, 48, 49, 50, 51, 52, 53] (by decide +kernel) (by decide +kernel)) (goodIn_sub (fun _ h => List.mem_cons_of_mem _ (List.mem_append_right _ h)) (by decide +kernel))
set_option maxRecDepth 20000 in
theorem gX5_ownerByLog_X5_owner : GoodIn wsX5_ownerByLog (wsV RX5 197 RX5 yX5_owner wsX5_owner) := goodIn_app (goodIn_of _ (by decide +kernel)) ggX5_ownerByLog_X5_owner
theorem dX5_ownerByLog_0 : decode cX5_ownerByLog 0 = .ok (.aload_n 0, 1) := by decide +kernel
theorem dX5_ownerByLog_1 : decode cX5_ownerByLog 1 = .ok (.iload_n 1, 1) := by decide +kernel
theorem dX5_ownerByLog_2 : decode cX5_ownerByLog 2 = .ok (.invokevirtual 197, 3) := by decide +kernel
theorem dX5_ownerByLog_5 : decode cX5_ownerByLog 5 = .ok (.ireturn, 1) := by decide +kernel
set_option maxRecDepth 20000 in
theorem ggX5_endOf_X5_isLock : GoodIn wsX5_endOf wsX5_isLock := goodIn_r _ [6, 7, 8, 5, 9] (by decide +kernel) (by decide +kernel)
set_option maxRecDepth 20000 in
theorem gX5_endOf_X5_isLock : GoodIn wsX5_endOf (va_wsS RX5 130 yX5_isLock wsX5_isLock) := goodIn_app (goodIn_of _ (by decide +kernel)) ggX5_endOf_X5_isLock
set_option maxRecDepth 20000 in
theorem ggX5_endOf_X5_isFree : GoodIn wsX5_endOf wsX5_isFree := goodIn_ca (goodIn_r _ [13, 14, 2, 15, 20, 21, 22, 23, 24, 25, 26, 27, 28, 29, 30, 31, 32, 33, 34, 35, 36, 37, 38, 39, 40, 41, 42, 43, 44, 45, 46, 47, 48, 49] (by decide +kernel) (by decide +kernel)) (goodIn_sub (fun _ h => List.mem_cons_of_mem _ (List.mem_append_right _ h)) (by decide +kernel))
set_option maxRecDepth 20000 in
theorem gX5_endOf_X5_isFree : GoodIn wsX5_endOf (wsV RX5 156 RX5 yX5_isFree wsX5_isFree) := goodIn_app (goodIn_of _ (by decide +kernel)) ggX5_endOf_X5_isFree
set_option maxRecDepth 20000 in
theorem ggX5_endOf_X5_wrongLock : GoodIn wsX5_endOf wsX5_wrongLock := goodIn_r _ [19, 3, 4, 5, 6, 7, 8, 9] (by decide +kernel) (by decide +kernel)
set_option maxRecDepth 20000 in
theorem gX5_endOf_X5_wrongLock : GoodIn wsX5_endOf (wsV RX5 193 RX5 yX5_wrongLock wsX5_wrongLock) := goodIn_app (goodIn_of _ (by decide +kernel)) ggX5_endOf_X5_wrongLock
theorem dX5_endOf_0 : decode cX5_endOf 0 = .ok (.aload_n 0, 1) := by decide +kernel
theorem dX5_endOf_1 : decode cX5_endOf 1 = .ok (.aload_n 0, 1) := by decide +kernel
theorem dX5_endOf_2 : decode cX5_endOf 2 = .ok (.iload_n 1, 1) := by decide +kernel
theorem dX5_endOf_3 : decode cX5_endOf 3 = .ok (.iload_n 1, 1) := by decide +kernel
theorem dX5_endOf_4 : decode cX5_endOf 4 = .ok (.invokestatic 130, 3) := by decide +kernel
theorem dX5_endOf_7 : decode cX5_endOf 7 = .ok (.ifCond .eq 15, 3) := by decide +kernel
theorem dX5_endOf_10 : decode cX5_endOf 10 = .ok (.aload_n 0, 1) := by decide +kernel
theorem dX5_endOf_11 : decode cX5_endOf 11 = .ok (.iload_n 1, 1) := by decide +kernel
theorem dX5_endOf_12 : decode cX5_endOf 12 = .ok (.invokevirtual 156, 3) := by decide +kernel
theorem dX5_endOf_15 : decode cX5_endOf 15 = .ok (.ifCond .ne 7, 3) := by decide +kernel
theorem dX5_endOf_18 : decode cX5_endOf 18 = .ok (.iconst 1, 1) := by decide +kernel
theorem dX5_endOf_19 : decode cX5_endOf 19 = .ok (.goto 4, 3) := by decide +kernel
theorem dX5_endOf_22 : decode cX5_endOf 22 = .ok (.iconst 0, 1) := by decide +kernel
theorem dX5_endOf_23 : decode cX5_endOf 23 = .ok (.invokevirtual 193, 3) := by decide +kernel
theorem dX5_endOf_26 : decode cX5_endOf 26 = .ok (.putfield 87, 3) := by decide +kernel
theorem dX5_endOf_29 : decode cX5_endOf 29 = .ok (.aload_n 0, 1) := by decide +kernel
theorem dX5_endOf_30 : decode cX5_endOf 30 = .ok (.getfield 87, 3) := by decide +kernel
theorem dX5_endOf_33 : decode cX5_endOf 33 = .ok (.ifCond .le 7, 3) := by decide +kernel
theorem dX5_endOf_36 : decode cX5_endOf 36 = .ok (.iconst 0, 1) := by decide +kernel
theorem dX5_endOf_37 : decode cX5_endOf 37 = .ok (.goto 9, 3) := by decide +kernel
theorem dX5_endOf_40 : decode cX5_endOf 40 = .ok (.aload_n 0, 1) := by decide +kernel
theorem dX5_endOf_41 : decode cX5_endOf 41 = .ok (.getfield 56, 3) := by decide +kernel
theorem dX5_endOf_44 : decode cX5_endOf 44 = .ok (.iload_n 1, 1) := by decide +kernel
theorem dX5_endOf_45 : decode cX5_endOf 45 = .ok (.iaload, 1) := by decide +kernel
theorem dX5_endOf_46 : decode cX5_endOf 46 = .ok (.ireturn, 1) := by decide +kernel
set_option maxRecDepth 20000 in
theorem ggX5_thief_X5_isLock : GoodIn wsX5_thief wsX5_isLock := goodIn_r _ [6, 7, 8, 5, 9] (by decide +kernel) (by decide +kernel)
set_option maxRecDepth 20000 in
theorem gX5_thief_X5_isLock : GoodIn wsX5_thief (va_wsS RX5 130 yX5_isLock wsX5_isLock) := goodIn_app (goodIn_of _ (by decide +kernel)) ggX5_thief_X5_isLock
set_option maxRecDepth 20000 in
theorem ggX5_thief_X5_wrongLock : GoodIn wsX5_thief wsX5_wrongLock := goodIn_r _ [13, 3, 4, 5, 6, 7, 8, 9] (by decide +kernel) (by decide +kernel)
set_option maxRecDepth 20000 in
theorem gX5_thief_X5_wrongLock : GoodIn wsX5_thief (wsV RX5 193 RX5 yX5_wrongLock wsX5_wrongLock) := goodIn_app (goodIn_of _ (by decide +kernel)) ggX5_thief_X5_wrongLock
theorem dX5_thief_0 : decode cX5_thief 0 = .ok (.aload_n 0, 1) := by decide +kernel
theorem dX5_thief_1 : decode cX5_thief 1 = .ok (.aload_n 0, 1) := by decide +kernel
theorem dX5_thief_2 : decode cX5_thief 2 = .ok (.iload_n 1, 1) := by decide +kernel
theorem dX5_thief_3 : decode cX5_thief 3 = .ok (.iload_n 1, 1) := by decide +kernel
theorem dX5_thief_4 : decode cX5_thief 4 = .ok (.invokestatic 130, 3) := by decide +kernel
theorem dX5_thief_7 : decode cX5_thief 7 = .ok (.ifCond .eq 16, 3) := by decide +kernel
theorem dX5_thief_10 : decode cX5_thief 10 = .ok (.aload_n 0, 1) := by decide +kernel
theorem dX5_thief_11 : decode cX5_thief 11 = .ok (.getfield 62, 3) := by decide +kernel
theorem dX5_thief_14 : decode cX5_thief 14 = .ok (.iload_n 1, 1) := by decide +kernel
theorem dX5_thief_15 : decode cX5_thief 15 = .ok (.iaload, 1) := by decide +kernel
theorem dX5_thief_16 : decode cX5_thief 16 = .ok (.ifCond .lt 7, 3) := by decide +kernel
theorem dX5_thief_19 : decode cX5_thief 19 = .ok (.iconst 1, 1) := by decide +kernel
theorem dX5_thief_20 : decode cX5_thief 20 = .ok (.goto 4, 3) := by decide +kernel
theorem dX5_thief_23 : decode cX5_thief 23 = .ok (.iconst 0, 1) := by decide +kernel
theorem dX5_thief_24 : decode cX5_thief 24 = .ok (.invokevirtual 193, 3) := by decide +kernel
theorem dX5_thief_27 : decode cX5_thief 27 = .ok (.putfield 87, 3) := by decide +kernel
theorem dX5_thief_30 : decode cX5_thief 30 = .ok (.aload_n 0, 1) := by decide +kernel
theorem dX5_thief_31 : decode cX5_thief 31 = .ok (.getfield 87, 3) := by decide +kernel
theorem dX5_thief_34 : decode cX5_thief 34 = .ok (.ifCond .le 7, 3) := by decide +kernel
theorem dX5_thief_37 : decode cX5_thief 37 = .ok (.iconst 0, 1) := by decide +kernel
theorem dX5_thief_38 : decode cX5_thief 38 = .ok (.goto 9, 3) := by decide +kernel
theorem dX5_thief_41 : decode cX5_thief 41 = .ok (.aload_n 0, 1) := by decide +kernel
theorem dX5_thief_42 : decode cX5_thief 42 = .ok (.getfield 62, 3) := by decide +kernel
theorem dX5_thief_45 : decode cX5_thief 45 = .ok (.iload_n 1, 1) := by decide +kernel
theorem dX5_thief_46 : decode cX5_thief 46 = .ok (.iaload, 1) := by decide +kernel
theorem dX5_thief_47 : decode cX5_thief 47 = .ok (.ireturn, 1) := by decide +kernel
set_option maxRecDepth 20000 in
theorem ggX5_waiting_X5_isLock : GoodIn wsX5_waiting wsX5_isLock := goodIn_r _ [5, 6, 7, 4, 8] (by decide +kernel) (by decide +kernel)
set_option maxRecDepth 20000 in
theorem gX5_waiting_X5_isLock : GoodIn wsX5_waiting (va_wsS RX5 130 yX5_isLock wsX5_isLock) := goodIn_app (goodIn_of _ (by decide +kernel)) ggX5_waiting_X5_isLock
set_option maxRecDepth 20000 in
theorem ggX5_waiting_X5_checked : GoodIn wsX5_waiting wsX5_checked := goodIn_r _ [12, 13, 14, 15, 16, 17, 18, 19, 20, 21, 22, 23, 24, 25, 26, 27, 28, 29, 30, 31, 32, 33, 34, 35, 36, 37, 38, 39, 40, 41, 42, 43] (by decide +kernel) (by decide +kernel)
set_option maxRecDepth 20000 in
theorem gX5_waiting_X5_checked : GoodIn wsX5_waiting (wsV RX5 108 RX5 yX5_checked wsX5_checked) := goodIn_app (goodIn_of _ (by decide +kernel)) ggX5_waiting_X5_checked
theorem dX5_waiting_0 : decode cX5_waiting 0 = .ok (.aload_n 0, 1) := by decide +kernel
theorem dX5_waiting_1 : decode cX5_waiting 1 = .ok (.iload_n 1, 1) := by decide +kernel
theorem dX5_waiting_2 : decode cX5_waiting 2 = .ok (.invokestatic 130, 3) := by decide +kernel
theorem dX5_waiting_5 : decode cX5_waiting 5 = .ok (.invokevirtual 108, 3) := by decide +kernel
theorem dX5_waiting_8 : decode cX5_waiting 8 = .ok (.ifCond .le 7, 3) := by decide +kernel
theorem dX5_waiting_11 : decode cX5_waiting 11 = .ok (.iconst 0, 1) := by decide +kernel
theorem dX5_waiting_12 : decode cX5_waiting 12 = .ok (.goto 9, 3) := by decide +kernel
theorem dX5_waiting_15 : decode cX5_waiting 15 = .ok (.aload_n 0, 1) := by decide +kernel
theorem dX5_waiting_16 : decode cX5_waiting 16 = .ok (.getfield 71, 3) := by decide +kernel
theorem dX5_waiting_19 : decode cX5_waiting 19 = .ok (.iload_n 1, 1) := by decide +kernel
theorem dX5_waiting_20 : decode cX5_waiting 20 = .ok (.iaload, 1) := by decide +kernel
theorem dX5_waiting_21 : decode cX5_waiting 21 = .ok (.ireturn, 1) := by decide +kernel
set_option maxRecDepth 20000 in
theorem ggX5_waitingAt_X5_isLock : GoodIn wsX5_waitingAt wsX5_isLock := goodIn_r _ [7, 8, 9, 6, 10] (by decide +kernel) (by decide +kernel)
set_option maxRecDepth 20000 in
theorem gX5_waitingAt_X5_isLock : GoodIn wsX5_waitingAt (va_wsS RX5 130 yX5_isLock wsX5_isLock) := goodIn_app (goodIn_of _ (by decide +kernel)) ggX5_waitingAt_X5_isLock
set_option maxRecDepth 20000 in
theorem ggX5_waitingAt_X5_in : GoodIn wsX5_waitingAt wsX5_in := goodIn_r _ [10] (by decide +kernel) (by decide +kernel)
set_option maxRecDepth 20000 in
theorem gX5_waitingAt_X5_in : GoodIn wsX5_waitingAt (va_wsS RX5 104 yX5_in wsX5_in) := goodIn_app (goodIn_of _ (by decide +kernel)) ggX5_waitingAt_X5_in
set_option maxRecDepth 20000 in
theorem ggX5_waitingAt_X5_wrongLock : GoodIn wsX5_waitingAt wsX5_wrongLock := goodIn_r _ [14, 4, 5, 6, 7, 8, 9, 10] (by decide +kernel) (by decide +kernel)
set_option maxRecDepth 20000 in
theorem gX5_waitingAt_X5_wrongLock : GoodIn wsX5_waitingAt (wsV RX5 193 RX5 yX5_wrongLock wsX5_wrongLock) := goodIn_app (goodIn_of _ (by decide +kernel)) ggX5_waitingAt_X5_wrongLock
theorem dX5_waitingAt_0 : decode cX5_waitingAt 0 = .ok (.aload_n 0, 1) := by decide +kernel
theorem dX5_waitingAt_1 : decode cX5_waitingAt 1 = .ok (.aload_n 0, 1) := by decide +kernel
theorem dX5_waitingAt_2 : decode cX5_waitingAt 2 = .ok (.iload_n 1, 1) := by decide +kernel
theorem dX5_waitingAt_3 : decode cX5_waitingAt 3 = .ok (.iload_n 1, 1) := by decide +kernel
theorem dX5_waitingAt_4 : decode cX5_waitingAt 4 = .ok (.invokestatic 130, 3) := by decide +kernel
theorem dX5_waitingAt_7 : decode cX5_waitingAt 7 = .ok (.ifCond .eq 23, 3) := by decide +kernel
theorem dX5_waitingAt_10 : decode cX5_waitingAt 10 = .ok (.iload_n 2, 1) := by decide +kernel
theorem dX5_waitingAt_11 : decode cX5_waitingAt 11 = .ok (.iconst 0, 1) := by decide +kernel
theorem dX5_waitingAt_12 : decode cX5_waitingAt 12 = .ok (.aload_n 0, 1) := by decide +kernel
theorem dX5_waitingAt_13 : decode cX5_waitingAt 13 = .ok (.getfield 71, 3) := by decide +kernel
theorem dX5_waitingAt_16 : decode cX5_waitingAt 16 = .ok (.iload_n 1, 1) := by decide +kernel
theorem dX5_waitingAt_17 : decode cX5_waitingAt 17 = .ok (.iaload, 1) := by decide +kernel
theorem dX5_waitingAt_18 : decode cX5_waitingAt 18 = .ok (.iconst 1, 1) := by decide +kernel
theorem dX5_waitingAt_19 : decode cX5_waitingAt 19 = .ok (.isub, 1) := by decide +kernel
theorem dX5_waitingAt_20 : decode cX5_waitingAt 20 = .ok (.invokestatic 104, 3) := by decide +kernel
theorem dX5_waitingAt_23 : decode cX5_waitingAt 23 = .ok (.ifCond .eq 7, 3) := by decide +kernel
theorem dX5_waitingAt_26 : decode cX5_waitingAt 26 = .ok (.iconst 1, 1) := by decide +kernel
theorem dX5_waitingAt_27 : decode cX5_waitingAt 27 = .ok (.goto 4, 3) := by decide +kernel
theorem dX5_waitingAt_30 : decode cX5_waitingAt 30 = .ok (.iconst 0, 1) := by decide +kernel
theorem dX5_waitingAt_31 : decode cX5_waitingAt 31 = .ok (.invokevirtual 193, 3) := by decide +kernel
theorem dX5_waitingAt_34 : decode cX5_waitingAt 34 = .ok (.putfield 87, 3) := by decide +kernel
theorem dX5_waitingAt_37 : decode cX5_waitingAt 37 = .ok (.aload_n 0, 1) := by decide +kernel
theorem dX5_waitingAt_38 : decode cX5_waitingAt 38 = .ok (.getfield 87, 3) := by decide +kernel
theorem dX5_waitingAt_41 : decode cX5_waitingAt 41 = .ok (.ifCond .le 7, 3) := by decide +kernel
theorem dX5_waitingAt_44 : decode cX5_waitingAt 44 = .ok (.iconst 0, 1) := by decide +kernel
theorem dX5_waitingAt_45 : decode cX5_waitingAt 45 = .ok (.goto 14, 3) := by decide +kernel
theorem dX5_waitingAt_48 : decode cX5_waitingAt 48 = .ok (.aload_n 0, 1) := by decide +kernel
theorem dX5_waitingAt_49 : decode cX5_waitingAt 49 = .ok (.getfield 68, 3) := by decide +kernel
theorem dX5_waitingAt_52 : decode cX5_waitingAt 52 = .ok (.bipush 6, 2) := by decide +kernel
theorem dX5_waitingAt_54 : decode cX5_waitingAt 54 = .ok (.iload_n 1, 1) := by decide +kernel
theorem dX5_waitingAt_55 : decode cX5_waitingAt 55 = .ok (.imul, 1) := by decide +kernel
theorem dX5_waitingAt_56 : decode cX5_waitingAt 56 = .ok (.iload_n 2, 1) := by decide +kernel
theorem dX5_waitingAt_57 : decode cX5_waitingAt 57 = .ok (.iadd, 1) := by decide +kernel
theorem dX5_waitingAt_58 : decode cX5_waitingAt 58 = .ok (.iaload, 1) := by decide +kernel
theorem dX5_waitingAt_59 : decode cX5_waitingAt 59 = .ok (.ireturn, 1) := by decide +kernel
set_option maxRecDepth 20000 in
theorem ggX5_claims_X5_isClient : GoodIn wsX5_claims wsX5_isClient := goodIn_r _ [6, 7, 8, 9, 5, 10, 30, 31, 32, 33, 34, 35, 36, 37, 38, 39, 40, 41, 42, 43, 44, 45, 46, 47, 48, 49, 50, 51, 52, 53, 54, 55, 56, 57, 58, 59] (by decide +kernel) (by decide +kernel)
set_option maxRecDepth 20000 in
theorem gX5_claims_X5_isClient : GoodIn wsX5_claims (wsV RX5 137 RX5 yX5_isClient wsX5_isClient) := goodIn_app (goodIn_of _ (by decide +kernel)) ggX5_claims_X5_isClient
set_option maxRecDepth 20000 in
theorem ggX5_claims_X5_isLock : GoodIn wsX5_claims wsX5_isLock := goodIn_r _ [13, 8, 9, 5, 10] (by decide +kernel) (by decide +kernel)
set_option maxRecDepth 20000 in
theorem gX5_claims_X5_isLock : GoodIn wsX5_claims (va_wsS RX5 130 yX5_isLock wsX5_isLock) := goodIn_app (goodIn_of _ (by decide +kernel)) ggX5_claims_X5_isLock
set_option maxRecDepth 20000 in
theorem ggX5_claims_X5_isClaimed : GoodIn wsX5_claims wsX5_isClaimed := goodIn_ca (goodIn_r _ [17, 18, 19, 20, 21, 22, 5, 23, 24, 25, 26, 27, 28, 29, 30, 31, 32, 33, 34, 35, 36, 37, 38, 39, 40, 41, 42, 43, 44, 45, 46, 47, 48, 49, 50, 51, 52, 53, 54, 55, 56, 57, 58, 59] (by decide +kernel) (by decide +kernel)) (goodIn_sub (fun _ h => List.mem_cons_of_mem _ (List.mem_append_right _ h)) (by decide +kernel))
set_option maxRecDepth 20000 in
theorem gX5_claims_X5_isClaimed : GoodIn wsX5_claims (wsV RX5 187 RX5 yX5_isClaimed wsX5_isClaimed) := goodIn_app (goodIn_of _ (by decide +kernel)) ggX5_claims_X5_isClaimed
theorem dX5_claims_0 : decode cX5_claims 0 = .ok (.aload_n 0, 1) := by decide +kernel
theorem dX5_claims_1 : decode cX5_claims 1 = .ok (.aload_n 0, 1) := by decide +kernel
theorem dX5_claims_2 : decode cX5_claims 2 = .ok (.iload_n 1, 1) := by decide +kernel
theorem dX5_claims_3 : decode cX5_claims 3 = .ok (.invokevirtual 137, 3) := by decide +kernel
theorem dX5_claims_6 : decode cX5_claims 6 = .ok (.ifCond .ne 7, 3) := by decide +kernel
theorem dX5_claims_9 : decode cX5_claims 9 = .ok (.iconst 1, 1) := by decide +kernel
theorem dX5_claims_10 : decode cX5_claims 10 = .ok (.goto 15, 3) := by decide +kernel
theorem dX5_claims_13 : decode cX5_claims 13 = .ok (.iload_n 2, 1) := by decide +kernel
theorem dX5_claims_14 : decode cX5_claims 14 = .ok (.invokestatic 130, 3) := by decide +kernel
theorem dX5_claims_17 : decode cX5_claims 17 = .ok (.ifCond .ne 7, 3) := by decide +kernel
theorem dX5_claims_20 : decode cX5_claims 20 = .ok (.iconst 2, 1) := by decide +kernel
theorem dX5_claims_21 : decode cX5_claims 21 = .ok (.goto 4, 3) := by decide +kernel
theorem dX5_claims_24 : decode cX5_claims 24 = .ok (.iconst 0, 1) := by decide +kernel
theorem dX5_claims_25 : decode cX5_claims 25 = .ok (.putfield 87, 3) := by decide +kernel
theorem dX5_claims_28 : decode cX5_claims 28 = .ok (.aload_n 0, 1) := by decide +kernel
theorem dX5_claims_29 : decode cX5_claims 29 = .ok (.getfield 87, 3) := by decide +kernel
theorem dX5_claims_32 : decode cX5_claims 32 = .ok (.ifCond .ne 16, 3) := by decide +kernel
theorem dX5_claims_35 : decode cX5_claims 35 = .ok (.aload_n 0, 1) := by decide +kernel
theorem dX5_claims_36 : decode cX5_claims 36 = .ok (.iload_n 1, 1) := by decide +kernel
theorem dX5_claims_37 : decode cX5_claims 37 = .ok (.iload_n 2, 1) := by decide +kernel
theorem dX5_claims_38 : decode cX5_claims 38 = .ok (.invokevirtual 187, 3) := by decide +kernel
theorem dX5_claims_41 : decode cX5_claims 41 = .ok (.ifCond .eq 7, 3) := by decide +kernel
theorem dX5_claims_44 : decode cX5_claims 44 = .ok (.iconst 1, 1) := by decide +kernel
theorem dX5_claims_45 : decode cX5_claims 45 = .ok (.goto 4, 3) := by decide +kernel
theorem dX5_claims_48 : decode cX5_claims 48 = .ok (.iconst 0, 1) := by decide +kernel
theorem dX5_claims_49 : decode cX5_claims 49 = .ok (.ireturn, 1) := by decide +kernel
set_option maxRecDepth 20000 in
theorem ggX5_claimants_X5_isLock : GoodIn wsX5_claimants wsX5_isLock := goodIn_r _ [5, 6, 7, 4, 8] (by decide +kernel) (by decide +kernel)
set_option maxRecDepth 20000 in
theorem gX5_claimants_X5_isLock : GoodIn wsX5_claimants (va_wsS RX5 130 yX5_isLock wsX5_isLock) := goodIn_app (goodIn_of _ (by decide +kernel)) ggX5_claimants_X5_isLock
set_option maxRecDepth 20000 in
theorem ggX5_claimants_X5_checked : GoodIn wsX5_claimants wsX5_checked := goodIn_r _ [12, 13, 30, 31, 32, 33, 34, 35, 36, 37, 38, 39, 40, 41, 42, 43, 44, 45, 46, 47, 48, 49, 50, 51, 52, 53, 54, 55, 56, 57, 58, 59] (by decide +kernel) (by decide +kernel)
set_option maxRecDepth 20000 in
theorem gX5_claimants_X5_checked : GoodIn wsX5_claimants (wsV RX5 108 RX5 yX5_checked wsX5_checked) := goodIn_app (goodIn_of _ (by decide +kernel)) ggX5_claimants_X5_checked
set_option maxRecDepth 20000 in
theorem ggX5_claimants_X5_isClaimed : GoodIn wsX5_claimants wsX5_isClaimed := goodIn_ca (goodIn_r _ [17, 18, 19, 20, 21, 22, 4, 23, 24, 25, 26, 27, 28, 29, 30, 31, 32, 33, 34, 35, 36, 37, 38, 39, 40, 41, 42, 43, 44, 45, 46, 47, 48, 49, 50, 51, 52, 53, 54, 55, 56, 57, 58, 59] (by decide +kernel) (by decide +kernel)) (goodIn_sub (fun _ h => List.mem_cons_of_mem _ (List.mem_append_right _ h)) (by decide +kernel))
set_option maxRecDepth 20000 in
theorem gX5_claimants_X5_isClaimed : GoodIn wsX5_claimants (wsV RX5 187 RX5 yX5_isClaimed wsX5_isClaimed) := goodIn_app (goodIn_of _ (by decide +kernel)) ggX5_claimants_X5_isClaimed
theorem dX5_claimants_0 : decode cX5_claimants 0 = .ok (.aload_n 0, 1) := by decide +kernel
theorem dX5_claimants_1 : decode cX5_claimants 1 = .ok (.iload_n 1, 1) := by decide +kernel
theorem dX5_claimants_2 : decode cX5_claimants 2 = .ok (.invokestatic 130, 3) := by decide +kernel
theorem dX5_claimants_5 : decode cX5_claimants 5 = .ok (.invokevirtual 108, 3) := by decide +kernel
theorem dX5_claimants_8 : decode cX5_claimants 8 = .ok (.ifCond .le 5, 3) := by decide +kernel
theorem dX5_claimants_11 : decode cX5_claimants 11 = .ok (.iconst 0, 1) := by decide +kernel
theorem dX5_claimants_12 : decode cX5_claimants 12 = .ok (.ireturn, 1) := by decide +kernel
theorem dX5_claimants_13 : decode cX5_claimants 13 = .ok (.iconst 0, 1) := by decide +kernel
theorem dX5_claimants_14 : decode cX5_claimants 14 = .ok (.istore_n 2, 1) := by decide +kernel
theorem dX5_claimants_15 : decode cX5_claimants 15 = .ok (.iconst 0, 1) := by decide +kernel
theorem dX5_claimants_16 : decode cX5_claimants 16 = .ok (.istore_n 3, 1) := by decide +kernel
theorem dX5_claimants_17 : decode cX5_claimants 17 = .ok (.iload_n 3, 1) := by decide +kernel
theorem dX5_claimants_18 : decode cX5_claimants 18 = .ok (.aload_n 0, 1) := by decide +kernel
theorem dX5_claimants_19 : decode cX5_claimants 19 = .ok (.getfield 94, 3) := by decide +kernel
theorem dX5_claimants_22 : decode cX5_claimants 22 = .ok (.if_icmp .ge 26, 3) := by decide +kernel
theorem dX5_claimants_25 : decode cX5_claimants 25 = .ok (.iload_n 2, 1) := by decide +kernel
theorem dX5_claimants_26 : decode cX5_claimants 26 = .ok (.aload_n 0, 1) := by decide +kernel
theorem dX5_claimants_27 : decode cX5_claimants 27 = .ok (.iload_n 3, 1) := by decide +kernel
theorem dX5_claimants_28 : decode cX5_claimants 28 = .ok (.iload_n 1, 1) := by decide +kernel
theorem dX5_claimants_29 : decode cX5_claimants 29 = .ok (.invokevirtual 187, 3) := by decide +kernel
theorem dX5_claimants_32 : decode cX5_claimants 32 = .ok (.ifCond .eq 7, 3) := by decide +kernel
theorem dX5_claimants_35 : decode cX5_claimants 35 = .ok (.iconst 1, 1) := by decide +kernel
theorem dX5_claimants_36 : decode cX5_claimants 36 = .ok (.goto 4, 3) := by decide +kernel
theorem dX5_claimants_39 : decode cX5_claimants 39 = .ok (.iconst 0, 1) := by decide +kernel
theorem dX5_claimants_40 : decode cX5_claimants 40 = .ok (.iadd, 1) := by decide +kernel
theorem dX5_claimants_41 : decode cX5_claimants 41 = .ok (.istore_n 2, 1) := by decide +kernel
theorem dX5_claimants_42 : decode cX5_claimants 42 = .ok (.iinc 3 1, 3) := by decide +kernel
theorem dX5_claimants_45 : decode cX5_claimants 45 = .ok (.goto (-28), 3) := by decide +kernel
theorem dX5_claimants_48 : decode cX5_claimants 48 = .ok (.iload_n 2, 1) := by decide +kernel
theorem dX5_claimants_49 : decode cX5_claimants 49 = .ok (.ireturn, 1) := by decide +kernel
set_option maxRecDepth 20000 in
theorem ggX5_value_X5_isLock : GoodIn wsX5_value wsX5_isLock := goodIn_r _ [5, 6, 7, 4, 8] (by decide +kernel) (by decide +kernel)
set_option maxRecDepth 20000 in
theorem gX5_value_X5_isLock : GoodIn wsX5_value (va_wsS RX5 130 yX5_isLock wsX5_isLock) := goodIn_app (goodIn_of _ (by decide +kernel)) ggX5_value_X5_isLock
set_option maxRecDepth 20000 in
theorem ggX5_value_X5_checked : GoodIn wsX5_value wsX5_checked := goodIn_r _ [12, 13, 14, 15, 16, 17, 18, 19, 20, 21, 22, 23, 24, 25, 26, 27, 28, 29, 30, 31, 32, 33, 34, 35, 36, 37, 38, 39, 40, 41, 42, 43] (by decide +kernel) (by decide +kernel)
set_option maxRecDepth 20000 in
theorem gX5_value_X5_checked : GoodIn wsX5_value (wsV RX5 108 RX5 yX5_checked wsX5_checked) := goodIn_app (goodIn_of _ (by decide +kernel)) ggX5_value_X5_checked
theorem dX5_value_0 : decode cX5_value 0 = .ok (.aload_n 0, 1) := by decide +kernel
theorem dX5_value_1 : decode cX5_value 1 = .ok (.iload_n 1, 1) := by decide +kernel
theorem dX5_value_2 : decode cX5_value 2 = .ok (.invokestatic 130, 3) := by decide +kernel
theorem dX5_value_5 : decode cX5_value 5 = .ok (.invokevirtual 108, 3) := by decide +kernel
theorem dX5_value_8 : decode cX5_value 8 = .ok (.ifCond .le 7, 3) := by decide +kernel
theorem dX5_value_11 : decode cX5_value 11 = .ok (.iconst 0, 1) := by decide +kernel
theorem dX5_value_12 : decode cX5_value 12 = .ok (.goto 9, 3) := by decide +kernel
theorem dX5_value_15 : decode cX5_value 15 = .ok (.aload_n 0, 1) := by decide +kernel
theorem dX5_value_16 : decode cX5_value 16 = .ok (.getfield 65, 3) := by decide +kernel
theorem dX5_value_19 : decode cX5_value 19 = .ok (.iload_n 1, 1) := by decide +kernel
theorem dX5_value_20 : decode cX5_value 20 = .ok (.iaload, 1) := by decide +kernel
theorem dX5_value_21 : decode cX5_value 21 = .ok (.ireturn, 1) := by decide +kernel
set_option maxRecDepth 20000 in
theorem ggX5_valueByLog_X5_value : GoodIn wsX5_valueByLog wsX5_value := goodIn_ca (goodIn_r _ [5, 6, 7, 8, 4, 9, 10, 11, 12, 13, 14, 15, 16, 17, 18, 19, 20, 21, 22, 23, 24, 25, 26, 27, 28, 29, 30, 31, 32, 33, 34, 35, 36, 37, 38, 39, 40, 41, 42, 43, 44, 45, 46, 47] (by decide +kernel) (by decide +kernel)) (goodIn_sub (fun _ h => List.mem_cons_of_mem _ (List.mem_append_right _ h)) (by decide +kernel))
set_option maxRecDepth 20000 in
theorem gX5_valueByLog_X5_value : GoodIn wsX5_valueByLog (wsV RX5 200 RX5 yX5_value wsX5_value) := goodIn_app (goodIn_of _ (by decide +kernel)) ggX5_valueByLog_X5_value
theorem dX5_valueByLog_0 : decode cX5_valueByLog 0 = .ok (.aload_n 0, 1) := by decide +kernel
theorem dX5_valueByLog_1 : decode cX5_valueByLog 1 = .ok (.iload_n 1, 1) := by decide +kernel
theorem dX5_valueByLog_2 : decode cX5_valueByLog 2 = .ok (.invokevirtual 200, 3) := by decide +kernel
theorem dX5_valueByLog_5 : decode cX5_valueByLog 5 = .ok (.ireturn, 1) := by decide +kernel
set_option maxRecDepth 20000 in
theorem ggX5_kept_X5_isClient : GoodIn wsX5_kept wsX5_isClient := goodIn_r _ [10, 11, 12, 13, 9, 14, 27, 28, 29, 30, 31, 32, 33, 34, 35, 36, 37, 38, 39, 40, 41, 42, 43, 44, 45, 46, 47, 48, 49, 50, 51, 52, 53, 54, 55, 56] (by decide +kernel) (by decide +kernel)
set_option maxRecDepth 20000 in
theorem gX5_kept_X5_isClient : GoodIn wsX5_kept (wsV RX5 137 RX5 yX5_isClient wsX5_isClient) := goodIn_app (goodIn_of _ (by decide +kernel)) ggX5_kept_X5_isClient
set_option maxRecDepth 20000 in
theorem ggX5_kept_X5_isLock : GoodIn wsX5_kept wsX5_isLock := goodIn_r _ [17, 12, 13, 9, 14] (by decide +kernel) (by decide +kernel)
set_option maxRecDepth 20000 in
theorem gX5_kept_X5_isLock : GoodIn wsX5_kept (va_wsS RX5 130 yX5_isLock wsX5_isLock) := goodIn_app (goodIn_of _ (by decide +kernel)) ggX5_kept_X5_isLock
set_option maxRecDepth 20000 in
theorem ggX5_kept_X5_at : GoodIn wsX5_kept wsX5_at := goodIn_r _ [20] (by decide +kernel) (by decide +kernel)
set_option maxRecDepth 20000 in
theorem gX5_kept_X5_at : GoodIn wsX5_kept (va_wsS RX5 146 yX5_at wsX5_at) := goodIn_app (goodIn_of _ (by decide +kernel)) ggX5_kept_X5_at
set_option maxRecDepth 20000 in
theorem ggX5_kept_X5_clock : GoodIn wsX5_kept wsX5_clock := goodIn_ca (goodIn_r _ [24, 25, 26, 27, 28, 29, 30, 31, 32, 33, 34, 35, 36, 37, 38, 39, 40, 41, 42, 43, 44, 45, 46, 47, 48, 49, 50, 51, 52, 53, 54, 55, 56] (by decide +kernel) (by decide +kernel)) (goodIn_sub (fun _ h => List.mem_cons_of_mem _ (List.mem_append_right _ h)) (by decide +kernel))
set_option maxRecDepth 20000 in
theorem gX5_kept_X5_clock : GoodIn wsX5_kept (wsV RX5 140 RX5 yX5_clock wsX5_clock) := goodIn_app (goodIn_of _ (by decide +kernel)) ggX5_kept_X5_clock
theorem dX5_kept_0 : decode cX5_kept 0 = .ok (.aload_n 0, 1) := by decide +kernel
theorem dX5_kept_1 : decode cX5_kept 1 = .ok (.aload_n 0, 1) := by decide +kernel
theorem dX5_kept_2 : decode cX5_kept 2 = .ok (.iload_n 1, 1) := by decide +kernel
theorem dX5_kept_3 : decode cX5_kept 3 = .ok (.invokevirtual 137, 3) := by decide +kernel
theorem dX5_kept_6 : decode cX5_kept 6 = .ok (.ifCond .ne 7, 3) := by decide +kernel
theorem dX5_kept_9 : decode cX5_kept 9 = .ok (.iconst 1, 1) := by decide +kernel
theorem dX5_kept_10 : decode cX5_kept 10 = .ok (.goto 15, 3) := by decide +kernel
theorem dX5_kept_13 : decode cX5_kept 13 = .ok (.iload_n 2, 1) := by decide +kernel
theorem dX5_kept_14 : decode cX5_kept 14 = .ok (.invokestatic 130, 3) := by decide +kernel
theorem dX5_kept_17 : decode cX5_kept 17 = .ok (.ifCond .ne 7, 3) := by decide +kernel
theorem dX5_kept_20 : decode cX5_kept 20 = .ok (.iconst 2, 1) := by decide +kernel
theorem dX5_kept_21 : decode cX5_kept 21 = .ok (.goto 4, 3) := by decide +kernel
theorem dX5_kept_24 : decode cX5_kept 24 = .ok (.iconst 0, 1) := by decide +kernel
theorem dX5_kept_25 : decode cX5_kept 25 = .ok (.putfield 87, 3) := by decide +kernel
theorem dX5_kept_28 : decode cX5_kept 28 = .ok (.aload_n 0, 1) := by decide +kernel
theorem dX5_kept_29 : decode cX5_kept 29 = .ok (.getfield 87, 3) := by decide +kernel
theorem dX5_kept_32 : decode cX5_kept 32 = .ok (.ifCond .le 5, 3) := by decide +kernel
theorem dX5_kept_35 : decode cX5_kept 35 = .ok (.iconst 0, 1) := by decide +kernel
theorem dX5_kept_36 : decode cX5_kept 36 = .ok (.ireturn, 1) := by decide +kernel
theorem dX5_kept_37 : decode cX5_kept 37 = .ok (.aload_n 0, 1) := by decide +kernel
theorem dX5_kept_38 : decode cX5_kept 38 = .ok (.getfield 22, 3) := by decide +kernel
theorem dX5_kept_41 : decode cX5_kept 41 = .ok (.iload_n 1, 1) := by decide +kernel
theorem dX5_kept_42 : decode cX5_kept 42 = .ok (.iload_n 2, 1) := by decide +kernel
theorem dX5_kept_43 : decode cX5_kept 43 = .ok (.invokestatic 146, 3) := by decide +kernel
theorem dX5_kept_46 : decode cX5_kept 46 = .ok (.baload, 1) := by decide +kernel
theorem dX5_kept_47 : decode cX5_kept 47 = .ok (.ifCond .eq 37, 3) := by decide +kernel
theorem dX5_kept_50 : decode cX5_kept 50 = .ok (.aload_n 0, 1) := by decide +kernel
theorem dX5_kept_51 : decode cX5_kept 51 = .ok (.getfield 16, 3) := by decide +kernel
theorem dX5_kept_54 : decode cX5_kept 54 = .ok (.iload_n 1, 1) := by decide +kernel
theorem dX5_kept_55 : decode cX5_kept 55 = .ok (.baload, 1) := by decide +kernel
theorem dX5_kept_56 : decode cX5_kept 56 = .ok (.ifCond .ne 28, 3) := by decide +kernel
theorem dX5_kept_59 : decode cX5_kept 59 = .ok (.aload_n 0, 1) := by decide +kernel
theorem dX5_kept_60 : decode cX5_kept 60 = .ok (.iload_n 1, 1) := by decide +kernel
theorem dX5_kept_61 : decode cX5_kept 61 = .ok (.invokevirtual 140, 3) := by decide +kernel
theorem dX5_kept_64 : decode cX5_kept 64 = .ok (.aload_n 0, 1) := by decide +kernel
theorem dX5_kept_65 : decode cX5_kept 65 = .ok (.getfield 44, 3) := by decide +kernel
theorem dX5_kept_68 : decode cX5_kept 68 = .ok (.iload_n 1, 1) := by decide +kernel
theorem dX5_kept_69 : decode cX5_kept 69 = .ok (.iload_n 2, 1) := by decide +kernel
theorem dX5_kept_70 : decode cX5_kept 70 = .ok (.invokestatic 146, 3) := by decide +kernel
theorem dX5_kept_73 : decode cX5_kept 73 = .ok (.iaload, 1) := by decide +kernel
theorem dX5_kept_74 : decode cX5_kept 74 = .ok (.isub, 1) := by decide +kernel
theorem dX5_kept_75 : decode cX5_kept 75 = .ok (.bipush 6, 2) := by decide +kernel
theorem dX5_kept_77 : decode cX5_kept 77 = .ok (.if_icmp .ge 7, 3) := by decide +kernel
theorem dX5_kept_80 : decode cX5_kept 80 = .ok (.iconst 1, 1) := by decide +kernel
theorem dX5_kept_81 : decode cX5_kept 81 = .ok (.goto 4, 3) := by decide +kernel
theorem dX5_kept_84 : decode cX5_kept 84 = .ok (.iconst 0, 1) := by decide +kernel
theorem dX5_kept_85 : decode cX5_kept 85 = .ok (.istore_n 3, 1) := by decide +kernel
theorem dX5_kept_86 : decode cX5_kept 86 = .ok (.aload_n 0, 1) := by decide +kernel
theorem dX5_kept_87 : decode cX5_kept 87 = .ok (.iload_n 3, 1) := by decide +kernel
theorem dX5_kept_88 : decode cX5_kept 88 = .ok (.ifCond .eq 7, 3) := by decide +kernel
theorem dX5_kept_91 : decode cX5_kept 91 = .ok (.iconst 0, 1) := by decide +kernel
theorem dX5_kept_92 : decode cX5_kept 92 = .ok (.goto 4, 3) := by decide +kernel
theorem dX5_kept_95 : decode cX5_kept 95 = .ok (.iconst 3, 1) := by decide +kernel
theorem dX5_kept_96 : decode cX5_kept 96 = .ok (.putfield 87, 3) := by decide +kernel
theorem dX5_kept_99 : decode cX5_kept 99 = .ok (.iload_n 3, 1) := by decide +kernel
theorem dX5_kept_100 : decode cX5_kept 100 = .ok (.ifCond .eq 16, 3) := by decide +kernel
theorem dX5_kept_103 : decode cX5_kept 103 = .ok (.aload_n 0, 1) := by decide +kernel
theorem dX5_kept_104 : decode cX5_kept 104 = .ok (.getfield 47, 3) := by decide +kernel
theorem dX5_kept_107 : decode cX5_kept 107 = .ok (.iload_n 1, 1) := by decide +kernel
theorem dX5_kept_108 : decode cX5_kept 108 = .ok (.iload_n 2, 1) := by decide +kernel
theorem dX5_kept_109 : decode cX5_kept 109 = .ok (.invokestatic 146, 3) := by decide +kernel
theorem dX5_kept_112 : decode cX5_kept 112 = .ok (.iaload, 1) := by decide +kernel
theorem dX5_kept_113 : decode cX5_kept 113 = .ok (.goto 4, 3) := by decide +kernel
theorem dX5_kept_116 : decode cX5_kept 116 = .ok (.iconst 0, 1) := by decide +kernel
theorem dX5_kept_117 : decode cX5_kept 117 = .ok (.ireturn, 1) := by decide +kernel
set_option maxRecDepth 20000 in
theorem ggX5_entries_X5_plain : GoodIn wsX5_entries wsX5_plain := goodIn_r _ [6, 7, 8, 9, 10, 11, 12, 13, 14, 15, 16, 17, 18, 19, 20, 21, 22, 23, 24, 25, 26, 27, 28, 29, 30, 31, 32, 33, 34, 35, 36, 37] (by decide +kernel) (by decide +kernel)
set_option maxRecDepth 20000 in
theorem gX5_entries_X5_plain : GoodIn wsX5_entries (wsV RX5 112 RX5 yX5_plain wsX5_plain) := goodIn_app (goodIn_of _ (by decide +kernel)) ggX5_entries_X5_plain
theorem dX5_entries_0 : decode cX5_entries 0 = .ok (.aload_n 0, 1) := by decide +kernel
theorem dX5_entries_1 : decode cX5_entries 1 = .ok (.aload_n 0, 1) := by decide +kernel
theorem dX5_entries_2 : decode cX5_entries 2 = .ok (.getfield 97, 3) := by decide +kernel
theorem dX5_entries_5 : decode cX5_entries 5 = .ok (.invokevirtual 112, 3) := by decide +kernel
theorem dX5_entries_8 : decode cX5_entries 8 = .ok (.ireturn, 1) := by decide +kernel
set_option maxRecDepth 20000 in
theorem ggX5_isEntry_X5_in : GoodIn wsX5_isEntry wsX5_in := goodIn_r _ [5] (by decide +kernel) (by decide +kernel)
set_option maxRecDepth 20000 in
theorem gX5_isEntry_X5_in : GoodIn wsX5_isEntry (va_wsS RX5 104 yX5_in wsX5_in) := goodIn_app (goodIn_of _ (by decide +kernel)) ggX5_isEntry_X5_in
theorem dX5_isEntry_0 : decode cX5_isEntry 0 = .ok (.iload_n 1, 1) := by decide +kernel
theorem dX5_isEntry_1 : decode cX5_isEntry 1 = .ok (.iconst 0, 1) := by decide +kernel
theorem dX5_isEntry_2 : decode cX5_isEntry 2 = .ok (.aload_n 0, 1) := by decide +kernel
theorem dX5_isEntry_3 : decode cX5_isEntry 3 = .ok (.getfield 97, 3) := by decide +kernel
theorem dX5_isEntry_6 : decode cX5_isEntry 6 = .ok (.iconst 1, 1) := by decide +kernel
theorem dX5_isEntry_7 : decode cX5_isEntry 7 = .ok (.isub, 1) := by decide +kernel
theorem dX5_isEntry_8 : decode cX5_isEntry 8 = .ok (.invokestatic 104, 3) := by decide +kernel
theorem dX5_isEntry_11 : decode cX5_isEntry 11 = .ok (.ireturn, 1) := by decide +kernel
set_option maxRecDepth 20000 in
theorem ggX5_kindOf_X5_isEntry : GoodIn wsX5_kindOf wsX5_isEntry := goodIn_r _ [6, 7, 8, 9, 5, 10, 16, 17, 18, 19, 20, 21, 22, 23, 24, 25, 26, 27, 28, 29, 30, 31, 32, 33, 34, 35, 36, 37, 38, 39, 40, 41, 42, 43, 44, 45] (by decide +kernel) (by decide +kernel)
set_option maxRecDepth 20000 in
theorem gX5_kindOf_X5_isEntry : GoodIn wsX5_kindOf (wsV RX5 203 RX5 yX5_isEntry wsX5_isEntry) := goodIn_app (goodIn_of _ (by decide +kernel)) ggX5_kindOf_X5_isEntry
set_option maxRecDepth 20000 in
theorem ggX5_kindOf_X5_checked : GoodIn wsX5_kindOf wsX5_checked := goodIn_r _ [14, 15, 16, 17, 18, 19, 20, 21, 22, 23, 24, 25, 26, 27, 28, 29, 30, 31, 32, 33, 34, 35, 36, 37, 38, 39, 40, 41, 42, 43, 44, 45] (by decide +kernel) (by decide +kernel)
set_option maxRecDepth 20000 in
theorem gX5_kindOf_X5_checked : GoodIn wsX5_kindOf (wsV RX5 108 RX5 yX5_checked wsX5_checked) := goodIn_app (goodIn_of _ (by decide +kernel)) ggX5_kindOf_X5_checked
theorem dX5_kindOf_0 : decode cX5_kindOf 0 = .ok (.aload_n 0, 1) := by decide +kernel
theorem dX5_kindOf_1 : decode cX5_kindOf 1 = .ok (.aload_n 0, 1) := by decide +kernel
theorem dX5_kindOf_2 : decode cX5_kindOf 2 = .ok (.iload_n 1, 1) := by decide +kernel
theorem dX5_kindOf_3 : decode cX5_kindOf 3 = .ok (.invokevirtual 203, 3) := by decide +kernel
theorem dX5_kindOf_6 : decode cX5_kindOf 6 = .ok (.invokevirtual 108, 3) := by decide +kernel
theorem dX5_kindOf_9 : decode cX5_kindOf 9 = .ok (.ifCond .le 8, 3) := by decide +kernel
theorem dX5_kindOf_12 : decode cX5_kindOf 12 = .ok (.bipush 32, 2) := by decide +kernel
theorem dX5_kindOf_14 : decode cX5_kindOf 14 = .ok (.goto 9, 3) := by decide +kernel
theorem dX5_kindOf_17 : decode cX5_kindOf 17 = .ok (.aload_n 0, 1) := by decide +kernel
theorem dX5_kindOf_18 : decode cX5_kindOf 18 = .ok (.getfield 74, 3) := by decide +kernel
theorem dX5_kindOf_21 : decode cX5_kindOf 21 = .ok (.iload_n 1, 1) := by decide +kernel
theorem dX5_kindOf_22 : decode cX5_kindOf 22 = .ok (.caload, 1) := by decide +kernel
theorem dX5_kindOf_23 : decode cX5_kindOf 23 = .ok (.ireturn, 1) := by decide +kernel
set_option maxRecDepth 20000 in
theorem ggX5_termOfEntry_X5_isEntry : GoodIn wsX5_termOfEntry wsX5_isEntry := goodIn_r _ [6, 7, 8, 9, 5, 10, 16, 17, 18, 19, 20, 21, 22, 23, 24, 25, 26, 27, 28, 29, 30, 31, 32, 33, 34, 35, 36, 37, 38, 39, 40, 41, 42, 43, 44, 45] (by decide +kernel) (by decide +kernel)
set_option maxRecDepth 20000 in
theorem gX5_termOfEntry_X5_isEntry : GoodIn wsX5_termOfEntry (wsV RX5 203 RX5 yX5_isEntry wsX5_isEntry) := goodIn_app (goodIn_of _ (by decide +kernel)) ggX5_termOfEntry_X5_isEntry
set_option maxRecDepth 20000 in
theorem ggX5_termOfEntry_X5_checked : GoodIn wsX5_termOfEntry wsX5_checked := goodIn_r _ [14, 15, 16, 17, 18, 19, 20, 21, 22, 23, 24, 25, 26, 27, 28, 29, 30, 31, 32, 33, 34, 35, 36, 37, 38, 39, 40, 41, 42, 43, 44, 45] (by decide +kernel) (by decide +kernel)
set_option maxRecDepth 20000 in
theorem gX5_termOfEntry_X5_checked : GoodIn wsX5_termOfEntry (wsV RX5 108 RX5 yX5_checked wsX5_checked) := goodIn_app (goodIn_of _ (by decide +kernel)) ggX5_termOfEntry_X5_checked
theorem dX5_termOfEntry_0 : decode cX5_termOfEntry 0 = .ok (.aload_n 0, 1) := by decide +kernel
theorem dX5_termOfEntry_1 : decode cX5_termOfEntry 1 = .ok (.aload_n 0, 1) := by decide +kernel
theorem dX5_termOfEntry_2 : decode cX5_termOfEntry 2 = .ok (.iload_n 1, 1) := by decide +kernel
theorem dX5_termOfEntry_3 : decode cX5_termOfEntry 3 = .ok (.invokevirtual 203, 3) := by decide +kernel
theorem dX5_termOfEntry_6 : decode cX5_termOfEntry 6 = .ok (.invokevirtual 108, 3) := by decide +kernel
theorem dX5_termOfEntry_9 : decode cX5_termOfEntry 9 = .ok (.ifCond .le 7, 3) := by decide +kernel
theorem dX5_termOfEntry_12 : decode cX5_termOfEntry 12 = .ok (.iconst 0, 1) := by decide +kernel
theorem dX5_termOfEntry_13 : decode cX5_termOfEntry 13 = .ok (.goto 9, 3) := by decide +kernel
theorem dX5_termOfEntry_16 : decode cX5_termOfEntry 16 = .ok (.aload_n 0, 1) := by decide +kernel
theorem dX5_termOfEntry_17 : decode cX5_termOfEntry 17 = .ok (.getfield 78, 3) := by decide +kernel
theorem dX5_termOfEntry_20 : decode cX5_termOfEntry 20 = .ok (.iload_n 1, 1) := by decide +kernel
theorem dX5_termOfEntry_21 : decode cX5_termOfEntry 21 = .ok (.iaload, 1) := by decide +kernel
theorem dX5_termOfEntry_22 : decode cX5_termOfEntry 22 = .ok (.ireturn, 1) := by decide +kernel
set_option maxRecDepth 20000 in
theorem ggX5_knownBy_X5_isEntry : GoodIn wsX5_knownBy wsX5_isEntry := goodIn_r _ [6, 7, 8, 9, 5, 10, 16, 17, 18, 19, 20, 21, 22, 23, 24, 25, 26, 27, 28, 29, 30, 31, 32, 33, 34, 35, 36, 37, 38, 39, 40, 41, 42, 43, 44, 45] (by decide +kernel) (by decide +kernel)
set_option maxRecDepth 20000 in
theorem gX5_knownBy_X5_isEntry : GoodIn wsX5_knownBy (wsV RX5 203 RX5 yX5_isEntry wsX5_isEntry) := goodIn_app (goodIn_of _ (by decide +kernel)) ggX5_knownBy_X5_isEntry
set_option maxRecDepth 20000 in
theorem ggX5_knownBy_X5_checked : GoodIn wsX5_knownBy wsX5_checked := goodIn_r _ [14, 15, 16, 17, 18, 19, 20, 21, 22, 23, 24, 25, 26, 27, 28, 29, 30, 31, 32, 33, 34, 35, 36, 37, 38, 39, 40, 41, 42, 43, 44, 45] (by decide +kernel) (by decide +kernel)
set_option maxRecDepth 20000 in
theorem gX5_knownBy_X5_checked : GoodIn wsX5_knownBy (wsV RX5 108 RX5 yX5_checked wsX5_checked) := goodIn_app (goodIn_of _ (by decide +kernel)) ggX5_knownBy_X5_checked
theorem dX5_knownBy_0 : decode cX5_knownBy 0 = .ok (.aload_n 0, 1) := by decide +kernel
theorem dX5_knownBy_1 : decode cX5_knownBy 1 = .ok (.aload_n 0, 1) := by decide +kernel
theorem dX5_knownBy_2 : decode cX5_knownBy 2 = .ok (.iload_n 1, 1) := by decide +kernel
theorem dX5_knownBy_3 : decode cX5_knownBy 3 = .ok (.invokevirtual 203, 3) := by decide +kernel
theorem dX5_knownBy_6 : decode cX5_knownBy 6 = .ok (.invokevirtual 108, 3) := by decide +kernel
theorem dX5_knownBy_9 : decode cX5_knownBy 9 = .ok (.ifCond .le 5, 3) := by decide +kernel
theorem dX5_knownBy_12 : decode cX5_knownBy 12 = .ok (.iconst 0, 1) := by decide +kernel
theorem dX5_knownBy_13 : decode cX5_knownBy 13 = .ok (.ireturn, 1) := by decide +kernel
theorem dX5_knownBy_14 : decode cX5_knownBy 14 = .ok (.iconst 0, 1) := by decide +kernel
theorem dX5_knownBy_15 : decode cX5_knownBy 15 = .ok (.istore_n 2, 1) := by decide +kernel
theorem dX5_knownBy_16 : decode cX5_knownBy 16 = .ok (.iconst 0, 1) := by decide +kernel
theorem dX5_knownBy_17 : decode cX5_knownBy 17 = .ok (.istore_n 3, 1) := by decide +kernel
theorem dX5_knownBy_18 : decode cX5_knownBy 18 = .ok (.iload_n 3, 1) := by decide +kernel
theorem dX5_knownBy_19 : decode cX5_knownBy 19 = .ok (.iconst 5, 1) := by decide +kernel
theorem dX5_knownBy_20 : decode cX5_knownBy 20 = .ok (.if_icmp .ge 27, 3) := by decide +kernel
theorem dX5_knownBy_23 : decode cX5_knownBy 23 = .ok (.iload_n 2, 1) := by decide +kernel
theorem dX5_knownBy_24 : decode cX5_knownBy 24 = .ok (.aload_n 0, 1) := by decide +kernel
theorem dX5_knownBy_25 : decode cX5_knownBy 25 = .ok (.getfield 32, 3) := by decide +kernel
theorem dX5_knownBy_28 : decode cX5_knownBy 28 = .ok (.iload_n 3, 1) := by decide +kernel
theorem dX5_knownBy_29 : decode cX5_knownBy 29 = .ok (.iaload, 1) := by decide +kernel
theorem dX5_knownBy_30 : decode cX5_knownBy 30 = .ok (.iload_n 1, 1) := by decide +kernel
theorem dX5_knownBy_31 : decode cX5_knownBy 31 = .ok (.if_icmp .le 7, 3) := by decide +kernel
theorem dX5_knownBy_34 : decode cX5_knownBy 34 = .ok (.iconst 1, 1) := by decide +kernel
theorem dX5_knownBy_35 : decode cX5_knownBy 35 = .ok (.goto 4, 3) := by decide +kernel
theorem dX5_knownBy_38 : decode cX5_knownBy 38 = .ok (.iconst 0, 1) := by decide +kernel
theorem dX5_knownBy_39 : decode cX5_knownBy 39 = .ok (.iadd, 1) := by decide +kernel
theorem dX5_knownBy_40 : decode cX5_knownBy 40 = .ok (.istore_n 2, 1) := by decide +kernel
theorem dX5_knownBy_41 : decode cX5_knownBy 41 = .ok (.iinc 3 1, 3) := by decide +kernel
theorem dX5_knownBy_44 : decode cX5_knownBy 44 = .ok (.goto (-26), 3) := by decide +kernel
theorem dX5_knownBy_47 : decode cX5_knownBy 47 = .ok (.iload_n 2, 1) := by decide +kernel
theorem dX5_knownBy_48 : decode cX5_knownBy 48 = .ok (.ireturn, 1) := by decide +kernel
theorem dX5_leased_0 : decode cX5_leased 0 = .ok (.aload_n 0, 1) := by decide +kernel
theorem dX5_leased_1 : decode cX5_leased 1 = .ok (.iconst 0, 1) := by decide +kernel
theorem dX5_leased_2 : decode cX5_leased 2 = .ok (.putfield 87, 3) := by decide +kernel
theorem dX5_leased_5 : decode cX5_leased 5 = .ok (.aload_n 0, 1) := by decide +kernel
theorem dX5_leased_6 : decode cX5_leased 6 = .ok (.getfield 100, 3) := by decide +kernel
theorem dX5_leased_9 : decode cX5_leased 9 = .ok (.lstore_n 1, 1) := by decide +kernel
theorem dX5_leased_10 : decode cX5_leased 10 = .ok (.iconst 0, 1) := by decide +kernel
theorem dX5_leased_11 : decode cX5_leased 11 = .ok (.istore_n 3, 1) := by decide +kernel
theorem dX5_leased_12 : decode cX5_leased 12 = .ok (.iload_n 3, 1) := by decide +kernel
theorem dX5_leased_13 : decode cX5_leased 13 = .ok (.iconst 4, 1) := by decide +kernel
theorem dX5_leased_14 : decode cX5_leased 14 = .ok (.if_icmp .ge 39, 3) := by decide +kernel
theorem dX5_leased_17 : decode cX5_leased 17 = .ok (.lload_n 1, 1) := by decide +kernel
theorem dX5_leased_18 : decode cX5_leased 18 = .ok (.aload_n 0, 1) := by decide +kernel
theorem dX5_leased_19 : decode cX5_leased 19 = .ok (.getfield 53, 3) := by decide +kernel
theorem dX5_leased_22 : decode cX5_leased 22 = .ok (.iload_n 3, 1) := by decide +kernel
theorem dX5_leased_23 : decode cX5_leased 23 = .ok (.iaload, 1) := by decide +kernel
theorem dX5_leased_24 : decode cX5_leased 24 = .ok (.ifCond .lt 20, 3) := by decide +kernel
theorem dX5_leased_27 : decode cX5_leased 27 = .ok (.aload_n 0, 1) := by decide +kernel
theorem dX5_leased_28 : decode cX5_leased 28 = .ok (.getfield 56, 3) := by decide +kernel
theorem dX5_leased_31 : decode cX5_leased 31 = .ok (.iload_n 3, 1) := by decide +kernel
theorem dX5_leased_32 : decode cX5_leased 32 = .ok (.iaload, 1) := by decide +kernel
theorem dX5_leased_33 : decode cX5_leased 33 = .ok (.aload_n 0, 1) := by decide +kernel
theorem dX5_leased_34 : decode cX5_leased 34 = .ok (.getfield 59, 3) := by decide +kernel
theorem dX5_leased_37 : decode cX5_leased 37 = .ok (.iload_n 3, 1) := by decide +kernel
theorem dX5_leased_38 : decode cX5_leased 38 = .ok (.iaload, 1) := by decide +kernel
theorem dX5_leased_39 : decode cX5_leased 39 = .ok (.isub, 1) := by decide +kernel
theorem dX5_leased_40 : decode cX5_leased 40 = .ok (.i2l, 1) := by decide +kernel
theorem dX5_leased_41 : decode cX5_leased 41 = .ok (.goto 4, 3) := by decide +kernel
theorem dX5_leased_44 : decode cX5_leased 44 = .ok (.lconst 0, 1) := by decide +kernel
theorem dX5_leased_45 : decode cX5_leased 45 = .ok (.ladd, 1) := by decide +kernel
theorem dX5_leased_46 : decode cX5_leased 46 = .ok (.lstore_n 1, 1) := by decide +kernel
theorem dX5_leased_47 : decode cX5_leased 47 = .ok (.iinc 3 1, 3) := by decide +kernel
theorem dX5_leased_50 : decode cX5_leased 50 = .ok (.goto (-38), 3) := by decide +kernel
theorem dX5_leased_53 : decode cX5_leased 53 = .ok (.lload_n 1, 1) := by decide +kernel
theorem dX5_leased_54 : decode cX5_leased 54 = .ok (.lreturn, 1) := by decide +kernel
theorem dX5_upShare_0 : decode cX5_upShare 0 = .ok (.aload_n 0, 1) := by decide +kernel
theorem dX5_upShare_1 : decode cX5_upShare 1 = .ok (.iconst 0, 1) := by decide +kernel
theorem dX5_upShare_2 : decode cX5_upShare 2 = .ok (.putfield 87, 3) := by decide +kernel
theorem dX5_upShare_5 : decode cX5_upShare 5 = .ok (.iconst 0, 1) := by decide +kernel
theorem dX5_upShare_6 : decode cX5_upShare 6 = .ok (.istore_n 1, 1) := by decide +kernel
theorem dX5_upShare_7 : decode cX5_upShare 7 = .ok (.iconst 0, 1) := by decide +kernel
theorem dX5_upShare_8 : decode cX5_upShare 8 = .ok (.istore_n 2, 1) := by decide +kernel
theorem dX5_upShare_9 : decode cX5_upShare 9 = .ok (.iload_n 2, 1) := by decide +kernel
theorem dX5_upShare_10 : decode cX5_upShare 10 = .ok (.iconst 5, 1) := by decide +kernel
theorem dX5_upShare_11 : decode cX5_upShare 11 = .ok (.if_icmp .ge 26, 3) := by decide +kernel
theorem dX5_upShare_14 : decode cX5_upShare 14 = .ok (.iload_n 1, 1) := by decide +kernel
theorem dX5_upShare_15 : decode cX5_upShare 15 = .ok (.aload_n 0, 1) := by decide +kernel
theorem dX5_upShare_16 : decode cX5_upShare 16 = .ok (.getfield 7, 3) := by decide +kernel
theorem dX5_upShare_19 : decode cX5_upShare 19 = .ok (.iload_n 2, 1) := by decide +kernel
theorem dX5_upShare_20 : decode cX5_upShare 20 = .ok (.baload, 1) := by decide +kernel
theorem dX5_upShare_21 : decode cX5_upShare 21 = .ok (.ifCond .eq 7, 3) := by decide +kernel
theorem dX5_upShare_24 : decode cX5_upShare 24 = .ok (.iconst 0, 1) := by decide +kernel
theorem dX5_upShare_25 : decode cX5_upShare 25 = .ok (.goto 4, 3) := by decide +kernel
theorem dX5_upShare_28 : decode cX5_upShare 28 = .ok (.iconst 1, 1) := by decide +kernel
theorem dX5_upShare_29 : decode cX5_upShare 29 = .ok (.iadd, 1) := by decide +kernel
theorem dX5_upShare_30 : decode cX5_upShare 30 = .ok (.istore_n 1, 1) := by decide +kernel
theorem dX5_upShare_31 : decode cX5_upShare 31 = .ok (.iinc 2 1, 3) := by decide +kernel
theorem dX5_upShare_34 : decode cX5_upShare 34 = .ok (.goto (-25), 3) := by decide +kernel
theorem dX5_upShare_37 : decode cX5_upShare 37 = .ok (.iload_n 1, 1) := by decide +kernel
theorem dX5_upShare_38 : decode cX5_upShare 38 = .ok (.i2f, 1) := by decide +kernel
theorem dX5_upShare_39 : decode cX5_upShare 39 = .ok (.ldc 206, 2) := by decide +kernel
theorem dX5_upShare_41 : decode cX5_upShare 41 = .ok (.fdiv, 1) := by decide +kernel
theorem dX5_upShare_42 : decode cX5_upShare 42 = .ok (.freturn, 1) := by decide +kernel
set_option maxRecDepth 20000 in
theorem ggX5_meanKnown_X5_checked : GoodIn wsX5_meanKnown wsX5_checked := goodIn_r _ [7, 8, 9, 10, 11, 12, 13, 14, 15, 16, 17, 18, 19, 20, 21, 22, 23, 24, 25, 26, 27, 28, 29, 30, 31, 32, 33, 34, 35, 36, 37, 38] (by decide +kernel) (by decide +kernel)
set_option maxRecDepth 20000 in
theorem gX5_meanKnown_X5_checked : GoodIn wsX5_meanKnown (wsV RX5 108 RX5 yX5_checked wsX5_checked) := goodIn_app (goodIn_of _ (by decide +kernel)) ggX5_meanKnown_X5_checked
theorem dX5_meanKnown_0 : decode cX5_meanKnown 0 = .ok (.aload_n 0, 1) := by decide +kernel
theorem dX5_meanKnown_1 : decode cX5_meanKnown 1 = .ok (.aload_n 0, 1) := by decide +kernel
theorem dX5_meanKnown_2 : decode cX5_meanKnown 2 = .ok (.getfield 97, 3) := by decide +kernel
theorem dX5_meanKnown_5 : decode cX5_meanKnown 5 = .ok (.ifCond .le 7, 3) := by decide +kernel
theorem dX5_meanKnown_8 : decode cX5_meanKnown 8 = .ok (.iconst 1, 1) := by decide +kernel
theorem dX5_meanKnown_9 : decode cX5_meanKnown 9 = .ok (.goto 4, 3) := by decide +kernel
theorem dX5_meanKnown_12 : decode cX5_meanKnown 12 = .ok (.iconst 0, 1) := by decide +kernel
theorem dX5_meanKnown_13 : decode cX5_meanKnown 13 = .ok (.invokevirtual 108, 3) := by decide +kernel
theorem dX5_meanKnown_16 : decode cX5_meanKnown 16 = .ok (.ifCond .le 5, 3) := by decide +kernel
theorem dX5_meanKnown_19 : decode cX5_meanKnown 19 = .ok (.dconst 0, 1) := by decide +kernel
theorem dX5_meanKnown_20 : decode cX5_meanKnown 20 = .ok (.dreturn, 1) := by decide +kernel
theorem dX5_meanKnown_21 : decode cX5_meanKnown 21 = .ok (.iconst 0, 1) := by decide +kernel
theorem dX5_meanKnown_22 : decode cX5_meanKnown 22 = .ok (.istore_n 1, 1) := by decide +kernel
theorem dX5_meanKnown_23 : decode cX5_meanKnown 23 = .ok (.iconst 0, 1) := by decide +kernel
theorem dX5_meanKnown_24 : decode cX5_meanKnown 24 = .ok (.istore_n 2, 1) := by decide +kernel
theorem dX5_meanKnown_25 : decode cX5_meanKnown 25 = .ok (.iload_n 2, 1) := by decide +kernel
theorem dX5_meanKnown_26 : decode cX5_meanKnown 26 = .ok (.iconst 5, 1) := by decide +kernel
theorem dX5_meanKnown_27 : decode cX5_meanKnown 27 = .ok (.if_icmp .ge 18, 3) := by decide +kernel
theorem dX5_meanKnown_30 : decode cX5_meanKnown 30 = .ok (.iload_n 1, 1) := by decide +kernel
theorem dX5_meanKnown_31 : decode cX5_meanKnown 31 = .ok (.aload_n 0, 1) := by decide +kernel
theorem dX5_meanKnown_32 : decode cX5_meanKnown 32 = .ok (.getfield 32, 3) := by decide +kernel
theorem dX5_meanKnown_35 : decode cX5_meanKnown 35 = .ok (.iload_n 2, 1) := by decide +kernel
theorem dX5_meanKnown_36 : decode cX5_meanKnown 36 = .ok (.iaload, 1) := by decide +kernel
theorem dX5_meanKnown_37 : decode cX5_meanKnown 37 = .ok (.iadd, 1) := by decide +kernel
theorem dX5_meanKnown_38 : decode cX5_meanKnown 38 = .ok (.istore_n 1, 1) := by decide +kernel
theorem dX5_meanKnown_39 : decode cX5_meanKnown 39 = .ok (.iinc 2 1, 3) := by decide +kernel
theorem dX5_meanKnown_42 : decode cX5_meanKnown 42 = .ok (.goto (-17), 3) := by decide +kernel
theorem dX5_meanKnown_45 : decode cX5_meanKnown 45 = .ok (.iload_n 1, 1) := by decide +kernel
theorem dX5_meanKnown_46 : decode cX5_meanKnown 46 = .ok (.i2d, 1) := by decide +kernel
theorem dX5_meanKnown_47 : decode cX5_meanKnown 47 = .ok (.iconst 5, 1) := by decide +kernel
theorem dX5_meanKnown_48 : decode cX5_meanKnown 48 = .ok (.aload_n 0, 1) := by decide +kernel
theorem dX5_meanKnown_49 : decode cX5_meanKnown 49 = .ok (.getfield 97, 3) := by decide +kernel
theorem dX5_meanKnown_52 : decode cX5_meanKnown 52 = .ok (.imul, 1) := by decide +kernel
theorem dX5_meanKnown_53 : decode cX5_meanKnown 53 = .ok (.i2d, 1) := by decide +kernel
theorem dX5_meanKnown_54 : decode cX5_meanKnown 54 = .ok (.ddiv, 1) := by decide +kernel
theorem dX5_meanKnown_55 : decode cX5_meanKnown 55 = .ok (.dreturn, 1) := by decide +kernel
theorem dX5_isOneOrder_0 : decode cX5_isOneOrder 0 = .ok (.aload_n 0, 1) := by decide +kernel
theorem dX5_isOneOrder_1 : decode cX5_isOneOrder 1 = .ok (.iconst 0, 1) := by decide +kernel
theorem dX5_isOneOrder_2 : decode cX5_isOneOrder 2 = .ok (.putfield 87, 3) := by decide +kernel
theorem dX5_isOneOrder_5 : decode cX5_isOneOrder 5 = .ok (.iconst 1, 1) := by decide +kernel
theorem dX5_isOneOrder_6 : decode cX5_isOneOrder 6 = .ok (.ireturn, 1) := by decide +kernel
theorem dJx00060_init_a7421_0 : decode cJx00060_init_a7421 0 = .ok (.aload_n 0, 1) := by decide +kernel
theorem dJx00060_init_a7421_1 : decode cJx00060_init_a7421 1 = .ok (.aload_n 1, 1) := by decide +kernel
theorem dJx00060_init_a7421_2 : decode cJx00060_init_a7421 2 = .ok (.invokespecial 7, 3) := by decide +kernel
theorem dJx00060_init_a7421_5 : decode cJx00060_init_a7421 5 = .ok (.return_, 1) := by decide +kernel
theorem dJ7_fill_53178_0 : decode cJ7_fill_53178 0 = .ok (.iconst 0, 1) := by decide +kernel
theorem dJ7_fill_53178_1 : decode cJ7_fill_53178 1 = .ok (.istore_n 2, 1) := by decide +kernel
theorem dJ7_fill_53178_2 : decode cJ7_fill_53178 2 = .ok (.aload_n 0, 1) := by decide +kernel
theorem dJ7_fill_53178_3 : decode cJ7_fill_53178 3 = .ok (.arraylength, 1) := by decide +kernel
theorem dJ7_fill_53178_4 : decode cJ7_fill_53178 4 = .ok (.istore_n 3, 1) := by decide +kernel
theorem dJ7_fill_53178_5 : decode cJ7_fill_53178 5 = .ok (.iload_n 2, 1) := by decide +kernel
theorem dJ7_fill_53178_6 : decode cJ7_fill_53178 6 = .ok (.iload_n 3, 1) := by decide +kernel
theorem dJ7_fill_53178_7 : decode cJ7_fill_53178 7 = .ok (.if_icmp .ge 13, 3) := by decide +kernel
theorem dJ7_fill_53178_10 : decode cJ7_fill_53178 10 = .ok (.aload_n 0, 1) := by decide +kernel
theorem dJ7_fill_53178_11 : decode cJ7_fill_53178 11 = .ok (.iload_n 2, 1) := by decide +kernel
theorem dJ7_fill_53178_12 : decode cJ7_fill_53178 12 = .ok (.iload_n 1, 1) := by decide +kernel
theorem dJ7_fill_53178_13 : decode cJ7_fill_53178 13 = .ok (.iastore, 1) := by decide +kernel
theorem dJ7_fill_53178_14 : decode cJ7_fill_53178 14 = .ok (.iinc 2 1, 3) := by decide +kernel
theorem dJ7_fill_53178_17 : decode cJ7_fill_53178 17 = .ok (.goto (-12), 3) := by decide +kernel
theorem dJ7_fill_53178_20 : decode cJ7_fill_53178 20 = .ok (.return_, 1) := by decide +kernel
