set_option maxRecDepth 20000 in
theorem ggX5_init_X5_plain : GoodIn wsX5_init wsX5_plain := goodIn_r _ [41, 11, 16, 42, 43, 44, 45, 46, 47, 48, 49, 50, 51, 52, 53, 54, 55, 56, 57, 58, 59, 60, 61, 62, 63, 64, 65, 66, 67, 68, 69] (by decide +kernel) (by decide +kernel)
set_option maxRecDepth 20000 in
theorem gX5_init_X5_plain : GoodIn wsX5_init (wsV RX5 84 RX5 yX5_plain wsX5_plain) := goodIn_app (goodIn_of _ (by decide +kernel)) ggX5_init_X5_plain
theorem dX5_init_0 : decode cX5_init 0 = .ok (.aload_n 0, 1) := by decide +kernel
theorem dX5_init_1 : decode cX5_init 1 = .ok (.invokespecial 1, 3) := by decide +kernel
theorem dX5_init_4 : decode cX5_init 4 = .ok (.aload_n 0, 1) := by decide +kernel
theorem dX5_init_5 : decode cX5_init 5 = .ok (.sipush 1600, 3) := by decide +kernel
theorem dX5_init_8 : decode cX5_init 8 = .ok (.newarray .int, 2) := by decide +kernel
theorem dX5_init_10 : decode cX5_init 10 = .ok (.putfield 7, 3) := by decide +kernel
theorem dX5_init_13 : decode cX5_init 13 = .ok (.aload_n 0, 1) := by decide +kernel
theorem dX5_init_14 : decode cX5_init 14 = .ok (.bipush 8, 2) := by decide +kernel
theorem dX5_init_16 : decode cX5_init 16 = .ok (.newarray .int, 2) := by decide +kernel
theorem dX5_init_18 : decode cX5_init 18 = .ok (.putfield 13, 3) := by decide +kernel
theorem dX5_init_21 : decode cX5_init 21 = .ok (.aload_n 0, 1) := by decide +kernel
theorem dX5_init_22 : decode cX5_init 22 = .ok (.ldc 16, 2) := by decide +kernel
theorem dX5_init_24 : decode cX5_init 24 = .ok (.newarray .int, 2) := by decide +kernel
theorem dX5_init_26 : decode cX5_init 26 = .ok (.putfield 17, 3) := by decide +kernel
theorem dX5_init_29 : decode cX5_init 29 = .ok (.aload_n 0, 1) := by decide +kernel
theorem dX5_init_30 : decode cX5_init 30 = .ok (.iconst 4, 1) := by decide +kernel
theorem dX5_init_31 : decode cX5_init 31 = .ok (.newarray .int, 2) := by decide +kernel
theorem dX5_init_33 : decode cX5_init 33 = .ok (.putfield 20, 3) := by decide +kernel
theorem dX5_init_36 : decode cX5_init 36 = .ok (.aload_n 0, 1) := by decide +kernel
theorem dX5_init_37 : decode cX5_init 37 = .ok (.iconst 4, 1) := by decide +kernel
theorem dX5_init_38 : decode cX5_init 38 = .ok (.newarray .int, 2) := by decide +kernel
theorem dX5_init_40 : decode cX5_init 40 = .ok (.putfield 23, 3) := by decide +kernel
theorem dX5_init_43 : decode cX5_init 43 = .ok (.aload_n 0, 1) := by decide +kernel
theorem dX5_init_44 : decode cX5_init 44 = .ok (.bipush 32, 2) := by decide +kernel
theorem dX5_init_46 : decode cX5_init 46 = .ok (.newarray .int, 2) := by decide +kernel
theorem dX5_init_48 : decode cX5_init 48 = .ok (.putfield 26, 3) := by decide +kernel
theorem dX5_init_51 : decode cX5_init 51 = .ok (.aload_n 0, 1) := by decide +kernel
theorem dX5_init_52 : decode cX5_init 52 = .ok (.sipush 1280, 3) := by decide +kernel
theorem dX5_init_55 : decode cX5_init 55 = .ok (.newarray .int, 2) := by decide +kernel
theorem dX5_init_57 : decode cX5_init 57 = .ok (.putfield 29, 3) := by decide +kernel
theorem dX5_init_60 : decode cX5_init 60 = .ok (.aload_n 0, 1) := by decide +kernel
theorem dX5_init_61 : decode cX5_init 61 = .ok (.iconst 4, 1) := by decide +kernel
theorem dX5_init_62 : decode cX5_init 62 = .ok (.newarray .int, 2) := by decide +kernel
theorem dX5_init_64 : decode cX5_init 64 = .ok (.putfield 32, 3) := by decide +kernel
theorem dX5_init_67 : decode cX5_init 67 = .ok (.aload_n 0, 1) := by decide +kernel
theorem dX5_init_68 : decode cX5_init 68 = .ok (.sipush 20000, 3) := by decide +kernel
theorem dX5_init_71 : decode cX5_init 71 = .ok (.newarray .int, 2) := by decide +kernel
theorem dX5_init_73 : decode cX5_init 73 = .ok (.putfield 35, 3) := by decide +kernel
theorem dX5_init_76 : decode cX5_init 76 = .ok (.aload_n 0, 1) := by decide +kernel
theorem dX5_init_77 : decode cX5_init 77 = .ok (.sipush 2000, 3) := by decide +kernel
theorem dX5_init_80 : decode cX5_init 80 = .ok (.newarray .int, 2) := by decide +kernel
theorem dX5_init_82 : decode cX5_init 82 = .ok (.putfield 38, 3) := by decide +kernel
theorem dX5_init_85 : decode cX5_init 85 = .ok (.aload_n 0, 1) := by decide +kernel
theorem dX5_init_86 : decode cX5_init 86 = .ok (.bipush 8, 2) := by decide +kernel
theorem dX5_init_88 : decode cX5_init 88 = .ok (.newarray .int, 2) := by decide +kernel
theorem dX5_init_90 : decode cX5_init 90 = .ok (.putfield 41, 3) := by decide +kernel
theorem dX5_init_93 : decode cX5_init 93 = .ok (.aload_n 0, 1) := by decide +kernel
theorem dX5_init_94 : decode cX5_init 94 = .ok (.bipush 8, 2) := by decide +kernel
theorem dX5_init_96 : decode cX5_init 96 = .ok (.newarray .int, 2) := by decide +kernel
theorem dX5_init_98 : decode cX5_init 98 = .ok (.putfield 44, 3) := by decide +kernel
theorem dX5_init_101 : decode cX5_init 101 = .ok (.aload_n 0, 1) := by decide +kernel
theorem dX5_init_102 : decode cX5_init 102 = .ok (.bipush 8, 2) := by decide +kernel
theorem dX5_init_104 : decode cX5_init 104 = .ok (.newarray .int, 2) := by decide +kernel
theorem dX5_init_106 : decode cX5_init 106 = .ok (.putfield 47, 3) := by decide +kernel
theorem dX5_init_109 : decode cX5_init 109 = .ok (.aload_n 0, 1) := by decide +kernel
theorem dX5_init_110 : decode cX5_init 110 = .ok (.bipush 16, 2) := by decide +kernel
theorem dX5_init_112 : decode cX5_init 112 = .ok (.newarray .int, 2) := by decide +kernel
theorem dX5_init_114 : decode cX5_init 114 = .ok (.putfield 50, 3) := by decide +kernel
theorem dX5_init_117 : decode cX5_init 117 = .ok (.aload_n 0, 1) := by decide +kernel
theorem dX5_init_118 : decode cX5_init 118 = .ok (.bipush 16, 2) := by decide +kernel
theorem dX5_init_120 : decode cX5_init 120 = .ok (.newarray .int, 2) := by decide +kernel
theorem dX5_init_122 : decode cX5_init 122 = .ok (.putfield 53, 3) := by decide +kernel
theorem dX5_init_125 : decode cX5_init 125 = .ok (.aload_n 0, 1) := by decide +kernel
theorem dX5_init_126 : decode cX5_init 126 = .ok (.bipush 16, 2) := by decide +kernel
theorem dX5_init_128 : decode cX5_init 128 = .ok (.newarray .int, 2) := by decide +kernel
theorem dX5_init_130 : decode cX5_init 130 = .ok (.putfield 56, 3) := by decide +kernel
theorem dX5_init_133 : decode cX5_init 133 = .ok (.aload_n 0, 1) := by decide +kernel
theorem dX5_init_134 : decode cX5_init 134 = .ok (.bipush 16, 2) := by decide +kernel
theorem dX5_init_136 : decode cX5_init 136 = .ok (.newarray .int, 2) := by decide +kernel
theorem dX5_init_138 : decode cX5_init 138 = .ok (.putfield 59, 3) := by decide +kernel
theorem dX5_init_141 : decode cX5_init 141 = .ok (.aload_n 0, 1) := by decide +kernel
theorem dX5_init_142 : decode cX5_init 142 = .ok (.bipush 16, 2) := by decide +kernel
theorem dX5_init_144 : decode cX5_init 144 = .ok (.newarray .int, 2) := by decide +kernel
theorem dX5_init_146 : decode cX5_init 146 = .ok (.putfield 62, 3) := by decide +kernel
theorem dX5_init_149 : decode cX5_init 149 = .ok (.aload_n 0, 1) := by decide +kernel
theorem dX5_init_150 : decode cX5_init 150 = .ok (.bipush 96, 2) := by decide +kernel
theorem dX5_init_152 : decode cX5_init 152 = .ok (.newarray .int, 2) := by decide +kernel
theorem dX5_init_154 : decode cX5_init 154 = .ok (.putfield 65, 3) := by decide +kernel
theorem dX5_init_157 : decode cX5_init 157 = .ok (.aload_n 0, 1) := by decide +kernel
theorem dX5_init_158 : decode cX5_init 158 = .ok (.bipush 20, 2) := by decide +kernel
theorem dX5_init_160 : decode cX5_init 160 = .ok (.newarray .boolean, 2) := by decide +kernel
theorem dX5_init_162 : decode cX5_init 162 = .ok (.putfield 68, 3) := by decide +kernel
theorem dX5_init_165 : decode cX5_init 165 = .ok (.aload_n 0, 1) := by decide +kernel
theorem dX5_init_166 : decode cX5_init 166 = .ok (.getfield 41, 3) := by decide +kernel
theorem dX5_init_169 : decode cX5_init 169 = .ok (.iconst 0, 1) := by decide +kernel
theorem dX5_init_170 : decode cX5_init 170 = .ok (.ldc 72, 2) := by decide +kernel
theorem dX5_init_172 : decode cX5_init 172 = .ok (.iastore, 1) := by decide +kernel
theorem dX5_init_173 : decode cX5_init 173 = .ok (.aload_n 0, 1) := by decide +kernel
theorem dX5_init_174 : decode cX5_init 174 = .ok (.getfield 41, 3) := by decide +kernel
theorem dX5_init_177 : decode cX5_init 177 = .ok (.iconst 1, 1) := by decide +kernel
theorem dX5_init_178 : decode cX5_init 178 = .ok (.ldc 73, 2) := by decide +kernel
theorem dX5_init_180 : decode cX5_init 180 = .ok (.iastore, 1) := by decide +kernel
theorem dX5_init_181 : decode cX5_init 181 = .ok (.aload_n 0, 1) := by decide +kernel
theorem dX5_init_182 : decode cX5_init 182 = .ok (.getfield 41, 3) := by decide +kernel
theorem dX5_init_185 : decode cX5_init 185 = .ok (.iconst 2, 1) := by decide +kernel
theorem dX5_init_186 : decode cX5_init 186 = .ok (.ldc 74, 2) := by decide +kernel
theorem dX5_init_188 : decode cX5_init 188 = .ok (.iastore, 1) := by decide +kernel
theorem dX5_init_189 : decode cX5_init 189 = .ok (.aload_n 0, 1) := by decide +kernel
theorem dX5_init_190 : decode cX5_init 190 = .ok (.getfield 41, 3) := by decide +kernel
theorem dX5_init_193 : decode cX5_init 193 = .ok (.iconst 3, 1) := by decide +kernel
theorem dX5_init_194 : decode cX5_init 194 = .ok (.ldc 75, 2) := by decide +kernel
theorem dX5_init_196 : decode cX5_init 196 = .ok (.iastore, 1) := by decide +kernel
theorem dX5_init_197 : decode cX5_init 197 = .ok (.aload_n 0, 1) := by decide +kernel
theorem dX5_init_198 : decode cX5_init 198 = .ok (.getfield 41, 3) := by decide +kernel
theorem dX5_init_201 : decode cX5_init 201 = .ok (.iconst 4, 1) := by decide +kernel
theorem dX5_init_202 : decode cX5_init 202 = .ok (.ldc 76, 2) := by decide +kernel
theorem dX5_init_204 : decode cX5_init 204 = .ok (.iastore, 1) := by decide +kernel
theorem dX5_init_205 : decode cX5_init 205 = .ok (.aload_n 0, 1) := by decide +kernel
theorem dX5_init_206 : decode cX5_init 206 = .ok (.getfield 41, 3) := by decide +kernel
theorem dX5_init_209 : decode cX5_init 209 = .ok (.iconst 5, 1) := by decide +kernel
theorem dX5_init_210 : decode cX5_init 210 = .ok (.ldc 77, 2) := by decide +kernel
theorem dX5_init_212 : decode cX5_init 212 = .ok (.iastore, 1) := by decide +kernel
theorem dX5_init_213 : decode cX5_init 213 = .ok (.aload_n 0, 1) := by decide +kernel
theorem dX5_init_214 : decode cX5_init 214 = .ok (.getfield 41, 3) := by decide +kernel
theorem dX5_init_217 : decode cX5_init 217 = .ok (.bipush 6, 2) := by decide +kernel
theorem dX5_init_219 : decode cX5_init 219 = .ok (.ldc 78, 2) := by decide +kernel
theorem dX5_init_221 : decode cX5_init 221 = .ok (.iastore, 1) := by decide +kernel
theorem dX5_init_222 : decode cX5_init 222 = .ok (.aload_n 0, 1) := by decide +kernel
theorem dX5_init_223 : decode cX5_init 223 = .ok (.getfield 41, 3) := by decide +kernel
theorem dX5_init_226 : decode cX5_init 226 = .ok (.bipush 7, 2) := by decide +kernel
theorem dX5_init_228 : decode cX5_init 228 = .ok (.ldc 79, 2) := by decide +kernel
theorem dX5_init_230 : decode cX5_init 230 = .ok (.iastore, 1) := by decide +kernel
theorem dX5_init_231 : decode cX5_init 231 = .ok (.ldc2_w 80, 3) := by decide +kernel
theorem dX5_init_234 : decode cX5_init 234 = .ok (.lstore_n 1, 1) := by decide +kernel
theorem dX5_init_235 : decode cX5_init 235 = .ok (.iconst 0, 1) := by decide +kernel
theorem dX5_init_236 : decode cX5_init 236 = .ok (.istore_n 3, 1) := by decide +kernel
theorem dX5_init_237 : decode cX5_init 237 = .ok (.iload_n 3, 1) := by decide +kernel
theorem dX5_init_238 : decode cX5_init 238 = .ok (.bipush 16, 2) := by decide +kernel
theorem dX5_init_240 : decode cX5_init 240 = .ok (.if_icmp .ge 25, 3) := by decide +kernel
theorem dX5_init_243 : decode cX5_init 243 = .ok (.aload_n 0, 1) := by decide +kernel
theorem dX5_init_244 : decode cX5_init 244 = .ok (.getfield 62, 3) := by decide +kernel
theorem dX5_init_247 : decode cX5_init 247 = .ok (.iload_n 3, 1) := by decide +kernel
theorem dX5_init_248 : decode cX5_init 248 = .ok (.lload_n 1, 1) := by decide +kernel
theorem dX5_init_249 : decode cX5_init 249 = .ok (.iconst 4, 1) := by decide +kernel
theorem dX5_init_250 : decode cX5_init 250 = .ok (.iload_n 3, 1) := by decide +kernel
theorem dX5_init_251 : decode cX5_init 251 = .ok (.imul, 1) := by decide +kernel
theorem dX5_init_252 : decode cX5_init 252 = .ok (.lshr, 1) := by decide +kernel
theorem dX5_init_253 : decode cX5_init 253 = .ok (.ldc2_w 82, 3) := by decide +kernel
theorem dX5_init_256 : decode cX5_init 256 = .ok (.land, 1) := by decide +kernel
theorem dX5_init_257 : decode cX5_init 257 = .ok (.l2i, 1) := by decide +kernel
theorem dX5_init_258 : decode cX5_init 258 = .ok (.iastore, 1) := by decide +kernel
theorem dX5_init_259 : decode cX5_init 259 = .ok (.iinc 3 1, 3) := by decide +kernel
theorem dX5_init_262 : decode cX5_init 262 = .ok (.goto (-25), 3) := by decide +kernel
theorem dX5_init_265 : decode cX5_init 265 = .ok (.iconst 0, 1) := by decide +kernel
theorem dX5_init_266 : decode cX5_init 266 = .ok (.istore_n 3, 1) := by decide +kernel
theorem dX5_init_267 : decode cX5_init 267 = .ok (.iload_n 3, 1) := by decide +kernel
theorem dX5_init_268 : decode cX5_init 268 = .ok (.iconst 4, 1) := by decide +kernel
theorem dX5_init_269 : decode cX5_init 269 = .ok (.if_icmp .ge 14, 3) := by decide +kernel
theorem dX5_init_272 : decode cX5_init 272 = .ok (.aload_n 0, 1) := by decide +kernel
theorem dX5_init_273 : decode cX5_init 273 = .ok (.iload_n 3, 1) := by decide +kernel
theorem dX5_init_274 : decode cX5_init 274 = .ok (.invokevirtual 84, 3) := by decide +kernel
theorem dX5_init_277 : decode cX5_init 277 = .ok (.iinc 3 1, 3) := by decide +kernel
theorem dX5_init_280 : decode cX5_init 280 = .ok (.goto (-13), 3) := by decide +kernel
theorem dX5_init_283 : decode cX5_init 283 = .ok (.return_, 1) := by decide +kernel
theorem dX5_plain_0 : decode cX5_plain 0 = .ok (.iconst 0, 1) := by decide +kernel
theorem dX5_plain_1 : decode cX5_plain 1 = .ok (.istore_n 2, 1) := by decide +kernel
theorem dX5_plain_2 : decode cX5_plain 2 = .ok (.iload_n 2, 1) := by decide +kernel
theorem dX5_plain_3 : decode cX5_plain 3 = .ok (.bipush 8, 2) := by decide +kernel
theorem dX5_plain_5 : decode cX5_plain 5 = .ok (.if_icmp .ge 26, 3) := by decide +kernel
theorem dX5_plain_8 : decode cX5_plain 8 = .ok (.aload_n 0, 1) := by decide +kernel
theorem dX5_plain_9 : decode cX5_plain 9 = .ok (.getfield 26, 3) := by decide +kernel
theorem dX5_plain_12 : decode cX5_plain 12 = .ok (.bipush 8, 2) := by decide +kernel
theorem dX5_plain_14 : decode cX5_plain 14 = .ok (.iload_n 1, 1) := by decide +kernel
theorem dX5_plain_15 : decode cX5_plain 15 = .ok (.imul, 1) := by decide +kernel
theorem dX5_plain_16 : decode cX5_plain 16 = .ok (.iload_n 2, 1) := by decide +kernel
theorem dX5_plain_17 : decode cX5_plain 17 = .ok (.iadd, 1) := by decide +kernel
theorem dX5_plain_18 : decode cX5_plain 18 = .ok (.aload_n 0, 1) := by decide +kernel
theorem dX5_plain_19 : decode cX5_plain 19 = .ok (.getfield 41, 3) := by decide +kernel
theorem dX5_plain_22 : decode cX5_plain 22 = .ok (.iload_n 2, 1) := by decide +kernel
theorem dX5_plain_23 : decode cX5_plain 23 = .ok (.iaload, 1) := by decide +kernel
theorem dX5_plain_24 : decode cX5_plain 24 = .ok (.iastore, 1) := by decide +kernel
theorem dX5_plain_25 : decode cX5_plain 25 = .ok (.iinc 2 1, 3) := by decide +kernel
theorem dX5_plain_28 : decode cX5_plain 28 = .ok (.goto (-26), 3) := by decide +kernel
theorem dX5_plain_31 : decode cX5_plain 31 = .ok (.return_, 1) := by decide +kernel
theorem dX5_in_0 : decode cX5_in 0 = .ok (.lload_n 0, 1) := by decide +kernel
theorem dX5_in_1 : decode cX5_in 1 = .ok (.lload_n 2, 1) := by decide +kernel
theorem dX5_in_2 : decode cX5_in 2 = .ok (.lcmp, 1) := by decide +kernel
theorem dX5_in_3 : decode cX5_in 3 = .ok (.ifCond .lt 14, 3) := by decide +kernel
theorem dX5_in_6 : decode cX5_in 6 = .ok (.lload_n 0, 1) := by decide +kernel
theorem dX5_in_7 : decode cX5_in 7 = .ok (.lload 4, 2) := by decide +kernel
theorem dX5_in_9 : decode cX5_in 9 = .ok (.lcmp, 1) := by decide +kernel
theorem dX5_in_10 : decode cX5_in 10 = .ok (.ifCond .gt 7, 3) := by decide +kernel
theorem dX5_in_13 : decode cX5_in 13 = .ok (.iconst 1, 1) := by decide +kernel
theorem dX5_in_14 : decode cX5_in 14 = .ok (.goto 4, 3) := by decide +kernel
theorem dX5_in_17 : decode cX5_in 17 = .ok (.iconst 0, 1) := by decide +kernel
theorem dX5_in_18 : decode cX5_in 18 = .ok (.ireturn, 1) := by decide +kernel
theorem dX5_turned_0 : decode cX5_turned 0 = .ok (.iload_n 0, 1) := by decide +kernel
theorem dX5_turned_1 : decode cX5_turned 1 = .ok (.iload_n 1, 1) := by decide +kernel
theorem dX5_turned_2 : decode cX5_turned 2 = .ok (.iushr, 1) := by decide +kernel
theorem dX5_turned_3 : decode cX5_turned 3 = .ok (.iload_n 0, 1) := by decide +kernel
theorem dX5_turned_4 : decode cX5_turned 4 = .ok (.bipush 32, 2) := by decide +kernel
theorem dX5_turned_6 : decode cX5_turned 6 = .ok (.iload_n 1, 1) := by decide +kernel
theorem dX5_turned_7 : decode cX5_turned 7 = .ok (.isub, 1) := by decide +kernel
theorem dX5_turned_8 : decode cX5_turned 8 = .ok (.ishl, 1) := by decide +kernel
theorem dX5_turned_9 : decode cX5_turned 9 = .ok (.ior, 1) := by decide +kernel
theorem dX5_turned_10 : decode cX5_turned 10 = .ok (.ireturn, 1) := by decide +kernel
set_option maxRecDepth 20000 in
theorem ggX5_turn_X5_turned : GoodIn wsX5_turn wsX5_turned := goodIn_r _ [6] (by decide +kernel) (by decide +kernel)
set_option maxRecDepth 20000 in
theorem gX5_turn_X5_turned : GoodIn wsX5_turn (va_wsS RX5 88 yX5_turned wsX5_turned) := goodIn_app (goodIn_of _ (by decide +kernel)) ggX5_turn_X5_turned
theorem dX5_turn_0 : decode cX5_turn 0 = .ok (.aload_n 0, 1) := by decide +kernel
theorem dX5_turn_1 : decode cX5_turn 1 = .ok (.getfield 53, 3) := by decide +kernel
theorem dX5_turn_4 : decode cX5_turn 4 = .ok (.iload_n 1, 1) := by decide +kernel
theorem dX5_turn_5 : decode cX5_turn 5 = .ok (.dup2, 1) := by decide +kernel
theorem dX5_turn_6 : decode cX5_turn 6 = .ok (.iaload, 1) := by decide +kernel
theorem dX5_turn_7 : decode cX5_turn 7 = .ok (.aload_n 0, 1) := by decide +kernel
theorem dX5_turn_8 : decode cX5_turn 8 = .ok (.getfield 53, 3) := by decide +kernel
theorem dX5_turn_11 : decode cX5_turn 11 = .ok (.iload_n 2, 1) := by decide +kernel
theorem dX5_turn_12 : decode cX5_turn 12 = .ok (.iaload, 1) := by decide +kernel
theorem dX5_turn_13 : decode cX5_turn 13 = .ok (.aload_n 0, 1) := by decide +kernel
theorem dX5_turn_14 : decode cX5_turn 14 = .ok (.getfield 56, 3) := by decide +kernel
theorem dX5_turn_17 : decode cX5_turn 17 = .ok (.iload 5, 2) := by decide +kernel
theorem dX5_turn_19 : decode cX5_turn 19 = .ok (.iaload, 1) := by decide +kernel
theorem dX5_turn_20 : decode cX5_turn 20 = .ok (.iadd, 1) := by decide +kernel
theorem dX5_turn_21 : decode cX5_turn 21 = .ok (.iadd, 1) := by decide +kernel
theorem dX5_turn_22 : decode cX5_turn 22 = .ok (.iastore, 1) := by decide +kernel
theorem dX5_turn_23 : decode cX5_turn 23 = .ok (.aload_n 0, 1) := by decide +kernel
theorem dX5_turn_24 : decode cX5_turn 24 = .ok (.getfield 53, 3) := by decide +kernel
theorem dX5_turn_27 : decode cX5_turn 27 = .ok (.iload 4, 2) := by decide +kernel
theorem dX5_turn_29 : decode cX5_turn 29 = .ok (.aload_n 0, 1) := by decide +kernel
theorem dX5_turn_30 : decode cX5_turn 30 = .ok (.getfield 53, 3) := by decide +kernel
theorem dX5_turn_33 : decode cX5_turn 33 = .ok (.iload 4, 2) := by decide +kernel
theorem dX5_turn_35 : decode cX5_turn 35 = .ok (.iaload, 1) := by decide +kernel
theorem dX5_turn_36 : decode cX5_turn 36 = .ok (.aload_n 0, 1) := by decide +kernel
theorem dX5_turn_37 : decode cX5_turn 37 = .ok (.getfield 53, 3) := by decide +kernel
theorem dX5_turn_40 : decode cX5_turn 40 = .ok (.iload_n 1, 1) := by decide +kernel
theorem dX5_turn_41 : decode cX5_turn 41 = .ok (.iaload, 1) := by decide +kernel
theorem dX5_turn_42 : decode cX5_turn 42 = .ok (.ixor, 1) := by decide +kernel
theorem dX5_turn_43 : decode cX5_turn 43 = .ok (.bipush 16, 2) := by decide +kernel
theorem dX5_turn_45 : decode cX5_turn 45 = .ok (.invokestatic 88, 3) := by decide +kernel
theorem dX5_turn_48 : decode cX5_turn 48 = .ok (.iastore, 1) := by decide +kernel
theorem dX5_turn_49 : decode cX5_turn 49 = .ok (.aload_n 0, 1) := by decide +kernel
theorem dX5_turn_50 : decode cX5_turn 50 = .ok (.getfield 53, 3) := by decide +kernel
theorem dX5_turn_53 : decode cX5_turn 53 = .ok (.iload_n 3, 1) := by decide +kernel
theorem dX5_turn_54 : decode cX5_turn 54 = .ok (.dup2, 1) := by decide +kernel
theorem dX5_turn_55 : decode cX5_turn 55 = .ok (.iaload, 1) := by decide +kernel
theorem dX5_turn_56 : decode cX5_turn 56 = .ok (.aload_n 0, 1) := by decide +kernel
theorem dX5_turn_57 : decode cX5_turn 57 = .ok (.getfield 53, 3) := by decide +kernel
theorem dX5_turn_60 : decode cX5_turn 60 = .ok (.iload 4, 2) := by decide +kernel
theorem dX5_turn_62 : decode cX5_turn 62 = .ok (.iaload, 1) := by decide +kernel
theorem dX5_turn_63 : decode cX5_turn 63 = .ok (.iadd, 1) := by decide +kernel
theorem dX5_turn_64 : decode cX5_turn 64 = .ok (.iastore, 1) := by decide +kernel
theorem dX5_turn_65 : decode cX5_turn 65 = .ok (.aload_n 0, 1) := by decide +kernel
theorem dX5_turn_66 : decode cX5_turn 66 = .ok (.getfield 53, 3) := by decide +kernel
theorem dX5_turn_69 : decode cX5_turn 69 = .ok (.iload_n 2, 1) := by decide +kernel
theorem dX5_turn_70 : decode cX5_turn 70 = .ok (.aload_n 0, 1) := by decide +kernel
theorem dX5_turn_71 : decode cX5_turn 71 = .ok (.getfield 53, 3) := by decide +kernel
theorem dX5_turn_74 : decode cX5_turn 74 = .ok (.iload_n 2, 1) := by decide +kernel
theorem dX5_turn_75 : decode cX5_turn 75 = .ok (.iaload, 1) := by decide +kernel
theorem dX5_turn_76 : decode cX5_turn 76 = .ok (.aload_n 0, 1) := by decide +kernel
theorem dX5_turn_77 : decode cX5_turn 77 = .ok (.getfield 53, 3) := by decide +kernel
theorem dX5_turn_80 : decode cX5_turn 80 = .ok (.iload_n 3, 1) := by decide +kernel
theorem dX5_turn_81 : decode cX5_turn 81 = .ok (.iaload, 1) := by decide +kernel
theorem dX5_turn_82 : decode cX5_turn 82 = .ok (.ixor, 1) := by decide +kernel
theorem dX5_turn_83 : decode cX5_turn 83 = .ok (.bipush 12, 2) := by decide +kernel
theorem dX5_turn_85 : decode cX5_turn 85 = .ok (.invokestatic 88, 3) := by decide +kernel
theorem dX5_turn_88 : decode cX5_turn 88 = .ok (.iastore, 1) := by decide +kernel
theorem dX5_turn_89 : decode cX5_turn 89 = .ok (.aload_n 0, 1) := by decide +kernel
theorem dX5_turn_90 : decode cX5_turn 90 = .ok (.getfield 53, 3) := by decide +kernel
theorem dX5_turn_93 : decode cX5_turn 93 = .ok (.iload_n 1, 1) := by decide +kernel
theorem dX5_turn_94 : decode cX5_turn 94 = .ok (.dup2, 1) := by decide +kernel
theorem dX5_turn_95 : decode cX5_turn 95 = .ok (.iaload, 1) := by decide +kernel
theorem dX5_turn_96 : decode cX5_turn 96 = .ok (.aload_n 0, 1) := by decide +kernel
theorem dX5_turn_97 : decode cX5_turn 97 = .ok (.getfield 53, 3) := by decide +kernel
theorem dX5_turn_100 : decode cX5_turn 100 = .ok (.iload_n 2, 1) := by decide +kernel
theorem dX5_turn_101 : decode cX5_turn 101 = .ok (.iaload, 1) := by decide +kernel
theorem dX5_turn_102 : decode cX5_turn 102 = .ok (.aload_n 0, 1) := by decide +kernel
theorem dX5_turn_103 : decode cX5_turn 103 = .ok (.getfield 56, 3) := by decide +kernel
theorem dX5_turn_106 : decode cX5_turn 106 = .ok (.iload 5, 2) := by decide +kernel
theorem dX5_turn_108 : decode cX5_turn 108 = .ok (.iconst 1, 1) := by decide +kernel
theorem dX5_turn_109 : decode cX5_turn 109 = .ok (.iadd, 1) := by decide +kernel
theorem dX5_turn_110 : decode cX5_turn 110 = .ok (.iaload, 1) := by decide +kernel
theorem dX5_turn_111 : decode cX5_turn 111 = .ok (.iadd, 1) := by decide +kernel
theorem dX5_turn_112 : decode cX5_turn 112 = .ok (.iadd, 1) := by decide +kernel
theorem dX5_turn_113 : decode cX5_turn 113 = .ok (.iastore, 1) := by decide +kernel
theorem dX5_turn_114 : decode cX5_turn 114 = .ok (.aload_n 0, 1) := by decide +kernel
theorem dX5_turn_115 : decode cX5_turn 115 = .ok (.getfield 53, 3) := by decide +kernel
theorem dX5_turn_118 : decode cX5_turn 118 = .ok (.iload 4, 2) := by decide +kernel
theorem dX5_turn_120 : decode cX5_turn 120 = .ok (.aload_n 0, 1) := by decide +kernel
theorem dX5_turn_121 : decode cX5_turn 121 = .ok (.getfield 53, 3) := by decide +kernel
theorem dX5_turn_124 : decode cX5_turn 124 = .ok (.iload 4, 2) := by decide +kernel
theorem dX5_turn_126 : decode cX5_turn 126 = .ok (.iaload, 1) := by decide +kernel
theorem dX5_turn_127 : decode cX5_turn 127 = .ok (.aload_n 0, 1) := by decide +kernel
theorem dX5_turn_128 : decode cX5_turn 128 = .ok (.getfield 53, 3) := by decide +kernel
theorem dX5_turn_131 : decode cX5_turn 131 = .ok (.iload_n 1, 1) := by decide +kernel
theorem dX5_turn_132 : decode cX5_turn 132 = .ok (.iaload, 1) := by decide +kernel
theorem dX5_turn_133 : decode cX5_turn 133 = .ok (.ixor, 1) := by decide +kernel
theorem dX5_turn_134 : decode cX5_turn 134 = .ok (.bipush 8, 2) := by decide +kernel
theorem dX5_turn_136 : decode cX5_turn 136 = .ok (.invokestatic 88, 3) := by decide +kernel
theorem dX5_turn_139 : decode cX5_turn 139 = .ok (.iastore, 1) := by decide +kernel
theorem dX5_turn_140 : decode cX5_turn 140 = .ok (.aload_n 0, 1) := by decide +kernel
theorem dX5_turn_141 : decode cX5_turn 141 = .ok (.getfield 53, 3) := by decide +kernel
theorem dX5_turn_144 : decode cX5_turn 144 = .ok (.iload_n 3, 1) := by decide +kernel
theorem dX5_turn_145 : decode cX5_turn 145 = .ok (.dup2, 1) := by decide +kernel
theorem dX5_turn_146 : decode cX5_turn 146 = .ok (.iaload, 1) := by decide +kernel
theorem dX5_turn_147 : decode cX5_turn 147 = .ok (.aload_n 0, 1) := by decide +kernel
theorem dX5_turn_148 : decode cX5_turn 148 = .ok (.getfield 53, 3) := by decide +kernel
theorem dX5_turn_151 : decode cX5_turn 151 = .ok (.iload 4, 2) := by decide +kernel
theorem dX5_turn_153 : decode cX5_turn 153 = .ok (.iaload, 1) := by decide +kernel
theorem dX5_turn_154 : decode cX5_turn 154 = .ok (.iadd, 1) := by decide +kernel
theorem dX5_turn_155 : decode cX5_turn 155 = .ok (.iastore, 1) := by decide +kernel
theorem dX5_turn_156 : decode cX5_turn 156 = .ok (.aload_n 0, 1) := by decide +kernel
theorem dX5_turn_157 : decode cX5_turn 157 = .ok (.getfield 53, 3) := by decide +kernel
theorem dX5_turn_160 : decode cX5_turn 160 = .ok (.iload_n 2, 1) := by decide +kernel
theorem dX5_turn_161 : decode cX5_turn 161 = .ok (.aload_n 0, 1) := by decide +kernel
theorem dX5_turn_162 : decode cX5_turn 162 = .ok (.getfield 53, 3) := by decide +kernel
theorem dX5_turn_165 : decode cX5_turn 165 = .ok (.iload_n 2, 1) := by decide +kernel
theorem dX5_turn_166 : decode cX5_turn 166 = .ok (.iaload, 1) := by decide +kernel
theorem dX5_turn_167 : decode cX5_turn 167 = .ok (.aload_n 0, 1) := by decide +kernel
theorem dX5_turn_168 : decode cX5_turn 168 = .ok (.getfield 53, 3) := by decide +kernel
theorem dX5_turn_171 : decode cX5_turn 171 = .ok (.iload_n 3, 1) := by decide +kernel
theorem dX5_turn_172 : decode cX5_turn 172 = .ok (.iaload, 1) := by decide +kernel
theorem dX5_turn_173 : decode cX5_turn 173 = .ok (.ixor, 1) := by decide +kernel
theorem dX5_turn_174 : decode cX5_turn 174 = .ok (.bipush 7, 2) := by decide +kernel
theorem dX5_turn_176 : decode cX5_turn 176 = .ok (.invokestatic 88, 3) := by decide +kernel
theorem dX5_turn_179 : decode cX5_turn 179 = .ok (.iastore, 1) := by decide +kernel
theorem dX5_turn_180 : decode cX5_turn 180 = .ok (.return_, 1) := by decide +kernel
set_option maxRecDepth 20000 in
theorem ggX5_mix_X5_turn : GoodIn wsX5_mix wsX5_turn := goodIn_r _ [13, 1, 5, 14, 15, 12, 16, 17, 18, 19, 20, 21, 22, 23, 24, 25, 26, 27, 28, 29, 30, 31, 32, 33, 34, 35, 36, 37, 38, 39, 40, 41, 42, 43, 44] (by decide +kernel) (by decide +kernel)
set_option maxRecDepth 20000 in
theorem gX5_mix_X5_turn : GoodIn wsX5_mix (wsV RX5 96 RX5 yX5_turn wsX5_turn) := goodIn_app (goodIn_of _ (by decide +kernel)) ggX5_mix_X5_turn
theorem dX5_mix_0 : decode cX5_mix 0 = .ok (.iconst 0, 1) := by decide +kernel
theorem dX5_mix_1 : decode cX5_mix 1 = .ok (.istore 4, 2) := by decide +kernel
theorem dX5_mix_3 : decode cX5_mix 3 = .ok (.iload 4, 2) := by decide +kernel
theorem dX5_mix_5 : decode cX5_mix 5 = .ok (.bipush 8, 2) := by decide +kernel
theorem dX5_mix_7 : decode cX5_mix 7 = .ok (.if_icmp .ge 50, 3) := by decide +kernel
theorem dX5_mix_10 : decode cX5_mix 10 = .ok (.aload_n 0, 1) := by decide +kernel
theorem dX5_mix_11 : decode cX5_mix 11 = .ok (.getfield 53, 3) := by decide +kernel
theorem dX5_mix_14 : decode cX5_mix 14 = .ok (.iload 4, 2) := by decide +kernel
theorem dX5_mix_16 : decode cX5_mix 16 = .ok (.aload_n 0, 1) := by decide +kernel
theorem dX5_mix_17 : decode cX5_mix 17 = .ok (.getfield 47, 3) := by decide +kernel
theorem dX5_mix_20 : decode cX5_mix 20 = .ok (.iload 4, 2) := by decide +kernel
theorem dX5_mix_22 : decode cX5_mix 22 = .ok (.iaload, 1) := by decide +kernel
theorem dX5_mix_23 : decode cX5_mix 23 = .ok (.iastore, 1) := by decide +kernel
theorem dX5_mix_24 : decode cX5_mix 24 = .ok (.aload_n 0, 1) := by decide +kernel
theorem dX5_mix_25 : decode cX5_mix 25 = .ok (.getfield 53, 3) := by decide +kernel
theorem dX5_mix_28 : decode cX5_mix 28 = .ok (.bipush 8, 2) := by decide +kernel
theorem dX5_mix_30 : decode cX5_mix 30 = .ok (.iload 4, 2) := by decide +kernel
theorem dX5_mix_32 : decode cX5_mix 32 = .ok (.iadd, 1) := by decide +kernel
theorem dX5_mix_33 : decode cX5_mix 33 = .ok (.iload 4, 2) := by decide +kernel
theorem dX5_mix_35 : decode cX5_mix 35 = .ok (.iconst 4, 1) := by decide +kernel
theorem dX5_mix_36 : decode cX5_mix 36 = .ok (.if_icmp .ge 13, 3) := by decide +kernel
theorem dX5_mix_39 : decode cX5_mix 39 = .ok (.aload_n 0, 1) := by decide +kernel
theorem dX5_mix_40 : decode cX5_mix 40 = .ok (.getfield 41, 3) := by decide +kernel
theorem dX5_mix_43 : decode cX5_mix 43 = .ok (.iload 4, 2) := by decide +kernel
theorem dX5_mix_45 : decode cX5_mix 45 = .ok (.iaload, 1) := by decide +kernel
theorem dX5_mix_46 : decode cX5_mix 46 = .ok (.goto 4, 3) := by decide +kernel
theorem dX5_mix_49 : decode cX5_mix 49 = .ok (.iconst 0, 1) := by decide +kernel
theorem dX5_mix_50 : decode cX5_mix 50 = .ok (.iastore, 1) := by decide +kernel
theorem dX5_mix_51 : decode cX5_mix 51 = .ok (.iinc 4 1, 3) := by decide +kernel
theorem dX5_mix_54 : decode cX5_mix 54 = .ok (.goto (-51), 3) := by decide +kernel
theorem dX5_mix_57 : decode cX5_mix 57 = .ok (.aload_n 0, 1) := by decide +kernel
theorem dX5_mix_58 : decode cX5_mix 58 = .ok (.getfield 53, 3) := by decide +kernel
theorem dX5_mix_61 : decode cX5_mix 61 = .ok (.bipush 12, 2) := by decide +kernel
theorem dX5_mix_63 : decode cX5_mix 63 = .ok (.lload_n 1, 1) := by decide +kernel
theorem dX5_mix_64 : decode cX5_mix 64 = .ok (.l2i, 1) := by decide +kernel
theorem dX5_mix_65 : decode cX5_mix 65 = .ok (.iastore, 1) := by decide +kernel
theorem dX5_mix_66 : decode cX5_mix 66 = .ok (.aload_n 0, 1) := by decide +kernel
theorem dX5_mix_67 : decode cX5_mix 67 = .ok (.getfield 53, 3) := by decide +kernel
theorem dX5_mix_70 : decode cX5_mix 70 = .ok (.bipush 13, 2) := by decide +kernel
theorem dX5_mix_72 : decode cX5_mix 72 = .ok (.lload_n 1, 1) := by decide +kernel
theorem dX5_mix_73 : decode cX5_mix 73 = .ok (.bipush 32, 2) := by decide +kernel
theorem dX5_mix_75 : decode cX5_mix 75 = .ok (.lshr, 1) := by decide +kernel
theorem dX5_mix_76 : decode cX5_mix 76 = .ok (.l2i, 1) := by decide +kernel
theorem dX5_mix_77 : decode cX5_mix 77 = .ok (.iastore, 1) := by decide +kernel
theorem dX5_mix_78 : decode cX5_mix 78 = .ok (.aload_n 0, 1) := by decide +kernel
theorem dX5_mix_79 : decode cX5_mix 79 = .ok (.getfield 53, 3) := by decide +kernel
theorem dX5_mix_82 : decode cX5_mix 82 = .ok (.bipush 14, 2) := by decide +kernel
theorem dX5_mix_84 : decode cX5_mix 84 = .ok (.aload_n 0, 1) := by decide +kernel
theorem dX5_mix_85 : decode cX5_mix 85 = .ok (.getfield 92, 3) := by decide +kernel
theorem dX5_mix_88 : decode cX5_mix 88 = .ok (.iastore, 1) := by decide +kernel
theorem dX5_mix_89 : decode cX5_mix 89 = .ok (.aload_n 0, 1) := by decide +kernel
theorem dX5_mix_90 : decode cX5_mix 90 = .ok (.getfield 53, 3) := by decide +kernel
theorem dX5_mix_93 : decode cX5_mix 93 = .ok (.bipush 15, 2) := by decide +kernel
theorem dX5_mix_95 : decode cX5_mix 95 = .ok (.iload_n 3, 1) := by decide +kernel
theorem dX5_mix_96 : decode cX5_mix 96 = .ok (.iastore, 1) := by decide +kernel
theorem dX5_mix_97 : decode cX5_mix 97 = .ok (.iconst 0, 1) := by decide +kernel
theorem dX5_mix_98 : decode cX5_mix 98 = .ok (.istore 4, 2) := by decide +kernel
theorem dX5_mix_100 : decode cX5_mix 100 = .ok (.iload 4, 2) := by decide +kernel
theorem dX5_mix_102 : decode cX5_mix 102 = .ok (.bipush 16, 2) := by decide +kernel
theorem dX5_mix_104 : decode cX5_mix 104 = .ok (.if_icmp .ge 23, 3) := by decide +kernel
theorem dX5_mix_107 : decode cX5_mix 107 = .ok (.aload_n 0, 1) := by decide +kernel
theorem dX5_mix_108 : decode cX5_mix 108 = .ok (.getfield 56, 3) := by decide +kernel
theorem dX5_mix_111 : decode cX5_mix 111 = .ok (.iload 4, 2) := by decide +kernel
theorem dX5_mix_113 : decode cX5_mix 113 = .ok (.aload_n 0, 1) := by decide +kernel
theorem dX5_mix_114 : decode cX5_mix 114 = .ok (.getfield 50, 3) := by decide +kernel
theorem dX5_mix_117 : decode cX5_mix 117 = .ok (.iload 4, 2) := by decide +kernel
theorem dX5_mix_119 : decode cX5_mix 119 = .ok (.iaload, 1) := by decide +kernel
theorem dX5_mix_120 : decode cX5_mix 120 = .ok (.iastore, 1) := by decide +kernel
theorem dX5_mix_121 : decode cX5_mix 121 = .ok (.iinc 4 1, 3) := by decide +kernel
theorem dX5_mix_124 : decode cX5_mix 124 = .ok (.goto (-24), 3) := by decide +kernel
theorem dX5_mix_127 : decode cX5_mix 127 = .ok (.iconst 0, 1) := by decide +kernel
theorem dX5_mix_128 : decode cX5_mix 128 = .ok (.istore 4, 2) := by decide +kernel
theorem dX5_mix_130 : decode cX5_mix 130 = .ok (.iload 4, 2) := by decide +kernel
theorem dX5_mix_132 : decode cX5_mix 132 = .ok (.bipush 7, 2) := by decide +kernel
theorem dX5_mix_134 : decode cX5_mix 134 = .ok (.if_icmp .ge 167, 3) := by decide +kernel
theorem dX5_mix_137 : decode cX5_mix 137 = .ok (.iconst 0, 1) := by decide +kernel
theorem dX5_mix_138 : decode cX5_mix 138 = .ok (.istore 5, 2) := by decide +kernel
theorem dX5_mix_140 : decode cX5_mix 140 = .ok (.iload 5, 2) := by decide +kernel
theorem dX5_mix_142 : decode cX5_mix 142 = .ok (.iconst 4, 1) := by decide +kernel
theorem dX5_mix_143 : decode cX5_mix 143 = .ok (.if_icmp .ge 33, 3) := by decide +kernel
theorem dX5_mix_146 : decode cX5_mix 146 = .ok (.aload_n 0, 1) := by decide +kernel
theorem dX5_mix_147 : decode cX5_mix 147 = .ok (.iload 5, 2) := by decide +kernel
theorem dX5_mix_149 : decode cX5_mix 149 = .ok (.iconst 4, 1) := by decide +kernel
theorem dX5_mix_150 : decode cX5_mix 150 = .ok (.iload 5, 2) := by decide +kernel
theorem dX5_mix_152 : decode cX5_mix 152 = .ok (.iadd, 1) := by decide +kernel
theorem dX5_mix_153 : decode cX5_mix 153 = .ok (.bipush 8, 2) := by decide +kernel
theorem dX5_mix_155 : decode cX5_mix 155 = .ok (.iload 5, 2) := by decide +kernel
theorem dX5_mix_157 : decode cX5_mix 157 = .ok (.iadd, 1) := by decide +kernel
theorem dX5_mix_158 : decode cX5_mix 158 = .ok (.bipush 12, 2) := by decide +kernel
theorem dX5_mix_160 : decode cX5_mix 160 = .ok (.iload 5, 2) := by decide +kernel
theorem dX5_mix_162 : decode cX5_mix 162 = .ok (.iadd, 1) := by decide +kernel
theorem dX5_mix_163 : decode cX5_mix 163 = .ok (.iconst 2, 1) := by decide +kernel
theorem dX5_mix_164 : decode cX5_mix 164 = .ok (.iload 5, 2) := by decide +kernel
theorem dX5_mix_166 : decode cX5_mix 166 = .ok (.imul, 1) := by decide +kernel
theorem dX5_mix_167 : decode cX5_mix 167 = .ok (.invokevirtual 96, 3) := by decide +kernel
theorem dX5_mix_170 : decode cX5_mix 170 = .ok (.iinc 5 1, 3) := by decide +kernel
theorem dX5_mix_173 : decode cX5_mix 173 = .ok (.goto (-33), 3) := by decide +kernel
theorem dX5_mix_176 : decode cX5_mix 176 = .ok (.iconst 0, 1) := by decide +kernel
theorem dX5_mix_177 : decode cX5_mix 177 = .ok (.istore 5, 2) := by decide +kernel
theorem dX5_mix_179 : decode cX5_mix 179 = .ok (.iload 5, 2) := by decide +kernel
theorem dX5_mix_181 : decode cX5_mix 181 = .ok (.iconst 4, 1) := by decide +kernel
theorem dX5_mix_182 : decode cX5_mix 182 = .ok (.if_icmp .ge 48, 3) := by decide +kernel
theorem dX5_mix_185 : decode cX5_mix 185 = .ok (.aload_n 0, 1) := by decide +kernel
theorem dX5_mix_186 : decode cX5_mix 186 = .ok (.iload 5, 2) := by decide +kernel
theorem dX5_mix_188 : decode cX5_mix 188 = .ok (.iconst 4, 1) := by decide +kernel
theorem dX5_mix_189 : decode cX5_mix 189 = .ok (.iload 5, 2) := by decide +kernel
theorem dX5_mix_191 : decode cX5_mix 191 = .ok (.iconst 1, 1) := by decide +kernel
theorem dX5_mix_192 : decode cX5_mix 192 = .ok (.iadd, 1) := by decide +kernel
theorem dX5_mix_193 : decode cX5_mix 193 = .ok (.iconst 4, 1) := by decide +kernel
theorem dX5_mix_194 : decode cX5_mix 194 = .ok (.irem, 1) := by decide +kernel
theorem dX5_mix_195 : decode cX5_mix 195 = .ok (.iadd, 1) := by decide +kernel
theorem dX5_mix_196 : decode cX5_mix 196 = .ok (.bipush 8, 2) := by decide +kernel
theorem dX5_mix_198 : decode cX5_mix 198 = .ok (.iload 5, 2) := by decide +kernel
theorem dX5_mix_200 : decode cX5_mix 200 = .ok (.iconst 2, 1) := by decide +kernel
theorem dX5_mix_201 : decode cX5_mix 201 = .ok (.iadd, 1) := by decide +kernel
theorem dX5_mix_202 : decode cX5_mix 202 = .ok (.iconst 4, 1) := by decide +kernel
theorem dX5_mix_203 : decode cX5_mix 203 = .ok (.irem, 1) := by decide +kernel
theorem dX5_mix_204 : decode cX5_mix 204 = .ok (.iadd, 1) := by decide +kernel
theorem dX5_mix_205 : decode cX5_mix 205 = .ok (.bipush 12, 2) := by decide +kernel
theorem dX5_mix_207 : decode cX5_mix 207 = .ok (.iload 5, 2) := by decide +kernel
theorem dX5_mix_209 : decode cX5_mix 209 = .ok (.iconst 3, 1) := by decide +kernel
theorem dX5_mix_210 : decode cX5_mix 210 = .ok (.iadd, 1) := by decide +kernel
theorem dX5_mix_211 : decode cX5_mix 211 = .ok (.iconst 4, 1) := by decide +kernel
theorem dX5_mix_212 : decode cX5_mix 212 = .ok (.irem, 1) := by decide +kernel
theorem dX5_mix_213 : decode cX5_mix 213 = .ok (.iadd, 1) := by decide +kernel
theorem dX5_mix_214 : decode cX5_mix 214 = .ok (.bipush 8, 2) := by decide +kernel
theorem dX5_mix_216 : decode cX5_mix 216 = .ok (.iconst 2, 1) := by decide +kernel
theorem dX5_mix_217 : decode cX5_mix 217 = .ok (.iload 5, 2) := by decide +kernel
theorem dX5_mix_219 : decode cX5_mix 219 = .ok (.imul, 1) := by decide +kernel
theorem dX5_mix_220 : decode cX5_mix 220 = .ok (.iadd, 1) := by decide +kernel
theorem dX5_mix_221 : decode cX5_mix 221 = .ok (.invokevirtual 96, 3) := by decide +kernel
theorem dX5_mix_224 : decode cX5_mix 224 = .ok (.iinc 5 1, 3) := by decide +kernel
theorem dX5_mix_227 : decode cX5_mix 227 = .ok (.goto (-48), 3) := by decide +kernel
theorem dX5_mix_230 : decode cX5_mix 230 = .ok (.iconst 0, 1) := by decide +kernel
theorem dX5_mix_231 : decode cX5_mix 231 = .ok (.istore 5, 2) := by decide +kernel
theorem dX5_mix_233 : decode cX5_mix 233 = .ok (.iload 5, 2) := by decide +kernel
theorem dX5_mix_235 : decode cX5_mix 235 = .ok (.bipush 16, 2) := by decide +kernel
theorem dX5_mix_237 : decode cX5_mix 237 = .ok (.if_icmp .ge 23, 3) := by decide +kernel
theorem dX5_mix_240 : decode cX5_mix 240 = .ok (.aload_n 0, 1) := by decide +kernel
theorem dX5_mix_241 : decode cX5_mix 241 = .ok (.getfield 59, 3) := by decide +kernel
theorem dX5_mix_244 : decode cX5_mix 244 = .ok (.iload 5, 2) := by decide +kernel
theorem dX5_mix_246 : decode cX5_mix 246 = .ok (.aload_n 0, 1) := by decide +kernel
theorem dX5_mix_247 : decode cX5_mix 247 = .ok (.getfield 56, 3) := by decide +kernel
theorem dX5_mix_250 : decode cX5_mix 250 = .ok (.iload 5, 2) := by decide +kernel
theorem dX5_mix_252 : decode cX5_mix 252 = .ok (.iaload, 1) := by decide +kernel
theorem dX5_mix_253 : decode cX5_mix 253 = .ok (.iastore, 1) := by decide +kernel
theorem dX5_mix_254 : decode cX5_mix 254 = .ok (.iinc 5 1, 3) := by decide +kernel
theorem dX5_mix_257 : decode cX5_mix 257 = .ok (.goto (-24), 3) := by decide +kernel
theorem dX5_mix_260 : decode cX5_mix 260 = .ok (.iconst 0, 1) := by decide +kernel
theorem dX5_mix_261 : decode cX5_mix 261 = .ok (.istore 5, 2) := by decide +kernel
theorem dX5_mix_263 : decode cX5_mix 263 = .ok (.iload 5, 2) := by decide +kernel
theorem dX5_mix_265 : decode cX5_mix 265 = .ok (.bipush 16, 2) := by decide +kernel
theorem dX5_mix_267 : decode cX5_mix 267 = .ok (.if_icmp .ge 28, 3) := by decide +kernel
theorem dX5_mix_270 : decode cX5_mix 270 = .ok (.aload_n 0, 1) := by decide +kernel
theorem dX5_mix_271 : decode cX5_mix 271 = .ok (.getfield 56, 3) := by decide +kernel
theorem dX5_mix_274 : decode cX5_mix 274 = .ok (.iload 5, 2) := by decide +kernel
theorem dX5_mix_276 : decode cX5_mix 276 = .ok (.aload_n 0, 1) := by decide +kernel
theorem dX5_mix_277 : decode cX5_mix 277 = .ok (.getfield 59, 3) := by decide +kernel
theorem dX5_mix_280 : decode cX5_mix 280 = .ok (.aload_n 0, 1) := by decide +kernel
theorem dX5_mix_281 : decode cX5_mix 281 = .ok (.getfield 62, 3) := by decide +kernel
theorem dX5_mix_284 : decode cX5_mix 284 = .ok (.iload 5, 2) := by decide +kernel
theorem dX5_mix_286 : decode cX5_mix 286 = .ok (.iaload, 1) := by decide +kernel
theorem dX5_mix_287 : decode cX5_mix 287 = .ok (.iaload, 1) := by decide +kernel
theorem dX5_mix_288 : decode cX5_mix 288 = .ok (.iastore, 1) := by decide +kernel
theorem dX5_mix_289 : decode cX5_mix 289 = .ok (.iinc 5 1, 3) := by decide +kernel
theorem dX5_mix_292 : decode cX5_mix 292 = .ok (.goto (-29), 3) := by decide +kernel
theorem dX5_mix_295 : decode cX5_mix 295 = .ok (.iinc 4 1, 3) := by decide +kernel
theorem dX5_mix_298 : decode cX5_mix 298 = .ok (.goto (-168), 3) := by decide +kernel
theorem dX5_mix_301 : decode cX5_mix 301 = .ok (.iconst 0, 1) := by decide +kernel
theorem dX5_mix_302 : decode cX5_mix 302 = .ok (.istore 4, 2) := by decide +kernel
theorem dX5_mix_304 : decode cX5_mix 304 = .ok (.iload 4, 2) := by decide +kernel
theorem dX5_mix_306 : decode cX5_mix 306 = .ok (.bipush 8, 2) := by decide +kernel
theorem dX5_mix_308 : decode cX5_mix 308 = .ok (.if_icmp .ge 49, 3) := by decide +kernel
theorem dX5_mix_311 : decode cX5_mix 311 = .ok (.aload_n 0, 1) := by decide +kernel
theorem dX5_mix_312 : decode cX5_mix 312 = .ok (.getfield 53, 3) := by decide +kernel
theorem dX5_mix_315 : decode cX5_mix 315 = .ok (.iload 4, 2) := by decide +kernel
theorem dX5_mix_317 : decode cX5_mix 317 = .ok (.dup2, 1) := by decide +kernel
theorem dX5_mix_318 : decode cX5_mix 318 = .ok (.iaload, 1) := by decide +kernel
theorem dX5_mix_319 : decode cX5_mix 319 = .ok (.aload_n 0, 1) := by decide +kernel
theorem dX5_mix_320 : decode cX5_mix 320 = .ok (.getfield 53, 3) := by decide +kernel
theorem dX5_mix_323 : decode cX5_mix 323 = .ok (.bipush 8, 2) := by decide +kernel
theorem dX5_mix_325 : decode cX5_mix 325 = .ok (.iload 4, 2) := by decide +kernel
theorem dX5_mix_327 : decode cX5_mix 327 = .ok (.iadd, 1) := by decide +kernel
theorem dX5_mix_328 : decode cX5_mix 328 = .ok (.iaload, 1) := by decide +kernel
theorem dX5_mix_329 : decode cX5_mix 329 = .ok (.ixor, 1) := by decide +kernel
theorem dX5_mix_330 : decode cX5_mix 330 = .ok (.iastore, 1) := by decide +kernel
theorem dX5_mix_331 : decode cX5_mix 331 = .ok (.aload_n 0, 1) := by decide +kernel
theorem dX5_mix_332 : decode cX5_mix 332 = .ok (.getfield 53, 3) := by decide +kernel
theorem dX5_mix_335 : decode cX5_mix 335 = .ok (.bipush 8, 2) := by decide +kernel
theorem dX5_mix_337 : decode cX5_mix 337 = .ok (.iload 4, 2) := by decide +kernel
theorem dX5_mix_339 : decode cX5_mix 339 = .ok (.iadd, 1) := by decide +kernel
theorem dX5_mix_340 : decode cX5_mix 340 = .ok (.dup2, 1) := by decide +kernel
theorem dX5_mix_341 : decode cX5_mix 341 = .ok (.iaload, 1) := by decide +kernel
theorem dX5_mix_342 : decode cX5_mix 342 = .ok (.aload_n 0, 1) := by decide +kernel
theorem dX5_mix_343 : decode cX5_mix 343 = .ok (.getfield 47, 3) := by decide +kernel
theorem dX5_mix_346 : decode cX5_mix 346 = .ok (.iload 4, 2) := by decide +kernel
theorem dX5_mix_348 : decode cX5_mix 348 = .ok (.iaload, 1) := by decide +kernel
theorem dX5_mix_349 : decode cX5_mix 349 = .ok (.ixor, 1) := by decide +kernel
theorem dX5_mix_350 : decode cX5_mix 350 = .ok (.iastore, 1) := by decide +kernel
theorem dX5_mix_351 : decode cX5_mix 351 = .ok (.iinc 4 1, 3) := by decide +kernel
theorem dX5_mix_354 : decode cX5_mix 354 = .ok (.goto (-50), 3) := by decide +kernel
theorem dX5_mix_357 : decode cX5_mix 357 = .ok (.return_, 1) := by decide +kernel
set_option maxRecDepth 20000 in
theorem ggX5_mixIn_X5_mix : GoodIn wsX5_mixIn wsX5_mix := goodIn_r _ [9, 4, 3, 10, 11, 12, 13, 14, 15, 16, 17, 18, 8, 19, 20, 21, 22, 23, 24, 25, 26, 27, 28, 29, 30, 31, 32, 33, 34, 35, 36, 37, 38, 39, 40, 41, 42, 43, 44, 45, 46, 47, 48, 49, 50] (by decide +kernel) (by decide +kernel)
set_option maxRecDepth 20000 in
theorem gX5_mixIn_X5_mix : GoodIn wsX5_mixIn (wsV RX5 107 RX5 yX5_mix wsX5_mix) := goodIn_app (goodIn_of _ (by decide +kernel)) ggX5_mixIn_X5_mix
theorem dX5_mixIn_0 : decode cX5_mixIn 0 = .ok (.aload_n 0, 1) := by decide +kernel
theorem dX5_mixIn_1 : decode cX5_mixIn 1 = .ok (.aload_n 0, 1) := by decide +kernel
theorem dX5_mixIn_2 : decode cX5_mixIn 2 = .ok (.getfield 100, 3) := by decide +kernel
theorem dX5_mixIn_5 : decode cX5_mixIn 5 = .ok (.aload_n 0, 1) := by decide +kernel
theorem dX5_mixIn_6 : decode cX5_mixIn 6 = .ok (.getfield 104, 3) := by decide +kernel
theorem dX5_mixIn_9 : decode cX5_mixIn 9 = .ok (.invokevirtual 107, 3) := by decide +kernel
theorem dX5_mixIn_12 : decode cX5_mixIn 12 = .ok (.iconst 0, 1) := by decide +kernel
theorem dX5_mixIn_13 : decode cX5_mixIn 13 = .ok (.istore_n 1, 1) := by decide +kernel
theorem dX5_mixIn_14 : decode cX5_mixIn 14 = .ok (.iload_n 1, 1) := by decide +kernel
theorem dX5_mixIn_15 : decode cX5_mixIn 15 = .ok (.bipush 8, 2) := by decide +kernel
theorem dX5_mixIn_17 : decode cX5_mixIn 17 = .ok (.if_icmp .ge 21, 3) := by decide +kernel
theorem dX5_mixIn_20 : decode cX5_mixIn 20 = .ok (.aload_n 0, 1) := by decide +kernel
theorem dX5_mixIn_21 : decode cX5_mixIn 21 = .ok (.getfield 47, 3) := by decide +kernel
theorem dX5_mixIn_24 : decode cX5_mixIn 24 = .ok (.iload_n 1, 1) := by decide +kernel
theorem dX5_mixIn_25 : decode cX5_mixIn 25 = .ok (.aload_n 0, 1) := by decide +kernel
theorem dX5_mixIn_26 : decode cX5_mixIn 26 = .ok (.getfield 53, 3) := by decide +kernel
theorem dX5_mixIn_29 : decode cX5_mixIn 29 = .ok (.iload_n 1, 1) := by decide +kernel
theorem dX5_mixIn_30 : decode cX5_mixIn 30 = .ok (.iaload, 1) := by decide +kernel
theorem dX5_mixIn_31 : decode cX5_mixIn 31 = .ok (.iastore, 1) := by decide +kernel
theorem dX5_mixIn_32 : decode cX5_mixIn 32 = .ok (.iinc 1 1, 3) := by decide +kernel
theorem dX5_mixIn_35 : decode cX5_mixIn 35 = .ok (.goto (-21), 3) := by decide +kernel
theorem dX5_mixIn_38 : decode cX5_mixIn 38 = .ok (.return_, 1) := by decide +kernel
set_option maxRecDepth 20000 in
theorem ggX5_chunk_X5_mixIn : GoodIn wsX5_chunk wsX5_mixIn := goodIn_r _ [12, 3, 7, 1, 13, 14, 15, 16, 11, 17, 18, 4, 19, 5, 20, 21, 22, 23, 24, 25, 26, 27, 28, 29, 30, 31, 32, 33, 34, 35, 36, 37, 38, 39, 40, 41, 42, 43, 44, 45, 46, 47, 48, 49, 50, 51, 52, 53, 54, 55, 56] (by decide +kernel) (by decide +kernel)
set_option maxRecDepth 20000 in
theorem gX5_chunk_X5_mixIn : GoodIn wsX5_chunk (wsV RX5 111 RX5 yX5_mixIn wsX5_mixIn) := goodIn_app (goodIn_of _ (by decide +kernel)) ggX5_chunk_X5_mixIn
theorem dX5_chunk_0 : decode cX5_chunk 0 = .ok (.iconst 0, 1) := by decide +kernel
theorem dX5_chunk_1 : decode cX5_chunk 1 = .ok (.istore 6, 2) := by decide +kernel
theorem dX5_chunk_3 : decode cX5_chunk 3 = .ok (.iload 6, 2) := by decide +kernel
theorem dX5_chunk_5 : decode cX5_chunk 5 = .ok (.bipush 8, 2) := by decide +kernel
theorem dX5_chunk_7 : decode cX5_chunk 7 = .ok (.if_icmp .ge 23, 3) := by decide +kernel
theorem dX5_chunk_10 : decode cX5_chunk 10 = .ok (.aload_n 0, 1) := by decide +kernel
theorem dX5_chunk_11 : decode cX5_chunk 11 = .ok (.getfield 47, 3) := by decide +kernel
theorem dX5_chunk_14 : decode cX5_chunk 14 = .ok (.iload 6, 2) := by decide +kernel
theorem dX5_chunk_16 : decode cX5_chunk 16 = .ok (.aload_n 0, 1) := by decide +kernel
theorem dX5_chunk_17 : decode cX5_chunk 17 = .ok (.getfield 44, 3) := by decide +kernel
theorem dX5_chunk_20 : decode cX5_chunk 20 = .ok (.iload 6, 2) := by decide +kernel
theorem dX5_chunk_22 : decode cX5_chunk 22 = .ok (.iaload, 1) := by decide +kernel
theorem dX5_chunk_23 : decode cX5_chunk 23 = .ok (.iastore, 1) := by decide +kernel
theorem dX5_chunk_24 : decode cX5_chunk 24 = .ok (.iinc 6 1, 3) := by decide +kernel
theorem dX5_chunk_27 : decode cX5_chunk 27 = .ok (.goto (-24), 3) := by decide +kernel
theorem dX5_chunk_30 : decode cX5_chunk 30 = .ok (.aload_n 0, 1) := by decide +kernel
theorem dX5_chunk_31 : decode cX5_chunk 31 = .ok (.lload 4, 2) := by decide +kernel
theorem dX5_chunk_33 : decode cX5_chunk 33 = .ok (.putfield 100, 3) := by decide +kernel
theorem dX5_chunk_36 : decode cX5_chunk 36 = .ok (.iload_n 3, 1) := by decide +kernel
theorem dX5_chunk_37 : decode cX5_chunk 37 = .ok (.ifCond .ne 7, 3) := by decide +kernel
theorem dX5_chunk_40 : decode cX5_chunk 40 = .ok (.iconst 1, 1) := by decide +kernel
theorem dX5_chunk_41 : decode cX5_chunk 41 = .ok (.goto 10, 3) := by decide +kernel
theorem dX5_chunk_44 : decode cX5_chunk 44 = .ok (.iload_n 3, 1) := by decide +kernel
theorem dX5_chunk_45 : decode cX5_chunk 45 = .ok (.bipush 63, 2) := by decide +kernel
theorem dX5_chunk_47 : decode cX5_chunk 47 = .ok (.iadd, 1) := by decide +kernel
theorem dX5_chunk_48 : decode cX5_chunk 48 = .ok (.bipush 64, 2) := by decide +kernel
theorem dX5_chunk_50 : decode cX5_chunk 50 = .ok (.idiv, 1) := by decide +kernel
theorem dX5_chunk_51 : decode cX5_chunk 51 = .ok (.istore 6, 2) := by decide +kernel
theorem dX5_chunk_53 : decode cX5_chunk 53 = .ok (.iconst 0, 1) := by decide +kernel
theorem dX5_chunk_54 : decode cX5_chunk 54 = .ok (.istore 7, 2) := by decide +kernel
theorem dX5_chunk_56 : decode cX5_chunk 56 = .ok (.iload 7, 2) := by decide +kernel
theorem dX5_chunk_58 : decode cX5_chunk 58 = .ok (.iload 6, 2) := by decide +kernel
theorem dX5_chunk_60 : decode cX5_chunk 60 = .ok (.if_icmp .ge 154, 3) := by decide +kernel
theorem dX5_chunk_63 : decode cX5_chunk 63 = .ok (.iload 7, 2) := by decide +kernel
theorem dX5_chunk_65 : decode cX5_chunk 65 = .ok (.ifCond .le 7, 3) := by decide +kernel
theorem dX5_chunk_68 : decode cX5_chunk 68 = .ok (.aload_n 0, 1) := by decide +kernel
theorem dX5_chunk_69 : decode cX5_chunk 69 = .ok (.invokevirtual 111, 3) := by decide +kernel
theorem dX5_chunk_72 : decode cX5_chunk 72 = .ok (.aload_n 0, 1) := by decide +kernel
theorem dX5_chunk_73 : decode cX5_chunk 73 = .ok (.iload_n 3, 1) := by decide +kernel
theorem dX5_chunk_74 : decode cX5_chunk 74 = .ok (.bipush 64, 2) := by decide +kernel
theorem dX5_chunk_76 : decode cX5_chunk 76 = .ok (.iload 7, 2) := by decide +kernel
theorem dX5_chunk_78 : decode cX5_chunk 78 = .ok (.imul, 1) := by decide +kernel
theorem dX5_chunk_79 : decode cX5_chunk 79 = .ok (.isub, 1) := by decide +kernel
theorem dX5_chunk_80 : decode cX5_chunk 80 = .ok (.bipush 64, 2) := by decide +kernel
theorem dX5_chunk_82 : decode cX5_chunk 82 = .ok (.if_icmp .ge 13, 3) := by decide +kernel
theorem dX5_chunk_85 : decode cX5_chunk 85 = .ok (.iload_n 3, 1) := by decide +kernel
theorem dX5_chunk_86 : decode cX5_chunk 86 = .ok (.bipush 64, 2) := by decide +kernel
theorem dX5_chunk_88 : decode cX5_chunk 88 = .ok (.iload 7, 2) := by decide +kernel
theorem dX5_chunk_90 : decode cX5_chunk 90 = .ok (.imul, 1) := by decide +kernel
theorem dX5_chunk_91 : decode cX5_chunk 91 = .ok (.isub, 1) := by decide +kernel
theorem dX5_chunk_92 : decode cX5_chunk 92 = .ok (.goto 5, 3) := by decide +kernel
theorem dX5_chunk_95 : decode cX5_chunk 95 = .ok (.bipush 64, 2) := by decide +kernel
theorem dX5_chunk_97 : decode cX5_chunk 97 = .ok (.putfield 92, 3) := by decide +kernel
theorem dX5_chunk_100 : decode cX5_chunk 100 = .ok (.iconst 0, 1) := by decide +kernel
theorem dX5_chunk_101 : decode cX5_chunk 101 = .ok (.istore 8, 2) := by decide +kernel
theorem dX5_chunk_103 : decode cX5_chunk 103 = .ok (.iload 8, 2) := by decide +kernel
theorem dX5_chunk_105 : decode cX5_chunk 105 = .ok (.bipush 16, 2) := by decide +kernel
theorem dX5_chunk_107 : decode cX5_chunk 107 = .ok (.if_icmp .ge 17, 3) := by decide +kernel
theorem dX5_chunk_110 : decode cX5_chunk 110 = .ok (.aload_n 0, 1) := by decide +kernel
theorem dX5_chunk_111 : decode cX5_chunk 111 = .ok (.getfield 50, 3) := by decide +kernel
theorem dX5_chunk_114 : decode cX5_chunk 114 = .ok (.iload 8, 2) := by decide +kernel
theorem dX5_chunk_116 : decode cX5_chunk 116 = .ok (.iconst 0, 1) := by decide +kernel
theorem dX5_chunk_117 : decode cX5_chunk 117 = .ok (.iastore, 1) := by decide +kernel
theorem dX5_chunk_118 : decode cX5_chunk 118 = .ok (.iinc 8 1, 3) := by decide +kernel
theorem dX5_chunk_121 : decode cX5_chunk 121 = .ok (.goto (-18), 3) := by decide +kernel
theorem dX5_chunk_124 : decode cX5_chunk 124 = .ok (.iconst 0, 1) := by decide +kernel
theorem dX5_chunk_125 : decode cX5_chunk 125 = .ok (.istore 8, 2) := by decide +kernel
theorem dX5_chunk_127 : decode cX5_chunk 127 = .ok (.iload 8, 2) := by decide +kernel
theorem dX5_chunk_129 : decode cX5_chunk 129 = .ok (.aload_n 0, 1) := by decide +kernel
theorem dX5_chunk_130 : decode cX5_chunk 130 = .ok (.getfield 92, 3) := by decide +kernel
theorem dX5_chunk_133 : decode cX5_chunk 133 = .ok (.if_icmp .ge 41, 3) := by decide +kernel
theorem dX5_chunk_136 : decode cX5_chunk 136 = .ok (.aload_n 0, 1) := by decide +kernel
theorem dX5_chunk_137 : decode cX5_chunk 137 = .ok (.getfield 50, 3) := by decide +kernel
theorem dX5_chunk_140 : decode cX5_chunk 140 = .ok (.iload 8, 2) := by decide +kernel
theorem dX5_chunk_142 : decode cX5_chunk 142 = .ok (.iconst 4, 1) := by decide +kernel
theorem dX5_chunk_143 : decode cX5_chunk 143 = .ok (.idiv, 1) := by decide +kernel
theorem dX5_chunk_144 : decode cX5_chunk 144 = .ok (.dup2, 1) := by decide +kernel
theorem dX5_chunk_145 : decode cX5_chunk 145 = .ok (.iaload, 1) := by decide +kernel
theorem dX5_chunk_146 : decode cX5_chunk 146 = .ok (.aload_n 1, 1) := by decide +kernel
theorem dX5_chunk_147 : decode cX5_chunk 147 = .ok (.iload_n 2, 1) := by decide +kernel
theorem dX5_chunk_148 : decode cX5_chunk 148 = .ok (.bipush 64, 2) := by decide +kernel
theorem dX5_chunk_150 : decode cX5_chunk 150 = .ok (.iload 7, 2) := by decide +kernel
theorem dX5_chunk_152 : decode cX5_chunk 152 = .ok (.imul, 1) := by decide +kernel
theorem dX5_chunk_153 : decode cX5_chunk 153 = .ok (.iadd, 1) := by decide +kernel
theorem dX5_chunk_154 : decode cX5_chunk 154 = .ok (.iload 8, 2) := by decide +kernel
theorem dX5_chunk_156 : decode cX5_chunk 156 = .ok (.iadd, 1) := by decide +kernel
theorem dX5_chunk_157 : decode cX5_chunk 157 = .ok (.iaload, 1) := by decide +kernel
theorem dX5_chunk_158 : decode cX5_chunk 158 = .ok (.bipush 8, 2) := by decide +kernel
theorem dX5_chunk_160 : decode cX5_chunk 160 = .ok (.iload 8, 2) := by decide +kernel
theorem dX5_chunk_162 : decode cX5_chunk 162 = .ok (.iconst 4, 1) := by decide +kernel
theorem dX5_chunk_163 : decode cX5_chunk 163 = .ok (.irem, 1) := by decide +kernel
theorem dX5_chunk_164 : decode cX5_chunk 164 = .ok (.imul, 1) := by decide +kernel
theorem dX5_chunk_165 : decode cX5_chunk 165 = .ok (.ishl, 1) := by decide +kernel
theorem dX5_chunk_166 : decode cX5_chunk 166 = .ok (.ior, 1) := by decide +kernel
theorem dX5_chunk_167 : decode cX5_chunk 167 = .ok (.iastore, 1) := by decide +kernel
theorem dX5_chunk_168 : decode cX5_chunk 168 = .ok (.iinc 8 1, 3) := by decide +kernel
theorem dX5_chunk_171 : decode cX5_chunk 171 = .ok (.goto (-44), 3) := by decide +kernel
theorem dX5_chunk_174 : decode cX5_chunk 174 = .ok (.aload_n 0, 1) := by decide +kernel
theorem dX5_chunk_175 : decode cX5_chunk 175 = .ok (.aload_n 0, 1) := by decide +kernel
theorem dX5_chunk_176 : decode cX5_chunk 176 = .ok (.getfield 114, 3) := by decide +kernel
theorem dX5_chunk_179 : decode cX5_chunk 179 = .ok (.iload 7, 2) := by decide +kernel
theorem dX5_chunk_181 : decode cX5_chunk 181 = .ok (.ifCond .ne 7, 3) := by decide +kernel
theorem dX5_chunk_184 : decode cX5_chunk 184 = .ok (.iconst 1, 1) := by decide +kernel
theorem dX5_chunk_185 : decode cX5_chunk 185 = .ok (.goto 4, 3) := by decide +kernel
theorem dX5_chunk_188 : decode cX5_chunk 188 = .ok (.iconst 0, 1) := by decide +kernel
theorem dX5_chunk_189 : decode cX5_chunk 189 = .ok (.iadd, 1) := by decide +kernel
theorem dX5_chunk_190 : decode cX5_chunk 190 = .ok (.iload 7, 2) := by decide +kernel
theorem dX5_chunk_192 : decode cX5_chunk 192 = .ok (.iload 6, 2) := by decide +kernel
theorem dX5_chunk_194 : decode cX5_chunk 194 = .ok (.iconst 1, 1) := by decide +kernel
theorem dX5_chunk_195 : decode cX5_chunk 195 = .ok (.isub, 1) := by decide +kernel
theorem dX5_chunk_196 : decode cX5_chunk 196 = .ok (.if_icmp .ne 7, 3) := by decide +kernel
theorem dX5_chunk_199 : decode cX5_chunk 199 = .ok (.iconst 2, 1) := by decide +kernel
theorem dX5_chunk_200 : decode cX5_chunk 200 = .ok (.goto 4, 3) := by decide +kernel
theorem dX5_chunk_203 : decode cX5_chunk 203 = .ok (.iconst 0, 1) := by decide +kernel
theorem dX5_chunk_204 : decode cX5_chunk 204 = .ok (.iadd, 1) := by decide +kernel
theorem dX5_chunk_205 : decode cX5_chunk 205 = .ok (.putfield 104, 3) := by decide +kernel
theorem dX5_chunk_208 : decode cX5_chunk 208 = .ok (.iinc 7 1, 3) := by decide +kernel
theorem dX5_chunk_211 : decode cX5_chunk 211 = .ok (.goto (-155), 3) := by decide +kernel
theorem dX5_chunk_214 : decode cX5_chunk 214 = .ok (.return_, 1) := by decide +kernel
theorem dX5_parent_0 : decode cX5_parent 0 = .ok (.aload_n 0, 1) := by decide +kernel
theorem dX5_parent_1 : decode cX5_parent 1 = .ok (.dup, 1) := by decide +kernel
theorem dX5_parent_2 : decode cX5_parent 2 = .ok (.getfield 117, 3) := by decide +kernel
theorem dX5_parent_5 : decode cX5_parent 5 = .ok (.iconst 1, 1) := by decide +kernel
theorem dX5_parent_6 : decode cX5_parent 6 = .ok (.isub, 1) := by decide +kernel
theorem dX5_parent_7 : decode cX5_parent 7 = .ok (.putfield 117, 3) := by decide +kernel
theorem dX5_parent_10 : decode cX5_parent 10 = .ok (.iconst 0, 1) := by decide +kernel
theorem dX5_parent_11 : decode cX5_parent 11 = .ok (.istore_n 1, 1) := by decide +kernel
theorem dX5_parent_12 : decode cX5_parent 12 = .ok (.iload_n 1, 1) := by decide +kernel
theorem dX5_parent_13 : decode cX5_parent 13 = .ok (.bipush 8, 2) := by decide +kernel
theorem dX5_parent_15 : decode cX5_parent 15 = .ok (.if_icmp .ge 56, 3) := by decide +kernel
theorem dX5_parent_18 : decode cX5_parent 18 = .ok (.aload_n 0, 1) := by decide +kernel
theorem dX5_parent_19 : decode cX5_parent 19 = .ok (.getfield 50, 3) := by decide +kernel
theorem dX5_parent_22 : decode cX5_parent 22 = .ok (.iload_n 1, 1) := by decide +kernel
theorem dX5_parent_23 : decode cX5_parent 23 = .ok (.aload_n 0, 1) := by decide +kernel
theorem dX5_parent_24 : decode cX5_parent 24 = .ok (.getfield 65, 3) := by decide +kernel
theorem dX5_parent_27 : decode cX5_parent 27 = .ok (.bipush 8, 2) := by decide +kernel
theorem dX5_parent_29 : decode cX5_parent 29 = .ok (.aload_n 0, 1) := by decide +kernel
theorem dX5_parent_30 : decode cX5_parent 30 = .ok (.getfield 117, 3) := by decide +kernel
theorem dX5_parent_33 : decode cX5_parent 33 = .ok (.imul, 1) := by decide +kernel
theorem dX5_parent_34 : decode cX5_parent 34 = .ok (.iload_n 1, 1) := by decide +kernel
theorem dX5_parent_35 : decode cX5_parent 35 = .ok (.iadd, 1) := by decide +kernel
theorem dX5_parent_36 : decode cX5_parent 36 = .ok (.iaload, 1) := by decide +kernel
theorem dX5_parent_37 : decode cX5_parent 37 = .ok (.iastore, 1) := by decide +kernel
theorem dX5_parent_38 : decode cX5_parent 38 = .ok (.aload_n 0, 1) := by decide +kernel
theorem dX5_parent_39 : decode cX5_parent 39 = .ok (.getfield 50, 3) := by decide +kernel
theorem dX5_parent_42 : decode cX5_parent 42 = .ok (.bipush 8, 2) := by decide +kernel
theorem dX5_parent_44 : decode cX5_parent 44 = .ok (.iload_n 1, 1) := by decide +kernel
theorem dX5_parent_45 : decode cX5_parent 45 = .ok (.iadd, 1) := by decide +kernel
theorem dX5_parent_46 : decode cX5_parent 46 = .ok (.aload_n 0, 1) := by decide +kernel
theorem dX5_parent_47 : decode cX5_parent 47 = .ok (.getfield 47, 3) := by decide +kernel
theorem dX5_parent_50 : decode cX5_parent 50 = .ok (.iload_n 1, 1) := by decide +kernel
theorem dX5_parent_51 : decode cX5_parent 51 = .ok (.iaload, 1) := by decide +kernel
theorem dX5_parent_52 : decode cX5_parent 52 = .ok (.iastore, 1) := by decide +kernel
theorem dX5_parent_53 : decode cX5_parent 53 = .ok (.aload_n 0, 1) := by decide +kernel
theorem dX5_parent_54 : decode cX5_parent 54 = .ok (.getfield 47, 3) := by decide +kernel
theorem dX5_parent_57 : decode cX5_parent 57 = .ok (.iload_n 1, 1) := by decide +kernel
theorem dX5_parent_58 : decode cX5_parent 58 = .ok (.aload_n 0, 1) := by decide +kernel
theorem dX5_parent_59 : decode cX5_parent 59 = .ok (.getfield 44, 3) := by decide +kernel
theorem dX5_parent_62 : decode cX5_parent 62 = .ok (.iload_n 1, 1) := by decide +kernel
theorem dX5_parent_63 : decode cX5_parent 63 = .ok (.iaload, 1) := by decide +kernel
theorem dX5_parent_64 : decode cX5_parent 64 = .ok (.iastore, 1) := by decide +kernel
theorem dX5_parent_65 : decode cX5_parent 65 = .ok (.iinc 1 1, 3) := by decide +kernel
theorem dX5_parent_68 : decode cX5_parent 68 = .ok (.goto (-56), 3) := by decide +kernel
theorem dX5_parent_71 : decode cX5_parent 71 = .ok (.aload_n 0, 1) := by decide +kernel
theorem dX5_parent_72 : decode cX5_parent 72 = .ok (.lconst 0, 1) := by decide +kernel
theorem dX5_parent_73 : decode cX5_parent 73 = .ok (.putfield 100, 3) := by decide +kernel
theorem dX5_parent_76 : decode cX5_parent 76 = .ok (.aload_n 0, 1) := by decide +kernel
theorem dX5_parent_77 : decode cX5_parent 77 = .ok (.bipush 64, 2) := by decide +kernel
theorem dX5_parent_79 : decode cX5_parent 79 = .ok (.putfield 92, 3) := by decide +kernel
theorem dX5_parent_82 : decode cX5_parent 82 = .ok (.aload_n 0, 1) := by decide +kernel
theorem dX5_parent_83 : decode cX5_parent 83 = .ok (.aload_n 0, 1) := by decide +kernel
theorem dX5_parent_84 : decode cX5_parent 84 = .ok (.getfield 114, 3) := by decide +kernel
theorem dX5_parent_87 : decode cX5_parent 87 = .ok (.iconst 4, 1) := by decide +kernel
theorem dX5_parent_88 : decode cX5_parent 88 = .ok (.iadd, 1) := by decide +kernel
theorem dX5_parent_89 : decode cX5_parent 89 = .ok (.putfield 104, 3) := by decide +kernel
theorem dX5_parent_92 : decode cX5_parent 92 = .ok (.return_, 1) := by decide +kernel
set_option maxRecDepth 20000 in
theorem ggX5_close_X5_parent : GoodIn wsX5_close wsX5_parent := goodIn_r _ [9, 3, 10, 2, 4, 11, 12, 13, 14, 15, 36, 37, 38, 39, 40, 41, 42, 43, 44, 45, 46, 47, 48, 49, 50, 51, 52, 53, 54, 55, 56, 57, 58, 59, 60, 61, 62, 63] (by decide +kernel) (by decide +kernel)
set_option maxRecDepth 20000 in
theorem gX5_close_X5_parent : GoodIn wsX5_close (wsV RX5 123 RX5 yX5_parent wsX5_parent) := goodIn_app (goodIn_of _ (by decide +kernel)) ggX5_close_X5_parent
set_option maxRecDepth 20000 in
theorem ggX5_close_X5_mixIn : GoodIn wsX5_close wsX5_mixIn := goodIn_r _ [19, 12, 15, 4, 20, 21, 22, 23, 8, 24, 25, 13, 26, 10, 27, 28, 29, 30, 31, 32, 33, 34, 35, 36, 37, 38, 39, 40, 41, 42, 43, 44, 45, 46, 47, 48, 49, 50, 51, 52, 53, 54, 55, 56, 57, 58, 59, 60, 61, 62, 63] (by decide +kernel) (by decide +kernel)
set_option maxRecDepth 20000 in
theorem gX5_close_X5_mixIn : GoodIn wsX5_close (wsV RX5 111 RX5 yX5_mixIn wsX5_mixIn) := goodIn_app (goodIn_of _ (by decide +kernel)) ggX5_close_X5_mixIn
theorem dX5_close_0 : decode cX5_close 0 = .ok (.aload_n 0, 1) := by decide +kernel
theorem dX5_close_1 : decode cX5_close 1 = .ok (.dup, 1) := by decide +kernel
theorem dX5_close_2 : decode cX5_close 2 = .ok (.getfield 120, 3) := by decide +kernel
theorem dX5_close_5 : decode cX5_close 5 = .ok (.iconst 1, 1) := by decide +kernel
theorem dX5_close_6 : decode cX5_close 6 = .ok (.iadd, 1) := by decide +kernel
theorem dX5_close_7 : decode cX5_close 7 = .ok (.putfield 120, 3) := by decide +kernel
theorem dX5_close_10 : decode cX5_close 10 = .ok (.aload_n 0, 1) := by decide +kernel
theorem dX5_close_11 : decode cX5_close 11 = .ok (.getfield 120, 3) := by decide +kernel
theorem dX5_close_14 : decode cX5_close 14 = .ok (.istore_n 1, 1) := by decide +kernel
theorem dX5_close_15 : decode cX5_close 15 = .ok (.iload_n 1, 1) := by decide +kernel
theorem dX5_close_16 : decode cX5_close 16 = .ok (.iconst 2, 1) := by decide +kernel
theorem dX5_close_17 : decode cX5_close 17 = .ok (.irem, 1) := by decide +kernel
theorem dX5_close_18 : decode cX5_close 18 = .ok (.ifCond .ne 18, 3) := by decide +kernel
theorem dX5_close_21 : decode cX5_close 21 = .ok (.aload_n 0, 1) := by decide +kernel
theorem dX5_close_22 : decode cX5_close 22 = .ok (.invokevirtual 123, 3) := by decide +kernel
theorem dX5_close_25 : decode cX5_close 25 = .ok (.aload_n 0, 1) := by decide +kernel
theorem dX5_close_26 : decode cX5_close 26 = .ok (.invokevirtual 111, 3) := by decide +kernel
theorem dX5_close_29 : decode cX5_close 29 = .ok (.iload_n 1, 1) := by decide +kernel
theorem dX5_close_30 : decode cX5_close 30 = .ok (.iconst 2, 1) := by decide +kernel
theorem dX5_close_31 : decode cX5_close 31 = .ok (.idiv, 1) := by decide +kernel
theorem dX5_close_32 : decode cX5_close 32 = .ok (.istore_n 1, 1) := by decide +kernel
theorem dX5_close_33 : decode cX5_close 33 = .ok (.goto (-18), 3) := by decide +kernel
theorem dX5_close_36 : decode cX5_close 36 = .ok (.iconst 0, 1) := by decide +kernel
theorem dX5_close_37 : decode cX5_close 37 = .ok (.istore_n 1, 1) := by decide +kernel
theorem dX5_close_38 : decode cX5_close 38 = .ok (.iload_n 1, 1) := by decide +kernel
theorem dX5_close_39 : decode cX5_close 39 = .ok (.bipush 8, 2) := by decide +kernel
theorem dX5_close_41 : decode cX5_close 41 = .ok (.if_icmp .ge 29, 3) := by decide +kernel
theorem dX5_close_44 : decode cX5_close 44 = .ok (.aload_n 0, 1) := by decide +kernel
theorem dX5_close_45 : decode cX5_close 45 = .ok (.getfield 65, 3) := by decide +kernel
theorem dX5_close_48 : decode cX5_close 48 = .ok (.bipush 8, 2) := by decide +kernel
theorem dX5_close_50 : decode cX5_close 50 = .ok (.aload_n 0, 1) := by decide +kernel
theorem dX5_close_51 : decode cX5_close 51 = .ok (.getfield 117, 3) := by decide +kernel
theorem dX5_close_54 : decode cX5_close 54 = .ok (.imul, 1) := by decide +kernel
theorem dX5_close_55 : decode cX5_close 55 = .ok (.iload_n 1, 1) := by decide +kernel
theorem dX5_close_56 : decode cX5_close 56 = .ok (.iadd, 1) := by decide +kernel
theorem dX5_close_57 : decode cX5_close 57 = .ok (.aload_n 0, 1) := by decide +kernel
theorem dX5_close_58 : decode cX5_close 58 = .ok (.getfield 47, 3) := by decide +kernel
theorem dX5_close_61 : decode cX5_close 61 = .ok (.iload_n 1, 1) := by decide +kernel
theorem dX5_close_62 : decode cX5_close 62 = .ok (.iaload, 1) := by decide +kernel
theorem dX5_close_63 : decode cX5_close 63 = .ok (.iastore, 1) := by decide +kernel
theorem dX5_close_64 : decode cX5_close 64 = .ok (.iinc 1 1, 3) := by decide +kernel
theorem dX5_close_67 : decode cX5_close 67 = .ok (.goto (-29), 3) := by decide +kernel
theorem dX5_close_70 : decode cX5_close 70 = .ok (.aload_n 0, 1) := by decide +kernel
theorem dX5_close_71 : decode cX5_close 71 = .ok (.dup, 1) := by decide +kernel
theorem dX5_close_72 : decode cX5_close 72 = .ok (.getfield 117, 3) := by decide +kernel
theorem dX5_close_75 : decode cX5_close 75 = .ok (.iconst 1, 1) := by decide +kernel
theorem dX5_close_76 : decode cX5_close 76 = .ok (.iadd, 1) := by decide +kernel
theorem dX5_close_77 : decode cX5_close 77 = .ok (.putfield 117, 3) := by decide +kernel
theorem dX5_close_80 : decode cX5_close 80 = .ok (.return_, 1) := by decide +kernel
theorem dX5_beginPile_0 : decode cX5_beginPile 0 = .ok (.aload_n 0, 1) := by decide +kernel
theorem dX5_beginPile_1 : decode cX5_beginPile 1 = .ok (.iconst 0, 1) := by decide +kernel
theorem dX5_beginPile_2 : decode cX5_beginPile 2 = .ok (.putfield 117, 3) := by decide +kernel
theorem dX5_beginPile_5 : decode cX5_beginPile 5 = .ok (.aload_n 0, 1) := by decide +kernel
theorem dX5_beginPile_6 : decode cX5_beginPile 6 = .ok (.iconst 0, 1) := by decide +kernel
theorem dX5_beginPile_7 : decode cX5_beginPile 7 = .ok (.putfield 120, 3) := by decide +kernel
theorem dX5_beginPile_10 : decode cX5_beginPile 10 = .ok (.return_, 1) := by decide +kernel
theorem dX5_chunksOf_0 : decode cX5_chunksOf 0 = .ok (.iload_n 0, 1) := by decide +kernel
theorem dX5_chunksOf_1 : decode cX5_chunksOf 1 = .ok (.ifCond .ne 7, 3) := by decide +kernel
theorem dX5_chunksOf_4 : decode cX5_chunksOf 4 = .ok (.iconst 1, 1) := by decide +kernel
theorem dX5_chunksOf_5 : decode cX5_chunksOf 5 = .ok (.goto 12, 3) := by decide +kernel
theorem dX5_chunksOf_8 : decode cX5_chunksOf 8 = .ok (.iload_n 0, 1) := by decide +kernel
theorem dX5_chunksOf_9 : decode cX5_chunksOf 9 = .ok (.sipush 1023, 3) := by decide +kernel
theorem dX5_chunksOf_12 : decode cX5_chunksOf 12 = .ok (.iadd, 1) := by decide +kernel
theorem dX5_chunksOf_13 : decode cX5_chunksOf 13 = .ok (.sipush 1024, 3) := by decide +kernel
theorem dX5_chunksOf_16 : decode cX5_chunksOf 16 = .ok (.idiv, 1) := by decide +kernel
theorem dX5_chunksOf_17 : decode cX5_chunksOf 17 = .ok (.ireturn, 1) := by decide +kernel
theorem dX5_chunkSize_0 : decode cX5_chunkSize 0 = .ok (.iload_n 0, 1) := by decide +kernel
theorem dX5_chunkSize_1 : decode cX5_chunkSize 1 = .ok (.sipush 1024, 3) := by decide +kernel
theorem dX5_chunkSize_4 : decode cX5_chunkSize 4 = .ok (.iload_n 1, 1) := by decide +kernel
theorem dX5_chunkSize_5 : decode cX5_chunkSize 5 = .ok (.imul, 1) := by decide +kernel
theorem dX5_chunkSize_6 : decode cX5_chunkSize 6 = .ok (.isub, 1) := by decide +kernel
theorem dX5_chunkSize_7 : decode cX5_chunkSize 7 = .ok (.sipush 1024, 3) := by decide +kernel
theorem dX5_chunkSize_10 : decode cX5_chunkSize 10 = .ok (.if_icmp .ge 13, 3) := by decide +kernel
theorem dX5_chunkSize_13 : decode cX5_chunkSize 13 = .ok (.iload_n 0, 1) := by decide +kernel
theorem dX5_chunkSize_14 : decode cX5_chunkSize 14 = .ok (.sipush 1024, 3) := by decide +kernel
theorem dX5_chunkSize_17 : decode cX5_chunkSize 17 = .ok (.iload_n 1, 1) := by decide +kernel
theorem dX5_chunkSize_18 : decode cX5_chunkSize 18 = .ok (.imul, 1) := by decide +kernel
theorem dX5_chunkSize_19 : decode cX5_chunkSize 19 = .ok (.isub, 1) := by decide +kernel
theorem dX5_chunkSize_20 : decode cX5_chunkSize 20 = .ok (.goto 6, 3) := by decide +kernel
theorem dX5_chunkSize_23 : decode cX5_chunkSize 23 = .ok (.sipush 1024, 3) := by decide +kernel
theorem dX5_chunkSize_26 : decode cX5_chunkSize 26 = .ok (.ireturn, 1) := by decide +kernel
set_option maxRecDepth 20000 in
theorem ggX5_tree_X5_beginPile : GoodIn wsX5_tree wsX5_beginPile := goodIn_r _ [6, 1, 7, 51, 52, 53, 54, 55, 56, 57, 58, 59, 60, 61, 62, 63, 64, 65, 66, 67, 68, 69, 70, 71, 72, 73, 74, 75, 76, 77, 78] (by decide +kernel) (by decide +kernel)
set_option maxRecDepth 20000 in
theorem gX5_tree_X5_beginPile : GoodIn wsX5_tree (wsV RX5 126 RX5 yX5_beginPile wsX5_beginPile) := goodIn_app (goodIn_of _ (by decide +kernel)) ggX5_tree_X5_beginPile
set_option maxRecDepth 20000 in
theorem ggX5_tree_X5_chunkSize : GoodIn wsX5_tree wsX5_chunkSize := goodIn_r _ [10] (by decide +kernel) (by decide +kernel)
set_option maxRecDepth 20000 in
theorem gX5_tree_X5_chunkSize : GoodIn wsX5_tree (va_wsS RX5 129 yX5_chunkSize wsX5_chunkSize) := goodIn_app (goodIn_of _ (by decide +kernel)) ggX5_tree_X5_chunkSize
set_option maxRecDepth 20000 in
theorem ggX5_tree_X5_chunk : GoodIn wsX5_tree wsX5_chunk := goodIn_r _ [14, 15, 16, 17, 18, 19, 20, 21, 22, 23, 24, 5, 25, 26, 27, 28, 29, 30, 31, 32, 33, 34, 35, 36, 37, 38, 39, 40, 41, 51, 52, 53, 54, 55, 56, 57, 58, 59, 60, 61, 62, 63, 64, 65, 66, 67, 68, 69, 70, 71, 72, 73, 74, 75, 76, 77, 78] (by decide +kernel) (by decide +kernel)
set_option maxRecDepth 20000 in
theorem gX5_tree_X5_chunk : GoodIn wsX5_tree (wsV RX5 132 RX5 yX5_chunk wsX5_chunk) := goodIn_app (goodIn_of _ (by decide +kernel)) ggX5_tree_X5_chunk
set_option maxRecDepth 20000 in
theorem ggX5_tree_X5_mixIn : GoodIn wsX5_tree wsX5_mixIn := goodIn_r _ [25, 17, 21, 15, 26, 27, 28, 29, 5, 30, 31, 18, 32, 19, 33, 34, 35, 36, 37, 38, 39, 40, 41, 51, 52, 53, 54, 55, 56, 57, 58, 59, 60, 61, 62, 63, 64, 65, 66, 67, 68, 69, 70, 71, 72, 73, 74, 75, 76, 77, 78] (by decide +kernel) (by decide +kernel)
set_option maxRecDepth 20000 in
theorem gX5_tree_X5_mixIn : GoodIn wsX5_tree (wsV RX5 111 RX5 yX5_mixIn wsX5_mixIn) := goodIn_app (goodIn_of _ (by decide +kernel)) ggX5_tree_X5_mixIn
set_option maxRecDepth 20000 in
theorem ggX5_tree_X5_close : GoodIn wsX5_tree wsX5_close := goodIn_r _ [45, 7, 46, 1, 15, 47, 48, 49, 5, 50, 19, 16, 17, 18, 20, 21, 22, 23, 24, 25, 26, 27, 28, 29, 30, 31, 32, 33, 34, 35, 36, 37, 38, 39, 40, 41, 51, 52, 53, 54, 55, 56, 57, 58, 59, 60, 61, 62, 63, 64, 65, 66, 67, 68, 69, 70, 71, 72, 73, 74, 75, 76, 77, 78] (by decide +kernel) (by decide +kernel)
set_option maxRecDepth 20000 in
theorem gX5_tree_X5_close : GoodIn wsX5_tree (wsV RX5 136 RX5 yX5_close wsX5_close) := goodIn_app (goodIn_of _ (by decide +kernel)) ggX5_tree_X5_close
set_option maxRecDepth 20000 in
theorem ggX5_tree_X5_parent : GoodIn wsX5_tree wsX5_parent := goodIn_r _ [50, 1, 19, 46, 15, 16, 17, 18, 20, 21, 51, 52, 53, 54, 55, 56, 57, 58, 59, 60, 61, 62, 63, 64, 65, 66, 67, 68, 69, 70, 71, 72, 73, 74, 75, 76, 77, 78] (by decide +kernel) (by decide +kernel)
set_option maxRecDepth 20000 in
theorem gX5_tree_X5_parent : GoodIn wsX5_tree (wsV RX5 123 RX5 yX5_parent wsX5_parent) := goodIn_app (goodIn_of _ (by decide +kernel)) ggX5_tree_X5_parent
theorem dX5_tree_0 : decode cX5_tree 0 = .ok (.aload_n 0, 1) := by decide +kernel
theorem dX5_tree_1 : decode cX5_tree 1 = .ok (.invokevirtual 126, 3) := by decide +kernel
theorem dX5_tree_4 : decode cX5_tree 4 = .ok (.iload 4, 2) := by decide +kernel
theorem dX5_tree_6 : decode cX5_tree 6 = .ok (.istore 6, 2) := by decide +kernel
theorem dX5_tree_8 : decode cX5_tree 8 = .ok (.iload 6, 2) := by decide +kernel
theorem dX5_tree_10 : decode cX5_tree 10 = .ok (.iload 5, 2) := by decide +kernel
theorem dX5_tree_12 : decode cX5_tree 12 = .ok (.iconst 1, 1) := by decide +kernel
theorem dX5_tree_13 : decode cX5_tree 13 = .ok (.isub, 1) := by decide +kernel
theorem dX5_tree_14 : decode cX5_tree 14 = .ok (.if_icmp .ge 39, 3) := by decide +kernel
theorem dX5_tree_17 : decode cX5_tree 17 = .ok (.aload_n 0, 1) := by decide +kernel
theorem dX5_tree_18 : decode cX5_tree 18 = .ok (.aload_n 1, 1) := by decide +kernel
theorem dX5_tree_19 : decode cX5_tree 19 = .ok (.iload_n 2, 1) := by decide +kernel
theorem dX5_tree_20 : decode cX5_tree 20 = .ok (.sipush 1024, 3) := by decide +kernel
theorem dX5_tree_23 : decode cX5_tree 23 = .ok (.iload 6, 2) := by decide +kernel
theorem dX5_tree_25 : decode cX5_tree 25 = .ok (.imul, 1) := by decide +kernel
theorem dX5_tree_26 : decode cX5_tree 26 = .ok (.iadd, 1) := by decide +kernel
theorem dX5_tree_27 : decode cX5_tree 27 = .ok (.iload_n 3, 1) := by decide +kernel
theorem dX5_tree_28 : decode cX5_tree 28 = .ok (.iload 6, 2) := by decide +kernel
theorem dX5_tree_30 : decode cX5_tree 30 = .ok (.invokestatic 129, 3) := by decide +kernel
theorem dX5_tree_33 : decode cX5_tree 33 = .ok (.iload 6, 2) := by decide +kernel
theorem dX5_tree_35 : decode cX5_tree 35 = .ok (.i2l, 1) := by decide +kernel
theorem dX5_tree_36 : decode cX5_tree 36 = .ok (.invokevirtual 132, 3) := by decide +kernel
theorem dX5_tree_39 : decode cX5_tree 39 = .ok (.aload_n 0, 1) := by decide +kernel
theorem dX5_tree_40 : decode cX5_tree 40 = .ok (.invokevirtual 111, 3) := by decide +kernel
theorem dX5_tree_43 : decode cX5_tree 43 = .ok (.aload_n 0, 1) := by decide +kernel
theorem dX5_tree_44 : decode cX5_tree 44 = .ok (.invokevirtual 136, 3) := by decide +kernel
theorem dX5_tree_47 : decode cX5_tree 47 = .ok (.iinc 6 1, 3) := by decide +kernel
theorem dX5_tree_50 : decode cX5_tree 50 = .ok (.goto (-42), 3) := by decide +kernel
theorem dX5_tree_53 : decode cX5_tree 53 = .ok (.aload_n 0, 1) := by decide +kernel
theorem dX5_tree_54 : decode cX5_tree 54 = .ok (.aload_n 1, 1) := by decide +kernel
theorem dX5_tree_55 : decode cX5_tree 55 = .ok (.iload_n 2, 1) := by decide +kernel
theorem dX5_tree_56 : decode cX5_tree 56 = .ok (.sipush 1024, 3) := by decide +kernel
theorem dX5_tree_59 : decode cX5_tree 59 = .ok (.iload 5, 2) := by decide +kernel
theorem dX5_tree_61 : decode cX5_tree 61 = .ok (.iconst 1, 1) := by decide +kernel
theorem dX5_tree_62 : decode cX5_tree 62 = .ok (.isub, 1) := by decide +kernel
theorem dX5_tree_63 : decode cX5_tree 63 = .ok (.imul, 1) := by decide +kernel
theorem dX5_tree_64 : decode cX5_tree 64 = .ok (.iadd, 1) := by decide +kernel
theorem dX5_tree_65 : decode cX5_tree 65 = .ok (.iload_n 3, 1) := by decide +kernel
theorem dX5_tree_66 : decode cX5_tree 66 = .ok (.iload 5, 2) := by decide +kernel
theorem dX5_tree_68 : decode cX5_tree 68 = .ok (.iconst 1, 1) := by decide +kernel
theorem dX5_tree_69 : decode cX5_tree 69 = .ok (.isub, 1) := by decide +kernel
theorem dX5_tree_70 : decode cX5_tree 70 = .ok (.invokestatic 129, 3) := by decide +kernel
theorem dX5_tree_73 : decode cX5_tree 73 = .ok (.iload 5, 2) := by decide +kernel
theorem dX5_tree_75 : decode cX5_tree 75 = .ok (.iconst 1, 1) := by decide +kernel
theorem dX5_tree_76 : decode cX5_tree 76 = .ok (.isub, 1) := by decide +kernel
theorem dX5_tree_77 : decode cX5_tree 77 = .ok (.i2l, 1) := by decide +kernel
theorem dX5_tree_78 : decode cX5_tree 78 = .ok (.invokevirtual 132, 3) := by decide +kernel
theorem dX5_tree_81 : decode cX5_tree 81 = .ok (.aload_n 0, 1) := by decide +kernel
theorem dX5_tree_82 : decode cX5_tree 82 = .ok (.getfield 117, 3) := by decide +kernel
theorem dX5_tree_85 : decode cX5_tree 85 = .ok (.ifCond .le 14, 3) := by decide +kernel
theorem dX5_tree_88 : decode cX5_tree 88 = .ok (.aload_n 0, 1) := by decide +kernel
theorem dX5_tree_89 : decode cX5_tree 89 = .ok (.invokevirtual 111, 3) := by decide +kernel
theorem dX5_tree_92 : decode cX5_tree 92 = .ok (.aload_n 0, 1) := by decide +kernel
theorem dX5_tree_93 : decode cX5_tree 93 = .ok (.invokevirtual 123, 3) := by decide +kernel
theorem dX5_tree_96 : decode cX5_tree 96 = .ok (.goto (-15), 3) := by decide +kernel
theorem dX5_tree_99 : decode cX5_tree 99 = .ok (.return_, 1) := by decide +kernel
theorem dX5_useKey_0 : decode cX5_useKey 0 = .ok (.iconst 0, 1) := by decide +kernel
theorem dX5_useKey_1 : decode cX5_useKey 1 = .ok (.istore_n 2, 1) := by decide +kernel
theorem dX5_useKey_2 : decode cX5_useKey 2 = .ok (.iload_n 2, 1) := by decide +kernel
theorem dX5_useKey_3 : decode cX5_useKey 3 = .ok (.bipush 8, 2) := by decide +kernel
theorem dX5_useKey_5 : decode cX5_useKey 5 = .ok (.if_icmp .ge 39, 3) := by decide +kernel
theorem dX5_useKey_8 : decode cX5_useKey 8 = .ok (.aload_n 0, 1) := by decide +kernel
theorem dX5_useKey_9 : decode cX5_useKey 9 = .ok (.getfield 44, 3) := by decide +kernel
theorem dX5_useKey_12 : decode cX5_useKey 12 = .ok (.iload_n 2, 1) := by decide +kernel
theorem dX5_useKey_13 : decode cX5_useKey 13 = .ok (.iload_n 1, 1) := by decide +kernel
theorem dX5_useKey_14 : decode cX5_useKey 14 = .ok (.ifCond .ge 12, 3) := by decide +kernel
theorem dX5_useKey_17 : decode cX5_useKey 17 = .ok (.aload_n 0, 1) := by decide +kernel
theorem dX5_useKey_18 : decode cX5_useKey 18 = .ok (.getfield 41, 3) := by decide +kernel
theorem dX5_useKey_21 : decode cX5_useKey 21 = .ok (.iload_n 2, 1) := by decide +kernel
theorem dX5_useKey_22 : decode cX5_useKey 22 = .ok (.iaload, 1) := by decide +kernel
theorem dX5_useKey_23 : decode cX5_useKey 23 = .ok (.goto 14, 3) := by decide +kernel
theorem dX5_useKey_26 : decode cX5_useKey 26 = .ok (.aload_n 0, 1) := by decide +kernel
theorem dX5_useKey_27 : decode cX5_useKey 27 = .ok (.getfield 26, 3) := by decide +kernel
theorem dX5_useKey_30 : decode cX5_useKey 30 = .ok (.bipush 8, 2) := by decide +kernel
theorem dX5_useKey_32 : decode cX5_useKey 32 = .ok (.iload_n 1, 1) := by decide +kernel
theorem dX5_useKey_33 : decode cX5_useKey 33 = .ok (.imul, 1) := by decide +kernel
theorem dX5_useKey_34 : decode cX5_useKey 34 = .ok (.iload_n 2, 1) := by decide +kernel
theorem dX5_useKey_35 : decode cX5_useKey 35 = .ok (.iadd, 1) := by decide +kernel
theorem dX5_useKey_36 : decode cX5_useKey 36 = .ok (.iaload, 1) := by decide +kernel
theorem dX5_useKey_37 : decode cX5_useKey 37 = .ok (.iastore, 1) := by decide +kernel
theorem dX5_useKey_38 : decode cX5_useKey 38 = .ok (.iinc 2 1, 3) := by decide +kernel
theorem dX5_useKey_41 : decode cX5_useKey 41 = .ok (.goto (-39), 3) := by decide +kernel
theorem dX5_useKey_44 : decode cX5_useKey 44 = .ok (.aload_n 0, 1) := by decide +kernel
theorem dX5_useKey_45 : decode cX5_useKey 45 = .ok (.iload_n 1, 1) := by decide +kernel
theorem dX5_useKey_46 : decode cX5_useKey 46 = .ok (.ifCond .lt 12, 3) := by decide +kernel
theorem dX5_useKey_49 : decode cX5_useKey 49 = .ok (.aload_n 0, 1) := by decide +kernel
theorem dX5_useKey_50 : decode cX5_useKey 50 = .ok (.getfield 23, 3) := by decide +kernel
theorem dX5_useKey_53 : decode cX5_useKey 53 = .ok (.iload_n 1, 1) := by decide +kernel
theorem dX5_useKey_54 : decode cX5_useKey 54 = .ok (.iaload, 1) := by decide +kernel
theorem dX5_useKey_55 : decode cX5_useKey 55 = .ok (.ifCond .ne 7, 3) := by decide +kernel
theorem dX5_useKey_58 : decode cX5_useKey 58 = .ok (.iconst 0, 1) := by decide +kernel
theorem dX5_useKey_59 : decode cX5_useKey 59 = .ok (.goto 20, 3) := by decide +kernel
theorem dX5_useKey_62 : decode cX5_useKey 62 = .ok (.aload_n 0, 1) := by decide +kernel
theorem dX5_useKey_63 : decode cX5_useKey 63 = .ok (.getfield 23, 3) := by decide +kernel
theorem dX5_useKey_66 : decode cX5_useKey 66 = .ok (.iload_n 1, 1) := by decide +kernel
theorem dX5_useKey_67 : decode cX5_useKey 67 = .ok (.iaload, 1) := by decide +kernel
theorem dX5_useKey_68 : decode cX5_useKey 68 = .ok (.iconst 1, 1) := by decide +kernel
theorem dX5_useKey_69 : decode cX5_useKey 69 = .ok (.if_icmp .ne 8, 3) := by decide +kernel
theorem dX5_useKey_72 : decode cX5_useKey 72 = .ok (.bipush 16, 2) := by decide +kernel
theorem dX5_useKey_74 : decode cX5_useKey 74 = .ok (.goto 5, 3) := by decide +kernel
theorem dX5_useKey_77 : decode cX5_useKey 77 = .ok (.bipush 64, 2) := by decide +kernel
theorem dX5_useKey_79 : decode cX5_useKey 79 = .ok (.putfield 114, 3) := by decide +kernel
theorem dX5_useKey_82 : decode cX5_useKey 82 = .ok (.return_, 1) := by decide +kernel
set_option maxRecDepth 20000 in
theorem ggX5_pileOf_X5_useKey : GoodIn wsX5_pileOf wsX5_useKey := goodIn_r _ [10, 11, 12, 13, 14, 15, 63, 64, 65, 66, 67, 68, 69, 70, 71, 72, 73, 74, 75, 76, 77, 78, 79, 80, 81, 82, 83, 84, 85, 86, 87, 88, 89, 90] (by decide +kernel) (by decide +kernel)
set_option maxRecDepth 20000 in
theorem gX5_pileOf_X5_useKey : GoodIn wsX5_pileOf (wsV RX5 139 RX5 yX5_useKey wsX5_useKey) := goodIn_app (goodIn_of _ (by decide +kernel)) ggX5_pileOf_X5_useKey
set_option maxRecDepth 20000 in
theorem ggX5_pileOf_X5_closedOf : GoodIn wsX5_pileOf wsX5_closedOf := goodIn_r _ [19, 20, 63, 64, 65, 66, 67, 68, 69, 70, 71, 72, 73, 74, 75, 76, 77, 78, 79, 80, 81, 82, 83, 84, 85, 86, 87, 88, 89, 90] (by decide +kernel) (by decide +kernel)
set_option maxRecDepth 20000 in
theorem gX5_pileOf_X5_closedOf : GoodIn wsX5_pileOf (wsV RX5 142 RX5 yX5_closedOf wsX5_closedOf) := goodIn_app (goodIn_of _ (by decide +kernel)) ggX5_pileOf_X5_closedOf
set_option maxRecDepth 20000 in
theorem ggX5_pileOf_X5_chunk : GoodIn wsX5_pileOf wsX5_chunk := goodIn_r _ [24, 5, 11, 25, 26, 27, 15, 28, 29, 30, 31, 9, 32, 33, 34, 35, 36, 37, 12, 38, 39, 40, 41, 42, 43, 44, 45, 46, 47, 63, 64, 65, 66, 67, 68, 69, 70, 71, 72, 73, 74, 75, 76, 77, 78, 79, 80, 81, 82, 83, 84, 85, 86, 87, 88, 89, 90] (by decide +kernel) (by decide +kernel)
set_option maxRecDepth 20000 in
theorem gX5_pileOf_X5_chunk : GoodIn wsX5_pileOf (wsV RX5 132 RX5 yX5_chunk wsX5_chunk) := goodIn_app (goodIn_of _ (by decide +kernel)) ggX5_pileOf_X5_chunk
set_option maxRecDepth 20000 in
theorem ggX5_pileOf_X5_mixIn : GoodIn wsX5_pileOf wsX5_mixIn := goodIn_r _ [32, 25, 28, 5, 33, 34, 35, 36, 9, 37, 12, 26, 38, 27, 39, 40, 41, 42, 43, 44, 45, 46, 47, 63, 64, 65, 66, 67, 68, 69, 70, 71, 72, 73, 74, 75, 76, 77, 78, 79, 80, 81, 82, 83, 84, 85, 86, 87, 88, 89, 90] (by decide +kernel) (by decide +kernel)
set_option maxRecDepth 20000 in
theorem gX5_pileOf_X5_mixIn : GoodIn wsX5_pileOf (wsV RX5 111 RX5 yX5_mixIn wsX5_mixIn) := goodIn_app (goodIn_of _ (by decide +kernel)) ggX5_pileOf_X5_mixIn
set_option maxRecDepth 20000 in
theorem ggX5_pileOf_X5_beginPile : GoodIn wsX5_pileOf wsX5_beginPile := goodIn_r _ [51, 52, 53, 63, 64, 65, 66, 67, 68, 69, 70, 71, 72, 73, 74, 75, 76, 77, 78, 79, 80, 81, 82, 83, 84, 85, 86, 87, 88, 89, 90] (by decide +kernel) (by decide +kernel)
set_option maxRecDepth 20000 in
theorem gX5_pileOf_X5_beginPile : GoodIn wsX5_pileOf (wsV RX5 126 RX5 yX5_beginPile wsX5_beginPile) := goodIn_app (goodIn_of _ (by decide +kernel)) ggX5_pileOf_X5_beginPile
set_option maxRecDepth 20000 in
theorem ggX5_pileOf_X5_close : GoodIn wsX5_pileOf wsX5_close := goodIn_r _ [57, 53, 58, 52, 5, 59, 60, 61, 9, 62, 27, 11, 25, 26, 15, 28, 29, 30, 31, 32, 33, 34, 35, 36, 37, 12, 38, 39, 40, 41, 42, 43, 44, 45, 46, 47, 63, 64, 65, 66, 67, 68, 69, 70, 71, 72, 73, 74, 75, 76, 77, 78, 79, 80, 81, 82, 83, 84, 85, 86, 87, 88, 89, 90] (by decide +kernel) (by decide +kernel)
set_option maxRecDepth 20000 in
theorem gX5_pileOf_X5_close : GoodIn wsX5_pileOf (wsV RX5 136 RX5 yX5_close wsX5_close) := goodIn_app (goodIn_of _ (by decide +kernel)) ggX5_pileOf_X5_close
theorem dX5_pileOf_0 : decode cX5_pileOf 0 = .ok (.aload_n 0, 1) := by decide +kernel
theorem dX5_pileOf_1 : decode cX5_pileOf 1 = .ok (.iload_n 1, 1) := by decide +kernel
theorem dX5_pileOf_2 : decode cX5_pileOf 2 = .ok (.invokevirtual 139, 3) := by decide +kernel
theorem dX5_pileOf_5 : decode cX5_pileOf 5 = .ok (.aload_n 0, 1) := by decide +kernel
theorem dX5_pileOf_6 : decode cX5_pileOf 6 = .ok (.iload_n 1, 1) := by decide +kernel
theorem dX5_pileOf_7 : decode cX5_pileOf 7 = .ok (.invokevirtual 142, 3) := by decide +kernel
theorem dX5_pileOf_10 : decode cX5_pileOf 10 = .ok (.istore_n 2, 1) := by decide +kernel
theorem dX5_pileOf_11 : decode cX5_pileOf 11 = .ok (.aload_n 0, 1) := by decide +kernel
theorem dX5_pileOf_12 : decode cX5_pileOf 12 = .ok (.getfield 32, 3) := by decide +kernel
theorem dX5_pileOf_15 : decode cX5_pileOf 15 = .ok (.iload_n 1, 1) := by decide +kernel
theorem dX5_pileOf_16 : decode cX5_pileOf 16 = .ok (.iaload, 1) := by decide +kernel
theorem dX5_pileOf_17 : decode cX5_pileOf 17 = .ok (.iload_n 2, 1) := by decide +kernel
theorem dX5_pileOf_18 : decode cX5_pileOf 18 = .ok (.if_icmp .ge 95, 3) := by decide +kernel
theorem dX5_pileOf_21 : decode cX5_pileOf 21 = .ok (.aload_n 0, 1) := by decide +kernel
theorem dX5_pileOf_22 : decode cX5_pileOf 22 = .ok (.aload_n 0, 1) := by decide +kernel
theorem dX5_pileOf_23 : decode cX5_pileOf 23 = .ok (.getfield 17, 3) := by decide +kernel
theorem dX5_pileOf_26 : decode cX5_pileOf 26 = .ok (.ldc 146, 2) := by decide +kernel
theorem dX5_pileOf_28 : decode cX5_pileOf 28 = .ok (.iload_n 1, 1) := by decide +kernel
theorem dX5_pileOf_29 : decode cX5_pileOf 29 = .ok (.imul, 1) := by decide +kernel
theorem dX5_pileOf_30 : decode cX5_pileOf 30 = .ok (.sipush 1024, 3) := by decide +kernel
theorem dX5_pileOf_33 : decode cX5_pileOf 33 = .ok (.aload_n 0, 1) := by decide +kernel
theorem dX5_pileOf_34 : decode cX5_pileOf 34 = .ok (.getfield 32, 3) := by decide +kernel
theorem dX5_pileOf_37 : decode cX5_pileOf 37 = .ok (.iload_n 1, 1) := by decide +kernel
theorem dX5_pileOf_38 : decode cX5_pileOf 38 = .ok (.iaload, 1) := by decide +kernel
theorem dX5_pileOf_39 : decode cX5_pileOf 39 = .ok (.imul, 1) := by decide +kernel
theorem dX5_pileOf_40 : decode cX5_pileOf 40 = .ok (.iadd, 1) := by decide +kernel
theorem dX5_pileOf_41 : decode cX5_pileOf 41 = .ok (.sipush 1024, 3) := by decide +kernel
theorem dX5_pileOf_44 : decode cX5_pileOf 44 = .ok (.aload_n 0, 1) := by decide +kernel
theorem dX5_pileOf_45 : decode cX5_pileOf 45 = .ok (.getfield 32, 3) := by decide +kernel
theorem dX5_pileOf_48 : decode cX5_pileOf 48 = .ok (.iload_n 1, 1) := by decide +kernel
theorem dX5_pileOf_49 : decode cX5_pileOf 49 = .ok (.iaload, 1) := by decide +kernel
theorem dX5_pileOf_50 : decode cX5_pileOf 50 = .ok (.i2l, 1) := by decide +kernel
theorem dX5_pileOf_51 : decode cX5_pileOf 51 = .ok (.invokevirtual 132, 3) := by decide +kernel
theorem dX5_pileOf_54 : decode cX5_pileOf 54 = .ok (.aload_n 0, 1) := by decide +kernel
theorem dX5_pileOf_55 : decode cX5_pileOf 55 = .ok (.invokevirtual 111, 3) := by decide +kernel
theorem dX5_pileOf_58 : decode cX5_pileOf 58 = .ok (.iconst 0, 1) := by decide +kernel
theorem dX5_pileOf_59 : decode cX5_pileOf 59 = .ok (.istore_n 3, 1) := by decide +kernel
theorem dX5_pileOf_60 : decode cX5_pileOf 60 = .ok (.iload_n 3, 1) := by decide +kernel
theorem dX5_pileOf_61 : decode cX5_pileOf 61 = .ok (.bipush 8, 2) := by decide +kernel
theorem dX5_pileOf_63 : decode cX5_pileOf 63 = .ok (.if_icmp .ge 37, 3) := by decide +kernel
theorem dX5_pileOf_66 : decode cX5_pileOf 66 = .ok (.aload_n 0, 1) := by decide +kernel
theorem dX5_pileOf_67 : decode cX5_pileOf 67 = .ok (.getfield 29, 3) := by decide +kernel
theorem dX5_pileOf_70 : decode cX5_pileOf 70 = .ok (.sipush 320, 3) := by decide +kernel
theorem dX5_pileOf_73 : decode cX5_pileOf 73 = .ok (.iload_n 1, 1) := by decide +kernel
theorem dX5_pileOf_74 : decode cX5_pileOf 74 = .ok (.imul, 1) := by decide +kernel
theorem dX5_pileOf_75 : decode cX5_pileOf 75 = .ok (.bipush 8, 2) := by decide +kernel
theorem dX5_pileOf_77 : decode cX5_pileOf 77 = .ok (.aload_n 0, 1) := by decide +kernel
theorem dX5_pileOf_78 : decode cX5_pileOf 78 = .ok (.getfield 32, 3) := by decide +kernel
theorem dX5_pileOf_81 : decode cX5_pileOf 81 = .ok (.iload_n 1, 1) := by decide +kernel
theorem dX5_pileOf_82 : decode cX5_pileOf 82 = .ok (.iaload, 1) := by decide +kernel
theorem dX5_pileOf_83 : decode cX5_pileOf 83 = .ok (.imul, 1) := by decide +kernel
theorem dX5_pileOf_84 : decode cX5_pileOf 84 = .ok (.iadd, 1) := by decide +kernel
theorem dX5_pileOf_85 : decode cX5_pileOf 85 = .ok (.iload_n 3, 1) := by decide +kernel
theorem dX5_pileOf_86 : decode cX5_pileOf 86 = .ok (.iadd, 1) := by decide +kernel
theorem dX5_pileOf_87 : decode cX5_pileOf 87 = .ok (.aload_n 0, 1) := by decide +kernel
theorem dX5_pileOf_88 : decode cX5_pileOf 88 = .ok (.getfield 47, 3) := by decide +kernel
theorem dX5_pileOf_91 : decode cX5_pileOf 91 = .ok (.iload_n 3, 1) := by decide +kernel
theorem dX5_pileOf_92 : decode cX5_pileOf 92 = .ok (.iaload, 1) := by decide +kernel
theorem dX5_pileOf_93 : decode cX5_pileOf 93 = .ok (.iastore, 1) := by decide +kernel
theorem dX5_pileOf_94 : decode cX5_pileOf 94 = .ok (.iinc 3 1, 3) := by decide +kernel
theorem dX5_pileOf_97 : decode cX5_pileOf 97 = .ok (.goto (-37), 3) := by decide +kernel
theorem dX5_pileOf_100 : decode cX5_pileOf 100 = .ok (.aload_n 0, 1) := by decide +kernel
theorem dX5_pileOf_101 : decode cX5_pileOf 101 = .ok (.getfield 32, 3) := by decide +kernel
theorem dX5_pileOf_104 : decode cX5_pileOf 104 = .ok (.iload_n 1, 1) := by decide +kernel
theorem dX5_pileOf_105 : decode cX5_pileOf 105 = .ok (.dup2, 1) := by decide +kernel
theorem dX5_pileOf_106 : decode cX5_pileOf 106 = .ok (.iaload, 1) := by decide +kernel
theorem dX5_pileOf_107 : decode cX5_pileOf 107 = .ok (.iconst 1, 1) := by decide +kernel
theorem dX5_pileOf_108 : decode cX5_pileOf 108 = .ok (.iadd, 1) := by decide +kernel
theorem dX5_pileOf_109 : decode cX5_pileOf 109 = .ok (.iastore, 1) := by decide +kernel
theorem dX5_pileOf_110 : decode cX5_pileOf 110 = .ok (.goto (-99), 3) := by decide +kernel
theorem dX5_pileOf_113 : decode cX5_pileOf 113 = .ok (.aload_n 0, 1) := by decide +kernel
theorem dX5_pileOf_114 : decode cX5_pileOf 114 = .ok (.invokevirtual 126, 3) := by decide +kernel
theorem dX5_pileOf_117 : decode cX5_pileOf 117 = .ok (.iconst 0, 1) := by decide +kernel
theorem dX5_pileOf_118 : decode cX5_pileOf 118 = .ok (.istore_n 3, 1) := by decide +kernel
theorem dX5_pileOf_119 : decode cX5_pileOf 119 = .ok (.iload_n 3, 1) := by decide +kernel
theorem dX5_pileOf_120 : decode cX5_pileOf 120 = .ok (.iload_n 2, 1) := by decide +kernel
theorem dX5_pileOf_121 : decode cX5_pileOf 121 = .ok (.if_icmp .ge 54, 3) := by decide +kernel
theorem dX5_pileOf_124 : decode cX5_pileOf 124 = .ok (.iconst 0, 1) := by decide +kernel
theorem dX5_pileOf_125 : decode cX5_pileOf 125 = .ok (.istore 4, 2) := by decide +kernel
theorem dX5_pileOf_127 : decode cX5_pileOf 127 = .ok (.iload 4, 2) := by decide +kernel
theorem dX5_pileOf_129 : decode cX5_pileOf 129 = .ok (.bipush 8, 2) := by decide +kernel
theorem dX5_pileOf_131 : decode cX5_pileOf 131 = .ok (.if_icmp .ge 34, 3) := by decide +kernel
theorem dX5_pileOf_134 : decode cX5_pileOf 134 = .ok (.aload_n 0, 1) := by decide +kernel
theorem dX5_pileOf_135 : decode cX5_pileOf 135 = .ok (.getfield 47, 3) := by decide +kernel
theorem dX5_pileOf_138 : decode cX5_pileOf 138 = .ok (.iload 4, 2) := by decide +kernel
theorem dX5_pileOf_140 : decode cX5_pileOf 140 = .ok (.aload_n 0, 1) := by decide +kernel
theorem dX5_pileOf_141 : decode cX5_pileOf 141 = .ok (.getfield 29, 3) := by decide +kernel
theorem dX5_pileOf_144 : decode cX5_pileOf 144 = .ok (.sipush 320, 3) := by decide +kernel
theorem dX5_pileOf_147 : decode cX5_pileOf 147 = .ok (.iload_n 1, 1) := by decide +kernel
theorem dX5_pileOf_148 : decode cX5_pileOf 148 = .ok (.imul, 1) := by decide +kernel
theorem dX5_pileOf_149 : decode cX5_pileOf 149 = .ok (.bipush 8, 2) := by decide +kernel
theorem dX5_pileOf_151 : decode cX5_pileOf 151 = .ok (.iload_n 3, 1) := by decide +kernel
theorem dX5_pileOf_152 : decode cX5_pileOf 152 = .ok (.imul, 1) := by decide +kernel
theorem dX5_pileOf_153 : decode cX5_pileOf 153 = .ok (.iadd, 1) := by decide +kernel
theorem dX5_pileOf_154 : decode cX5_pileOf 154 = .ok (.iload 4, 2) := by decide +kernel
theorem dX5_pileOf_156 : decode cX5_pileOf 156 = .ok (.iadd, 1) := by decide +kernel
theorem dX5_pileOf_157 : decode cX5_pileOf 157 = .ok (.iaload, 1) := by decide +kernel
theorem dX5_pileOf_158 : decode cX5_pileOf 158 = .ok (.iastore, 1) := by decide +kernel
theorem dX5_pileOf_159 : decode cX5_pileOf 159 = .ok (.iinc 4 1, 3) := by decide +kernel
theorem dX5_pileOf_162 : decode cX5_pileOf 162 = .ok (.goto (-35), 3) := by decide +kernel
theorem dX5_pileOf_165 : decode cX5_pileOf 165 = .ok (.aload_n 0, 1) := by decide +kernel
theorem dX5_pileOf_166 : decode cX5_pileOf 166 = .ok (.invokevirtual 136, 3) := by decide +kernel
theorem dX5_pileOf_169 : decode cX5_pileOf 169 = .ok (.iinc 3 1, 3) := by decide +kernel
theorem dX5_pileOf_172 : decode cX5_pileOf 172 = .ok (.goto (-53), 3) := by decide +kernel
theorem dX5_pileOf_175 : decode cX5_pileOf 175 = .ok (.return_, 1) := by decide +kernel
theorem dX5_closedOf_0 : decode cX5_closedOf 0 = .ok (.aload_n 0, 1) := by decide +kernel
theorem dX5_closedOf_1 : decode cX5_closedOf 1 = .ok (.getfield 20, 3) := by decide +kernel
theorem dX5_closedOf_4 : decode cX5_closedOf 4 = .ok (.iload_n 1, 1) := by decide +kernel
theorem dX5_closedOf_5 : decode cX5_closedOf 5 = .ok (.iaload, 1) := by decide +kernel
theorem dX5_closedOf_6 : decode cX5_closedOf 6 = .ok (.ifCond .ne 7, 3) := by decide +kernel
theorem dX5_closedOf_9 : decode cX5_closedOf 9 = .ok (.iconst 0, 1) := by decide +kernel
theorem dX5_closedOf_10 : decode cX5_closedOf 10 = .ok (.goto 15, 3) := by decide +kernel
theorem dX5_closedOf_13 : decode cX5_closedOf 13 = .ok (.aload_n 0, 1) := by decide +kernel
theorem dX5_closedOf_14 : decode cX5_closedOf 14 = .ok (.getfield 20, 3) := by decide +kernel
theorem dX5_closedOf_17 : decode cX5_closedOf 17 = .ok (.iload_n 1, 1) := by decide +kernel
theorem dX5_closedOf_18 : decode cX5_closedOf 18 = .ok (.iaload, 1) := by decide +kernel
theorem dX5_closedOf_19 : decode cX5_closedOf 19 = .ok (.iconst 1, 1) := by decide +kernel
theorem dX5_closedOf_20 : decode cX5_closedOf 20 = .ok (.isub, 1) := by decide +kernel
theorem dX5_closedOf_21 : decode cX5_closedOf 21 = .ok (.sipush 1024, 3) := by decide +kernel
theorem dX5_closedOf_24 : decode cX5_closedOf 24 = .ok (.idiv, 1) := by decide +kernel
theorem dX5_closedOf_25 : decode cX5_closedOf 25 = .ok (.ireturn, 1) := by decide +kernel
theorem dX5_isRegister_0 : decode cX5_isRegister 0 = .ok (.iload_n 0, 1) := by decide +kernel
theorem dX5_isRegister_1 : decode cX5_isRegister 1 = .ok (.ifCond .lt 13, 3) := by decide +kernel
theorem dX5_isRegister_4 : decode cX5_isRegister 4 = .ok (.iload_n 0, 1) := by decide +kernel
theorem dX5_isRegister_5 : decode cX5_isRegister 5 = .ok (.bipush 8, 2) := by decide +kernel
theorem dX5_isRegister_7 : decode cX5_isRegister 7 = .ok (.if_icmp .ge 7, 3) := by decide +kernel
theorem dX5_isRegister_10 : decode cX5_isRegister 10 = .ok (.iconst 1, 1) := by decide +kernel
theorem dX5_isRegister_11 : decode cX5_isRegister 11 = .ok (.goto 4, 3) := by decide +kernel
theorem dX5_isRegister_14 : decode cX5_isRegister 14 = .ok (.iconst 0, 1) := by decide +kernel
theorem dX5_isRegister_15 : decode cX5_isRegister 15 = .ok (.ireturn, 1) := by decide +kernel
theorem dX5_isHasher_0 : decode cX5_isHasher 0 = .ok (.iload_n 0, 1) := by decide +kernel
theorem dX5_isHasher_1 : decode cX5_isHasher 1 = .ok (.ifCond .lt 12, 3) := by decide +kernel
theorem dX5_isHasher_4 : decode cX5_isHasher 4 = .ok (.iload_n 0, 1) := by decide +kernel
theorem dX5_isHasher_5 : decode cX5_isHasher 5 = .ok (.iconst 4, 1) := by decide +kernel
theorem dX5_isHasher_6 : decode cX5_isHasher 6 = .ok (.if_icmp .ge 7, 3) := by decide +kernel
theorem dX5_isHasher_9 : decode cX5_isHasher 9 = .ok (.iconst 1, 1) := by decide +kernel
theorem dX5_isHasher_10 : decode cX5_isHasher 10 = .ok (.goto 4, 3) := by decide +kernel
theorem dX5_isHasher_13 : decode cX5_isHasher 13 = .ok (.iconst 0, 1) := by decide +kernel
theorem dX5_isHasher_14 : decode cX5_isHasher 14 = .ok (.ireturn, 1) := by decide +kernel
set_option maxRecDepth 20000 in
theorem ggX5_add_X5_isRegister : GoodIn wsX5_add wsX5_isRegister := goodIn_r _ [7] (by decide +kernel) (by decide +kernel)
set_option maxRecDepth 20000 in
theorem gX5_add_X5_isRegister : GoodIn wsX5_add (va_wsS RX5 147 yX5_isRegister wsX5_isRegister) := goodIn_app (goodIn_of _ (by decide +kernel)) ggX5_add_X5_isRegister
theorem dX5_add_0 : decode cX5_add 0 = .ok (.iload_n 1, 1) := by decide +kernel
theorem dX5_add_1 : decode cX5_add 1 = .ok (.invokestatic 147, 3) := by decide +kernel
theorem dX5_add_4 : decode cX5_add 4 = .ok (.ifCond .eq 14, 3) := by decide +kernel
theorem dX5_add_7 : decode cX5_add 7 = .ok (.iload_n 2, 1) := by decide +kernel
theorem dX5_add_8 : decode cX5_add 8 = .ok (.iconst 1, 1) := by decide +kernel
theorem dX5_add_9 : decode cX5_add 9 = .ok (.if_icmp .lt 9, 3) := by decide +kernel
theorem dX5_add_12 : decode cX5_add 12 = .ok (.iload_n 2, 1) := by decide +kernel
theorem dX5_add_13 : decode cX5_add 13 = .ok (.bipush 8, 2) := by decide +kernel
theorem dX5_add_15 : decode cX5_add 15 = .ok (.if_icmp .le 6, 3) := by decide +kernel
theorem dX5_add_18 : decode cX5_add 18 = .ok (.bipush (-2), 2) := by decide +kernel
theorem dX5_add_20 : decode cX5_add 20 = .ok (.ireturn, 1) := by decide +kernel
theorem dX5_add_21 : decode cX5_add 21 = .ok (.aload_n 0, 1) := by decide +kernel
theorem dX5_add_22 : decode cX5_add 22 = .ok (.getfield 13, 3) := by decide +kernel
theorem dX5_add_25 : decode cX5_add 25 = .ok (.iload_n 1, 1) := by decide +kernel
theorem dX5_add_26 : decode cX5_add 26 = .ok (.iaload, 1) := by decide +kernel
theorem dX5_add_27 : decode cX5_add 27 = .ok (.iload_n 2, 1) := by decide +kernel
theorem dX5_add_28 : decode cX5_add 28 = .ok (.iadd, 1) := by decide +kernel
theorem dX5_add_29 : decode cX5_add 29 = .ok (.sipush 200, 3) := by decide +kernel
theorem dX5_add_32 : decode cX5_add 32 = .ok (.if_icmp .le 6, 3) := by decide +kernel
theorem dX5_add_35 : decode cX5_add 35 = .ok (.bipush (-3), 2) := by decide +kernel
theorem dX5_add_37 : decode cX5_add 37 = .ok (.ireturn, 1) := by decide +kernel
theorem dX5_add_38 : decode cX5_add 38 = .ok (.iconst 0, 1) := by decide +kernel
theorem dX5_add_39 : decode cX5_add 39 = .ok (.istore 5, 2) := by decide +kernel
theorem dX5_add_41 : decode cX5_add 41 = .ok (.iload 5, 2) := by decide +kernel
theorem dX5_add_43 : decode cX5_add 43 = .ok (.iload_n 2, 1) := by decide +kernel
theorem dX5_add_44 : decode cX5_add 44 = .ok (.if_icmp .ge 48, 3) := by decide +kernel
theorem dX5_add_47 : decode cX5_add 47 = .ok (.aload_n 0, 1) := by decide +kernel
theorem dX5_add_48 : decode cX5_add 48 = .ok (.getfield 7, 3) := by decide +kernel
theorem dX5_add_51 : decode cX5_add 51 = .ok (.sipush 200, 3) := by decide +kernel
theorem dX5_add_54 : decode cX5_add 54 = .ok (.iload_n 1, 1) := by decide +kernel
theorem dX5_add_55 : decode cX5_add 55 = .ok (.imul, 1) := by decide +kernel
theorem dX5_add_56 : decode cX5_add 56 = .ok (.aload_n 0, 1) := by decide +kernel
theorem dX5_add_57 : decode cX5_add 57 = .ok (.getfield 13, 3) := by decide +kernel
theorem dX5_add_60 : decode cX5_add 60 = .ok (.iload_n 1, 1) := by decide +kernel
theorem dX5_add_61 : decode cX5_add 61 = .ok (.iaload, 1) := by decide +kernel
theorem dX5_add_62 : decode cX5_add 62 = .ok (.iadd, 1) := by decide +kernel
theorem dX5_add_63 : decode cX5_add 63 = .ok (.lload_n 3, 1) := by decide +kernel
theorem dX5_add_64 : decode cX5_add 64 = .ok (.bipush 8, 2) := by decide +kernel
theorem dX5_add_66 : decode cX5_add 66 = .ok (.iload 5, 2) := by decide +kernel
theorem dX5_add_68 : decode cX5_add 68 = .ok (.imul, 1) := by decide +kernel
theorem dX5_add_69 : decode cX5_add 69 = .ok (.lshr, 1) := by decide +kernel
theorem dX5_add_70 : decode cX5_add 70 = .ok (.ldc2_w 151, 3) := by decide +kernel
theorem dX5_add_73 : decode cX5_add 73 = .ok (.land, 1) := by decide +kernel
theorem dX5_add_74 : decode cX5_add 74 = .ok (.l2i, 1) := by decide +kernel
theorem dX5_add_75 : decode cX5_add 75 = .ok (.iastore, 1) := by decide +kernel
theorem dX5_add_76 : decode cX5_add 76 = .ok (.aload_n 0, 1) := by decide +kernel
theorem dX5_add_77 : decode cX5_add 77 = .ok (.getfield 13, 3) := by decide +kernel
theorem dX5_add_80 : decode cX5_add 80 = .ok (.iload_n 1, 1) := by decide +kernel
theorem dX5_add_81 : decode cX5_add 81 = .ok (.dup2, 1) := by decide +kernel
theorem dX5_add_82 : decode cX5_add 82 = .ok (.iaload, 1) := by decide +kernel
theorem dX5_add_83 : decode cX5_add 83 = .ok (.iconst 1, 1) := by decide +kernel
theorem dX5_add_84 : decode cX5_add 84 = .ok (.iadd, 1) := by decide +kernel
theorem dX5_add_85 : decode cX5_add 85 = .ok (.iastore, 1) := by decide +kernel
theorem dX5_add_86 : decode cX5_add 86 = .ok (.iinc 5 1, 3) := by decide +kernel
theorem dX5_add_89 : decode cX5_add 89 = .ok (.goto (-48), 3) := by decide +kernel
theorem dX5_add_92 : decode cX5_add 92 = .ok (.aload_n 0, 1) := by decide +kernel
theorem dX5_add_93 : decode cX5_add 93 = .ok (.getfield 13, 3) := by decide +kernel
theorem dX5_add_96 : decode cX5_add 96 = .ok (.iload_n 1, 1) := by decide +kernel
theorem dX5_add_97 : decode cX5_add 97 = .ok (.iaload, 1) := by decide +kernel
theorem dX5_add_98 : decode cX5_add 98 = .ok (.ireturn, 1) := by decide +kernel
set_option maxRecDepth 20000 in
theorem ggX5_clear_X5_isRegister : GoodIn wsX5_clear wsX5_isRegister := goodIn_r _ [5] (by decide +kernel) (by decide +kernel)
set_option maxRecDepth 20000 in
theorem gX5_clear_X5_isRegister : GoodIn wsX5_clear (va_wsS RX5 147 yX5_isRegister wsX5_isRegister) := goodIn_app (goodIn_of _ (by decide +kernel)) ggX5_clear_X5_isRegister
theorem dX5_clear_0 : decode cX5_clear 0 = .ok (.iload_n 1, 1) := by decide +kernel
theorem dX5_clear_1 : decode cX5_clear 1 = .ok (.invokestatic 147, 3) := by decide +kernel
theorem dX5_clear_4 : decode cX5_clear 4 = .ok (.ifCond .ne 6, 3) := by decide +kernel
theorem dX5_clear_7 : decode cX5_clear 7 = .ok (.bipush (-2), 2) := by decide +kernel
theorem dX5_clear_9 : decode cX5_clear 9 = .ok (.ireturn, 1) := by decide +kernel
theorem dX5_clear_10 : decode cX5_clear 10 = .ok (.aload_n 0, 1) := by decide +kernel
theorem dX5_clear_11 : decode cX5_clear 11 = .ok (.getfield 13, 3) := by decide +kernel
theorem dX5_clear_14 : decode cX5_clear 14 = .ok (.iload_n 1, 1) := by decide +kernel
theorem dX5_clear_15 : decode cX5_clear 15 = .ok (.iaload, 1) := by decide +kernel
theorem dX5_clear_16 : decode cX5_clear 16 = .ok (.istore_n 2, 1) := by decide +kernel
theorem dX5_clear_17 : decode cX5_clear 17 = .ok (.aload_n 0, 1) := by decide +kernel
theorem dX5_clear_18 : decode cX5_clear 18 = .ok (.getfield 13, 3) := by decide +kernel
theorem dX5_clear_21 : decode cX5_clear 21 = .ok (.iload_n 1, 1) := by decide +kernel
theorem dX5_clear_22 : decode cX5_clear 22 = .ok (.iconst 0, 1) := by decide +kernel
theorem dX5_clear_23 : decode cX5_clear 23 = .ok (.iastore, 1) := by decide +kernel
theorem dX5_clear_24 : decode cX5_clear 24 = .ok (.iload_n 2, 1) := by decide +kernel
theorem dX5_clear_25 : decode cX5_clear 25 = .ok (.ireturn, 1) := by decide +kernel
set_option maxRecDepth 20000 in
theorem ggX5_size_X5_isRegister : GoodIn wsX5_size wsX5_isRegister := goodIn_r _ [5] (by decide +kernel) (by decide +kernel)
set_option maxRecDepth 20000 in
theorem gX5_size_X5_isRegister : GoodIn wsX5_size (va_wsS RX5 147 yX5_isRegister wsX5_isRegister) := goodIn_app (goodIn_of _ (by decide +kernel)) ggX5_size_X5_isRegister
theorem dX5_size_0 : decode cX5_size 0 = .ok (.iload_n 1, 1) := by decide +kernel
theorem dX5_size_1 : decode cX5_size 1 = .ok (.invokestatic 147, 3) := by decide +kernel
theorem dX5_size_4 : decode cX5_size 4 = .ok (.ifCond .eq 12, 3) := by decide +kernel
theorem dX5_size_7 : decode cX5_size 7 = .ok (.aload_n 0, 1) := by decide +kernel
theorem dX5_size_8 : decode cX5_size 8 = .ok (.getfield 13, 3) := by decide +kernel
theorem dX5_size_11 : decode cX5_size 11 = .ok (.iload_n 1, 1) := by decide +kernel
theorem dX5_size_12 : decode cX5_size 12 = .ok (.iaload, 1) := by decide +kernel
theorem dX5_size_13 : decode cX5_size 13 = .ok (.goto 5, 3) := by decide +kernel
theorem dX5_size_16 : decode cX5_size 16 = .ok (.bipush (-2), 2) := by decide +kernel
theorem dX5_size_18 : decode cX5_size 18 = .ok (.ireturn, 1) := by decide +kernel
set_option maxRecDepth 20000 in
theorem ggX5_at_X5_isRegister : GoodIn wsX5_at wsX5_isRegister := goodIn_r _ [6] (by decide +kernel) (by decide +kernel)
set_option maxRecDepth 20000 in
theorem gX5_at_X5_isRegister : GoodIn wsX5_at (va_wsS RX5 147 yX5_isRegister wsX5_isRegister) := goodIn_app (goodIn_of _ (by decide +kernel)) ggX5_at_X5_isRegister
theorem dX5_at_0 : decode cX5_at 0 = .ok (.iload_n 1, 1) := by decide +kernel
theorem dX5_at_1 : decode cX5_at 1 = .ok (.invokestatic 147, 3) := by decide +kernel
theorem dX5_at_4 : decode cX5_at 4 = .ok (.ifCond .ne 6, 3) := by decide +kernel
theorem dX5_at_7 : decode cX5_at 7 = .ok (.bipush (-2), 2) := by decide +kernel
theorem dX5_at_9 : decode cX5_at 9 = .ok (.ireturn, 1) := by decide +kernel
theorem dX5_at_10 : decode cX5_at 10 = .ok (.iload_n 2, 1) := by decide +kernel
theorem dX5_at_11 : decode cX5_at 11 = .ok (.ifCond .lt 28, 3) := by decide +kernel
theorem dX5_at_14 : decode cX5_at 14 = .ok (.iload_n 2, 1) := by decide +kernel
theorem dX5_at_15 : decode cX5_at 15 = .ok (.aload_n 0, 1) := by decide +kernel
theorem dX5_at_16 : decode cX5_at 16 = .ok (.getfield 13, 3) := by decide +kernel
theorem dX5_at_19 : decode cX5_at 19 = .ok (.iload_n 1, 1) := by decide +kernel
theorem dX5_at_20 : decode cX5_at 20 = .ok (.iaload, 1) := by decide +kernel
theorem dX5_at_21 : decode cX5_at 21 = .ok (.if_icmp .ge 18, 3) := by decide +kernel
theorem dX5_at_24 : decode cX5_at 24 = .ok (.aload_n 0, 1) := by decide +kernel
theorem dX5_at_25 : decode cX5_at 25 = .ok (.getfield 7, 3) := by decide +kernel
theorem dX5_at_28 : decode cX5_at 28 = .ok (.sipush 200, 3) := by decide +kernel
theorem dX5_at_31 : decode cX5_at 31 = .ok (.iload_n 1, 1) := by decide +kernel
theorem dX5_at_32 : decode cX5_at 32 = .ok (.imul, 1) := by decide +kernel
theorem dX5_at_33 : decode cX5_at 33 = .ok (.iload_n 2, 1) := by decide +kernel
theorem dX5_at_34 : decode cX5_at 34 = .ok (.iadd, 1) := by decide +kernel
theorem dX5_at_35 : decode cX5_at 35 = .ok (.iaload, 1) := by decide +kernel
theorem dX5_at_36 : decode cX5_at 36 = .ok (.goto 4, 3) := by decide +kernel
theorem dX5_at_39 : decode cX5_at 39 = .ok (.iconst (-1), 1) := by decide +kernel
theorem dX5_at_40 : decode cX5_at 40 = .ok (.ireturn, 1) := by decide +kernel
set_option maxRecDepth 20000 in
theorem ggX5_begin_X5_isHasher : GoodIn wsX5_begin wsX5_isHasher := goodIn_r _ [13] (by decide +kernel) (by decide +kernel)
set_option maxRecDepth 20000 in
theorem gX5_begin_X5_isHasher : GoodIn wsX5_begin (va_wsS RX5 153 yX5_isHasher wsX5_isHasher) := goodIn_app (goodIn_of _ (by decide +kernel)) ggX5_begin_X5_isHasher
set_option maxRecDepth 20000 in
theorem ggX5_begin_X5_isRegister : GoodIn wsX5_begin wsX5_isRegister := goodIn_r _ [16] (by decide +kernel) (by decide +kernel)
set_option maxRecDepth 20000 in
theorem gX5_begin_X5_isRegister : GoodIn wsX5_begin (va_wsS RX5 147 yX5_isRegister wsX5_isRegister) := goodIn_app (goodIn_of _ (by decide +kernel)) ggX5_begin_X5_isRegister
set_option maxRecDepth 20000 in
theorem ggX5_begin_X5_plain : GoodIn wsX5_begin wsX5_plain := goodIn_r _ [20, 5, 21, 56, 57, 58, 59, 60, 61, 62, 63, 64, 65, 66, 67, 68, 69, 70, 71, 72, 73, 74, 75, 76, 77, 78, 79, 80, 81, 82, 83] (by decide +kernel) (by decide +kernel)
set_option maxRecDepth 20000 in
theorem gX5_begin_X5_plain : GoodIn wsX5_begin (wsV RX5 84 RX5 yX5_plain wsX5_plain) := goodIn_app (goodIn_of _ (by decide +kernel)) ggX5_begin_X5_plain
set_option maxRecDepth 20000 in
theorem ggX5_begin_X5_wordAt : GoodIn wsX5_begin wsX5_wordAt := goodIn_r _ [24] (by decide +kernel) (by decide +kernel)
set_option maxRecDepth 20000 in
theorem gX5_begin_X5_wordAt : GoodIn wsX5_begin (va_wsS RX5 156 yX5_wordAt wsX5_wordAt) := goodIn_app (goodIn_of _ (by decide +kernel)) ggX5_begin_X5_wordAt
set_option maxRecDepth 20000 in
theorem ggX5_begin_X5_useKey : GoodIn wsX5_begin wsX5_useKey := goodIn_r _ [28, 29, 21, 5, 4, 7, 56, 57, 58, 59, 60, 61, 62, 63, 64, 65, 66, 67, 68, 69, 70, 71, 72, 73, 74, 75, 76, 77, 78, 79, 80, 81, 82, 83] (by decide +kernel) (by decide +kernel)
set_option maxRecDepth 20000 in
theorem gX5_begin_X5_useKey : GoodIn wsX5_begin (wsV RX5 139 RX5 yX5_useKey wsX5_useKey) := goodIn_app (goodIn_of _ (by decide +kernel)) ggX5_begin_X5_useKey
set_option maxRecDepth 20000 in
theorem ggX5_begin_X5_chunk : GoodIn wsX5_begin wsX5_chunk := goodIn_r _ [33, 34, 29, 35, 36, 37, 7, 8, 38, 39, 40, 12, 41, 9, 42, 43, 44, 45, 21, 46, 47, 48, 49, 50, 51, 52, 53, 54, 55, 56, 57, 58, 59, 60, 61, 62, 63, 64, 65, 66, 67, 68, 69, 70, 71, 72, 73, 74, 75, 76, 77, 78, 79, 80, 81, 82, 83] (by decide +kernel) (by decide +kernel)
set_option maxRecDepth 20000 in
theorem gX5_begin_X5_chunk : GoodIn wsX5_begin (wsV RX5 132 RX5 yX5_chunk wsX5_chunk) := goodIn_app (goodIn_of _ (by decide +kernel)) ggX5_begin_X5_chunk
set_option maxRecDepth 20000 in
theorem ggX5_begin_X5_mix : GoodIn wsX5_begin wsX5_mix := goodIn_r _ [45, 9, 34, 21, 36, 46, 37, 47, 48, 49, 50, 51, 12, 52, 53, 54, 55, 56, 57, 58, 59, 60, 61, 62, 63, 64, 65, 66, 67, 68, 69, 70, 71, 72, 73, 74, 75, 76, 77, 78, 79, 80, 81, 82, 83] (by decide +kernel) (by decide +kernel)
set_option maxRecDepth 20000 in
theorem gX5_begin_X5_mix : GoodIn wsX5_begin (wsV RX5 107 RX5 yX5_mix wsX5_mix) := goodIn_app (goodIn_of _ (by decide +kernel)) ggX5_begin_X5_mix
theorem dX5_begin_0 : decode cX5_begin 0 = .ok (.iload_n 1, 1) := by decide +kernel
theorem dX5_begin_1 : decode cX5_begin 1 = .ok (.invokestatic 153, 3) := by decide +kernel
theorem dX5_begin_4 : decode cX5_begin 4 = .ok (.ifCond .eq 39, 3) := by decide +kernel
theorem dX5_begin_7 : decode cX5_begin 7 = .ok (.iload_n 2, 1) := by decide +kernel
theorem dX5_begin_8 : decode cX5_begin 8 = .ok (.ifCond .lt 35, 3) := by decide +kernel
theorem dX5_begin_11 : decode cX5_begin 11 = .ok (.iload_n 2, 1) := by decide +kernel
theorem dX5_begin_12 : decode cX5_begin 12 = .ok (.iconst 2, 1) := by decide +kernel
theorem dX5_begin_13 : decode cX5_begin 13 = .ok (.if_icmp .gt 30, 3) := by decide +kernel
theorem dX5_begin_16 : decode cX5_begin 16 = .ok (.iload_n 2, 1) := by decide +kernel
theorem dX5_begin_17 : decode cX5_begin 17 = .ok (.ifCond .le 10, 3) := by decide +kernel
theorem dX5_begin_20 : decode cX5_begin 20 = .ok (.iload_n 3, 1) := by decide +kernel
theorem dX5_begin_21 : decode cX5_begin 21 = .ok (.invokestatic 147, 3) := by decide +kernel
theorem dX5_begin_24 : decode cX5_begin 24 = .ok (.ifCond .eq 19, 3) := by decide +kernel
theorem dX5_begin_27 : decode cX5_begin 27 = .ok (.iload_n 2, 1) := by decide +kernel
theorem dX5_begin_28 : decode cX5_begin 28 = .ok (.iconst 1, 1) := by decide +kernel
theorem dX5_begin_29 : decode cX5_begin 29 = .ok (.if_icmp .ne 17, 3) := by decide +kernel
theorem dX5_begin_32 : decode cX5_begin 32 = .ok (.aload_n 0, 1) := by decide +kernel
theorem dX5_begin_33 : decode cX5_begin 33 = .ok (.getfield 13, 3) := by decide +kernel
theorem dX5_begin_36 : decode cX5_begin 36 = .ok (.iload_n 3, 1) := by decide +kernel
theorem dX5_begin_37 : decode cX5_begin 37 = .ok (.iaload, 1) := by decide +kernel
theorem dX5_begin_38 : decode cX5_begin 38 = .ok (.bipush 32, 2) := by decide +kernel
theorem dX5_begin_40 : decode cX5_begin 40 = .ok (.if_icmp .eq 6, 3) := by decide +kernel
theorem dX5_begin_43 : decode cX5_begin 43 = .ok (.bipush (-2), 2) := by decide +kernel
theorem dX5_begin_45 : decode cX5_begin 45 = .ok (.ireturn, 1) := by decide +kernel
theorem dX5_begin_46 : decode cX5_begin 46 = .ok (.aload_n 0, 1) := by decide +kernel
theorem dX5_begin_47 : decode cX5_begin 47 = .ok (.getfield 20, 3) := by decide +kernel
theorem dX5_begin_50 : decode cX5_begin 50 = .ok (.iload_n 1, 1) := by decide +kernel
theorem dX5_begin_51 : decode cX5_begin 51 = .ok (.iconst 0, 1) := by decide +kernel
theorem dX5_begin_52 : decode cX5_begin 52 = .ok (.iastore, 1) := by decide +kernel
theorem dX5_begin_53 : decode cX5_begin 53 = .ok (.aload_n 0, 1) := by decide +kernel
theorem dX5_begin_54 : decode cX5_begin 54 = .ok (.getfield 32, 3) := by decide +kernel
theorem dX5_begin_57 : decode cX5_begin 57 = .ok (.iload_n 1, 1) := by decide +kernel
theorem dX5_begin_58 : decode cX5_begin 58 = .ok (.iconst 0, 1) := by decide +kernel
theorem dX5_begin_59 : decode cX5_begin 59 = .ok (.iastore, 1) := by decide +kernel
theorem dX5_begin_60 : decode cX5_begin 60 = .ok (.aload_n 0, 1) := by decide +kernel
theorem dX5_begin_61 : decode cX5_begin 61 = .ok (.getfield 23, 3) := by decide +kernel
theorem dX5_begin_64 : decode cX5_begin 64 = .ok (.iload_n 1, 1) := by decide +kernel
theorem dX5_begin_65 : decode cX5_begin 65 = .ok (.iload_n 2, 1) := by decide +kernel
theorem dX5_begin_66 : decode cX5_begin 66 = .ok (.iastore, 1) := by decide +kernel
theorem dX5_begin_67 : decode cX5_begin 67 = .ok (.aload_n 0, 1) := by decide +kernel
theorem dX5_begin_68 : decode cX5_begin 68 = .ok (.iload_n 1, 1) := by decide +kernel
theorem dX5_begin_69 : decode cX5_begin 69 = .ok (.invokevirtual 84, 3) := by decide +kernel
theorem dX5_begin_72 : decode cX5_begin 72 = .ok (.iload_n 2, 1) := by decide +kernel
theorem dX5_begin_73 : decode cX5_begin 73 = .ok (.iconst 1, 1) := by decide +kernel
theorem dX5_begin_74 : decode cX5_begin 74 = .ok (.if_icmp .ne 51, 3) := by decide +kernel
theorem dX5_begin_77 : decode cX5_begin 77 = .ok (.iconst 0, 1) := by decide +kernel
theorem dX5_begin_78 : decode cX5_begin 78 = .ok (.istore 4, 2) := by decide +kernel
theorem dX5_begin_80 : decode cX5_begin 80 = .ok (.iload 4, 2) := by decide +kernel
theorem dX5_begin_82 : decode cX5_begin 82 = .ok (.bipush 8, 2) := by decide +kernel
theorem dX5_begin_84 : decode cX5_begin 84 = .ok (.if_icmp .ge 38, 3) := by decide +kernel
theorem dX5_begin_87 : decode cX5_begin 87 = .ok (.aload_n 0, 1) := by decide +kernel
theorem dX5_begin_88 : decode cX5_begin 88 = .ok (.getfield 26, 3) := by decide +kernel
theorem dX5_begin_91 : decode cX5_begin 91 = .ok (.bipush 8, 2) := by decide +kernel
theorem dX5_begin_93 : decode cX5_begin 93 = .ok (.iload_n 1, 1) := by decide +kernel
theorem dX5_begin_94 : decode cX5_begin 94 = .ok (.imul, 1) := by decide +kernel
theorem dX5_begin_95 : decode cX5_begin 95 = .ok (.iload 4, 2) := by decide +kernel
theorem dX5_begin_97 : decode cX5_begin 97 = .ok (.iadd, 1) := by decide +kernel
theorem dX5_begin_98 : decode cX5_begin 98 = .ok (.aload_n 0, 1) := by decide +kernel
theorem dX5_begin_99 : decode cX5_begin 99 = .ok (.getfield 7, 3) := by decide +kernel
theorem dX5_begin_102 : decode cX5_begin 102 = .ok (.sipush 200, 3) := by decide +kernel
theorem dX5_begin_105 : decode cX5_begin 105 = .ok (.iload_n 3, 1) := by decide +kernel
theorem dX5_begin_106 : decode cX5_begin 106 = .ok (.imul, 1) := by decide +kernel
theorem dX5_begin_107 : decode cX5_begin 107 = .ok (.iconst 4, 1) := by decide +kernel
theorem dX5_begin_108 : decode cX5_begin 108 = .ok (.iload 4, 2) := by decide +kernel
theorem dX5_begin_110 : decode cX5_begin 110 = .ok (.imul, 1) := by decide +kernel
theorem dX5_begin_111 : decode cX5_begin 111 = .ok (.iadd, 1) := by decide +kernel
theorem dX5_begin_112 : decode cX5_begin 112 = .ok (.invokestatic 156, 3) := by decide +kernel
theorem dX5_begin_115 : decode cX5_begin 115 = .ok (.iastore, 1) := by decide +kernel
theorem dX5_begin_116 : decode cX5_begin 116 = .ok (.iinc 4 1, 3) := by decide +kernel
theorem dX5_begin_119 : decode cX5_begin 119 = .ok (.goto (-39), 3) := by decide +kernel
theorem dX5_begin_122 : decode cX5_begin 122 = .ok (.goto 86, 3) := by decide +kernel
theorem dX5_begin_125 : decode cX5_begin 125 = .ok (.iload_n 2, 1) := by decide +kernel
theorem dX5_begin_126 : decode cX5_begin 126 = .ok (.iconst 2, 1) := by decide +kernel
theorem dX5_begin_127 : decode cX5_begin 127 = .ok (.if_icmp .ne 81, 3) := by decide +kernel
theorem dX5_begin_130 : decode cX5_begin 130 = .ok (.aload_n 0, 1) := by decide +kernel
theorem dX5_begin_131 : decode cX5_begin 131 = .ok (.iconst (-1), 1) := by decide +kernel
theorem dX5_begin_132 : decode cX5_begin 132 = .ok (.invokevirtual 139, 3) := by decide +kernel
theorem dX5_begin_135 : decode cX5_begin 135 = .ok (.aload_n 0, 1) := by decide +kernel
theorem dX5_begin_136 : decode cX5_begin 136 = .ok (.bipush 32, 2) := by decide +kernel
theorem dX5_begin_138 : decode cX5_begin 138 = .ok (.putfield 114, 3) := by decide +kernel
theorem dX5_begin_141 : decode cX5_begin 141 = .ok (.aload_n 0, 1) := by decide +kernel
theorem dX5_begin_142 : decode cX5_begin 142 = .ok (.aload_n 0, 1) := by decide +kernel
theorem dX5_begin_143 : decode cX5_begin 143 = .ok (.getfield 7, 3) := by decide +kernel
theorem dX5_begin_146 : decode cX5_begin 146 = .ok (.sipush 200, 3) := by decide +kernel
theorem dX5_begin_149 : decode cX5_begin 149 = .ok (.iload_n 3, 1) := by decide +kernel
theorem dX5_begin_150 : decode cX5_begin 150 = .ok (.imul, 1) := by decide +kernel
theorem dX5_begin_151 : decode cX5_begin 151 = .ok (.aload_n 0, 1) := by decide +kernel
theorem dX5_begin_152 : decode cX5_begin 152 = .ok (.getfield 13, 3) := by decide +kernel
theorem dX5_begin_155 : decode cX5_begin 155 = .ok (.iload_n 3, 1) := by decide +kernel
theorem dX5_begin_156 : decode cX5_begin 156 = .ok (.iaload, 1) := by decide +kernel
theorem dX5_begin_157 : decode cX5_begin 157 = .ok (.lconst 0, 1) := by decide +kernel
theorem dX5_begin_158 : decode cX5_begin 158 = .ok (.invokevirtual 132, 3) := by decide +kernel
theorem dX5_begin_161 : decode cX5_begin 161 = .ok (.aload_n 0, 1) := by decide +kernel
theorem dX5_begin_162 : decode cX5_begin 162 = .ok (.lconst 0, 1) := by decide +kernel
theorem dX5_begin_163 : decode cX5_begin 163 = .ok (.aload_n 0, 1) := by decide +kernel
theorem dX5_begin_164 : decode cX5_begin 164 = .ok (.getfield 104, 3) := by decide +kernel
theorem dX5_begin_167 : decode cX5_begin 167 = .ok (.bipush 8, 2) := by decide +kernel
theorem dX5_begin_169 : decode cX5_begin 169 = .ok (.iadd, 1) := by decide +kernel
theorem dX5_begin_170 : decode cX5_begin 170 = .ok (.invokevirtual 107, 3) := by decide +kernel
theorem dX5_begin_173 : decode cX5_begin 173 = .ok (.iconst 0, 1) := by decide +kernel
theorem dX5_begin_174 : decode cX5_begin 174 = .ok (.istore 4, 2) := by decide +kernel
theorem dX5_begin_176 : decode cX5_begin 176 = .ok (.iload 4, 2) := by decide +kernel
theorem dX5_begin_178 : decode cX5_begin 178 = .ok (.bipush 8, 2) := by decide +kernel
theorem dX5_begin_180 : decode cX5_begin 180 = .ok (.if_icmp .ge 28, 3) := by decide +kernel
theorem dX5_begin_183 : decode cX5_begin 183 = .ok (.aload_n 0, 1) := by decide +kernel
theorem dX5_begin_184 : decode cX5_begin 184 = .ok (.getfield 26, 3) := by decide +kernel
theorem dX5_begin_187 : decode cX5_begin 187 = .ok (.bipush 8, 2) := by decide +kernel
theorem dX5_begin_189 : decode cX5_begin 189 = .ok (.iload_n 1, 1) := by decide +kernel
theorem dX5_begin_190 : decode cX5_begin 190 = .ok (.imul, 1) := by decide +kernel
theorem dX5_begin_191 : decode cX5_begin 191 = .ok (.iload 4, 2) := by decide +kernel
theorem dX5_begin_193 : decode cX5_begin 193 = .ok (.iadd, 1) := by decide +kernel
theorem dX5_begin_194 : decode cX5_begin 194 = .ok (.aload_n 0, 1) := by decide +kernel
theorem dX5_begin_195 : decode cX5_begin 195 = .ok (.getfield 53, 3) := by decide +kernel
theorem dX5_begin_198 : decode cX5_begin 198 = .ok (.iload 4, 2) := by decide +kernel
theorem dX5_begin_200 : decode cX5_begin 200 = .ok (.iaload, 1) := by decide +kernel
theorem dX5_begin_201 : decode cX5_begin 201 = .ok (.iastore, 1) := by decide +kernel
theorem dX5_begin_202 : decode cX5_begin 202 = .ok (.iinc 4 1, 3) := by decide +kernel
theorem dX5_begin_205 : decode cX5_begin 205 = .ok (.goto (-29), 3) := by decide +kernel
theorem dX5_begin_208 : decode cX5_begin 208 = .ok (.iconst 0, 1) := by decide +kernel
theorem dX5_begin_209 : decode cX5_begin 209 = .ok (.ireturn, 1) := by decide +kernel
