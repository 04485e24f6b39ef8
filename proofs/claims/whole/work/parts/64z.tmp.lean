theorem gL_law_X5_told : GoodIn wsL_law (wsV RL 60 RX5 yX5_told wsX5_told) := sorry
theorem gL_law_X4_chain : GoodIn wsL_law (wsV RL 61 RX4 yX4_chain wsX4_chain) := sorry
theorem gL_law_X5_chain : GoodIn wsL_law (wsV RL 64 RX5 yX5_chain wsX5_chain) := sorry
theorem gL_law_X4_grow : GoodIn wsL_law (wsV RL 65 RX4 yX4_grow wsX4_grow) := sorry
theorem gL_law_X5_grow : GoodIn wsL_law (wsV RL 68 RX5 yX5_grow wsX5_grow) := sorry
theorem gL_law_X4_spoil : GoodIn wsL_law (wsV RL 69 RX4 yX4_spoil wsX4_spoil) := sorry
theorem gL_law_X5_spoil : GoodIn wsL_law (wsV RL 72 RX5 yX5_spoil wsX5_spoil) := sorry
theorem gL_law_X4_shorten : GoodIn wsL_law (wsV RL 73 RX4 yX4_shorten wsX4_shorten) := sorry
theorem gL_law_X5_shorten : GoodIn wsL_law (wsV RL 76 RX5 yX5_shorten wsX5_shorten) := sorry
theorem gL_law_X4_root : GoodIn wsL_law (wsV RL 77 RX4 yX4_root wsX4_root) := sorry
theorem gL_law_X5_root : GoodIn wsL_law (wsV RL 80 RX5 yX5_root wsX5_root) := sorry
theorem gL_law_X4_prove : GoodIn wsL_law (wsV RL 81 RX4 yX4_prove wsX4_prove) := sorry
theorem gL_law_X5_prove : GoodIn wsL_law (wsV RL 84 RX5 yX5_prove wsX5_prove) := sorry
theorem gL_law_X4_proof : GoodIn wsL_law (wsV RL 85 RX4 yX4_proof wsX4_proof) := sorry
theorem gL_law_X5_proof : GoodIn wsL_law (wsV RL 88 RX5 yX5_proof wsX5_proof) := sorry
theorem gL_law_X4_forge : GoodIn wsL_law (wsV RL 89 RX4 yX4_forge wsX4_forge) := sorry
theorem gL_law_X5_forge : GoodIn wsL_law (wsV RL 92 RX5 yX5_forge wsX5_forge) := sorry
theorem gL_law_X4_cut : GoodIn wsL_law (wsV RL 93 RX4 yX4_cut wsX4_cut) := sorry
theorem gL_law_X5_cut : GoodIn wsL_law (wsV RL 96 RX5 yX5_cut wsX5_cut) := sorry
theorem gL_law_X4_check : GoodIn wsL_law (wsV RL 97 RX4 yX4_check wsX4_check) := sorry
theorem gL_law_X5_check : GoodIn wsL_law (wsV RL 100 RX5 yX5_check wsX5_check) := sorry
theorem dL_law_0 : decode cL_law 0 = .ok (.new 7, 3) := sorry
theorem dL_law_3 : decode cL_law 3 = .ok (.dup, 1) := sorry
theorem dL_law_4 : decode cL_law 4 = .ok (.invokespecial 9, 3) := sorry
theorem dL_law_7 : decode cL_law 7 = .ok (.astore_n 1, 1) := sorry
theorem dL_law_8 : decode cL_law 8 = .ok (.new 10, 3) := sorry
theorem dL_law_11 : decode cL_law 11 = .ok (.dup, 1) := sorry
theorem dL_law_12 : decode cL_law 12 = .ok (.invokespecial 12, 3) := sorry
theorem dL_law_15 : decode cL_law 15 = .ok (.astore_n 2, 1) := sorry
theorem dL_law_16 : decode cL_law 16 = .ok (.iconst 0, 1) := sorry
theorem dL_law_17 : decode cL_law 17 = .ok (.istore_n 3, 1) := sorry
theorem dL_law_18 : decode cL_law 18 = .ok (.iload_n 3, 1) := sorry
theorem dL_law_19 : decode cL_law 19 = .ok (.aload_n 0, 1) := sorry
theorem dL_law_20 : decode cL_law 20 = .ok (.arraylength, 1) := sorry
theorem dL_law_21 : decode cL_law 21 = .ok (.bipush 6, 2) := sorry
theorem dL_law_23 : decode cL_law 23 = .ok (.isub, 1) := sorry
theorem dL_law_24 : decode cL_law 24 = .ok (.if_icmp .gt 850, 3) := sorry
theorem dL_law_27 : decode cL_law 27 = .ok (.aload_n 0, 1) := sorry
theorem dL_law_28 : decode cL_law 28 = .ok (.iload_n 3, 1) := sorry
theorem dL_law_29 : decode cL_law 29 = .ok (.iaload, 1) := sorry
theorem dL_law_30 : decode cL_law 30 = .ok (.bipush 31, 2) := sorry
theorem dL_law_32 : decode cL_law 32 = .ok (.iand, 1) := sorry
theorem dL_law_33 : decode cL_law 33 = .ok (.tableswitch 835 0 19 #[95, 168, 191, 214, 247, 290, 323, 376, 459, 492, 525, 568, 611, 644, 667, 690, 713, 736, 769, 792], 95) := sorry
theorem dL_law_128 : decode cL_law 128 = .ok (.aload_n 1, 1) := sorry
theorem dL_law_129 : decode cL_law 129 = .ok (.aload_n 0, 1) := sorry
theorem dL_law_130 : decode cL_law 130 = .ok (.iload_n 3, 1) := sorry
theorem dL_law_131 : decode cL_law 131 = .ok (.iconst 1, 1) := sorry
theorem dL_law_132 : decode cL_law 132 = .ok (.iadd, 1) := sorry
theorem dL_law_133 : decode cL_law 133 = .ok (.iaload, 1) := sorry
theorem dL_law_134 : decode cL_law 134 = .ok (.aload_n 0, 1) := sorry
theorem dL_law_135 : decode cL_law 135 = .ok (.iload_n 3, 1) := sorry
theorem dL_law_136 : decode cL_law 136 = .ok (.iconst 2, 1) := sorry
theorem dL_law_137 : decode cL_law 137 = .ok (.iadd, 1) := sorry
theorem dL_law_138 : decode cL_law 138 = .ok (.iaload, 1) := sorry
theorem dL_law_139 : decode cL_law 139 = .ok (.aload_n 0, 1) := sorry
theorem dL_law_140 : decode cL_law 140 = .ok (.iload_n 3, 1) := sorry
theorem dL_law_141 : decode cL_law 141 = .ok (.iconst 3, 1) := sorry
theorem dL_law_142 : decode cL_law 142 = .ok (.iadd, 1) := sorry
theorem dL_law_143 : decode cL_law 143 = .ok (.iaload, 1) := sorry
theorem dL_law_144 : decode cL_law 144 = .ok (.i2l, 1) := sorry
theorem dL_law_145 : decode cL_law 145 = .ok (.bipush 32, 2) := sorry
theorem dL_law_147 : decode cL_law 147 = .ok (.lshl, 1) := sorry
theorem dL_law_148 : decode cL_law 148 = .ok (.aload_n 0, 1) := sorry
theorem dL_law_149 : decode cL_law 149 = .ok (.iload_n 3, 1) := sorry
theorem dL_law_150 : decode cL_law 150 = .ok (.iconst 4, 1) := sorry
theorem dL_law_151 : decode cL_law 151 = .ok (.iadd, 1) := sorry
theorem dL_law_152 : decode cL_law 152 = .ok (.iaload, 1) := sorry
theorem dL_law_153 : decode cL_law 153 = .ok (.i2l, 1) := sorry
theorem dL_law_154 : decode cL_law 154 = .ok (.ldc2_w 13, 3) := sorry
theorem dL_law_157 : decode cL_law 157 = .ok (.land, 1) := sorry
theorem dL_law_158 : decode cL_law 158 = .ok (.lor, 1) := sorry
theorem dL_law_159 : decode cL_law 159 = .ok (.invokevirtual 15, 3) := sorry
theorem dL_law_162 : decode cL_law 162 = .ok (.aload_n 2, 1) := sorry
theorem dL_law_163 : decode cL_law 163 = .ok (.aload_n 0, 1) := sorry
theorem dL_law_164 : decode cL_law 164 = .ok (.iload_n 3, 1) := sorry
theorem dL_law_165 : decode cL_law 165 = .ok (.iconst 1, 1) := sorry
theorem dL_law_166 : decode cL_law 166 = .ok (.iadd, 1) := sorry
theorem dL_law_167 : decode cL_law 167 = .ok (.iaload, 1) := sorry
theorem dL_law_168 : decode cL_law 168 = .ok (.aload_n 0, 1) := sorry
theorem dL_law_169 : decode cL_law 169 = .ok (.iload_n 3, 1) := sorry
theorem dL_law_170 : decode cL_law 170 = .ok (.iconst 2, 1) := sorry
theorem dL_law_171 : decode cL_law 171 = .ok (.iadd, 1) := sorry
theorem dL_law_172 : decode cL_law 172 = .ok (.iaload, 1) := sorry
theorem dL_law_173 : decode cL_law 173 = .ok (.aload_n 0, 1) := sorry
theorem dL_law_174 : decode cL_law 174 = .ok (.iload_n 3, 1) := sorry
theorem dL_law_175 : decode cL_law 175 = .ok (.iconst 3, 1) := sorry
theorem dL_law_176 : decode cL_law 176 = .ok (.iadd, 1) := sorry
theorem dL_law_177 : decode cL_law 177 = .ok (.iaload, 1) := sorry
theorem dL_law_178 : decode cL_law 178 = .ok (.i2l, 1) := sorry
theorem dL_law_179 : decode cL_law 179 = .ok (.bipush 32, 2) := sorry
theorem dL_law_181 : decode cL_law 181 = .ok (.lshl, 1) := sorry
theorem dL_law_182 : decode cL_law 182 = .ok (.aload_n 0, 1) := sorry
theorem dL_law_183 : decode cL_law 183 = .ok (.iload_n 3, 1) := sorry
theorem dL_law_184 : decode cL_law 184 = .ok (.iconst 4, 1) := sorry
theorem dL_law_185 : decode cL_law 185 = .ok (.iadd, 1) := sorry
theorem dL_law_186 : decode cL_law 186 = .ok (.iaload, 1) := sorry
theorem dL_law_187 : decode cL_law 187 = .ok (.i2l, 1) := sorry
theorem dL_law_188 : decode cL_law 188 = .ok (.ldc2_w 13, 3) := sorry
theorem dL_law_191 : decode cL_law 191 = .ok (.land, 1) := sorry
theorem dL_law_192 : decode cL_law 192 = .ok (.lor, 1) := sorry
theorem dL_law_193 : decode cL_law 193 = .ok (.invokevirtual 19, 3) := sorry
theorem dL_law_196 : decode cL_law 196 = .ok (.if_icmp .eq 672, 3) := sorry
theorem dL_law_199 : decode cL_law 199 = .ok (.iconst 0, 1) := sorry
theorem dL_law_200 : decode cL_law 200 = .ok (.ireturn, 1) := sorry
theorem dL_law_201 : decode cL_law 201 = .ok (.aload_n 1, 1) := sorry
theorem dL_law_202 : decode cL_law 202 = .ok (.aload_n 0, 1) := sorry
theorem dL_law_203 : decode cL_law 203 = .ok (.iload_n 3, 1) := sorry
theorem dL_law_204 : decode cL_law 204 = .ok (.iconst 1, 1) := sorry
theorem dL_law_205 : decode cL_law 205 = .ok (.iadd, 1) := sorry
theorem dL_law_206 : decode cL_law 206 = .ok (.iaload, 1) := sorry
theorem dL_law_207 : decode cL_law 207 = .ok (.invokevirtual 20, 3) := sorry
theorem dL_law_210 : decode cL_law 210 = .ok (.aload_n 2, 1) := sorry
theorem dL_law_211 : decode cL_law 211 = .ok (.aload_n 0, 1) := sorry
theorem dL_law_212 : decode cL_law 212 = .ok (.iload_n 3, 1) := sorry
theorem dL_law_213 : decode cL_law 213 = .ok (.iconst 1, 1) := sorry
theorem dL_law_214 : decode cL_law 214 = .ok (.iadd, 1) := sorry
theorem dL_law_215 : decode cL_law 215 = .ok (.iaload, 1) := sorry
theorem dL_law_216 : decode cL_law 216 = .ok (.invokevirtual 24, 3) := sorry
theorem dL_law_219 : decode cL_law 219 = .ok (.if_icmp .eq 649, 3) := sorry
theorem dL_law_222 : decode cL_law 222 = .ok (.iconst 0, 1) := sorry
theorem dL_law_223 : decode cL_law 223 = .ok (.ireturn, 1) := sorry
theorem dL_law_224 : decode cL_law 224 = .ok (.aload_n 1, 1) := sorry
theorem dL_law_225 : decode cL_law 225 = .ok (.aload_n 0, 1) := sorry
theorem dL_law_226 : decode cL_law 226 = .ok (.iload_n 3, 1) := sorry
theorem dL_law_227 : decode cL_law 227 = .ok (.iconst 1, 1) := sorry
theorem dL_law_228 : decode cL_law 228 = .ok (.iadd, 1) := sorry
theorem dL_law_229 : decode cL_law 229 = .ok (.iaload, 1) := sorry
theorem dL_law_230 : decode cL_law 230 = .ok (.invokevirtual 25, 3) := sorry
theorem dL_law_233 : decode cL_law 233 = .ok (.aload_n 2, 1) := sorry
theorem dL_law_234 : decode cL_law 234 = .ok (.aload_n 0, 1) := sorry
theorem dL_law_235 : decode cL_law 235 = .ok (.iload_n 3, 1) := sorry
theorem dL_law_236 : decode cL_law 236 = .ok (.iconst 1, 1) := sorry
theorem dL_law_237 : decode cL_law 237 = .ok (.iadd, 1) := sorry
theorem dL_law_238 : decode cL_law 238 = .ok (.iaload, 1) := sorry
theorem dL_law_239 : decode cL_law 239 = .ok (.invokevirtual 28, 3) := sorry
theorem dL_law_242 : decode cL_law 242 = .ok (.if_icmp .eq 626, 3) := sorry
theorem dL_law_245 : decode cL_law 245 = .ok (.iconst 0, 1) := sorry
theorem dL_law_246 : decode cL_law 246 = .ok (.ireturn, 1) := sorry
theorem dL_law_247 : decode cL_law 247 = .ok (.aload_n 1, 1) := sorry
theorem dL_law_248 : decode cL_law 248 = .ok (.aload_n 0, 1) := sorry
theorem dL_law_249 : decode cL_law 249 = .ok (.iload_n 3, 1) := sorry
theorem dL_law_250 : decode cL_law 250 = .ok (.iconst 1, 1) := sorry
theorem dL_law_251 : decode cL_law 251 = .ok (.iadd, 1) := sorry
theorem dL_law_252 : decode cL_law 252 = .ok (.iaload, 1) := sorry
theorem dL_law_253 : decode cL_law 253 = .ok (.aload_n 0, 1) := sorry
theorem dL_law_254 : decode cL_law 254 = .ok (.iload_n 3, 1) := sorry
theorem dL_law_255 : decode cL_law 255 = .ok (.iconst 2, 1) := sorry
theorem dL_law_256 : decode cL_law 256 = .ok (.iadd, 1) := sorry
theorem dL_law_257 : decode cL_law 257 = .ok (.iaload, 1) := sorry
theorem dL_law_258 : decode cL_law 258 = .ok (.invokevirtual 29, 3) := sorry
theorem dL_law_261 : decode cL_law 261 = .ok (.aload_n 2, 1) := sorry
theorem dL_law_262 : decode cL_law 262 = .ok (.aload_n 0, 1) := sorry
theorem dL_law_263 : decode cL_law 263 = .ok (.iload_n 3, 1) := sorry
theorem dL_law_264 : decode cL_law 264 = .ok (.iconst 1, 1) := sorry
theorem dL_law_265 : decode cL_law 265 = .ok (.iadd, 1) := sorry
theorem dL_law_266 : decode cL_law 266 = .ok (.iaload, 1) := sorry
theorem dL_law_267 : decode cL_law 267 = .ok (.aload_n 0, 1) := sorry
theorem dL_law_268 : decode cL_law 268 = .ok (.iload_n 3, 1) := sorry
theorem dL_law_269 : decode cL_law 269 = .ok (.iconst 2, 1) := sorry
theorem dL_law_270 : decode cL_law 270 = .ok (.iadd, 1) := sorry
theorem dL_law_271 : decode cL_law 271 = .ok (.iaload, 1) := sorry
theorem dL_law_272 : decode cL_law 272 = .ok (.invokevirtual 33, 3) := sorry
theorem dL_law_275 : decode cL_law 275 = .ok (.if_icmp .eq 593, 3) := sorry
theorem dL_law_278 : decode cL_law 278 = .ok (.iconst 0, 1) := sorry
theorem dL_law_279 : decode cL_law 279 = .ok (.ireturn, 1) := sorry
theorem dL_law_280 : decode cL_law 280 = .ok (.aload_n 1, 1) := sorry
theorem dL_law_281 : decode cL_law 281 = .ok (.aload_n 0, 1) := sorry
theorem dL_law_282 : decode cL_law 282 = .ok (.iload_n 3, 1) := sorry
theorem dL_law_283 : decode cL_law 283 = .ok (.iconst 1, 1) := sorry
theorem dL_law_284 : decode cL_law 284 = .ok (.iadd, 1) := sorry
theorem dL_law_285 : decode cL_law 285 = .ok (.iaload, 1) := sorry
theorem dL_law_286 : decode cL_law 286 = .ok (.aload_n 0, 1) := sorry
theorem dL_law_287 : decode cL_law 287 = .ok (.iload_n 3, 1) := sorry
theorem dL_law_288 : decode cL_law 288 = .ok (.iconst 2, 1) := sorry
theorem dL_law_289 : decode cL_law 289 = .ok (.iadd, 1) := sorry
theorem dL_law_290 : decode cL_law 290 = .ok (.iaload, 1) := sorry
theorem dL_law_291 : decode cL_law 291 = .ok (.aload_n 0, 1) := sorry
theorem dL_law_292 : decode cL_law 292 = .ok (.iload_n 3, 1) := sorry
theorem dL_law_293 : decode cL_law 293 = .ok (.iconst 3, 1) := sorry
theorem dL_law_294 : decode cL_law 294 = .ok (.iadd, 1) := sorry
theorem dL_law_295 : decode cL_law 295 = .ok (.iaload, 1) := sorry
theorem dL_law_296 : decode cL_law 296 = .ok (.invokevirtual 34, 3) := sorry
theorem dL_law_299 : decode cL_law 299 = .ok (.aload_n 2, 1) := sorry
theorem dL_law_300 : decode cL_law 300 = .ok (.aload_n 0, 1) := sorry
theorem dL_law_301 : decode cL_law 301 = .ok (.iload_n 3, 1) := sorry
theorem dL_law_302 : decode cL_law 302 = .ok (.iconst 1, 1) := sorry
theorem dL_law_303 : decode cL_law 303 = .ok (.iadd, 1) := sorry
theorem dL_law_304 : decode cL_law 304 = .ok (.iaload, 1) := sorry
theorem dL_law_305 : decode cL_law 305 = .ok (.aload_n 0, 1) := sorry
theorem dL_law_306 : decode cL_law 306 = .ok (.iload_n 3, 1) := sorry
theorem dL_law_307 : decode cL_law 307 = .ok (.iconst 2, 1) := sorry
theorem dL_law_308 : decode cL_law 308 = .ok (.iadd, 1) := sorry
theorem dL_law_309 : decode cL_law 309 = .ok (.iaload, 1) := sorry
theorem dL_law_310 : decode cL_law 310 = .ok (.aload_n 0, 1) := sorry
theorem dL_law_311 : decode cL_law 311 = .ok (.iload_n 3, 1) := sorry
theorem dL_law_312 : decode cL_law 312 = .ok (.iconst 3, 1) := sorry
theorem dL_law_313 : decode cL_law 313 = .ok (.iadd, 1) := sorry
theorem dL_law_314 : decode cL_law 314 = .ok (.iaload, 1) := sorry
theorem dL_law_315 : decode cL_law 315 = .ok (.invokevirtual 38, 3) := sorry
theorem dL_law_318 : decode cL_law 318 = .ok (.if_icmp .eq 550, 3) := sorry
theorem dL_law_321 : decode cL_law 321 = .ok (.iconst 0, 1) := sorry
theorem dL_law_322 : decode cL_law 322 = .ok (.ireturn, 1) := sorry
theorem dL_law_323 : decode cL_law 323 = .ok (.aload_n 1, 1) := sorry
theorem dL_law_324 : decode cL_law 324 = .ok (.aload_n 0, 1) := sorry
theorem dL_law_325 : decode cL_law 325 = .ok (.iload_n 3, 1) := sorry
theorem dL_law_326 : decode cL_law 326 = .ok (.iconst 1, 1) := sorry
theorem dL_law_327 : decode cL_law 327 = .ok (.iadd, 1) := sorry
theorem dL_law_328 : decode cL_law 328 = .ok (.iaload, 1) := sorry
theorem dL_law_329 : decode cL_law 329 = .ok (.aload_n 0, 1) := sorry
theorem dL_law_330 : decode cL_law 330 = .ok (.iload_n 3, 1) := sorry
theorem dL_law_331 : decode cL_law 331 = .ok (.iconst 2, 1) := sorry
theorem dL_law_332 : decode cL_law 332 = .ok (.iadd, 1) := sorry
theorem dL_law_333 : decode cL_law 333 = .ok (.iaload, 1) := sorry
theorem dL_law_334 : decode cL_law 334 = .ok (.invokevirtual 39, 3) := sorry
theorem dL_law_337 : decode cL_law 337 = .ok (.aload_n 2, 1) := sorry
theorem dL_law_338 : decode cL_law 338 = .ok (.aload_n 0, 1) := sorry
theorem dL_law_339 : decode cL_law 339 = .ok (.iload_n 3, 1) := sorry
theorem dL_law_340 : decode cL_law 340 = .ok (.iconst 1, 1) := sorry
theorem dL_law_341 : decode cL_law 341 = .ok (.iadd, 1) := sorry
theorem dL_law_342 : decode cL_law 342 = .ok (.iaload, 1) := sorry
theorem dL_law_343 : decode cL_law 343 = .ok (.aload_n 0, 1) := sorry
theorem dL_law_344 : decode cL_law 344 = .ok (.iload_n 3, 1) := sorry
theorem dL_law_345 : decode cL_law 345 = .ok (.iconst 2, 1) := sorry
theorem dL_law_346 : decode cL_law 346 = .ok (.iadd, 1) := sorry
theorem dL_law_347 : decode cL_law 347 = .ok (.iaload, 1) := sorry
theorem dL_law_348 : decode cL_law 348 = .ok (.invokevirtual 42, 3) := sorry
theorem dL_law_351 : decode cL_law 351 = .ok (.if_icmp .eq 517, 3) := sorry
theorem dL_law_354 : decode cL_law 354 = .ok (.iconst 0, 1) := sorry
theorem dL_law_355 : decode cL_law 355 = .ok (.ireturn, 1) := sorry
theorem dL_law_356 : decode cL_law 356 = .ok (.aload_n 1, 1) := sorry
theorem dL_law_357 : decode cL_law 357 = .ok (.aload_n 0, 1) := sorry
theorem dL_law_358 : decode cL_law 358 = .ok (.iload_n 3, 1) := sorry
theorem dL_law_359 : decode cL_law 359 = .ok (.iconst 1, 1) := sorry
theorem dL_law_360 : decode cL_law 360 = .ok (.iadd, 1) := sorry
theorem dL_law_361 : decode cL_law 361 = .ok (.iaload, 1) := sorry
theorem dL_law_362 : decode cL_law 362 = .ok (.aload_n 0, 1) := sorry
theorem dL_law_363 : decode cL_law 363 = .ok (.iload_n 3, 1) := sorry
theorem dL_law_364 : decode cL_law 364 = .ok (.iconst 2, 1) := sorry
theorem dL_law_365 : decode cL_law 365 = .ok (.iadd, 1) := sorry
theorem dL_law_366 : decode cL_law 366 = .ok (.iaload, 1) := sorry
theorem dL_law_367 : decode cL_law 367 = .ok (.aload_n 0, 1) := sorry
theorem dL_law_368 : decode cL_law 368 = .ok (.iload_n 3, 1) := sorry
theorem dL_law_369 : decode cL_law 369 = .ok (.iconst 3, 1) := sorry
theorem dL_law_370 : decode cL_law 370 = .ok (.iadd, 1) := sorry
theorem dL_law_371 : decode cL_law 371 = .ok (.iaload, 1) := sorry
theorem dL_law_372 : decode cL_law 372 = .ok (.aload_n 0, 1) := sorry
theorem dL_law_373 : decode cL_law 373 = .ok (.iload_n 3, 1) := sorry
theorem dL_law_374 : decode cL_law 374 = .ok (.iconst 4, 1) := sorry
theorem dL_law_375 : decode cL_law 375 = .ok (.iadd, 1) := sorry
theorem dL_law_376 : decode cL_law 376 = .ok (.iaload, 1) := sorry
theorem dL_law_377 : decode cL_law 377 = .ok (.invokevirtual 43, 3) := sorry
theorem dL_law_380 : decode cL_law 380 = .ok (.aload_n 2, 1) := sorry
theorem dL_law_381 : decode cL_law 381 = .ok (.aload_n 0, 1) := sorry
theorem dL_law_382 : decode cL_law 382 = .ok (.iload_n 3, 1) := sorry
theorem dL_law_383 : decode cL_law 383 = .ok (.iconst 1, 1) := sorry
theorem dL_law_384 : decode cL_law 384 = .ok (.iadd, 1) := sorry
theorem dL_law_385 : decode cL_law 385 = .ok (.iaload, 1) := sorry
theorem dL_law_386 : decode cL_law 386 = .ok (.aload_n 0, 1) := sorry
theorem dL_law_387 : decode cL_law 387 = .ok (.iload_n 3, 1) := sorry
theorem dL_law_388 : decode cL_law 388 = .ok (.iconst 2, 1) := sorry
theorem dL_law_389 : decode cL_law 389 = .ok (.iadd, 1) := sorry
theorem dL_law_390 : decode cL_law 390 = .ok (.iaload, 1) := sorry
theorem dL_law_391 : decode cL_law 391 = .ok (.aload_n 0, 1) := sorry
theorem dL_law_392 : decode cL_law 392 = .ok (.iload_n 3, 1) := sorry
theorem dL_law_393 : decode cL_law 393 = .ok (.iconst 3, 1) := sorry
theorem dL_law_394 : decode cL_law 394 = .ok (.iadd, 1) := sorry
theorem dL_law_395 : decode cL_law 395 = .ok (.iaload, 1) := sorry
theorem dL_law_396 : decode cL_law 396 = .ok (.aload_n 0, 1) := sorry
theorem dL_law_397 : decode cL_law 397 = .ok (.iload_n 3, 1) := sorry
theorem dL_law_398 : decode cL_law 398 = .ok (.iconst 4, 1) := sorry
theorem dL_law_399 : decode cL_law 399 = .ok (.iadd, 1) := sorry
theorem dL_law_400 : decode cL_law 400 = .ok (.iaload, 1) := sorry
theorem dL_law_401 : decode cL_law 401 = .ok (.invokevirtual 47, 3) := sorry
theorem dL_law_404 : decode cL_law 404 = .ok (.if_icmp .eq 464, 3) := sorry
theorem dL_law_407 : decode cL_law 407 = .ok (.iconst 0, 1) := sorry
theorem dL_law_408 : decode cL_law 408 = .ok (.ireturn, 1) := sorry
theorem dL_law_409 : decode cL_law 409 = .ok (.aload_n 1, 1) := sorry
theorem dL_law_410 : decode cL_law 410 = .ok (.aload_n 0, 1) := sorry
theorem dL_law_411 : decode cL_law 411 = .ok (.iload_n 3, 1) := sorry
theorem dL_law_412 : decode cL_law 412 = .ok (.iconst 1, 1) := sorry
theorem dL_law_413 : decode cL_law 413 = .ok (.iadd, 1) := sorry
theorem dL_law_414 : decode cL_law 414 = .ok (.iaload, 1) := sorry
theorem dL_law_415 : decode cL_law 415 = .ok (.aload_n 0, 1) := sorry
theorem dL_law_416 : decode cL_law 416 = .ok (.iload_n 3, 1) := sorry
theorem dL_law_417 : decode cL_law 417 = .ok (.iconst 2, 1) := sorry
theorem dL_law_418 : decode cL_law 418 = .ok (.iadd, 1) := sorry
theorem dL_law_419 : decode cL_law 419 = .ok (.iaload, 1) := sorry
theorem dL_law_420 : decode cL_law 420 = .ok (.aload_n 0, 1) := sorry
theorem dL_law_421 : decode cL_law 421 = .ok (.iload_n 3, 1) := sorry
theorem dL_law_422 : decode cL_law 422 = .ok (.iconst 3, 1) := sorry
theorem dL_law_423 : decode cL_law 423 = .ok (.iadd, 1) := sorry
theorem dL_law_424 : decode cL_law 424 = .ok (.iaload, 1) := sorry
theorem dL_law_425 : decode cL_law 425 = .ok (.aload_n 0, 1) := sorry
theorem dL_law_426 : decode cL_law 426 = .ok (.iload_n 3, 1) := sorry
theorem dL_law_427 : decode cL_law 427 = .ok (.iconst 4, 1) := sorry
theorem dL_law_428 : decode cL_law 428 = .ok (.iadd, 1) := sorry
theorem dL_law_429 : decode cL_law 429 = .ok (.iaload, 1) := sorry
theorem dL_law_430 : decode cL_law 430 = .ok (.i2l, 1) := sorry
theorem dL_law_431 : decode cL_law 431 = .ok (.bipush 32, 2) := sorry
theorem dL_law_433 : decode cL_law 433 = .ok (.lshl, 1) := sorry
theorem dL_law_434 : decode cL_law 434 = .ok (.aload_n 0, 1) := sorry
theorem dL_law_435 : decode cL_law 435 = .ok (.iload_n 3, 1) := sorry
theorem dL_law_436 : decode cL_law 436 = .ok (.iconst 5, 1) := sorry
theorem dL_law_437 : decode cL_law 437 = .ok (.iadd, 1) := sorry
theorem dL_law_438 : decode cL_law 438 = .ok (.iaload, 1) := sorry
theorem dL_law_439 : decode cL_law 439 = .ok (.i2l, 1) := sorry
theorem dL_law_440 : decode cL_law 440 = .ok (.ldc2_w 13, 3) := sorry
theorem dL_law_443 : decode cL_law 443 = .ok (.land, 1) := sorry
theorem dL_law_444 : decode cL_law 444 = .ok (.lor, 1) := sorry
theorem dL_law_445 : decode cL_law 445 = .ok (.invokevirtual 48, 3) := sorry
theorem dL_law_448 : decode cL_law 448 = .ok (.aload_n 2, 1) := sorry
theorem dL_law_449 : decode cL_law 449 = .ok (.aload_n 0, 1) := sorry
theorem dL_law_450 : decode cL_law 450 = .ok (.iload_n 3, 1) := sorry
theorem dL_law_451 : decode cL_law 451 = .ok (.iconst 1, 1) := sorry
theorem dL_law_452 : decode cL_law 452 = .ok (.iadd, 1) := sorry
theorem dL_law_453 : decode cL_law 453 = .ok (.iaload, 1) := sorry
theorem dL_law_454 : decode cL_law 454 = .ok (.aload_n 0, 1) := sorry
theorem dL_law_455 : decode cL_law 455 = .ok (.iload_n 3, 1) := sorry
theorem dL_law_456 : decode cL_law 456 = .ok (.iconst 2, 1) := sorry
theorem dL_law_457 : decode cL_law 457 = .ok (.iadd, 1) := sorry
theorem dL_law_458 : decode cL_law 458 = .ok (.iaload, 1) := sorry
theorem dL_law_459 : decode cL_law 459 = .ok (.aload_n 0, 1) := sorry
theorem dL_law_460 : decode cL_law 460 = .ok (.iload_n 3, 1) := sorry
theorem dL_law_461 : decode cL_law 461 = .ok (.iconst 3, 1) := sorry
theorem dL_law_462 : decode cL_law 462 = .ok (.iadd, 1) := sorry
theorem dL_law_463 : decode cL_law 463 = .ok (.iaload, 1) := sorry
theorem dL_law_464 : decode cL_law 464 = .ok (.aload_n 0, 1) := sorry
theorem dL_law_465 : decode cL_law 465 = .ok (.iload_n 3, 1) := sorry
theorem dL_law_466 : decode cL_law 466 = .ok (.iconst 4, 1) := sorry
theorem dL_law_467 : decode cL_law 467 = .ok (.iadd, 1) := sorry
theorem dL_law_468 : decode cL_law 468 = .ok (.iaload, 1) := sorry
theorem dL_law_469 : decode cL_law 469 = .ok (.i2l, 1) := sorry
theorem dL_law_470 : decode cL_law 470 = .ok (.bipush 32, 2) := sorry
theorem dL_law_472 : decode cL_law 472 = .ok (.lshl, 1) := sorry
theorem dL_law_473 : decode cL_law 473 = .ok (.aload_n 0, 1) := sorry
theorem dL_law_474 : decode cL_law 474 = .ok (.iload_n 3, 1) := sorry
theorem dL_law_475 : decode cL_law 475 = .ok (.iconst 5, 1) := sorry
theorem dL_law_476 : decode cL_law 476 = .ok (.iadd, 1) := sorry
theorem dL_law_477 : decode cL_law 477 = .ok (.iaload, 1) := sorry
theorem dL_law_478 : decode cL_law 478 = .ok (.i2l, 1) := sorry
theorem dL_law_479 : decode cL_law 479 = .ok (.ldc2_w 13, 3) := sorry
theorem dL_law_482 : decode cL_law 482 = .ok (.land, 1) := sorry
theorem dL_law_483 : decode cL_law 483 = .ok (.lor, 1) := sorry
theorem dL_law_484 : decode cL_law 484 = .ok (.invokevirtual 52, 3) := sorry
theorem dL_law_487 : decode cL_law 487 = .ok (.if_icmp .eq 381, 3) := sorry
theorem dL_law_490 : decode cL_law 490 = .ok (.iconst 0, 1) := sorry
theorem dL_law_491 : decode cL_law 491 = .ok (.ireturn, 1) := sorry
theorem dL_law_492 : decode cL_law 492 = .ok (.aload_n 1, 1) := sorry
theorem dL_law_493 : decode cL_law 493 = .ok (.aload_n 0, 1) := sorry
theorem dL_law_494 : decode cL_law 494 = .ok (.iload_n 3, 1) := sorry
theorem dL_law_495 : decode cL_law 495 = .ok (.iconst 1, 1) := sorry
theorem dL_law_496 : decode cL_law 496 = .ok (.iadd, 1) := sorry
theorem dL_law_497 : decode cL_law 497 = .ok (.iaload, 1) := sorry
theorem dL_law_498 : decode cL_law 498 = .ok (.aload_n 0, 1) := sorry
theorem dL_law_499 : decode cL_law 499 = .ok (.iload_n 3, 1) := sorry
theorem dL_law_500 : decode cL_law 500 = .ok (.iconst 2, 1) := sorry
theorem dL_law_501 : decode cL_law 501 = .ok (.iadd, 1) := sorry
theorem dL_law_502 : decode cL_law 502 = .ok (.iaload, 1) := sorry
theorem dL_law_503 : decode cL_law 503 = .ok (.invokevirtual 53, 3) := sorry
theorem dL_law_506 : decode cL_law 506 = .ok (.aload_n 2, 1) := sorry
theorem dL_law_507 : decode cL_law 507 = .ok (.aload_n 0, 1) := sorry
theorem dL_law_508 : decode cL_law 508 = .ok (.iload_n 3, 1) := sorry
theorem dL_law_509 : decode cL_law 509 = .ok (.iconst 1, 1) := sorry
theorem dL_law_510 : decode cL_law 510 = .ok (.iadd, 1) := sorry
theorem dL_law_511 : decode cL_law 511 = .ok (.iaload, 1) := sorry
theorem dL_law_512 : decode cL_law 512 = .ok (.aload_n 0, 1) := sorry
theorem dL_law_513 : decode cL_law 513 = .ok (.iload_n 3, 1) := sorry
theorem dL_law_514 : decode cL_law 514 = .ok (.iconst 2, 1) := sorry
theorem dL_law_515 : decode cL_law 515 = .ok (.iadd, 1) := sorry
theorem dL_law_516 : decode cL_law 516 = .ok (.iaload, 1) := sorry
theorem dL_law_517 : decode cL_law 517 = .ok (.invokevirtual 56, 3) := sorry
theorem dL_law_520 : decode cL_law 520 = .ok (.if_icmp .eq 348, 3) := sorry
theorem dL_law_523 : decode cL_law 523 = .ok (.iconst 0, 1) := sorry
theorem dL_law_524 : decode cL_law 524 = .ok (.ireturn, 1) := sorry
theorem dL_law_525 : decode cL_law 525 = .ok (.aload_n 1, 1) := sorry
theorem dL_law_526 : decode cL_law 526 = .ok (.aload_n 0, 1) := sorry
theorem dL_law_527 : decode cL_law 527 = .ok (.iload_n 3, 1) := sorry
theorem dL_law_528 : decode cL_law 528 = .ok (.iconst 1, 1) := sorry
theorem dL_law_529 : decode cL_law 529 = .ok (.iadd, 1) := sorry
theorem dL_law_530 : decode cL_law 530 = .ok (.iaload, 1) := sorry
theorem dL_law_531 : decode cL_law 531 = .ok (.aload_n 0, 1) := sorry
theorem dL_law_532 : decode cL_law 532 = .ok (.iload_n 3, 1) := sorry
theorem dL_law_533 : decode cL_law 533 = .ok (.iconst 2, 1) := sorry
theorem dL_law_534 : decode cL_law 534 = .ok (.iadd, 1) := sorry
theorem dL_law_535 : decode cL_law 535 = .ok (.iaload, 1) := sorry
theorem dL_law_536 : decode cL_law 536 = .ok (.invokevirtual 57, 3) := sorry
theorem dL_law_539 : decode cL_law 539 = .ok (.aload_n 2, 1) := sorry
theorem dL_law_540 : decode cL_law 540 = .ok (.aload_n 0, 1) := sorry
theorem dL_law_541 : decode cL_law 541 = .ok (.iload_n 3, 1) := sorry
theorem dL_law_542 : decode cL_law 542 = .ok (.iconst 1, 1) := sorry
theorem dL_law_543 : decode cL_law 543 = .ok (.iadd, 1) := sorry
theorem dL_law_544 : decode cL_law 544 = .ok (.iaload, 1) := sorry
theorem dL_law_545 : decode cL_law 545 = .ok (.aload_n 0, 1) := sorry
theorem dL_law_546 : decode cL_law 546 = .ok (.iload_n 3, 1) := sorry
theorem dL_law_547 : decode cL_law 547 = .ok (.iconst 2, 1) := sorry
theorem dL_law_548 : decode cL_law 548 = .ok (.iadd, 1) := sorry
theorem dL_law_549 : decode cL_law 549 = .ok (.iaload, 1) := sorry
theorem dL_law_550 : decode cL_law 550 = .ok (.invokevirtual 60, 3) := sorry
theorem dL_law_553 : decode cL_law 553 = .ok (.if_icmp .eq 315, 3) := sorry
theorem dL_law_556 : decode cL_law 556 = .ok (.iconst 0, 1) := sorry
theorem dL_law_557 : decode cL_law 557 = .ok (.ireturn, 1) := sorry
theorem dL_law_558 : decode cL_law 558 = .ok (.aload_n 1, 1) := sorry
theorem dL_law_559 : decode cL_law 559 = .ok (.aload_n 0, 1) := sorry
theorem dL_law_560 : decode cL_law 560 = .ok (.iload_n 3, 1) := sorry
theorem dL_law_561 : decode cL_law 561 = .ok (.iconst 1, 1) := sorry
theorem dL_law_562 : decode cL_law 562 = .ok (.iadd, 1) := sorry
theorem dL_law_563 : decode cL_law 563 = .ok (.iaload, 1) := sorry
theorem dL_law_564 : decode cL_law 564 = .ok (.aload_n 0, 1) := sorry
theorem dL_law_565 : decode cL_law 565 = .ok (.iload_n 3, 1) := sorry
theorem dL_law_566 : decode cL_law 566 = .ok (.iconst 2, 1) := sorry
theorem dL_law_567 : decode cL_law 567 = .ok (.iadd, 1) := sorry
theorem dL_law_568 : decode cL_law 568 = .ok (.iaload, 1) := sorry
theorem dL_law_569 : decode cL_law 569 = .ok (.aload_n 0, 1) := sorry
theorem dL_law_570 : decode cL_law 570 = .ok (.iload_n 3, 1) := sorry
theorem dL_law_571 : decode cL_law 571 = .ok (.iconst 3, 1) := sorry
theorem dL_law_572 : decode cL_law 572 = .ok (.iadd, 1) := sorry
theorem dL_law_573 : decode cL_law 573 = .ok (.iaload, 1) := sorry
theorem dL_law_574 : decode cL_law 574 = .ok (.invokevirtual 61, 3) := sorry
theorem dL_law_577 : decode cL_law 577 = .ok (.aload_n 2, 1) := sorry
theorem dL_law_578 : decode cL_law 578 = .ok (.aload_n 0, 1) := sorry
theorem dL_law_579 : decode cL_law 579 = .ok (.iload_n 3, 1) := sorry
theorem dL_law_580 : decode cL_law 580 = .ok (.iconst 1, 1) := sorry
theorem dL_law_581 : decode cL_law 581 = .ok (.iadd, 1) := sorry
theorem dL_law_582 : decode cL_law 582 = .ok (.iaload, 1) := sorry
theorem dL_law_583 : decode cL_law 583 = .ok (.aload_n 0, 1) := sorry
theorem dL_law_584 : decode cL_law 584 = .ok (.iload_n 3, 1) := sorry
theorem dL_law_585 : decode cL_law 585 = .ok (.iconst 2, 1) := sorry
theorem dL_law_586 : decode cL_law 586 = .ok (.iadd, 1) := sorry
theorem dL_law_587 : decode cL_law 587 = .ok (.iaload, 1) := sorry
theorem dL_law_588 : decode cL_law 588 = .ok (.aload_n 0, 1) := sorry
theorem dL_law_589 : decode cL_law 589 = .ok (.iload_n 3, 1) := sorry
theorem dL_law_590 : decode cL_law 590 = .ok (.iconst 3, 1) := sorry
theorem dL_law_591 : decode cL_law 591 = .ok (.iadd, 1) := sorry
theorem dL_law_592 : decode cL_law 592 = .ok (.iaload, 1) := sorry
theorem dL_law_593 : decode cL_law 593 = .ok (.invokevirtual 64, 3) := sorry
theorem dL_law_596 : decode cL_law 596 = .ok (.if_icmp .eq 272, 3) := sorry
theorem dL_law_599 : decode cL_law 599 = .ok (.iconst 0, 1) := sorry
theorem dL_law_600 : decode cL_law 600 = .ok (.ireturn, 1) := sorry
theorem dL_law_601 : decode cL_law 601 = .ok (.aload_n 1, 1) := sorry
theorem dL_law_602 : decode cL_law 602 = .ok (.aload_n 0, 1) := sorry
theorem dL_law_603 : decode cL_law 603 = .ok (.iload_n 3, 1) := sorry
theorem dL_law_604 : decode cL_law 604 = .ok (.iconst 1, 1) := sorry
theorem dL_law_605 : decode cL_law 605 = .ok (.iadd, 1) := sorry
theorem dL_law_606 : decode cL_law 606 = .ok (.iaload, 1) := sorry
theorem dL_law_607 : decode cL_law 607 = .ok (.aload_n 0, 1) := sorry
theorem dL_law_608 : decode cL_law 608 = .ok (.iload_n 3, 1) := sorry
theorem dL_law_609 : decode cL_law 609 = .ok (.iconst 2, 1) := sorry
theorem dL_law_610 : decode cL_law 610 = .ok (.iadd, 1) := sorry
theorem dL_law_611 : decode cL_law 611 = .ok (.iaload, 1) := sorry
theorem dL_law_612 : decode cL_law 612 = .ok (.aload_n 0, 1) := sorry
theorem dL_law_613 : decode cL_law 613 = .ok (.iload_n 3, 1) := sorry
theorem dL_law_614 : decode cL_law 614 = .ok (.iconst 3, 1) := sorry
theorem dL_law_615 : decode cL_law 615 = .ok (.iadd, 1) := sorry
theorem dL_law_616 : decode cL_law 616 = .ok (.iaload, 1) := sorry
theorem dL_law_617 : decode cL_law 617 = .ok (.invokevirtual 65, 3) := sorry
theorem dL_law_620 : decode cL_law 620 = .ok (.aload_n 2, 1) := sorry
theorem dL_law_621 : decode cL_law 621 = .ok (.aload_n 0, 1) := sorry
theorem dL_law_622 : decode cL_law 622 = .ok (.iload_n 3, 1) := sorry
theorem dL_law_623 : decode cL_law 623 = .ok (.iconst 1, 1) := sorry
theorem dL_law_624 : decode cL_law 624 = .ok (.iadd, 1) := sorry
theorem dL_law_625 : decode cL_law 625 = .ok (.iaload, 1) := sorry
theorem dL_law_626 : decode cL_law 626 = .ok (.aload_n 0, 1) := sorry
theorem dL_law_627 : decode cL_law 627 = .ok (.iload_n 3, 1) := sorry
theorem dL_law_628 : decode cL_law 628 = .ok (.iconst 2, 1) := sorry
theorem dL_law_629 : decode cL_law 629 = .ok (.iadd, 1) := sorry
theorem dL_law_630 : decode cL_law 630 = .ok (.iaload, 1) := sorry
theorem dL_law_631 : decode cL_law 631 = .ok (.aload_n 0, 1) := sorry
theorem dL_law_632 : decode cL_law 632 = .ok (.iload_n 3, 1) := sorry
theorem dL_law_633 : decode cL_law 633 = .ok (.iconst 3, 1) := sorry
theorem dL_law_634 : decode cL_law 634 = .ok (.iadd, 1) := sorry
theorem dL_law_635 : decode cL_law 635 = .ok (.iaload, 1) := sorry
theorem dL_law_636 : decode cL_law 636 = .ok (.invokevirtual 68, 3) := sorry
theorem dL_law_639 : decode cL_law 639 = .ok (.if_icmp .eq 229, 3) := sorry
theorem dL_law_642 : decode cL_law 642 = .ok (.iconst 0, 1) := sorry
theorem dL_law_643 : decode cL_law 643 = .ok (.ireturn, 1) := sorry
theorem dL_law_644 : decode cL_law 644 = .ok (.aload_n 1, 1) := sorry
theorem dL_law_645 : decode cL_law 645 = .ok (.aload_n 0, 1) := sorry
theorem dL_law_646 : decode cL_law 646 = .ok (.iload_n 3, 1) := sorry
theorem dL_law_647 : decode cL_law 647 = .ok (.iconst 1, 1) := sorry
theorem dL_law_648 : decode cL_law 648 = .ok (.iadd, 1) := sorry
theorem dL_law_649 : decode cL_law 649 = .ok (.iaload, 1) := sorry
theorem dL_law_650 : decode cL_law 650 = .ok (.aload_n 0, 1) := sorry
theorem dL_law_651 : decode cL_law 651 = .ok (.iload_n 3, 1) := sorry
theorem dL_law_652 : decode cL_law 652 = .ok (.iconst 2, 1) := sorry
theorem dL_law_653 : decode cL_law 653 = .ok (.iadd, 1) := sorry
theorem dL_law_654 : decode cL_law 654 = .ok (.iaload, 1) := sorry
theorem dL_law_655 : decode cL_law 655 = .ok (.invokevirtual 69, 3) := sorry
theorem dL_law_658 : decode cL_law 658 = .ok (.aload_n 2, 1) := sorry
theorem dL_law_659 : decode cL_law 659 = .ok (.aload_n 0, 1) := sorry
theorem dL_law_660 : decode cL_law 660 = .ok (.iload_n 3, 1) := sorry
theorem dL_law_661 : decode cL_law 661 = .ok (.iconst 1, 1) := sorry
theorem dL_law_662 : decode cL_law 662 = .ok (.iadd, 1) := sorry
theorem dL_law_663 : decode cL_law 663 = .ok (.iaload, 1) := sorry
theorem dL_law_664 : decode cL_law 664 = .ok (.aload_n 0, 1) := sorry
theorem dL_law_665 : decode cL_law 665 = .ok (.iload_n 3, 1) := sorry
theorem dL_law_666 : decode cL_law 666 = .ok (.iconst 2, 1) := sorry
theorem dL_law_667 : decode cL_law 667 = .ok (.iadd, 1) := sorry
theorem dL_law_668 : decode cL_law 668 = .ok (.iaload, 1) := sorry
theorem dL_law_669 : decode cL_law 669 = .ok (.invokevirtual 72, 3) := sorry
theorem dL_law_672 : decode cL_law 672 = .ok (.if_icmp .eq 196, 3) := sorry
theorem dL_law_675 : decode cL_law 675 = .ok (.iconst 0, 1) := sorry
theorem dL_law_676 : decode cL_law 676 = .ok (.ireturn, 1) := sorry
theorem dL_law_677 : decode cL_law 677 = .ok (.aload_n 1, 1) := sorry
theorem dL_law_678 : decode cL_law 678 = .ok (.aload_n 0, 1) := sorry
theorem dL_law_679 : decode cL_law 679 = .ok (.iload_n 3, 1) := sorry
theorem dL_law_680 : decode cL_law 680 = .ok (.iconst 1, 1) := sorry
theorem dL_law_681 : decode cL_law 681 = .ok (.iadd, 1) := sorry
theorem dL_law_682 : decode cL_law 682 = .ok (.iaload, 1) := sorry
theorem dL_law_683 : decode cL_law 683 = .ok (.invokevirtual 73, 3) := sorry
theorem dL_law_686 : decode cL_law 686 = .ok (.aload_n 2, 1) := sorry
theorem dL_law_687 : decode cL_law 687 = .ok (.aload_n 0, 1) := sorry
theorem dL_law_688 : decode cL_law 688 = .ok (.iload_n 3, 1) := sorry
theorem dL_law_689 : decode cL_law 689 = .ok (.iconst 1, 1) := sorry
theorem dL_law_690 : decode cL_law 690 = .ok (.iadd, 1) := sorry
theorem dL_law_691 : decode cL_law 691 = .ok (.iaload, 1) := sorry
theorem dL_law_692 : decode cL_law 692 = .ok (.invokevirtual 76, 3) := sorry
theorem dL_law_695 : decode cL_law 695 = .ok (.if_icmp .eq 173, 3) := sorry
theorem dL_law_698 : decode cL_law 698 = .ok (.iconst 0, 1) := sorry
theorem dL_law_699 : decode cL_law 699 = .ok (.ireturn, 1) := sorry
theorem dL_law_700 : decode cL_law 700 = .ok (.aload_n 1, 1) := sorry
theorem dL_law_701 : decode cL_law 701 = .ok (.aload_n 0, 1) := sorry
theorem dL_law_702 : decode cL_law 702 = .ok (.iload_n 3, 1) := sorry
theorem dL_law_703 : decode cL_law 703 = .ok (.iconst 1, 1) := sorry
theorem dL_law_704 : decode cL_law 704 = .ok (.iadd, 1) := sorry
theorem dL_law_705 : decode cL_law 705 = .ok (.iaload, 1) := sorry
theorem dL_law_706 : decode cL_law 706 = .ok (.invokevirtual 77, 3) := sorry
theorem dL_law_709 : decode cL_law 709 = .ok (.aload_n 2, 1) := sorry
theorem dL_law_710 : decode cL_law 710 = .ok (.aload_n 0, 1) := sorry
theorem dL_law_711 : decode cL_law 711 = .ok (.iload_n 3, 1) := sorry
theorem dL_law_712 : decode cL_law 712 = .ok (.iconst 1, 1) := sorry
theorem dL_law_713 : decode cL_law 713 = .ok (.iadd, 1) := sorry
theorem dL_law_714 : decode cL_law 714 = .ok (.iaload, 1) := sorry
theorem dL_law_715 : decode cL_law 715 = .ok (.invokevirtual 80, 3) := sorry
theorem dL_law_718 : decode cL_law 718 = .ok (.if_icmp .eq 150, 3) := sorry
theorem dL_law_721 : decode cL_law 721 = .ok (.iconst 0, 1) := sorry
theorem dL_law_722 : decode cL_law 722 = .ok (.ireturn, 1) := sorry
theorem dL_law_723 : decode cL_law 723 = .ok (.aload_n 1, 1) := sorry
theorem dL_law_724 : decode cL_law 724 = .ok (.aload_n 0, 1) := sorry
theorem dL_law_725 : decode cL_law 725 = .ok (.iload_n 3, 1) := sorry
theorem dL_law_726 : decode cL_law 726 = .ok (.iconst 1, 1) := sorry
theorem dL_law_727 : decode cL_law 727 = .ok (.iadd, 1) := sorry
theorem dL_law_728 : decode cL_law 728 = .ok (.iaload, 1) := sorry
theorem dL_law_729 : decode cL_law 729 = .ok (.invokevirtual 81, 3) := sorry
theorem dL_law_732 : decode cL_law 732 = .ok (.aload_n 2, 1) := sorry
theorem dL_law_733 : decode cL_law 733 = .ok (.aload_n 0, 1) := sorry
theorem dL_law_734 : decode cL_law 734 = .ok (.iload_n 3, 1) := sorry
theorem dL_law_735 : decode cL_law 735 = .ok (.iconst 1, 1) := sorry
theorem dL_law_736 : decode cL_law 736 = .ok (.iadd, 1) := sorry
theorem dL_law_737 : decode cL_law 737 = .ok (.iaload, 1) := sorry
theorem dL_law_738 : decode cL_law 738 = .ok (.invokevirtual 84, 3) := sorry
theorem dL_law_741 : decode cL_law 741 = .ok (.if_icmp .eq 127, 3) := sorry
theorem dL_law_744 : decode cL_law 744 = .ok (.iconst 0, 1) := sorry
theorem dL_law_745 : decode cL_law 745 = .ok (.ireturn, 1) := sorry
theorem dL_law_746 : decode cL_law 746 = .ok (.aload_n 1, 1) := sorry
theorem dL_law_747 : decode cL_law 747 = .ok (.aload_n 0, 1) := sorry
theorem dL_law_748 : decode cL_law 748 = .ok (.iload_n 3, 1) := sorry
theorem dL_law_749 : decode cL_law 749 = .ok (.iconst 1, 1) := sorry
theorem dL_law_750 : decode cL_law 750 = .ok (.iadd, 1) := sorry
theorem dL_law_751 : decode cL_law 751 = .ok (.iaload, 1) := sorry
theorem dL_law_752 : decode cL_law 752 = .ok (.invokevirtual 85, 3) := sorry
theorem dL_law_755 : decode cL_law 755 = .ok (.aload_n 2, 1) := sorry
theorem dL_law_756 : decode cL_law 756 = .ok (.aload_n 0, 1) := sorry
theorem dL_law_757 : decode cL_law 757 = .ok (.iload_n 3, 1) := sorry
theorem dL_law_758 : decode cL_law 758 = .ok (.iconst 1, 1) := sorry
theorem dL_law_759 : decode cL_law 759 = .ok (.iadd, 1) := sorry
theorem dL_law_760 : decode cL_law 760 = .ok (.iaload, 1) := sorry
theorem dL_law_761 : decode cL_law 761 = .ok (.invokevirtual 88, 3) := sorry
theorem dL_law_764 : decode cL_law 764 = .ok (.if_icmp .eq 104, 3) := sorry
theorem dL_law_767 : decode cL_law 767 = .ok (.iconst 0, 1) := sorry
theorem dL_law_768 : decode cL_law 768 = .ok (.ireturn, 1) := sorry
theorem dL_law_769 : decode cL_law 769 = .ok (.aload_n 1, 1) := sorry
theorem dL_law_770 : decode cL_law 770 = .ok (.aload_n 0, 1) := sorry
theorem dL_law_771 : decode cL_law 771 = .ok (.iload_n 3, 1) := sorry
theorem dL_law_772 : decode cL_law 772 = .ok (.iconst 1, 1) := sorry
theorem dL_law_773 : decode cL_law 773 = .ok (.iadd, 1) := sorry
theorem dL_law_774 : decode cL_law 774 = .ok (.iaload, 1) := sorry
theorem dL_law_775 : decode cL_law 775 = .ok (.aload_n 0, 1) := sorry
theorem dL_law_776 : decode cL_law 776 = .ok (.iload_n 3, 1) := sorry
theorem dL_law_777 : decode cL_law 777 = .ok (.iconst 2, 1) := sorry
theorem dL_law_778 : decode cL_law 778 = .ok (.iadd, 1) := sorry
theorem dL_law_779 : decode cL_law 779 = .ok (.iaload, 1) := sorry
theorem dL_law_780 : decode cL_law 780 = .ok (.invokevirtual 89, 3) := sorry
theorem dL_law_783 : decode cL_law 783 = .ok (.aload_n 2, 1) := sorry
theorem dL_law_784 : decode cL_law 784 = .ok (.aload_n 0, 1) := sorry
theorem dL_law_785 : decode cL_law 785 = .ok (.iload_n 3, 1) := sorry
theorem dL_law_786 : decode cL_law 786 = .ok (.iconst 1, 1) := sorry
theorem dL_law_787 : decode cL_law 787 = .ok (.iadd, 1) := sorry
theorem dL_law_788 : decode cL_law 788 = .ok (.iaload, 1) := sorry
theorem dL_law_789 : decode cL_law 789 = .ok (.aload_n 0, 1) := sorry
theorem dL_law_790 : decode cL_law 790 = .ok (.iload_n 3, 1) := sorry
theorem dL_law_791 : decode cL_law 791 = .ok (.iconst 2, 1) := sorry
theorem dL_law_792 : decode cL_law 792 = .ok (.iadd, 1) := sorry
theorem dL_law_793 : decode cL_law 793 = .ok (.iaload, 1) := sorry
theorem dL_law_794 : decode cL_law 794 = .ok (.invokevirtual 92, 3) := sorry
theorem dL_law_797 : decode cL_law 797 = .ok (.if_icmp .eq 71, 3) := sorry
theorem dL_law_800 : decode cL_law 800 = .ok (.iconst 0, 1) := sorry
theorem dL_law_801 : decode cL_law 801 = .ok (.ireturn, 1) := sorry
theorem dL_law_802 : decode cL_law 802 = .ok (.aload_n 1, 1) := sorry
theorem dL_law_803 : decode cL_law 803 = .ok (.aload_n 0, 1) := sorry
theorem dL_law_804 : decode cL_law 804 = .ok (.iload_n 3, 1) := sorry
theorem dL_law_805 : decode cL_law 805 = .ok (.iconst 1, 1) := sorry
theorem dL_law_806 : decode cL_law 806 = .ok (.iadd, 1) := sorry
theorem dL_law_807 : decode cL_law 807 = .ok (.iaload, 1) := sorry
theorem dL_law_808 : decode cL_law 808 = .ok (.invokevirtual 93, 3) := sorry
theorem dL_law_811 : decode cL_law 811 = .ok (.aload_n 2, 1) := sorry
theorem dL_law_812 : decode cL_law 812 = .ok (.aload_n 0, 1) := sorry
theorem dL_law_813 : decode cL_law 813 = .ok (.iload_n 3, 1) := sorry
theorem dL_law_814 : decode cL_law 814 = .ok (.iconst 1, 1) := sorry
theorem dL_law_815 : decode cL_law 815 = .ok (.iadd, 1) := sorry
theorem dL_law_816 : decode cL_law 816 = .ok (.iaload, 1) := sorry
theorem dL_law_817 : decode cL_law 817 = .ok (.invokevirtual 96, 3) := sorry
theorem dL_law_820 : decode cL_law 820 = .ok (.if_icmp .eq 48, 3) := sorry
theorem dL_law_823 : decode cL_law 823 = .ok (.iconst 0, 1) := sorry
theorem dL_law_824 : decode cL_law 824 = .ok (.ireturn, 1) := sorry
theorem dL_law_825 : decode cL_law 825 = .ok (.aload_n 1, 1) := sorry
theorem dL_law_826 : decode cL_law 826 = .ok (.aload_n 0, 1) := sorry
theorem dL_law_827 : decode cL_law 827 = .ok (.iload_n 3, 1) := sorry
theorem dL_law_828 : decode cL_law 828 = .ok (.iconst 1, 1) := sorry
theorem dL_law_829 : decode cL_law 829 = .ok (.iadd, 1) := sorry
theorem dL_law_830 : decode cL_law 830 = .ok (.iaload, 1) := sorry
theorem dL_law_831 : decode cL_law 831 = .ok (.aload_n 0, 1) := sorry
theorem dL_law_832 : decode cL_law 832 = .ok (.iload_n 3, 1) := sorry
theorem dL_law_833 : decode cL_law 833 = .ok (.iconst 2, 1) := sorry
theorem dL_law_834 : decode cL_law 834 = .ok (.iadd, 1) := sorry
theorem dL_law_835 : decode cL_law 835 = .ok (.iaload, 1) := sorry
theorem dL_law_836 : decode cL_law 836 = .ok (.aload_n 0, 1) := sorry
theorem dL_law_837 : decode cL_law 837 = .ok (.iload_n 3, 1) := sorry
theorem dL_law_838 : decode cL_law 838 = .ok (.iconst 3, 1) := sorry
theorem dL_law_839 : decode cL_law 839 = .ok (.iadd, 1) := sorry
theorem dL_law_840 : decode cL_law 840 = .ok (.iaload, 1) := sorry
theorem dL_law_841 : decode cL_law 841 = .ok (.invokevirtual 97, 3) := sorry
theorem dL_law_844 : decode cL_law 844 = .ok (.aload_n 2, 1) := sorry
theorem dL_law_845 : decode cL_law 845 = .ok (.aload_n 0, 1) := sorry
theorem dL_law_846 : decode cL_law 846 = .ok (.iload_n 3, 1) := sorry
theorem dL_law_847 : decode cL_law 847 = .ok (.iconst 1, 1) := sorry
theorem dL_law_848 : decode cL_law 848 = .ok (.iadd, 1) := sorry
theorem dL_law_849 : decode cL_law 849 = .ok (.iaload, 1) := sorry
theorem dL_law_850 : decode cL_law 850 = .ok (.aload_n 0, 1) := sorry
theorem dL_law_851 : decode cL_law 851 = .ok (.iload_n 3, 1) := sorry
theorem dL_law_852 : decode cL_law 852 = .ok (.iconst 2, 1) := sorry
theorem dL_law_853 : decode cL_law 853 = .ok (.iadd, 1) := sorry
theorem dL_law_854 : decode cL_law 854 = .ok (.iaload, 1) := sorry
theorem dL_law_855 : decode cL_law 855 = .ok (.aload_n 0, 1) := sorry
theorem dL_law_856 : decode cL_law 856 = .ok (.iload_n 3, 1) := sorry
theorem dL_law_857 : decode cL_law 857 = .ok (.iconst 3, 1) := sorry
theorem dL_law_858 : decode cL_law 858 = .ok (.iadd, 1) := sorry
theorem dL_law_859 : decode cL_law 859 = .ok (.iaload, 1) := sorry
theorem dL_law_860 : decode cL_law 860 = .ok (.invokevirtual 100, 3) := sorry
theorem dL_law_863 : decode cL_law 863 = .ok (.if_icmp .eq 5, 3) := sorry
theorem dL_law_866 : decode cL_law 866 = .ok (.iconst 0, 1) := sorry
theorem dL_law_867 : decode cL_law 867 = .ok (.ireturn, 1) := sorry
theorem dL_law_868 : decode cL_law 868 = .ok (.iinc 3 6, 3) := sorry
theorem dL_law_871 : decode cL_law 871 = .ok (.goto (-853), 3) := sorry
theorem dL_law_874 : decode cL_law 874 = .ok (.iconst 1, 1) := sorry
theorem dL_law_875 : decode cL_law 875 = .ok (.ireturn, 1) := sorry
