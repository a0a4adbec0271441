theorem dX10_init_0 : decode cX10_init 0 = .ok (.aload_n 0, 1) := by decide +kernel
theorem dX10_init_1 : decode cX10_init 1 = .ok (.invokespecial 1, 3) := by decide +kernel
theorem dX10_init_4 : decode cX10_init 4 = .ok (.aload_n 0, 1) := by decide +kernel
theorem dX10_init_5 : decode cX10_init 5 = .ok (.bipush 40, 2) := by decide +kernel
theorem dX10_init_7 : decode cX10_init 7 = .ok (.newarray .int, 2) := by decide +kernel
theorem dX10_init_9 : decode cX10_init 9 = .ok (.putfield 7, 3) := by decide +kernel
theorem dX10_init_12 : decode cX10_init 12 = .ok (.aload_n 0, 1) := by decide +kernel
theorem dX10_init_13 : decode cX10_init 13 = .ok (.bipush 6, 2) := by decide +kernel
theorem dX10_init_15 : decode cX10_init 15 = .ok (.newarray .int, 2) := by decide +kernel
theorem dX10_init_17 : decode cX10_init 17 = .ok (.putfield 13, 3) := by decide +kernel
theorem dX10_init_20 : decode cX10_init 20 = .ok (.aload_n 0, 1) := by decide +kernel
theorem dX10_init_21 : decode cX10_init 21 = .ok (.bipush 30, 2) := by decide +kernel
theorem dX10_init_23 : decode cX10_init 23 = .ok (.newarray .int, 2) := by decide +kernel
theorem dX10_init_25 : decode cX10_init 25 = .ok (.putfield 16, 3) := by decide +kernel
theorem dX10_init_28 : decode cX10_init 28 = .ok (.aload_n 0, 1) := by decide +kernel
theorem dX10_init_29 : decode cX10_init 29 = .ok (.bipush 30, 2) := by decide +kernel
theorem dX10_init_31 : decode cX10_init 31 = .ok (.newarray .int, 2) := by decide +kernel
theorem dX10_init_33 : decode cX10_init 33 = .ok (.putfield 19, 3) := by decide +kernel
theorem dX10_init_36 : decode cX10_init 36 = .ok (.aload_n 0, 1) := by decide +kernel
theorem dX10_init_37 : decode cX10_init 37 = .ok (.bipush 30, 2) := by decide +kernel
theorem dX10_init_39 : decode cX10_init 39 = .ok (.newarray .int, 2) := by decide +kernel
theorem dX10_init_41 : decode cX10_init 41 = .ok (.putfield 22, 3) := by decide +kernel
theorem dX10_init_44 : decode cX10_init 44 = .ok (.aload_n 0, 1) := by decide +kernel
theorem dX10_init_45 : decode cX10_init 45 = .ok (.bipush 30, 2) := by decide +kernel
theorem dX10_init_47 : decode cX10_init 47 = .ok (.newarray .int, 2) := by decide +kernel
theorem dX10_init_49 : decode cX10_init 49 = .ok (.putfield 25, 3) := by decide +kernel
theorem dX10_init_52 : decode cX10_init 52 = .ok (.aload_n 0, 1) := by decide +kernel
theorem dX10_init_53 : decode cX10_init 53 = .ok (.bipush 30, 2) := by decide +kernel
theorem dX10_init_55 : decode cX10_init 55 = .ok (.newarray .int, 2) := by decide +kernel
theorem dX10_init_57 : decode cX10_init 57 = .ok (.putfield 28, 3) := by decide +kernel
theorem dX10_init_60 : decode cX10_init 60 = .ok (.aload_n 0, 1) := by decide +kernel
theorem dX10_init_61 : decode cX10_init 61 = .ok (.bipush 60, 2) := by decide +kernel
theorem dX10_init_63 : decode cX10_init 63 = .ok (.newarray .int, 2) := by decide +kernel
theorem dX10_init_65 : decode cX10_init 65 = .ok (.putfield 31, 3) := by decide +kernel
theorem dX10_init_68 : decode cX10_init 68 = .ok (.aload_n 0, 1) := by decide +kernel
theorem dX10_init_69 : decode cX10_init 69 = .ok (.bipush 6, 2) := by decide +kernel
theorem dX10_init_71 : decode cX10_init 71 = .ok (.newarray .int, 2) := by decide +kernel
theorem dX10_init_73 : decode cX10_init 73 = .ok (.putfield 34, 3) := by decide +kernel
theorem dX10_init_76 : decode cX10_init 76 = .ok (.aload_n 0, 1) := by decide +kernel
theorem dX10_init_77 : decode cX10_init 77 = .ok (.bipush 8, 2) := by decide +kernel
theorem dX10_init_79 : decode cX10_init 79 = .ok (.newarray .int, 2) := by decide +kernel
theorem dX10_init_81 : decode cX10_init 81 = .ok (.putfield 37, 3) := by decide +kernel
theorem dX10_init_84 : decode cX10_init 84 = .ok (.aload_n 0, 1) := by decide +kernel
theorem dX10_init_85 : decode cX10_init 85 = .ok (.iconst 5, 1) := by decide +kernel
theorem dX10_init_86 : decode cX10_init 86 = .ok (.newarray .int, 2) := by decide +kernel
theorem dX10_init_88 : decode cX10_init 88 = .ok (.putfield 40, 3) := by decide +kernel
theorem dX10_init_91 : decode cX10_init 91 = .ok (.aload_n 0, 1) := by decide +kernel
theorem dX10_init_92 : decode cX10_init 92 = .ok (.bipush 7, 2) := by decide +kernel
theorem dX10_init_94 : decode cX10_init 94 = .ok (.newarray .int, 2) := by decide +kernel
theorem dX10_init_96 : decode cX10_init 96 = .ok (.putfield 43, 3) := by decide +kernel
theorem dX10_init_99 : decode cX10_init 99 = .ok (.aload_n 0, 1) := by decide +kernel
theorem dX10_init_100 : decode cX10_init 100 = .ok (.bipush 7, 2) := by decide +kernel
theorem dX10_init_102 : decode cX10_init 102 = .ok (.newarray .int, 2) := by decide +kernel
theorem dX10_init_104 : decode cX10_init 104 = .ok (.putfield 46, 3) := by decide +kernel
theorem dX10_init_107 : decode cX10_init 107 = .ok (.aload_n 0, 1) := by decide +kernel
theorem dX10_init_108 : decode cX10_init 108 = .ok (.bipush 20, 2) := by decide +kernel
theorem dX10_init_110 : decode cX10_init 110 = .ok (.newarray .int, 2) := by decide +kernel
theorem dX10_init_112 : decode cX10_init 112 = .ok (.putfield 49, 3) := by decide +kernel
theorem dX10_init_115 : decode cX10_init 115 = .ok (.aload_n 0, 1) := by decide +kernel
theorem dX10_init_116 : decode cX10_init 116 = .ok (.bipush 20, 2) := by decide +kernel
theorem dX10_init_118 : decode cX10_init 118 = .ok (.newarray .boolean, 2) := by decide +kernel
theorem dX10_init_120 : decode cX10_init 120 = .ok (.putfield 52, 3) := by decide +kernel
theorem dX10_init_123 : decode cX10_init 123 = .ok (.aload_n 0, 1) := by decide +kernel
theorem dX10_init_124 : decode cX10_init 124 = .ok (.bipush 10, 2) := by decide +kernel
theorem dX10_init_126 : decode cX10_init 126 = .ok (.newarray .int, 2) := by decide +kernel
theorem dX10_init_128 : decode cX10_init 128 = .ok (.putfield 56, 3) := by decide +kernel
theorem dX10_init_131 : decode cX10_init 131 = .ok (.aload_n 0, 1) := by decide +kernel
theorem dX10_init_132 : decode cX10_init 132 = .ok (.bipush 10, 2) := by decide +kernel
theorem dX10_init_134 : decode cX10_init 134 = .ok (.newarray .int, 2) := by decide +kernel
theorem dX10_init_136 : decode cX10_init 136 = .ok (.putfield 59, 3) := by decide +kernel
theorem dX10_init_139 : decode cX10_init 139 = .ok (.aload_n 0, 1) := by decide +kernel
theorem dX10_init_140 : decode cX10_init 140 = .ok (.bipush 16, 2) := by decide +kernel
theorem dX10_init_142 : decode cX10_init 142 = .ok (.newarray .int, 2) := by decide +kernel
theorem dX10_init_144 : decode cX10_init 144 = .ok (.putfield 62, 3) := by decide +kernel
theorem dX10_init_147 : decode cX10_init 147 = .ok (.aload_n 0, 1) := by decide +kernel
theorem dX10_init_148 : decode cX10_init 148 = .ok (.bipush 12, 2) := by decide +kernel
theorem dX10_init_150 : decode cX10_init 150 = .ok (.newarray .int, 2) := by decide +kernel
theorem dX10_init_152 : decode cX10_init 152 = .ok (.putfield 65, 3) := by decide +kernel
theorem dX10_init_155 : decode cX10_init 155 = .ok (.aload_n 0, 1) := by decide +kernel
theorem dX10_init_156 : decode cX10_init 156 = .ok (.bipush 12, 2) := by decide +kernel
theorem dX10_init_158 : decode cX10_init 158 = .ok (.newarray .int, 2) := by decide +kernel
theorem dX10_init_160 : decode cX10_init 160 = .ok (.putfield 68, 3) := by decide +kernel
theorem dX10_init_163 : decode cX10_init 163 = .ok (.aload_n 0, 1) := by decide +kernel
theorem dX10_init_164 : decode cX10_init 164 = .ok (.bipush 12, 2) := by decide +kernel
theorem dX10_init_166 : decode cX10_init 166 = .ok (.newarray .int, 2) := by decide +kernel
theorem dX10_init_168 : decode cX10_init 168 = .ok (.putfield 71, 3) := by decide +kernel
theorem dX10_init_171 : decode cX10_init 171 = .ok (.aload_n 0, 1) := by decide +kernel
theorem dX10_init_172 : decode cX10_init 172 = .ok (.bipush 12, 2) := by decide +kernel
theorem dX10_init_174 : decode cX10_init 174 = .ok (.newarray .int, 2) := by decide +kernel
theorem dX10_init_176 : decode cX10_init 176 = .ok (.putfield 74, 3) := by decide +kernel
theorem dX10_init_179 : decode cX10_init 179 = .ok (.aload_n 0, 1) := by decide +kernel
theorem dX10_init_180 : decode cX10_init 180 = .ok (.iconst 5, 1) := by decide +kernel
theorem dX10_init_181 : decode cX10_init 181 = .ok (.newarray .long, 2) := by decide +kernel
theorem dX10_init_183 : decode cX10_init 183 = .ok (.putfield 77, 3) := by decide +kernel
theorem dX10_init_186 : decode cX10_init 186 = .ok (.aload_n 0, 1) := by decide +kernel
theorem dX10_init_187 : decode cX10_init 187 = .ok (.iconst 5, 1) := by decide +kernel
theorem dX10_init_188 : decode cX10_init 188 = .ok (.newarray .long, 2) := by decide +kernel
theorem dX10_init_190 : decode cX10_init 190 = .ok (.putfield 81, 3) := by decide +kernel
theorem dX10_init_193 : decode cX10_init 193 = .ok (.aload_n 0, 1) := by decide +kernel
theorem dX10_init_194 : decode cX10_init 194 = .ok (.iconst 5, 1) := by decide +kernel
theorem dX10_init_195 : decode cX10_init 195 = .ok (.newarray .long, 2) := by decide +kernel
theorem dX10_init_197 : decode cX10_init 197 = .ok (.putfield 84, 3) := by decide +kernel
theorem dX10_init_200 : decode cX10_init 200 = .ok (.aload_n 0, 1) := by decide +kernel
theorem dX10_init_201 : decode cX10_init 201 = .ok (.iconst 5, 1) := by decide +kernel
theorem dX10_init_202 : decode cX10_init 202 = .ok (.newarray .long, 2) := by decide +kernel
theorem dX10_init_204 : decode cX10_init 204 = .ok (.putfield 87, 3) := by decide +kernel
theorem dX10_init_207 : decode cX10_init 207 = .ok (.aload_n 0, 1) := by decide +kernel
theorem dX10_init_208 : decode cX10_init 208 = .ok (.iconst 5, 1) := by decide +kernel
theorem dX10_init_209 : decode cX10_init 209 = .ok (.newarray .long, 2) := by decide +kernel
theorem dX10_init_211 : decode cX10_init 211 = .ok (.putfield 90, 3) := by decide +kernel
theorem dX10_init_214 : decode cX10_init 214 = .ok (.aload_n 0, 1) := by decide +kernel
theorem dX10_init_215 : decode cX10_init 215 = .ok (.iconst 5, 1) := by decide +kernel
theorem dX10_init_216 : decode cX10_init 216 = .ok (.newarray .long, 2) := by decide +kernel
theorem dX10_init_218 : decode cX10_init 218 = .ok (.putfield 93, 3) := by decide +kernel
theorem dX10_init_221 : decode cX10_init 221 = .ok (.aload_n 0, 1) := by decide +kernel
theorem dX10_init_222 : decode cX10_init 222 = .ok (.iconst 5, 1) := by decide +kernel
theorem dX10_init_223 : decode cX10_init 223 = .ok (.newarray .long, 2) := by decide +kernel
theorem dX10_init_225 : decode cX10_init 225 = .ok (.putfield 96, 3) := by decide +kernel
theorem dX10_init_228 : decode cX10_init 228 = .ok (.aload_n 0, 1) := by decide +kernel
theorem dX10_init_229 : decode cX10_init 229 = .ok (.bipush 10, 2) := by decide +kernel
theorem dX10_init_231 : decode cX10_init 231 = .ok (.newarray .int, 2) := by decide +kernel
theorem dX10_init_233 : decode cX10_init 233 = .ok (.putfield 99, 3) := by decide +kernel
theorem dX10_init_236 : decode cX10_init 236 = .ok (.aload_n 0, 1) := by decide +kernel
theorem dX10_init_237 : decode cX10_init 237 = .ok (.bipush 7, 2) := by decide +kernel
theorem dX10_init_239 : decode cX10_init 239 = .ok (.newarray .int, 2) := by decide +kernel
theorem dX10_init_241 : decode cX10_init 241 = .ok (.putfield 102, 3) := by decide +kernel
theorem dX10_init_244 : decode cX10_init 244 = .ok (.aload_n 0, 1) := by decide +kernel
theorem dX10_init_245 : decode cX10_init 245 = .ok (.bipush 7, 2) := by decide +kernel
theorem dX10_init_247 : decode cX10_init 247 = .ok (.newarray .int, 2) := by decide +kernel
theorem dX10_init_249 : decode cX10_init 249 = .ok (.putfield 105, 3) := by decide +kernel
theorem dX10_init_252 : decode cX10_init 252 = .ok (.aload_n 0, 1) := by decide +kernel
theorem dX10_init_253 : decode cX10_init 253 = .ok (.bipush 7, 2) := by decide +kernel
theorem dX10_init_255 : decode cX10_init 255 = .ok (.newarray .int, 2) := by decide +kernel
theorem dX10_init_257 : decode cX10_init 257 = .ok (.putfield 108, 3) := by decide +kernel
theorem dX10_init_260 : decode cX10_init 260 = .ok (.aload_n 0, 1) := by decide +kernel
theorem dX10_init_261 : decode cX10_init 261 = .ok (.bipush 7, 2) := by decide +kernel
theorem dX10_init_263 : decode cX10_init 263 = .ok (.newarray .int, 2) := by decide +kernel
theorem dX10_init_265 : decode cX10_init 265 = .ok (.putfield 111, 3) := by decide +kernel
theorem dX10_init_268 : decode cX10_init 268 = .ok (.aload_n 0, 1) := by decide +kernel
theorem dX10_init_269 : decode cX10_init 269 = .ok (.iconst 3, 1) := by decide +kernel
theorem dX10_init_270 : decode cX10_init 270 = .ok (.newarray .int, 2) := by decide +kernel
theorem dX10_init_272 : decode cX10_init 272 = .ok (.putfield 114, 3) := by decide +kernel
theorem dX10_init_275 : decode cX10_init 275 = .ok (.aload_n 0, 1) := by decide +kernel
theorem dX10_init_276 : decode cX10_init 276 = .ok (.iconst 4, 1) := by decide +kernel
theorem dX10_init_277 : decode cX10_init 277 = .ok (.newarray .int, 2) := by decide +kernel
theorem dX10_init_279 : decode cX10_init 279 = .ok (.putfield 117, 3) := by decide +kernel
theorem dX10_init_282 : decode cX10_init 282 = .ok (.aload_n 0, 1) := by decide +kernel
theorem dX10_init_283 : decode cX10_init 283 = .ok (.iconst 4, 1) := by decide +kernel
theorem dX10_init_284 : decode cX10_init 284 = .ok (.newarray .int, 2) := by decide +kernel
theorem dX10_init_286 : decode cX10_init 286 = .ok (.putfield 120, 3) := by decide +kernel
theorem dX10_init_289 : decode cX10_init 289 = .ok (.aload_n 0, 1) := by decide +kernel
theorem dX10_init_290 : decode cX10_init 290 = .ok (.getfield 37, 3) := by decide +kernel
theorem dX10_init_293 : decode cX10_init 293 = .ok (.iconst 0, 1) := by decide +kernel
theorem dX10_init_294 : decode cX10_init 294 = .ok (.ldc 123, 2) := by decide +kernel
theorem dX10_init_296 : decode cX10_init 296 = .ok (.iastore, 1) := by decide +kernel
theorem dX10_init_297 : decode cX10_init 297 = .ok (.aload_n 0, 1) := by decide +kernel
theorem dX10_init_298 : decode cX10_init 298 = .ok (.getfield 37, 3) := by decide +kernel
theorem dX10_init_301 : decode cX10_init 301 = .ok (.iconst 1, 1) := by decide +kernel
theorem dX10_init_302 : decode cX10_init 302 = .ok (.bipush 20, 2) := by decide +kernel
theorem dX10_init_304 : decode cX10_init 304 = .ok (.iastore, 1) := by decide +kernel
theorem dX10_init_305 : decode cX10_init 305 = .ok (.aload_n 0, 1) := by decide +kernel
theorem dX10_init_306 : decode cX10_init 306 = .ok (.getfield 37, 3) := by decide +kernel
theorem dX10_init_309 : decode cX10_init 309 = .ok (.iconst 3, 1) := by decide +kernel
theorem dX10_init_310 : decode cX10_init 310 = .ok (.bipush 20, 2) := by decide +kernel
theorem dX10_init_312 : decode cX10_init 312 = .ok (.iastore, 1) := by decide +kernel
theorem dX10_init_313 : decode cX10_init 313 = .ok (.aload_n 0, 1) := by decide +kernel
theorem dX10_init_314 : decode cX10_init 314 = .ok (.getfield 37, 3) := by decide +kernel
theorem dX10_init_317 : decode cX10_init 317 = .ok (.iconst 4, 1) := by decide +kernel
theorem dX10_init_318 : decode cX10_init 318 = .ok (.iconst 1, 1) := by decide +kernel
theorem dX10_init_319 : decode cX10_init 319 = .ok (.iastore, 1) := by decide +kernel
theorem dX10_init_320 : decode cX10_init 320 = .ok (.aload_n 0, 1) := by decide +kernel
theorem dX10_init_321 : decode cX10_init 321 = .ok (.getfield 37, 3) := by decide +kernel
theorem dX10_init_324 : decode cX10_init 324 = .ok (.iconst 5, 1) := by decide +kernel
theorem dX10_init_325 : decode cX10_init 325 = .ok (.sipush 1000, 3) := by decide +kernel
theorem dX10_init_328 : decode cX10_init 328 = .ok (.iastore, 1) := by decide +kernel
theorem dX10_init_329 : decode cX10_init 329 = .ok (.aload_n 0, 1) := by decide +kernel
theorem dX10_init_330 : decode cX10_init 330 = .ok (.getfield 37, 3) := by decide +kernel
theorem dX10_init_333 : decode cX10_init 333 = .ok (.bipush 6, 2) := by decide +kernel
theorem dX10_init_335 : decode cX10_init 335 = .ok (.iconst 3, 1) := by decide +kernel
theorem dX10_init_336 : decode cX10_init 336 = .ok (.iastore, 1) := by decide +kernel
theorem dX10_init_337 : decode cX10_init 337 = .ok (.aload_n 0, 1) := by decide +kernel
theorem dX10_init_338 : decode cX10_init 338 = .ok (.getfield 37, 3) := by decide +kernel
theorem dX10_init_341 : decode cX10_init 341 = .ok (.bipush 7, 2) := by decide +kernel
theorem dX10_init_343 : decode cX10_init 343 = .ok (.bipush 20, 2) := by decide +kernel
theorem dX10_init_345 : decode cX10_init 345 = .ok (.iastore, 1) := by decide +kernel
theorem dX10_init_346 : decode cX10_init 346 = .ok (.iconst 0, 1) := by decide +kernel
theorem dX10_init_347 : decode cX10_init 347 = .ok (.istore_n 1, 1) := by decide +kernel
theorem dX10_init_348 : decode cX10_init 348 = .ok (.iload_n 1, 1) := by decide +kernel
theorem dX10_init_349 : decode cX10_init 349 = .ok (.bipush 10, 2) := by decide +kernel
theorem dX10_init_351 : decode cX10_init 351 = .ok (.if_icmp .ge 17, 3) := by decide +kernel
theorem dX10_init_354 : decode cX10_init 354 = .ok (.aload_n 0, 1) := by decide +kernel
theorem dX10_init_355 : decode cX10_init 355 = .ok (.getfield 56, 3) := by decide +kernel
theorem dX10_init_358 : decode cX10_init 358 = .ok (.iload_n 1, 1) := by decide +kernel
theorem dX10_init_359 : decode cX10_init 359 = .ok (.bipush (-6), 2) := by decide +kernel
theorem dX10_init_361 : decode cX10_init 361 = .ok (.iastore, 1) := by decide +kernel
theorem dX10_init_362 : decode cX10_init 362 = .ok (.iinc 1 1, 3) := by decide +kernel
theorem dX10_init_365 : decode cX10_init 365 = .ok (.goto (-17), 3) := by decide +kernel
theorem dX10_init_368 : decode cX10_init 368 = .ok (.return_, 1) := by decide +kernel
theorem dX10_in_0 : decode cX10_in 0 = .ok (.iload_n 0, 1) := by decide +kernel
theorem dX10_in_1 : decode cX10_in 1 = .ok (.iload_n 1, 1) := by decide +kernel
theorem dX10_in_2 : decode cX10_in 2 = .ok (.if_icmp .lt 12, 3) := by decide +kernel
theorem dX10_in_5 : decode cX10_in 5 = .ok (.iload_n 0, 1) := by decide +kernel
theorem dX10_in_6 : decode cX10_in 6 = .ok (.iload_n 2, 1) := by decide +kernel
theorem dX10_in_7 : decode cX10_in 7 = .ok (.if_icmp .gt 7, 3) := by decide +kernel
theorem dX10_in_10 : decode cX10_in 10 = .ok (.iconst 1, 1) := by decide +kernel
theorem dX10_in_11 : decode cX10_in 11 = .ok (.goto 4, 3) := by decide +kernel
theorem dX10_in_14 : decode cX10_in 14 = .ok (.iconst 0, 1) := by decide +kernel
theorem dX10_in_15 : decode cX10_in 15 = .ok (.ireturn, 1) := by decide +kernel
set_option maxRecDepth 20000 in
theorem ggX10_say_X10_in : GoodIn wsX10_say wsX10_in := goodIn_r _ [6] (by decide +kernel) (by decide +kernel)
set_option maxRecDepth 20000 in
theorem gX10_say_X10_in : GoodIn wsX10_say (va_wsS RX10 124 yX10_in wsX10_in) := goodIn_app (goodIn_of _ (by decide +kernel)) ggX10_say_X10_in
theorem dX10_say_0 : decode cX10_say 0 = .ok (.iload_n 1, 1) := by decide +kernel
theorem dX10_say_1 : decode cX10_say 1 = .ok (.bipush 33, 2) := by decide +kernel
theorem dX10_say_3 : decode cX10_say 3 = .ok (.bipush 126, 2) := by decide +kernel
theorem dX10_say_5 : decode cX10_say 5 = .ok (.invokestatic 124, 3) := by decide +kernel
theorem dX10_say_8 : decode cX10_say 8 = .ok (.ifCond .ne 6, 3) := by decide +kernel
theorem dX10_say_11 : decode cX10_say 11 = .ok (.bipush (-2), 2) := by decide +kernel
theorem dX10_say_13 : decode cX10_say 13 = .ok (.ireturn, 1) := by decide +kernel
theorem dX10_say_14 : decode cX10_say 14 = .ok (.aload_n 0, 1) := by decide +kernel
theorem dX10_say_15 : decode cX10_say 15 = .ok (.getfield 128, 3) := by decide +kernel
theorem dX10_say_18 : decode cX10_say 18 = .ok (.bipush 40, 2) := by decide +kernel
theorem dX10_say_20 : decode cX10_say 20 = .ok (.if_icmp .ne 6, 3) := by decide +kernel
theorem dX10_say_23 : decode cX10_say 23 = .ok (.bipush (-4), 2) := by decide +kernel
theorem dX10_say_25 : decode cX10_say 25 = .ok (.ireturn, 1) := by decide +kernel
theorem dX10_say_26 : decode cX10_say 26 = .ok (.aload_n 0, 1) := by decide +kernel
theorem dX10_say_27 : decode cX10_say 27 = .ok (.getfield 7, 3) := by decide +kernel
theorem dX10_say_30 : decode cX10_say 30 = .ok (.aload_n 0, 1) := by decide +kernel
theorem dX10_say_31 : decode cX10_say 31 = .ok (.getfield 128, 3) := by decide +kernel
theorem dX10_say_34 : decode cX10_say 34 = .ok (.iload_n 1, 1) := by decide +kernel
theorem dX10_say_35 : decode cX10_say 35 = .ok (.iastore, 1) := by decide +kernel
theorem dX10_say_36 : decode cX10_say 36 = .ok (.aload_n 0, 1) := by decide +kernel
theorem dX10_say_37 : decode cX10_say 37 = .ok (.dup, 1) := by decide +kernel
theorem dX10_say_38 : decode cX10_say 38 = .ok (.getfield 128, 3) := by decide +kernel
theorem dX10_say_41 : decode cX10_say 41 = .ok (.iconst 1, 1) := by decide +kernel
theorem dX10_say_42 : decode cX10_say 42 = .ok (.iadd, 1) := by decide +kernel
theorem dX10_say_43 : decode cX10_say 43 = .ok (.putfield 128, 3) := by decide +kernel
theorem dX10_say_46 : decode cX10_say 46 = .ok (.aload_n 0, 1) := by decide +kernel
theorem dX10_say_47 : decode cX10_say 47 = .ok (.getfield 128, 3) := by decide +kernel
theorem dX10_say_50 : decode cX10_say 50 = .ok (.ireturn, 1) := by decide +kernel
theorem dX10_wipe_0 : decode cX10_wipe 0 = .ok (.aload_n 0, 1) := by decide +kernel
theorem dX10_wipe_1 : decode cX10_wipe 1 = .ok (.getfield 128, 3) := by decide +kernel
theorem dX10_wipe_4 : decode cX10_wipe 4 = .ok (.istore_n 1, 1) := by decide +kernel
theorem dX10_wipe_5 : decode cX10_wipe 5 = .ok (.aload_n 0, 1) := by decide +kernel
theorem dX10_wipe_6 : decode cX10_wipe 6 = .ok (.iconst 0, 1) := by decide +kernel
theorem dX10_wipe_7 : decode cX10_wipe 7 = .ok (.putfield 128, 3) := by decide +kernel
theorem dX10_wipe_10 : decode cX10_wipe 10 = .ok (.iload_n 1, 1) := by decide +kernel
theorem dX10_wipe_11 : decode cX10_wipe 11 = .ok (.ireturn, 1) := by decide +kernel
set_option maxRecDepth 20000 in
theorem ggX10_faultOf_X10_in : GoodIn wsX10_faultOf wsX10_in := goodIn_r _ [6] (by decide +kernel) (by decide +kernel)
set_option maxRecDepth 20000 in
theorem gX10_faultOf_X10_in : GoodIn wsX10_faultOf (va_wsS RX10 124 yX10_in wsX10_in) := goodIn_app (goodIn_of _ (by decide +kernel)) ggX10_faultOf_X10_in
theorem dX10_faultOf_0 : decode cX10_faultOf 0 = .ok (.iconst 0, 1) := by decide +kernel
theorem dX10_faultOf_1 : decode cX10_faultOf 1 = .ok (.istore_n 1, 1) := by decide +kernel
theorem dX10_faultOf_2 : decode cX10_faultOf 2 = .ok (.iconst 0, 1) := by decide +kernel
theorem dX10_faultOf_3 : decode cX10_faultOf 3 = .ok (.istore_n 2, 1) := by decide +kernel
theorem dX10_faultOf_4 : decode cX10_faultOf 4 = .ok (.iconst 0, 1) := by decide +kernel
theorem dX10_faultOf_5 : decode cX10_faultOf 5 = .ok (.istore_n 3, 1) := by decide +kernel
theorem dX10_faultOf_6 : decode cX10_faultOf 6 = .ok (.iload_n 3, 1) := by decide +kernel
theorem dX10_faultOf_7 : decode cX10_faultOf 7 = .ok (.aload_n 0, 1) := by decide +kernel
theorem dX10_faultOf_8 : decode cX10_faultOf 8 = .ok (.getfield 128, 3) := by decide +kernel
theorem dX10_faultOf_11 : decode cX10_faultOf 11 = .ok (.if_icmp .ge 121, 3) := by decide +kernel
theorem dX10_faultOf_14 : decode cX10_faultOf 14 = .ok (.aload_n 0, 1) := by decide +kernel
theorem dX10_faultOf_15 : decode cX10_faultOf 15 = .ok (.getfield 7, 3) := by decide +kernel
theorem dX10_faultOf_18 : decode cX10_faultOf 18 = .ok (.iload_n 3, 1) := by decide +kernel
theorem dX10_faultOf_19 : decode cX10_faultOf 19 = .ok (.iaload, 1) := by decide +kernel
theorem dX10_faultOf_20 : decode cX10_faultOf 20 = .ok (.istore 4, 2) := by decide +kernel
theorem dX10_faultOf_22 : decode cX10_faultOf 22 = .ok (.iload_n 1, 1) := by decide +kernel
theorem dX10_faultOf_23 : decode cX10_faultOf 23 = .ok (.ifCond .ne 15, 3) := by decide +kernel
theorem dX10_faultOf_26 : decode cX10_faultOf 26 = .ok (.iload 4, 2) := by decide +kernel
theorem dX10_faultOf_28 : decode cX10_faultOf 28 = .ok (.bipush 48, 2) := by decide +kernel
theorem dX10_faultOf_30 : decode cX10_faultOf 30 = .ok (.bipush 53, 2) := by decide +kernel
theorem dX10_faultOf_32 : decode cX10_faultOf 32 = .ok (.invokestatic 124, 3) := by decide +kernel
theorem dX10_faultOf_35 : decode cX10_faultOf 35 = .ok (.goto 57, 3) := by decide +kernel
theorem dX10_faultOf_38 : decode cX10_faultOf 38 = .ok (.iload_n 1, 1) := by decide +kernel
theorem dX10_faultOf_39 : decode cX10_faultOf 39 = .ok (.iconst 1, 1) := by decide +kernel
theorem dX10_faultOf_40 : decode cX10_faultOf 40 = .ok (.if_icmp .ne 23, 3) := by decide +kernel
theorem dX10_faultOf_43 : decode cX10_faultOf 43 = .ok (.iload 4, 2) := by decide +kernel
theorem dX10_faultOf_45 : decode cX10_faultOf 45 = .ok (.bipush 47, 2) := by decide +kernel
theorem dX10_faultOf_47 : decode cX10_faultOf 47 = .ok (.if_icmp .ne 12, 3) := by decide +kernel
theorem dX10_faultOf_50 : decode cX10_faultOf 50 = .ok (.iload_n 2, 1) := by decide +kernel
theorem dX10_faultOf_51 : decode cX10_faultOf 51 = .ok (.iconst 5, 1) := by decide +kernel
theorem dX10_faultOf_52 : decode cX10_faultOf 52 = .ok (.if_icmp .ge 7, 3) := by decide +kernel
theorem dX10_faultOf_55 : decode cX10_faultOf 55 = .ok (.iconst 1, 1) := by decide +kernel
theorem dX10_faultOf_56 : decode cX10_faultOf 56 = .ok (.goto 36, 3) := by decide +kernel
theorem dX10_faultOf_59 : decode cX10_faultOf 59 = .ok (.iconst 0, 1) := by decide +kernel
theorem dX10_faultOf_60 : decode cX10_faultOf 60 = .ok (.goto 32, 3) := by decide +kernel
theorem dX10_faultOf_63 : decode cX10_faultOf 63 = .ok (.iload_n 1, 1) := by decide +kernel
theorem dX10_faultOf_64 : decode cX10_faultOf 64 = .ok (.iconst 4, 1) := by decide +kernel
theorem dX10_faultOf_65 : decode cX10_faultOf 65 = .ok (.if_icmp .ne 18, 3) := by decide +kernel
theorem dX10_faultOf_68 : decode cX10_faultOf 68 = .ok (.iload 4, 2) := by decide +kernel
theorem dX10_faultOf_70 : decode cX10_faultOf 70 = .ok (.bipush 47, 2) := by decide +kernel
theorem dX10_faultOf_72 : decode cX10_faultOf 72 = .ok (.if_icmp .ne 7, 3) := by decide +kernel
theorem dX10_faultOf_75 : decode cX10_faultOf 75 = .ok (.iconst 1, 1) := by decide +kernel
theorem dX10_faultOf_76 : decode cX10_faultOf 76 = .ok (.goto 16, 3) := by decide +kernel
theorem dX10_faultOf_79 : decode cX10_faultOf 79 = .ok (.iconst 0, 1) := by decide +kernel
theorem dX10_faultOf_80 : decode cX10_faultOf 80 = .ok (.goto 12, 3) := by decide +kernel
theorem dX10_faultOf_83 : decode cX10_faultOf 83 = .ok (.iload 4, 2) := by decide +kernel
theorem dX10_faultOf_85 : decode cX10_faultOf 85 = .ok (.bipush 48, 2) := by decide +kernel
theorem dX10_faultOf_87 : decode cX10_faultOf 87 = .ok (.bipush 51, 2) := by decide +kernel
theorem dX10_faultOf_89 : decode cX10_faultOf 89 = .ok (.invokestatic 124, 3) := by decide +kernel
theorem dX10_faultOf_92 : decode cX10_faultOf 92 = .ok (.istore 5, 2) := by decide +kernel
theorem dX10_faultOf_94 : decode cX10_faultOf 94 = .ok (.iload 5, 2) := by decide +kernel
theorem dX10_faultOf_96 : decode cX10_faultOf 96 = .ok (.ifCond .ne 5, 3) := by decide +kernel
theorem dX10_faultOf_99 : decode cX10_faultOf 99 = .ok (.iload_n 3, 1) := by decide +kernel
theorem dX10_faultOf_100 : decode cX10_faultOf 100 = .ok (.ireturn, 1) := by decide +kernel
theorem dX10_faultOf_101 : decode cX10_faultOf 101 = .ok (.iload_n 2, 1) := by decide +kernel
theorem dX10_faultOf_102 : decode cX10_faultOf 102 = .ok (.iload_n 1, 1) := by decide +kernel
theorem dX10_faultOf_103 : decode cX10_faultOf 103 = .ok (.ifCond .ne 7, 3) := by decide +kernel
theorem dX10_faultOf_106 : decode cX10_faultOf 106 = .ok (.iconst 1, 1) := by decide +kernel
theorem dX10_faultOf_107 : decode cX10_faultOf 107 = .ok (.goto 4, 3) := by decide +kernel
theorem dX10_faultOf_110 : decode cX10_faultOf 110 = .ok (.iconst 0, 1) := by decide +kernel
theorem dX10_faultOf_111 : decode cX10_faultOf 111 = .ok (.iadd, 1) := by decide +kernel
theorem dX10_faultOf_112 : decode cX10_faultOf 112 = .ok (.istore_n 2, 1) := by decide +kernel
theorem dX10_faultOf_113 : decode cX10_faultOf 113 = .ok (.iload_n 1, 1) := by decide +kernel
theorem dX10_faultOf_114 : decode cX10_faultOf 114 = .ok (.iconst 4, 1) := by decide +kernel
theorem dX10_faultOf_115 : decode cX10_faultOf 115 = .ok (.if_icmp .ne 7, 3) := by decide +kernel
theorem dX10_faultOf_118 : decode cX10_faultOf 118 = .ok (.iconst 0, 1) := by decide +kernel
theorem dX10_faultOf_119 : decode cX10_faultOf 119 = .ok (.goto 6, 3) := by decide +kernel
theorem dX10_faultOf_122 : decode cX10_faultOf 122 = .ok (.iload_n 1, 1) := by decide +kernel
theorem dX10_faultOf_123 : decode cX10_faultOf 123 = .ok (.iconst 1, 1) := by decide +kernel
theorem dX10_faultOf_124 : decode cX10_faultOf 124 = .ok (.iadd, 1) := by decide +kernel
theorem dX10_faultOf_125 : decode cX10_faultOf 125 = .ok (.istore_n 1, 1) := by decide +kernel
theorem dX10_faultOf_126 : decode cX10_faultOf 126 = .ok (.iinc 3 1, 3) := by decide +kernel
theorem dX10_faultOf_129 : decode cX10_faultOf 129 = .ok (.goto (-123), 3) := by decide +kernel
theorem dX10_faultOf_132 : decode cX10_faultOf 132 = .ok (.iload_n 1, 1) := by decide +kernel
theorem dX10_faultOf_133 : decode cX10_faultOf 133 = .ok (.iconst 1, 1) := by decide +kernel
theorem dX10_faultOf_134 : decode cX10_faultOf 134 = .ok (.if_icmp .ne 8, 3) := by decide +kernel
theorem dX10_faultOf_137 : decode cX10_faultOf 137 = .ok (.bipush (-6), 2) := by decide +kernel
theorem dX10_faultOf_139 : decode cX10_faultOf 139 = .ok (.goto 7, 3) := by decide +kernel
theorem dX10_faultOf_142 : decode cX10_faultOf 142 = .ok (.aload_n 0, 1) := by decide +kernel
theorem dX10_faultOf_143 : decode cX10_faultOf 143 = .ok (.getfield 128, 3) := by decide +kernel
theorem dX10_faultOf_146 : decode cX10_faultOf 146 = .ok (.ireturn, 1) := by decide +kernel
set_option maxRecDepth 20000 in
theorem ggX10_fault_X10_faultOf : GoodIn wsX10_fault wsX10_faultOf := goodIn_r _ [5, 6, 7, 8, 9, 4, 10, 11, 12, 13, 14, 15, 16, 17, 18, 19, 20, 21, 22, 23, 24, 25, 26, 27, 28, 29, 30, 31, 32, 33, 34, 35, 36, 37, 38, 39, 40, 41, 42, 43, 44, 45, 46, 47, 48, 49, 50, 51, 52, 53, 54, 55, 56] (by decide +kernel) (by decide +kernel)
set_option maxRecDepth 20000 in
theorem gX10_fault_X10_faultOf : GoodIn wsX10_fault (wsV RX10 132 RX10 yX10_faultOf wsX10_faultOf) := goodIn_app (goodIn_of _ (by decide +kernel)) ggX10_fault_X10_faultOf
theorem dX10_fault_0 : decode cX10_fault 0 = .ok (.aload_n 0, 1) := by decide +kernel
theorem dX10_fault_1 : decode cX10_fault 1 = .ok (.invokevirtual 132, 3) := by decide +kernel
theorem dX10_fault_4 : decode cX10_fault 4 = .ok (.ireturn, 1) := by decide +kernel
set_option maxRecDepth 20000 in
theorem ggX10_isPlace_X10_in : GoodIn wsX10_isPlace wsX10_in := goodIn_r _ [4] (by decide +kernel) (by decide +kernel)
set_option maxRecDepth 20000 in
theorem gX10_isPlace_X10_in : GoodIn wsX10_isPlace (va_wsS RX10 124 yX10_in wsX10_in) := goodIn_app (goodIn_of _ (by decide +kernel)) ggX10_isPlace_X10_in
theorem dX10_isPlace_0 : decode cX10_isPlace 0 = .ok (.iload_n 0, 1) := by decide +kernel
theorem dX10_isPlace_1 : decode cX10_isPlace 1 = .ok (.iconst 0, 1) := by decide +kernel
theorem dX10_isPlace_2 : decode cX10_isPlace 2 = .ok (.iconst 5, 1) := by decide +kernel
theorem dX10_isPlace_3 : decode cX10_isPlace 3 = .ok (.invokestatic 124, 3) := by decide +kernel
theorem dX10_isPlace_6 : decode cX10_isPlace 6 = .ok (.ireturn, 1) := by decide +kernel
set_option maxRecDepth 20000 in
theorem ggX10_isLap_X10_isPlace : GoodIn wsX10_isLap wsX10_isPlace := goodIn_r _ [5, 6, 7, 4, 8] (by decide +kernel) (by decide +kernel)
set_option maxRecDepth 20000 in
theorem gX10_isLap_X10_isPlace : GoodIn wsX10_isLap (va_wsS RX10 136 yX10_isPlace wsX10_isPlace) := goodIn_app (goodIn_of _ (by decide +kernel)) ggX10_isLap_X10_isPlace
theorem dX10_isLap_0 : decode cX10_isLap 0 = .ok (.iload_n 1, 1) := by decide +kernel
theorem dX10_isLap_1 : decode cX10_isLap 1 = .ok (.invokestatic 136, 3) := by decide +kernel
theorem dX10_isLap_4 : decode cX10_isLap 4 = .ok (.ifCond .eq 16, 3) := by decide +kernel
theorem dX10_isLap_7 : decode cX10_isLap 7 = .ok (.aload_n 0, 1) := by decide +kernel
theorem dX10_isLap_8 : decode cX10_isLap 8 = .ok (.getfield 13, 3) := by decide +kernel
theorem dX10_isLap_11 : decode cX10_isLap 11 = .ok (.iload_n 1, 1) := by decide +kernel
theorem dX10_isLap_12 : decode cX10_isLap 12 = .ok (.iaload, 1) := by decide +kernel
theorem dX10_isLap_13 : decode cX10_isLap 13 = .ok (.ifCond .le 7, 3) := by decide +kernel
theorem dX10_isLap_16 : decode cX10_isLap 16 = .ok (.iconst 1, 1) := by decide +kernel
theorem dX10_isLap_17 : decode cX10_isLap 17 = .ok (.goto 4, 3) := by decide +kernel
theorem dX10_isLap_20 : decode cX10_isLap 20 = .ok (.iconst 0, 1) := by decide +kernel
theorem dX10_isLap_21 : decode cX10_isLap 21 = .ok (.ireturn, 1) := by decide +kernel
set_option maxRecDepth 20000 in
theorem ggX10_isSpot_X10_isLap : GoodIn wsX10_isSpot wsX10_isLap := goodIn_r _ [6, 1, 7, 8, 5, 9, 10, 11, 12, 13, 14, 15, 16, 17, 18, 19, 20, 21, 22, 23, 24, 25, 26, 27, 28, 29, 30, 31, 32, 33, 34, 35, 36, 37, 38, 39, 40, 41, 42, 43, 44, 45, 46, 47, 48, 49, 50, 51, 52, 53, 54, 55, 56, 57, 58] (by decide +kernel) (by decide +kernel)
set_option maxRecDepth 20000 in
theorem gX10_isSpot_X10_isLap : GoodIn wsX10_isSpot (wsV RX10 140 RX10 yX10_isLap wsX10_isLap) := goodIn_app (goodIn_of _ (by decide +kernel)) ggX10_isSpot_X10_isLap
set_option maxRecDepth 20000 in
theorem ggX10_isSpot_X10_in : GoodIn wsX10_isSpot wsX10_in := goodIn_r _ [12] (by decide +kernel) (by decide +kernel)
set_option maxRecDepth 20000 in
theorem gX10_isSpot_X10_in : GoodIn wsX10_isSpot (va_wsS RX10 124 yX10_in wsX10_in) := goodIn_app (goodIn_of _ (by decide +kernel)) ggX10_isSpot_X10_in
theorem dX10_isSpot_0 : decode cX10_isSpot 0 = .ok (.aload_n 0, 1) := by decide +kernel
theorem dX10_isSpot_1 : decode cX10_isSpot 1 = .ok (.iload_n 1, 1) := by decide +kernel
theorem dX10_isSpot_2 : decode cX10_isSpot 2 = .ok (.invokevirtual 140, 3) := by decide +kernel
theorem dX10_isSpot_5 : decode cX10_isSpot 5 = .ok (.ifCond .eq 23, 3) := by decide +kernel
theorem dX10_isSpot_8 : decode cX10_isSpot 8 = .ok (.iload_n 2, 1) := by decide +kernel
theorem dX10_isSpot_9 : decode cX10_isSpot 9 = .ok (.iconst 0, 1) := by decide +kernel
theorem dX10_isSpot_10 : decode cX10_isSpot 10 = .ok (.aload_n 0, 1) := by decide +kernel
theorem dX10_isSpot_11 : decode cX10_isSpot 11 = .ok (.getfield 13, 3) := by decide +kernel
theorem dX10_isSpot_14 : decode cX10_isSpot 14 = .ok (.iload_n 1, 1) := by decide +kernel
theorem dX10_isSpot_15 : decode cX10_isSpot 15 = .ok (.iaload, 1) := by decide +kernel
theorem dX10_isSpot_16 : decode cX10_isSpot 16 = .ok (.iconst 1, 1) := by decide +kernel
theorem dX10_isSpot_17 : decode cX10_isSpot 17 = .ok (.isub, 1) := by decide +kernel
theorem dX10_isSpot_18 : decode cX10_isSpot 18 = .ok (.invokestatic 124, 3) := by decide +kernel
theorem dX10_isSpot_21 : decode cX10_isSpot 21 = .ok (.ifCond .eq 7, 3) := by decide +kernel
theorem dX10_isSpot_24 : decode cX10_isSpot 24 = .ok (.iconst 1, 1) := by decide +kernel
theorem dX10_isSpot_25 : decode cX10_isSpot 25 = .ok (.goto 4, 3) := by decide +kernel
theorem dX10_isSpot_28 : decode cX10_isSpot 28 = .ok (.iconst 0, 1) := by decide +kernel
theorem dX10_isSpot_29 : decode cX10_isSpot 29 = .ok (.ireturn, 1) := by decide +kernel
set_option maxRecDepth 20000 in
theorem ggX10_read_X10_isPlace : GoodIn wsX10_read wsX10_isPlace := goodIn_r _ [14, 15, 16, 13, 17] (by decide +kernel) (by decide +kernel)
set_option maxRecDepth 20000 in
theorem gX10_read_X10_isPlace : GoodIn wsX10_read (va_wsS RX10 136 yX10_isPlace wsX10_isPlace) := goodIn_app (goodIn_of _ (by decide +kernel)) ggX10_read_X10_isPlace
set_option maxRecDepth 20000 in
theorem ggX10_read_X10_faultOf : GoodIn wsX10_read wsX10_faultOf := goodIn_r _ [21, 1, 3, 15, 16, 13, 17, 22, 23, 24, 25, 26, 27, 28, 29, 30, 31, 32, 33, 34, 35, 36, 37, 38, 39, 40, 41, 42, 43, 44, 45, 46, 47, 48, 49, 50, 51, 52, 53, 54, 55, 56, 57, 58, 59, 60, 61, 62, 63, 64, 65, 66, 67] (by decide +kernel) (by decide +kernel)
set_option maxRecDepth 20000 in
theorem gX10_read_X10_faultOf : GoodIn wsX10_read (wsV RX10 132 RX10 yX10_faultOf wsX10_faultOf) := goodIn_app (goodIn_of _ (by decide +kernel)) ggX10_read_X10_faultOf
theorem dX10_read_0 : decode cX10_read 0 = .ok (.iload_n 1, 1) := by decide +kernel
theorem dX10_read_1 : decode cX10_read 1 = .ok (.invokestatic 136, 3) := by decide +kernel
theorem dX10_read_4 : decode cX10_read 4 = .ok (.ifCond .ne 5, 3) := by decide +kernel
theorem dX10_read_7 : decode cX10_read 7 = .ok (.iconst (-1), 1) := by decide +kernel
theorem dX10_read_8 : decode cX10_read 8 = .ok (.ireturn, 1) := by decide +kernel
theorem dX10_read_9 : decode cX10_read 9 = .ok (.aload_n 0, 1) := by decide +kernel
theorem dX10_read_10 : decode cX10_read 10 = .ok (.invokevirtual 132, 3) := by decide +kernel
theorem dX10_read_13 : decode cX10_read 13 = .ok (.ifCond .lt 6, 3) := by decide +kernel
theorem dX10_read_16 : decode cX10_read 16 = .ok (.bipush (-5), 2) := by decide +kernel
theorem dX10_read_18 : decode cX10_read 18 = .ok (.ireturn, 1) := by decide +kernel
theorem dX10_read_19 : decode cX10_read 19 = .ok (.aload_n 0, 1) := by decide +kernel
theorem dX10_read_20 : decode cX10_read 20 = .ok (.getfield 128, 3) := by decide +kernel
theorem dX10_read_23 : decode cX10_read 23 = .ok (.iconst 4, 1) := by decide +kernel
theorem dX10_read_24 : decode cX10_read 24 = .ok (.iadd, 1) := by decide +kernel
theorem dX10_read_25 : decode cX10_read 25 = .ok (.iconst 5, 1) := by decide +kernel
theorem dX10_read_26 : decode cX10_read 26 = .ok (.idiv, 1) := by decide +kernel
theorem dX10_read_27 : decode cX10_read 27 = .ok (.istore_n 2, 1) := by decide +kernel
theorem dX10_read_28 : decode cX10_read 28 = .ok (.iconst 0, 1) := by decide +kernel
theorem dX10_read_29 : decode cX10_read 29 = .ok (.istore_n 3, 1) := by decide +kernel
theorem dX10_read_30 : decode cX10_read 30 = .ok (.iload_n 3, 1) := by decide +kernel
theorem dX10_read_31 : decode cX10_read 31 = .ok (.iload_n 2, 1) := by decide +kernel
theorem dX10_read_32 : decode cX10_read 32 = .ok (.if_icmp .ge 121, 3) := by decide +kernel
theorem dX10_read_35 : decode cX10_read 35 = .ok (.aload_n 0, 1) := by decide +kernel
theorem dX10_read_36 : decode cX10_read 36 = .ok (.getfield 16, 3) := by decide +kernel
theorem dX10_read_39 : decode cX10_read 39 = .ok (.iconst 5, 1) := by decide +kernel
theorem dX10_read_40 : decode cX10_read 40 = .ok (.iload_n 1, 1) := by decide +kernel
theorem dX10_read_41 : decode cX10_read 41 = .ok (.imul, 1) := by decide +kernel
theorem dX10_read_42 : decode cX10_read 42 = .ok (.iload_n 3, 1) := by decide +kernel
theorem dX10_read_43 : decode cX10_read 43 = .ok (.iadd, 1) := by decide +kernel
theorem dX10_read_44 : decode cX10_read 44 = .ok (.aload_n 0, 1) := by decide +kernel
theorem dX10_read_45 : decode cX10_read 45 = .ok (.getfield 7, 3) := by decide +kernel
theorem dX10_read_48 : decode cX10_read 48 = .ok (.iconst 5, 1) := by decide +kernel
theorem dX10_read_49 : decode cX10_read 49 = .ok (.iload_n 3, 1) := by decide +kernel
theorem dX10_read_50 : decode cX10_read 50 = .ok (.imul, 1) := by decide +kernel
theorem dX10_read_51 : decode cX10_read 51 = .ok (.iaload, 1) := by decide +kernel
theorem dX10_read_52 : decode cX10_read 52 = .ok (.bipush 48, 2) := by decide +kernel
theorem dX10_read_54 : decode cX10_read 54 = .ok (.isub, 1) := by decide +kernel
theorem dX10_read_55 : decode cX10_read 55 = .ok (.iastore, 1) := by decide +kernel
theorem dX10_read_56 : decode cX10_read 56 = .ok (.aload_n 0, 1) := by decide +kernel
theorem dX10_read_57 : decode cX10_read 57 = .ok (.getfield 19, 3) := by decide +kernel
theorem dX10_read_60 : decode cX10_read 60 = .ok (.iconst 5, 1) := by decide +kernel
theorem dX10_read_61 : decode cX10_read 61 = .ok (.iload_n 1, 1) := by decide +kernel
theorem dX10_read_62 : decode cX10_read 62 = .ok (.imul, 1) := by decide +kernel
theorem dX10_read_63 : decode cX10_read 63 = .ok (.iload_n 3, 1) := by decide +kernel
theorem dX10_read_64 : decode cX10_read 64 = .ok (.iadd, 1) := by decide +kernel
theorem dX10_read_65 : decode cX10_read 65 = .ok (.iload_n 3, 1) := by decide +kernel
theorem dX10_read_66 : decode cX10_read 66 = .ok (.iload_n 2, 1) := by decide +kernel
theorem dX10_read_67 : decode cX10_read 67 = .ok (.iconst 1, 1) := by decide +kernel
theorem dX10_read_68 : decode cX10_read 68 = .ok (.isub, 1) := by decide +kernel
theorem dX10_read_69 : decode cX10_read 69 = .ok (.if_icmp .ge 19, 3) := by decide +kernel
theorem dX10_read_72 : decode cX10_read 72 = .ok (.aload_n 0, 1) := by decide +kernel
theorem dX10_read_73 : decode cX10_read 73 = .ok (.getfield 7, 3) := by decide +kernel
theorem dX10_read_76 : decode cX10_read 76 = .ok (.iconst 5, 1) := by decide +kernel
theorem dX10_read_77 : decode cX10_read 77 = .ok (.iload_n 3, 1) := by decide +kernel
theorem dX10_read_78 : decode cX10_read 78 = .ok (.imul, 1) := by decide +kernel
theorem dX10_read_79 : decode cX10_read 79 = .ok (.iconst 2, 1) := by decide +kernel
theorem dX10_read_80 : decode cX10_read 80 = .ok (.iadd, 1) := by decide +kernel
theorem dX10_read_81 : decode cX10_read 81 = .ok (.iaload, 1) := by decide +kernel
theorem dX10_read_82 : decode cX10_read 82 = .ok (.bipush 48, 2) := by decide +kernel
theorem dX10_read_84 : decode cX10_read 84 = .ok (.isub, 1) := by decide +kernel
theorem dX10_read_85 : decode cX10_read 85 = .ok (.goto 4, 3) := by decide +kernel
theorem dX10_read_88 : decode cX10_read 88 = .ok (.iconst 0, 1) := by decide +kernel
theorem dX10_read_89 : decode cX10_read 89 = .ok (.iastore, 1) := by decide +kernel
theorem dX10_read_90 : decode cX10_read 90 = .ok (.aload_n 0, 1) := by decide +kernel
theorem dX10_read_91 : decode cX10_read 91 = .ok (.getfield 22, 3) := by decide +kernel
theorem dX10_read_94 : decode cX10_read 94 = .ok (.iconst 5, 1) := by decide +kernel
theorem dX10_read_95 : decode cX10_read 95 = .ok (.iload_n 1, 1) := by decide +kernel
theorem dX10_read_96 : decode cX10_read 96 = .ok (.imul, 1) := by decide +kernel
theorem dX10_read_97 : decode cX10_read 97 = .ok (.iload_n 3, 1) := by decide +kernel
theorem dX10_read_98 : decode cX10_read 98 = .ok (.iadd, 1) := by decide +kernel
theorem dX10_read_99 : decode cX10_read 99 = .ok (.iload_n 3, 1) := by decide +kernel
theorem dX10_read_100 : decode cX10_read 100 = .ok (.iload_n 2, 1) := by decide +kernel
theorem dX10_read_101 : decode cX10_read 101 = .ok (.iconst 1, 1) := by decide +kernel
theorem dX10_read_102 : decode cX10_read 102 = .ok (.isub, 1) := by decide +kernel
theorem dX10_read_103 : decode cX10_read 103 = .ok (.if_icmp .ge 19, 3) := by decide +kernel
theorem dX10_read_106 : decode cX10_read 106 = .ok (.aload_n 0, 1) := by decide +kernel
theorem dX10_read_107 : decode cX10_read 107 = .ok (.getfield 7, 3) := by decide +kernel
theorem dX10_read_110 : decode cX10_read 110 = .ok (.iconst 5, 1) := by decide +kernel
theorem dX10_read_111 : decode cX10_read 111 = .ok (.iload_n 3, 1) := by decide +kernel
theorem dX10_read_112 : decode cX10_read 112 = .ok (.imul, 1) := by decide +kernel
theorem dX10_read_113 : decode cX10_read 113 = .ok (.iconst 3, 1) := by decide +kernel
theorem dX10_read_114 : decode cX10_read 114 = .ok (.iadd, 1) := by decide +kernel
theorem dX10_read_115 : decode cX10_read 115 = .ok (.iaload, 1) := by decide +kernel
theorem dX10_read_116 : decode cX10_read 116 = .ok (.bipush 48, 2) := by decide +kernel
theorem dX10_read_118 : decode cX10_read 118 = .ok (.isub, 1) := by decide +kernel
theorem dX10_read_119 : decode cX10_read 119 = .ok (.goto 4, 3) := by decide +kernel
theorem dX10_read_122 : decode cX10_read 122 = .ok (.iconst 0, 1) := by decide +kernel
theorem dX10_read_123 : decode cX10_read 123 = .ok (.iastore, 1) := by decide +kernel
theorem dX10_read_124 : decode cX10_read 124 = .ok (.aload_n 0, 1) := by decide +kernel
theorem dX10_read_125 : decode cX10_read 125 = .ok (.getfield 25, 3) := by decide +kernel
theorem dX10_read_128 : decode cX10_read 128 = .ok (.iconst 5, 1) := by decide +kernel
theorem dX10_read_129 : decode cX10_read 129 = .ok (.iload_n 1, 1) := by decide +kernel
theorem dX10_read_130 : decode cX10_read 130 = .ok (.imul, 1) := by decide +kernel
theorem dX10_read_131 : decode cX10_read 131 = .ok (.iload_n 3, 1) := by decide +kernel
theorem dX10_read_132 : decode cX10_read 132 = .ok (.iadd, 1) := by decide +kernel
theorem dX10_read_133 : decode cX10_read 133 = .ok (.bipush 10, 2) := by decide +kernel
theorem dX10_read_135 : decode cX10_read 135 = .ok (.iastore, 1) := by decide +kernel
theorem dX10_read_136 : decode cX10_read 136 = .ok (.aload_n 0, 1) := by decide +kernel
theorem dX10_read_137 : decode cX10_read 137 = .ok (.getfield 28, 3) := by decide +kernel
theorem dX10_read_140 : decode cX10_read 140 = .ok (.iconst 5, 1) := by decide +kernel
theorem dX10_read_141 : decode cX10_read 141 = .ok (.iload_n 1, 1) := by decide +kernel
theorem dX10_read_142 : decode cX10_read 142 = .ok (.imul, 1) := by decide +kernel
theorem dX10_read_143 : decode cX10_read 143 = .ok (.iload_n 3, 1) := by decide +kernel
theorem dX10_read_144 : decode cX10_read 144 = .ok (.iadd, 1) := by decide +kernel
theorem dX10_read_145 : decode cX10_read 145 = .ok (.iconst 0, 1) := by decide +kernel
theorem dX10_read_146 : decode cX10_read 146 = .ok (.iastore, 1) := by decide +kernel
theorem dX10_read_147 : decode cX10_read 147 = .ok (.iinc 3 1, 3) := by decide +kernel
theorem dX10_read_150 : decode cX10_read 150 = .ok (.goto (-120), 3) := by decide +kernel
theorem dX10_read_153 : decode cX10_read 153 = .ok (.iconst 0, 1) := by decide +kernel
theorem dX10_read_154 : decode cX10_read 154 = .ok (.istore_n 3, 1) := by decide +kernel
theorem dX10_read_155 : decode cX10_read 155 = .ok (.iload_n 3, 1) := by decide +kernel
theorem dX10_read_156 : decode cX10_read 156 = .ok (.bipush 10, 2) := by decide +kernel
theorem dX10_read_158 : decode cX10_read 158 = .ok (.if_icmp .ge 21, 3) := by decide +kernel
theorem dX10_read_161 : decode cX10_read 161 = .ok (.aload_n 0, 1) := by decide +kernel
theorem dX10_read_162 : decode cX10_read 162 = .ok (.getfield 31, 3) := by decide +kernel
theorem dX10_read_165 : decode cX10_read 165 = .ok (.bipush 10, 2) := by decide +kernel
theorem dX10_read_167 : decode cX10_read 167 = .ok (.iload_n 1, 1) := by decide +kernel
theorem dX10_read_168 : decode cX10_read 168 = .ok (.imul, 1) := by decide +kernel
theorem dX10_read_169 : decode cX10_read 169 = .ok (.iload_n 3, 1) := by decide +kernel
theorem dX10_read_170 : decode cX10_read 170 = .ok (.iadd, 1) := by decide +kernel
theorem dX10_read_171 : decode cX10_read 171 = .ok (.iconst 0, 1) := by decide +kernel
theorem dX10_read_172 : decode cX10_read 172 = .ok (.iastore, 1) := by decide +kernel
theorem dX10_read_173 : decode cX10_read 173 = .ok (.iinc 3 1, 3) := by decide +kernel
theorem dX10_read_176 : decode cX10_read 176 = .ok (.goto (-21), 3) := by decide +kernel
theorem dX10_read_179 : decode cX10_read 179 = .ok (.aload_n 0, 1) := by decide +kernel
theorem dX10_read_180 : decode cX10_read 180 = .ok (.getfield 34, 3) := by decide +kernel
theorem dX10_read_183 : decode cX10_read 183 = .ok (.iload_n 1, 1) := by decide +kernel
theorem dX10_read_184 : decode cX10_read 184 = .ok (.iconst 0, 1) := by decide +kernel
theorem dX10_read_185 : decode cX10_read 185 = .ok (.iastore, 1) := by decide +kernel
theorem dX10_read_186 : decode cX10_read 186 = .ok (.aload_n 0, 1) := by decide +kernel
theorem dX10_read_187 : decode cX10_read 187 = .ok (.getfield 13, 3) := by decide +kernel
theorem dX10_read_190 : decode cX10_read 190 = .ok (.iload_n 1, 1) := by decide +kernel
theorem dX10_read_191 : decode cX10_read 191 = .ok (.iload_n 2, 1) := by decide +kernel
theorem dX10_read_192 : decode cX10_read 192 = .ok (.iastore, 1) := by decide +kernel
theorem dX10_read_193 : decode cX10_read 193 = .ok (.aload_n 0, 1) := by decide +kernel
theorem dX10_read_194 : decode cX10_read 194 = .ok (.iconst 0, 1) := by decide +kernel
theorem dX10_read_195 : decode cX10_read 195 = .ok (.putfield 128, 3) := by decide +kernel
theorem dX10_read_198 : decode cX10_read 198 = .ok (.iload_n 2, 1) := by decide +kernel
theorem dX10_read_199 : decode cX10_read 199 = .ok (.ireturn, 1) := by decide +kernel
set_option maxRecDepth 20000 in
theorem ggX10_spot_X10_isSpot : GoodIn wsX10_spot wsX10_isSpot := goodIn_r _ [11, 1, 12, 13, 14, 10, 15, 16, 17, 18, 19, 20, 21, 22, 23, 24, 25, 26, 27, 28, 29, 30, 31, 32, 33, 34, 35, 36, 37, 38, 39, 40, 41, 42, 43, 44, 45, 46, 47, 48, 49, 50, 51, 52, 53, 54, 55, 56, 57, 58, 59, 60, 61, 62, 63, 64, 65, 66, 67] (by decide +kernel) (by decide +kernel)
set_option maxRecDepth 20000 in
theorem gX10_spot_X10_isSpot : GoodIn wsX10_spot (wsV RX10 143 RX10 yX10_isSpot wsX10_isSpot) := goodIn_app (goodIn_of _ (by decide +kernel)) ggX10_spot_X10_isSpot
theorem dX10_spot_0 : decode cX10_spot 0 = .ok (.aload_n 0, 1) := by decide +kernel
theorem dX10_spot_1 : decode cX10_spot 1 = .ok (.iload_n 1, 1) := by decide +kernel
theorem dX10_spot_2 : decode cX10_spot 2 = .ok (.iload_n 2, 1) := by decide +kernel
theorem dX10_spot_3 : decode cX10_spot 3 = .ok (.invokevirtual 143, 3) := by decide +kernel
theorem dX10_spot_6 : decode cX10_spot 6 = .ok (.ifCond .ne 5, 3) := by decide +kernel
theorem dX10_spot_9 : decode cX10_spot 9 = .ok (.iconst (-1), 1) := by decide +kernel
theorem dX10_spot_10 : decode cX10_spot 10 = .ok (.ireturn, 1) := by decide +kernel
theorem dX10_spot_11 : decode cX10_spot 11 = .ok (.iconst 5, 1) := by decide +kernel
theorem dX10_spot_12 : decode cX10_spot 12 = .ok (.iload_n 1, 1) := by decide +kernel
theorem dX10_spot_13 : decode cX10_spot 13 = .ok (.imul, 1) := by decide +kernel
theorem dX10_spot_14 : decode cX10_spot 14 = .ok (.iload_n 2, 1) := by decide +kernel
theorem dX10_spot_15 : decode cX10_spot 15 = .ok (.iadd, 1) := by decide +kernel
theorem dX10_spot_16 : decode cX10_spot 16 = .ok (.istore 4, 2) := by decide +kernel
theorem dX10_spot_18 : decode cX10_spot 18 = .ok (.iload_n 2, 1) := by decide +kernel
theorem dX10_spot_19 : decode cX10_spot 19 = .ok (.aload_n 0, 1) := by decide +kernel
theorem dX10_spot_20 : decode cX10_spot 20 = .ok (.getfield 13, 3) := by decide +kernel
theorem dX10_spot_23 : decode cX10_spot 23 = .ok (.iload_n 1, 1) := by decide +kernel
theorem dX10_spot_24 : decode cX10_spot 24 = .ok (.iaload, 1) := by decide +kernel
theorem dX10_spot_25 : decode cX10_spot 25 = .ok (.iconst 1, 1) := by decide +kernel
theorem dX10_spot_26 : decode cX10_spot 26 = .ok (.isub, 1) := by decide +kernel
theorem dX10_spot_27 : decode cX10_spot 27 = .ok (.if_icmp .ne 7, 3) := by decide +kernel
theorem dX10_spot_30 : decode cX10_spot 30 = .ok (.iconst 1, 1) := by decide +kernel
theorem dX10_spot_31 : decode cX10_spot 31 = .ok (.goto 4, 3) := by decide +kernel
theorem dX10_spot_34 : decode cX10_spot 34 = .ok (.iconst 0, 1) := by decide +kernel
theorem dX10_spot_35 : decode cX10_spot 35 = .ok (.istore 5, 2) := by decide +kernel
theorem dX10_spot_37 : decode cX10_spot 37 = .ok (.iload_n 3, 1) := by decide +kernel
theorem dX10_spot_38 : decode cX10_spot 38 = .ok (.tableswitch 94 0 4 #[34, 42, 60, 78, 86], 34) := by decide +kernel
theorem dX10_spot_72 : decode cX10_spot 72 = .ok (.aload_n 0, 1) := by decide +kernel
theorem dX10_spot_73 : decode cX10_spot 73 = .ok (.getfield 16, 3) := by decide +kernel
theorem dX10_spot_76 : decode cX10_spot 76 = .ok (.iload 4, 2) := by decide +kernel
theorem dX10_spot_78 : decode cX10_spot 78 = .ok (.iaload, 1) := by decide +kernel
theorem dX10_spot_79 : decode cX10_spot 79 = .ok (.ireturn, 1) := by decide +kernel
theorem dX10_spot_80 : decode cX10_spot 80 = .ok (.iload 5, 2) := by decide +kernel
theorem dX10_spot_82 : decode cX10_spot 82 = .ok (.ifCond .eq 8, 3) := by decide +kernel
theorem dX10_spot_85 : decode cX10_spot 85 = .ok (.bipush (-6), 2) := by decide +kernel
theorem dX10_spot_87 : decode cX10_spot 87 = .ok (.goto 10, 3) := by decide +kernel
theorem dX10_spot_90 : decode cX10_spot 90 = .ok (.aload_n 0, 1) := by decide +kernel
theorem dX10_spot_91 : decode cX10_spot 91 = .ok (.getfield 19, 3) := by decide +kernel
theorem dX10_spot_94 : decode cX10_spot 94 = .ok (.iload 4, 2) := by decide +kernel
theorem dX10_spot_96 : decode cX10_spot 96 = .ok (.iaload, 1) := by decide +kernel
theorem dX10_spot_97 : decode cX10_spot 97 = .ok (.ireturn, 1) := by decide +kernel
theorem dX10_spot_98 : decode cX10_spot 98 = .ok (.iload 5, 2) := by decide +kernel
theorem dX10_spot_100 : decode cX10_spot 100 = .ok (.ifCond .eq 8, 3) := by decide +kernel
theorem dX10_spot_103 : decode cX10_spot 103 = .ok (.bipush (-6), 2) := by decide +kernel
theorem dX10_spot_105 : decode cX10_spot 105 = .ok (.goto 10, 3) := by decide +kernel
theorem dX10_spot_108 : decode cX10_spot 108 = .ok (.aload_n 0, 1) := by decide +kernel
theorem dX10_spot_109 : decode cX10_spot 109 = .ok (.getfield 22, 3) := by decide +kernel
theorem dX10_spot_112 : decode cX10_spot 112 = .ok (.iload 4, 2) := by decide +kernel
theorem dX10_spot_114 : decode cX10_spot 114 = .ok (.iaload, 1) := by decide +kernel
theorem dX10_spot_115 : decode cX10_spot 115 = .ok (.ireturn, 1) := by decide +kernel
theorem dX10_spot_116 : decode cX10_spot 116 = .ok (.aload_n 0, 1) := by decide +kernel
theorem dX10_spot_117 : decode cX10_spot 117 = .ok (.getfield 25, 3) := by decide +kernel
theorem dX10_spot_120 : decode cX10_spot 120 = .ok (.iload 4, 2) := by decide +kernel
theorem dX10_spot_122 : decode cX10_spot 122 = .ok (.iaload, 1) := by decide +kernel
theorem dX10_spot_123 : decode cX10_spot 123 = .ok (.ireturn, 1) := by decide +kernel
theorem dX10_spot_124 : decode cX10_spot 124 = .ok (.aload_n 0, 1) := by decide +kernel
theorem dX10_spot_125 : decode cX10_spot 125 = .ok (.getfield 28, 3) := by decide +kernel
theorem dX10_spot_128 : decode cX10_spot 128 = .ok (.iload 4, 2) := by decide +kernel
theorem dX10_spot_130 : decode cX10_spot 130 = .ok (.iaload, 1) := by decide +kernel
theorem dX10_spot_131 : decode cX10_spot 131 = .ok (.ireturn, 1) := by decide +kernel
theorem dX10_spot_132 : decode cX10_spot 132 = .ok (.bipush (-2), 2) := by decide +kernel
theorem dX10_spot_134 : decode cX10_spot 134 = .ok (.ireturn, 1) := by decide +kernel
set_option maxRecDepth 20000 in
theorem ggX10_glue_X10_isSpot : GoodIn wsX10_glue wsX10_isSpot := goodIn_r _ [6, 7, 8, 9, 10, 5, 11, 12, 13, 14, 15, 16, 17, 18, 19, 20, 21, 22, 23, 24, 25, 26, 27, 28, 29, 30, 31, 32, 33, 34, 35, 36, 37, 38, 39, 40, 41, 42, 43, 44, 45, 46, 47, 48, 49, 50, 51, 52, 53, 54, 55, 56, 57, 58, 59, 60, 61, 62, 63] (by decide +kernel) (by decide +kernel)
set_option maxRecDepth 20000 in
theorem gX10_glue_X10_isSpot : GoodIn wsX10_glue (wsV RX10 143 RX10 yX10_isSpot wsX10_isSpot) := goodIn_app (goodIn_of _ (by decide +kernel)) ggX10_glue_X10_isSpot
set_option maxRecDepth 20000 in
theorem ggX10_glue_X10_in : GoodIn wsX10_glue wsX10_in := goodIn_r _ [17] (by decide +kernel) (by decide +kernel)
set_option maxRecDepth 20000 in
theorem gX10_glue_X10_in : GoodIn wsX10_glue (va_wsS RX10 124 yX10_in wsX10_in) := goodIn_app (goodIn_of _ (by decide +kernel)) ggX10_glue_X10_in
theorem dX10_glue_0 : decode cX10_glue 0 = .ok (.aload_n 0, 1) := by decide +kernel
theorem dX10_glue_1 : decode cX10_glue 1 = .ok (.iload_n 1, 1) := by decide +kernel
theorem dX10_glue_2 : decode cX10_glue 2 = .ok (.iload_n 2, 1) := by decide +kernel
theorem dX10_glue_3 : decode cX10_glue 3 = .ok (.invokevirtual 143, 3) := by decide +kernel
theorem dX10_glue_6 : decode cX10_glue 6 = .ok (.ifCond .ne 5, 3) := by decide +kernel
theorem dX10_glue_9 : decode cX10_glue 9 = .ok (.iconst (-1), 1) := by decide +kernel
theorem dX10_glue_10 : decode cX10_glue 10 = .ok (.ireturn, 1) := by decide +kernel
theorem dX10_glue_11 : decode cX10_glue 11 = .ok (.iload_n 3, 1) := by decide +kernel
theorem dX10_glue_12 : decode cX10_glue 12 = .ok (.iconst 0, 1) := by decide +kernel
theorem dX10_glue_13 : decode cX10_glue 13 = .ok (.iconst 5, 1) := by decide +kernel
theorem dX10_glue_14 : decode cX10_glue 14 = .ok (.invokestatic 124, 3) := by decide +kernel
theorem dX10_glue_17 : decode cX10_glue 17 = .ok (.ifCond .ne 6, 3) := by decide +kernel
theorem dX10_glue_20 : decode cX10_glue 20 = .ok (.bipush (-2), 2) := by decide +kernel
theorem dX10_glue_22 : decode cX10_glue 22 = .ok (.ireturn, 1) := by decide +kernel
theorem dX10_glue_23 : decode cX10_glue 23 = .ok (.aload_n 0, 1) := by decide +kernel
theorem dX10_glue_24 : decode cX10_glue 24 = .ok (.getfield 16, 3) := by decide +kernel
theorem dX10_glue_27 : decode cX10_glue 27 = .ok (.iconst 5, 1) := by decide +kernel
theorem dX10_glue_28 : decode cX10_glue 28 = .ok (.iload_n 1, 1) := by decide +kernel
theorem dX10_glue_29 : decode cX10_glue 29 = .ok (.imul, 1) := by decide +kernel
theorem dX10_glue_30 : decode cX10_glue 30 = .ok (.iload_n 2, 1) := by decide +kernel
theorem dX10_glue_31 : decode cX10_glue 31 = .ok (.iadd, 1) := by decide +kernel
theorem dX10_glue_32 : decode cX10_glue 32 = .ok (.iaload, 1) := by decide +kernel
theorem dX10_glue_33 : decode cX10_glue 33 = .ok (.istore 4, 2) := by decide +kernel
theorem dX10_glue_35 : decode cX10_glue 35 = .ok (.aload_n 0, 1) := by decide +kernel
theorem dX10_glue_36 : decode cX10_glue 36 = .ok (.getfield 16, 3) := by decide +kernel
theorem dX10_glue_39 : decode cX10_glue 39 = .ok (.iconst 5, 1) := by decide +kernel
theorem dX10_glue_40 : decode cX10_glue 40 = .ok (.iload_n 1, 1) := by decide +kernel
theorem dX10_glue_41 : decode cX10_glue 41 = .ok (.imul, 1) := by decide +kernel
theorem dX10_glue_42 : decode cX10_glue 42 = .ok (.iload_n 2, 1) := by decide +kernel
theorem dX10_glue_43 : decode cX10_glue 43 = .ok (.iadd, 1) := by decide +kernel
theorem dX10_glue_44 : decode cX10_glue 44 = .ok (.iload_n 3, 1) := by decide +kernel
theorem dX10_glue_45 : decode cX10_glue 45 = .ok (.iastore, 1) := by decide +kernel
theorem dX10_glue_46 : decode cX10_glue 46 = .ok (.iload 4, 2) := by decide +kernel
theorem dX10_glue_48 : decode cX10_glue 48 = .ok (.ireturn, 1) := by decide +kernel
set_option maxRecDepth 20000 in
theorem ggX10_work_X10_isSpot : GoodIn wsX10_work wsX10_isSpot := goodIn_r _ [6, 7, 8, 9, 10, 5, 11, 12, 13, 14, 15, 16, 17, 18, 19, 20, 21, 22, 23, 24, 25, 26, 27, 28, 29, 30, 31, 32, 33, 34, 35, 36, 37, 38, 39, 40, 41, 42, 43, 44, 45, 46, 47, 48, 49, 50, 51, 52, 53, 54, 55, 56, 57, 58, 59, 60, 61, 62, 63] (by decide +kernel) (by decide +kernel)
set_option maxRecDepth 20000 in
theorem gX10_work_X10_isSpot : GoodIn wsX10_work (wsV RX10 143 RX10 yX10_isSpot wsX10_isSpot) := goodIn_app (goodIn_of _ (by decide +kernel)) ggX10_work_X10_isSpot
set_option maxRecDepth 20000 in
theorem ggX10_work_X10_in : GoodIn wsX10_work wsX10_in := goodIn_r _ [17] (by decide +kernel) (by decide +kernel)
set_option maxRecDepth 20000 in
theorem gX10_work_X10_in : GoodIn wsX10_work (va_wsS RX10 124 yX10_in wsX10_in) := goodIn_app (goodIn_of _ (by decide +kernel)) ggX10_work_X10_in
theorem dX10_work_0 : decode cX10_work 0 = .ok (.aload_n 0, 1) := by decide +kernel
theorem dX10_work_1 : decode cX10_work 1 = .ok (.iload_n 1, 1) := by decide +kernel
theorem dX10_work_2 : decode cX10_work 2 = .ok (.iload_n 2, 1) := by decide +kernel
theorem dX10_work_3 : decode cX10_work 3 = .ok (.invokevirtual 143, 3) := by decide +kernel
theorem dX10_work_6 : decode cX10_work 6 = .ok (.ifCond .ne 5, 3) := by decide +kernel
theorem dX10_work_9 : decode cX10_work 9 = .ok (.iconst (-1), 1) := by decide +kernel
theorem dX10_work_10 : decode cX10_work 10 = .ok (.ireturn, 1) := by decide +kernel
theorem dX10_work_11 : decode cX10_work 11 = .ok (.iload_n 3, 1) := by decide +kernel
theorem dX10_work_12 : decode cX10_work 12 = .ok (.iconst 0, 1) := by decide +kernel
theorem dX10_work_13 : decode cX10_work 13 = .ok (.sipush 1000, 3) := by decide +kernel
theorem dX10_work_16 : decode cX10_work 16 = .ok (.invokestatic 124, 3) := by decide +kernel
theorem dX10_work_19 : decode cX10_work 19 = .ok (.ifCond .ne 6, 3) := by decide +kernel
theorem dX10_work_22 : decode cX10_work 22 = .ok (.bipush (-2), 2) := by decide +kernel
theorem dX10_work_24 : decode cX10_work 24 = .ok (.ireturn, 1) := by decide +kernel
theorem dX10_work_25 : decode cX10_work 25 = .ok (.aload_n 0, 1) := by decide +kernel
theorem dX10_work_26 : decode cX10_work 26 = .ok (.getfield 25, 3) := by decide +kernel
theorem dX10_work_29 : decode cX10_work 29 = .ok (.iconst 5, 1) := by decide +kernel
theorem dX10_work_30 : decode cX10_work 30 = .ok (.iload_n 1, 1) := by decide +kernel
theorem dX10_work_31 : decode cX10_work 31 = .ok (.imul, 1) := by decide +kernel
theorem dX10_work_32 : decode cX10_work 32 = .ok (.iload_n 2, 1) := by decide +kernel
theorem dX10_work_33 : decode cX10_work 33 = .ok (.iadd, 1) := by decide +kernel
theorem dX10_work_34 : decode cX10_work 34 = .ok (.iaload, 1) := by decide +kernel
theorem dX10_work_35 : decode cX10_work 35 = .ok (.istore 4, 2) := by decide +kernel
theorem dX10_work_37 : decode cX10_work 37 = .ok (.aload_n 0, 1) := by decide +kernel
theorem dX10_work_38 : decode cX10_work 38 = .ok (.getfield 25, 3) := by decide +kernel
theorem dX10_work_41 : decode cX10_work 41 = .ok (.iconst 5, 1) := by decide +kernel
theorem dX10_work_42 : decode cX10_work 42 = .ok (.iload_n 1, 1) := by decide +kernel
theorem dX10_work_43 : decode cX10_work 43 = .ok (.imul, 1) := by decide +kernel
theorem dX10_work_44 : decode cX10_work 44 = .ok (.iload_n 2, 1) := by decide +kernel
theorem dX10_work_45 : decode cX10_work 45 = .ok (.iadd, 1) := by decide +kernel
theorem dX10_work_46 : decode cX10_work 46 = .ok (.iload_n 3, 1) := by decide +kernel
theorem dX10_work_47 : decode cX10_work 47 = .ok (.iastore, 1) := by decide +kernel
theorem dX10_work_48 : decode cX10_work 48 = .ok (.iload 4, 2) := by decide +kernel
theorem dX10_work_50 : decode cX10_work 50 = .ok (.ireturn, 1) := by decide +kernel
theorem dX10_lay_0 : decode cX10_lay 0 = .ok (.aload_n 0, 1) := by decide +kernel
theorem dX10_lay_1 : decode cX10_lay 1 = .ok (.getfield 13, 3) := by decide +kernel
theorem dX10_lay_4 : decode cX10_lay 4 = .ok (.iload_n 1, 1) := by decide +kernel
theorem dX10_lay_5 : decode cX10_lay 5 = .ok (.iaload, 1) := by decide +kernel
theorem dX10_lay_6 : decode cX10_lay 6 = .ok (.istore_n 3, 1) := by decide +kernel
theorem dX10_lay_7 : decode cX10_lay 7 = .ok (.lconst 0, 1) := by decide +kernel
theorem dX10_lay_8 : decode cX10_lay 8 = .ok (.lstore 4, 2) := by decide +kernel
theorem dX10_lay_10 : decode cX10_lay 10 = .ok (.lconst 1, 1) := by decide +kernel
theorem dX10_lay_11 : decode cX10_lay 11 = .ok (.lstore 6, 2) := by decide +kernel
theorem dX10_lay_13 : decode cX10_lay 13 = .ok (.lconst 0, 1) := by decide +kernel
theorem dX10_lay_14 : decode cX10_lay 14 = .ok (.lstore 8, 2) := by decide +kernel
theorem dX10_lay_16 : decode cX10_lay 16 = .ok (.lconst 0, 1) := by decide +kernel
theorem dX10_lay_17 : decode cX10_lay 17 = .ok (.lstore 10, 2) := by decide +kernel
theorem dX10_lay_19 : decode cX10_lay 19 = .ok (.iconst 0, 1) := by decide +kernel
theorem dX10_lay_20 : decode cX10_lay 20 = .ok (.istore 12, 2) := by decide +kernel
theorem dX10_lay_22 : decode cX10_lay 22 = .ok (.iload 12, 2) := by decide +kernel
theorem dX10_lay_24 : decode cX10_lay 24 = .ok (.iload_n 3, 1) := by decide +kernel
theorem dX10_lay_25 : decode cX10_lay 25 = .ok (.if_icmp .ge 142, 3) := by decide +kernel
theorem dX10_lay_28 : decode cX10_lay 28 = .ok (.iconst 5, 1) := by decide +kernel
theorem dX10_lay_29 : decode cX10_lay 29 = .ok (.iload_n 1, 1) := by decide +kernel
theorem dX10_lay_30 : decode cX10_lay 30 = .ok (.imul, 1) := by decide +kernel
theorem dX10_lay_31 : decode cX10_lay 31 = .ok (.iload 12, 2) := by decide +kernel
theorem dX10_lay_33 : decode cX10_lay 33 = .ok (.iadd, 1) := by decide +kernel
theorem dX10_lay_34 : decode cX10_lay 34 = .ok (.istore 13, 2) := by decide +kernel
theorem dX10_lay_36 : decode cX10_lay 36 = .ok (.iload 12, 2) := by decide +kernel
theorem dX10_lay_38 : decode cX10_lay 38 = .ok (.iload_n 2, 1) := by decide +kernel
theorem dX10_lay_39 : decode cX10_lay 39 = .ok (.if_icmp .ne 7, 3) := by decide +kernel
theorem dX10_lay_42 : decode cX10_lay 42 = .ok (.iconst 0, 1) := by decide +kernel
theorem dX10_lay_43 : decode cX10_lay 43 = .ok (.goto 10, 3) := by decide +kernel
theorem dX10_lay_46 : decode cX10_lay 46 = .ok (.aload_n 0, 1) := by decide +kernel
theorem dX10_lay_47 : decode cX10_lay 47 = .ok (.getfield 16, 3) := by decide +kernel
theorem dX10_lay_50 : decode cX10_lay 50 = .ok (.iload 13, 2) := by decide +kernel
theorem dX10_lay_52 : decode cX10_lay 52 = .ok (.iaload, 1) := by decide +kernel
theorem dX10_lay_53 : decode cX10_lay 53 = .ok (.istore 14, 2) := by decide +kernel
theorem dX10_lay_55 : decode cX10_lay 55 = .ok (.aload_n 0, 1) := by decide +kernel
theorem dX10_lay_56 : decode cX10_lay 56 = .ok (.getfield 87, 3) := by decide +kernel
theorem dX10_lay_59 : decode cX10_lay 59 = .ok (.iload 12, 2) := by decide +kernel
theorem dX10_lay_61 : decode cX10_lay 61 = .ok (.lload 4, 2) := by decide +kernel
theorem dX10_lay_63 : decode cX10_lay 63 = .ok (.lastore, 1) := by decide +kernel
theorem dX10_lay_64 : decode cX10_lay 64 = .ok (.aload_n 0, 1) := by decide +kernel
theorem dX10_lay_65 : decode cX10_lay 65 = .ok (.getfield 90, 3) := by decide +kernel
theorem dX10_lay_68 : decode cX10_lay 68 = .ok (.iload 12, 2) := by decide +kernel
theorem dX10_lay_70 : decode cX10_lay 70 = .ok (.lload 6, 2) := by decide +kernel
theorem dX10_lay_72 : decode cX10_lay 72 = .ok (.lastore, 1) := by decide +kernel
theorem dX10_lay_73 : decode cX10_lay 73 = .ok (.lload 8, 2) := by decide +kernel
theorem dX10_lay_75 : decode cX10_lay 75 = .ok (.iload 14, 2) := by decide +kernel
theorem dX10_lay_77 : decode cX10_lay 77 = .ok (.i2l, 1) := by decide +kernel
theorem dX10_lay_78 : decode cX10_lay 78 = .ok (.lload 4, 2) := by decide +kernel
theorem dX10_lay_80 : decode cX10_lay 80 = .ok (.lmul, 1) := by decide +kernel
theorem dX10_lay_81 : decode cX10_lay 81 = .ok (.ladd, 1) := by decide +kernel
theorem dX10_lay_82 : decode cX10_lay 82 = .ok (.lstore 8, 2) := by decide +kernel
theorem dX10_lay_84 : decode cX10_lay 84 = .ok (.lload 10, 2) := by decide +kernel
theorem dX10_lay_86 : decode cX10_lay 86 = .ok (.iload 14, 2) := by decide +kernel
theorem dX10_lay_88 : decode cX10_lay 88 = .ok (.i2l, 1) := by decide +kernel
theorem dX10_lay_89 : decode cX10_lay 89 = .ok (.lload 6, 2) := by decide +kernel
theorem dX10_lay_91 : decode cX10_lay 91 = .ok (.lmul, 1) := by decide +kernel
theorem dX10_lay_92 : decode cX10_lay 92 = .ok (.ladd, 1) := by decide +kernel
theorem dX10_lay_93 : decode cX10_lay 93 = .ok (.lstore 10, 2) := by decide +kernel
theorem dX10_lay_95 : decode cX10_lay 95 = .ok (.aload_n 0, 1) := by decide +kernel
theorem dX10_lay_96 : decode cX10_lay 96 = .ok (.getfield 93, 3) := by decide +kernel
theorem dX10_lay_99 : decode cX10_lay 99 = .ok (.iload 12, 2) := by decide +kernel
theorem dX10_lay_101 : decode cX10_lay 101 = .ok (.lload 8, 2) := by decide +kernel
theorem dX10_lay_103 : decode cX10_lay 103 = .ok (.lastore, 1) := by decide +kernel
theorem dX10_lay_104 : decode cX10_lay 104 = .ok (.aload_n 0, 1) := by decide +kernel
theorem dX10_lay_105 : decode cX10_lay 105 = .ok (.getfield 96, 3) := by decide +kernel
theorem dX10_lay_108 : decode cX10_lay 108 = .ok (.iload 12, 2) := by decide +kernel
theorem dX10_lay_110 : decode cX10_lay 110 = .ok (.lload 10, 2) := by decide +kernel
theorem dX10_lay_112 : decode cX10_lay 112 = .ok (.lastore, 1) := by decide +kernel
theorem dX10_lay_113 : decode cX10_lay 113 = .ok (.aload_n 0, 1) := by decide +kernel
theorem dX10_lay_114 : decode cX10_lay 114 = .ok (.getfield 19, 3) := by decide +kernel
theorem dX10_lay_117 : decode cX10_lay 117 = .ok (.iload 13, 2) := by decide +kernel
theorem dX10_lay_119 : decode cX10_lay 119 = .ok (.iaload, 1) := by decide +kernel
theorem dX10_lay_120 : decode cX10_lay 120 = .ok (.aload_n 0, 1) := by decide +kernel
theorem dX10_lay_121 : decode cX10_lay 121 = .ok (.getfield 22, 3) := by decide +kernel
theorem dX10_lay_124 : decode cX10_lay 124 = .ok (.iload 13, 2) := by decide +kernel
theorem dX10_lay_126 : decode cX10_lay 126 = .ok (.iaload, 1) := by decide +kernel
theorem dX10_lay_127 : decode cX10_lay 127 = .ok (.iadd, 1) := by decide +kernel
theorem dX10_lay_128 : decode cX10_lay 128 = .ok (.istore 15, 2) := by decide +kernel
theorem dX10_lay_130 : decode cX10_lay 130 = .ok (.lload 4, 2) := by decide +kernel
theorem dX10_lay_132 : decode cX10_lay 132 = .ok (.aload_n 0, 1) := by decide +kernel
theorem dX10_lay_133 : decode cX10_lay 133 = .ok (.getfield 19, 3) := by decide +kernel
theorem dX10_lay_136 : decode cX10_lay 136 = .ok (.iload 13, 2) := by decide +kernel
theorem dX10_lay_138 : decode cX10_lay 138 = .ok (.iaload, 1) := by decide +kernel
theorem dX10_lay_139 : decode cX10_lay 139 = .ok (.i2l, 1) := by decide +kernel
theorem dX10_lay_140 : decode cX10_lay 140 = .ok (.lsub, 1) := by decide +kernel
theorem dX10_lay_141 : decode cX10_lay 141 = .ok (.iload 15, 2) := by decide +kernel
theorem dX10_lay_143 : decode cX10_lay 143 = .ok (.i2l, 1) := by decide +kernel
theorem dX10_lay_144 : decode cX10_lay 144 = .ok (.lload 8, 2) := by decide +kernel
theorem dX10_lay_146 : decode cX10_lay 146 = .ok (.lmul, 1) := by decide +kernel
theorem dX10_lay_147 : decode cX10_lay 147 = .ok (.ladd, 1) := by decide +kernel
theorem dX10_lay_148 : decode cX10_lay 148 = .ok (.lstore 4, 2) := by decide +kernel
theorem dX10_lay_150 : decode cX10_lay 150 = .ok (.lload 6, 2) := by decide +kernel
theorem dX10_lay_152 : decode cX10_lay 152 = .ok (.iload 15, 2) := by decide +kernel
theorem dX10_lay_154 : decode cX10_lay 154 = .ok (.i2l, 1) := by decide +kernel
theorem dX10_lay_155 : decode cX10_lay 155 = .ok (.lload 10, 2) := by decide +kernel
theorem dX10_lay_157 : decode cX10_lay 157 = .ok (.lmul, 1) := by decide +kernel
theorem dX10_lay_158 : decode cX10_lay 158 = .ok (.ladd, 1) := by decide +kernel
theorem dX10_lay_159 : decode cX10_lay 159 = .ok (.lstore 6, 2) := by decide +kernel
theorem dX10_lay_161 : decode cX10_lay 161 = .ok (.iinc 12 1, 3) := by decide +kernel
theorem dX10_lay_164 : decode cX10_lay 164 = .ok (.goto (-142), 3) := by decide +kernel
theorem dX10_lay_167 : decode cX10_lay 167 = .ok (.lload 10, 2) := by decide +kernel
theorem dX10_lay_169 : decode cX10_lay 169 = .ok (.lconst 0, 1) := by decide +kernel
theorem dX10_lay_170 : decode cX10_lay 170 = .ok (.lcmp, 1) := by decide +kernel
theorem dX10_lay_171 : decode cX10_lay 171 = .ok (.ifCond .ne 5, 3) := by decide +kernel
theorem dX10_lay_174 : decode cX10_lay 174 = .ok (.iconst 0, 1) := by decide +kernel
theorem dX10_lay_175 : decode cX10_lay 175 = .ok (.ireturn, 1) := by decide +kernel
theorem dX10_lay_176 : decode cX10_lay 176 = .ok (.aload_n 0, 1) := by decide +kernel
theorem dX10_lay_177 : decode cX10_lay 177 = .ok (.lload 10, 2) := by decide +kernel
theorem dX10_lay_179 : decode cX10_lay 179 = .ok (.putfield 147, 3) := by decide +kernel
theorem dX10_lay_182 : decode cX10_lay 182 = .ok (.aload_n 0, 1) := by decide +kernel
theorem dX10_lay_183 : decode cX10_lay 183 = .ok (.lconst 0, 1) := by decide +kernel
theorem dX10_lay_184 : decode cX10_lay 184 = .ok (.putfield 151, 3) := by decide +kernel
theorem dX10_lay_187 : decode cX10_lay 187 = .ok (.iconst 0, 1) := by decide +kernel
theorem dX10_lay_188 : decode cX10_lay 188 = .ok (.istore 12, 2) := by decide +kernel
theorem dX10_lay_190 : decode cX10_lay 190 = .ok (.iload 12, 2) := by decide +kernel
theorem dX10_lay_192 : decode cX10_lay 192 = .ok (.iload_n 3, 1) := by decide +kernel
theorem dX10_lay_193 : decode cX10_lay 193 = .ok (.if_icmp .ge 166, 3) := by decide +kernel
theorem dX10_lay_196 : decode cX10_lay 196 = .ok (.iconst 5, 1) := by decide +kernel
theorem dX10_lay_197 : decode cX10_lay 197 = .ok (.iload_n 1, 1) := by decide +kernel
theorem dX10_lay_198 : decode cX10_lay 198 = .ok (.imul, 1) := by decide +kernel
theorem dX10_lay_199 : decode cX10_lay 199 = .ok (.iload 12, 2) := by decide +kernel
theorem dX10_lay_201 : decode cX10_lay 201 = .ok (.iadd, 1) := by decide +kernel
theorem dX10_lay_202 : decode cX10_lay 202 = .ok (.istore 13, 2) := by decide +kernel
theorem dX10_lay_204 : decode cX10_lay 204 = .ok (.iload 12, 2) := by decide +kernel
theorem dX10_lay_206 : decode cX10_lay 206 = .ok (.iload_n 2, 1) := by decide +kernel
theorem dX10_lay_207 : decode cX10_lay 207 = .ok (.if_icmp .ne 7, 3) := by decide +kernel
theorem dX10_lay_210 : decode cX10_lay 210 = .ok (.iconst 0, 1) := by decide +kernel
theorem dX10_lay_211 : decode cX10_lay 211 = .ok (.goto 10, 3) := by decide +kernel
theorem dX10_lay_214 : decode cX10_lay 214 = .ok (.aload_n 0, 1) := by decide +kernel
theorem dX10_lay_215 : decode cX10_lay 215 = .ok (.getfield 16, 3) := by decide +kernel
theorem dX10_lay_218 : decode cX10_lay 218 = .ok (.iload 13, 2) := by decide +kernel
theorem dX10_lay_220 : decode cX10_lay 220 = .ok (.iaload, 1) := by decide +kernel
theorem dX10_lay_221 : decode cX10_lay 221 = .ok (.istore 14, 2) := by decide +kernel
theorem dX10_lay_223 : decode cX10_lay 223 = .ok (.aload_n 0, 1) := by decide +kernel
theorem dX10_lay_224 : decode cX10_lay 224 = .ok (.getfield 77, 3) := by decide +kernel
theorem dX10_lay_227 : decode cX10_lay 227 = .ok (.iload 12, 2) := by decide +kernel
theorem dX10_lay_229 : decode cX10_lay 229 = .ok (.aload_n 0, 1) := by decide +kernel
theorem dX10_lay_230 : decode cX10_lay 230 = .ok (.getfield 87, 3) := by decide +kernel
theorem dX10_lay_233 : decode cX10_lay 233 = .ok (.iload 12, 2) := by decide +kernel
theorem dX10_lay_235 : decode cX10_lay 235 = .ok (.laload, 1) := by decide +kernel
theorem dX10_lay_236 : decode cX10_lay 236 = .ok (.aload_n 0, 1) := by decide +kernel
theorem dX10_lay_237 : decode cX10_lay 237 = .ok (.getfield 147, 3) := by decide +kernel
theorem dX10_lay_240 : decode cX10_lay 240 = .ok (.lmul, 1) := by decide +kernel
theorem dX10_lay_241 : decode cX10_lay 241 = .ok (.aload_n 0, 1) := by decide +kernel
theorem dX10_lay_242 : decode cX10_lay 242 = .ok (.getfield 90, 3) := by decide +kernel
theorem dX10_lay_245 : decode cX10_lay 245 = .ok (.iload 12, 2) := by decide +kernel
theorem dX10_lay_247 : decode cX10_lay 247 = .ok (.laload, 1) := by decide +kernel
theorem dX10_lay_248 : decode cX10_lay 248 = .ok (.lconst 1, 1) := by decide +kernel
theorem dX10_lay_249 : decode cX10_lay 249 = .ok (.lload 8, 2) := by decide +kernel
theorem dX10_lay_251 : decode cX10_lay 251 = .ok (.lsub, 1) := by decide +kernel
theorem dX10_lay_252 : decode cX10_lay 252 = .ok (.lmul, 1) := by decide +kernel
theorem dX10_lay_253 : decode cX10_lay 253 = .ok (.ladd, 1) := by decide +kernel
theorem dX10_lay_254 : decode cX10_lay 254 = .ok (.lastore, 1) := by decide +kernel
theorem dX10_lay_255 : decode cX10_lay 255 = .ok (.aload_n 0, 1) := by decide +kernel
theorem dX10_lay_256 : decode cX10_lay 256 = .ok (.getfield 81, 3) := by decide +kernel
theorem dX10_lay_259 : decode cX10_lay 259 = .ok (.iload 12, 2) := by decide +kernel
theorem dX10_lay_261 : decode cX10_lay 261 = .ok (.iload 14, 2) := by decide +kernel
theorem dX10_lay_263 : decode cX10_lay 263 = .ok (.i2l, 1) := by decide +kernel
theorem dX10_lay_264 : decode cX10_lay 264 = .ok (.aload_n 0, 1) := by decide +kernel
theorem dX10_lay_265 : decode cX10_lay 265 = .ok (.getfield 77, 3) := by decide +kernel
theorem dX10_lay_268 : decode cX10_lay 268 = .ok (.iload 12, 2) := by decide +kernel
theorem dX10_lay_270 : decode cX10_lay 270 = .ok (.laload, 1) := by decide +kernel
theorem dX10_lay_271 : decode cX10_lay 271 = .ok (.lmul, 1) := by decide +kernel
theorem dX10_lay_272 : decode cX10_lay 272 = .ok (.lastore, 1) := by decide +kernel
theorem dX10_lay_273 : decode cX10_lay 273 = .ok (.aload_n 0, 1) := by decide +kernel
theorem dX10_lay_274 : decode cX10_lay 274 = .ok (.getfield 84, 3) := by decide +kernel
theorem dX10_lay_277 : decode cX10_lay 277 = .ok (.iload 12, 2) := by decide +kernel
theorem dX10_lay_279 : decode cX10_lay 279 = .ok (.aload_n 0, 1) := by decide +kernel
theorem dX10_lay_280 : decode cX10_lay 280 = .ok (.getfield 147, 3) := by decide +kernel
theorem dX10_lay_283 : decode cX10_lay 283 = .ok (.aload_n 0, 1) := by decide +kernel
theorem dX10_lay_284 : decode cX10_lay 284 = .ok (.getfield 93, 3) := by decide +kernel
theorem dX10_lay_287 : decode cX10_lay 287 = .ok (.iload 12, 2) := by decide +kernel
theorem dX10_lay_289 : decode cX10_lay 289 = .ok (.laload, 1) := by decide +kernel
theorem dX10_lay_290 : decode cX10_lay 290 = .ok (.aload_n 0, 1) := by decide +kernel
theorem dX10_lay_291 : decode cX10_lay 291 = .ok (.getfield 147, 3) := by decide +kernel
theorem dX10_lay_294 : decode cX10_lay 294 = .ok (.lmul, 1) := by decide +kernel
theorem dX10_lay_295 : decode cX10_lay 295 = .ok (.lsub, 1) := by decide +kernel
theorem dX10_lay_296 : decode cX10_lay 296 = .ok (.aload_n 0, 1) := by decide +kernel
theorem dX10_lay_297 : decode cX10_lay 297 = .ok (.getfield 96, 3) := by decide +kernel
theorem dX10_lay_300 : decode cX10_lay 300 = .ok (.iload 12, 2) := by decide +kernel
theorem dX10_lay_302 : decode cX10_lay 302 = .ok (.laload, 1) := by decide +kernel
theorem dX10_lay_303 : decode cX10_lay 303 = .ok (.lconst 1, 1) := by decide +kernel
theorem dX10_lay_304 : decode cX10_lay 304 = .ok (.lload 8, 2) := by decide +kernel
theorem dX10_lay_306 : decode cX10_lay 306 = .ok (.lsub, 1) := by decide +kernel
theorem dX10_lay_307 : decode cX10_lay 307 = .ok (.lmul, 1) := by decide +kernel
theorem dX10_lay_308 : decode cX10_lay 308 = .ok (.lsub, 1) := by decide +kernel
theorem dX10_lay_309 : decode cX10_lay 309 = .ok (.lastore, 1) := by decide +kernel
theorem dX10_lay_310 : decode cX10_lay 310 = .ok (.aload_n 0, 1) := by decide +kernel
theorem dX10_lay_311 : decode cX10_lay 311 = .ok (.dup, 1) := by decide +kernel
theorem dX10_lay_312 : decode cX10_lay 312 = .ok (.getfield 151, 3) := by decide +kernel
theorem dX10_lay_315 : decode cX10_lay 315 = .ok (.iload 12, 2) := by decide +kernel
theorem dX10_lay_317 : decode cX10_lay 317 = .ok (.iload_n 3, 1) := by decide +kernel
theorem dX10_lay_318 : decode cX10_lay 318 = .ok (.iconst 1, 1) := by decide +kernel
theorem dX10_lay_319 : decode cX10_lay 319 = .ok (.isub, 1) := by decide +kernel
theorem dX10_lay_320 : decode cX10_lay 320 = .ok (.if_icmp .ge 22, 3) := by decide +kernel
theorem dX10_lay_323 : decode cX10_lay 323 = .ok (.aload_n 0, 1) := by decide +kernel
theorem dX10_lay_324 : decode cX10_lay 324 = .ok (.getfield 19, 3) := by decide +kernel
theorem dX10_lay_327 : decode cX10_lay 327 = .ok (.iload 13, 2) := by decide +kernel
theorem dX10_lay_329 : decode cX10_lay 329 = .ok (.iaload, 1) := by decide +kernel
theorem dX10_lay_330 : decode cX10_lay 330 = .ok (.i2l, 1) := by decide +kernel
theorem dX10_lay_331 : decode cX10_lay 331 = .ok (.aload_n 0, 1) := by decide +kernel
theorem dX10_lay_332 : decode cX10_lay 332 = .ok (.getfield 84, 3) := by decide +kernel
theorem dX10_lay_335 : decode cX10_lay 335 = .ok (.iload 12, 2) := by decide +kernel
theorem dX10_lay_337 : decode cX10_lay 337 = .ok (.laload, 1) := by decide +kernel
theorem dX10_lay_338 : decode cX10_lay 338 = .ok (.lmul, 1) := by decide +kernel
theorem dX10_lay_339 : decode cX10_lay 339 = .ok (.goto 10, 3) := by decide +kernel
theorem dX10_lay_342 : decode cX10_lay 342 = .ok (.aload_n 0, 1) := by decide +kernel
theorem dX10_lay_343 : decode cX10_lay 343 = .ok (.getfield 77, 3) := by decide +kernel
theorem dX10_lay_346 : decode cX10_lay 346 = .ok (.iload 12, 2) := by decide +kernel
theorem dX10_lay_348 : decode cX10_lay 348 = .ok (.laload, 1) := by decide +kernel
theorem dX10_lay_349 : decode cX10_lay 349 = .ok (.ladd, 1) := by decide +kernel
theorem dX10_lay_350 : decode cX10_lay 350 = .ok (.putfield 151, 3) := by decide +kernel
theorem dX10_lay_353 : decode cX10_lay 353 = .ok (.iinc 12 1, 3) := by decide +kernel
theorem dX10_lay_356 : decode cX10_lay 356 = .ok (.goto (-166), 3) := by decide +kernel
theorem dX10_lay_359 : decode cX10_lay 359 = .ok (.iconst 1, 1) := by decide +kernel
theorem dX10_lay_360 : decode cX10_lay 360 = .ok (.ireturn, 1) := by decide +kernel
theorem dX10_size_0 : decode cX10_size 0 = .ok (.lload_n 0, 1) := by decide +kernel
theorem dX10_size_1 : decode cX10_size 1 = .ok (.lconst 0, 1) := by decide +kernel
theorem dX10_size_2 : decode cX10_size 2 = .ok (.lcmp, 1) := by decide +kernel
theorem dX10_size_3 : decode cX10_size 3 = .ok (.ifCond .ge 8, 3) := by decide +kernel
theorem dX10_size_6 : decode cX10_size 6 = .ok (.lload_n 0, 1) := by decide +kernel
theorem dX10_size_7 : decode cX10_size 7 = .ok (.lneg, 1) := by decide +kernel
theorem dX10_size_8 : decode cX10_size 8 = .ok (.goto 4, 3) := by decide +kernel
theorem dX10_size_11 : decode cX10_size 11 = .ok (.lload_n 0, 1) := by decide +kernel
theorem dX10_size_12 : decode cX10_size 12 = .ok (.lreturn, 1) := by decide +kernel
set_option maxRecDepth 20000 in
theorem ggX10_common_X10_size : GoodIn wsX10_common wsX10_size := goodIn_r _ [4] (by decide +kernel) (by decide +kernel)
set_option maxRecDepth 20000 in
theorem gX10_common_X10_size : GoodIn wsX10_common (va_wsS RX10 154 yX10_size wsX10_size) := goodIn_app (goodIn_of _ (by decide +kernel)) ggX10_common_X10_size
theorem dX10_common_0 : decode cX10_common 0 = .ok (.lload_n 0, 1) := by decide +kernel
theorem dX10_common_1 : decode cX10_common 1 = .ok (.invokestatic 154, 3) := by decide +kernel
theorem dX10_common_4 : decode cX10_common 4 = .ok (.lstore 4, 2) := by decide +kernel
theorem dX10_common_6 : decode cX10_common 6 = .ok (.lload_n 2, 1) := by decide +kernel
theorem dX10_common_7 : decode cX10_common 7 = .ok (.invokestatic 154, 3) := by decide +kernel
theorem dX10_common_10 : decode cX10_common 10 = .ok (.lstore 6, 2) := by decide +kernel
theorem dX10_common_12 : decode cX10_common 12 = .ok (.lload 6, 2) := by decide +kernel
theorem dX10_common_14 : decode cX10_common 14 = .ok (.lconst 0, 1) := by decide +kernel
theorem dX10_common_15 : decode cX10_common 15 = .ok (.lcmp, 1) := by decide +kernel
theorem dX10_common_16 : decode cX10_common 16 = .ok (.ifCond .eq 21, 3) := by decide +kernel
theorem dX10_common_19 : decode cX10_common 19 = .ok (.lload 4, 2) := by decide +kernel
theorem dX10_common_21 : decode cX10_common 21 = .ok (.lload 6, 2) := by decide +kernel
theorem dX10_common_23 : decode cX10_common 23 = .ok (.lrem, 1) := by decide +kernel
theorem dX10_common_24 : decode cX10_common 24 = .ok (.lstore 8, 2) := by decide +kernel
theorem dX10_common_26 : decode cX10_common 26 = .ok (.lload 6, 2) := by decide +kernel
theorem dX10_common_28 : decode cX10_common 28 = .ok (.lstore 4, 2) := by decide +kernel
theorem dX10_common_30 : decode cX10_common 30 = .ok (.lload 8, 2) := by decide +kernel
theorem dX10_common_32 : decode cX10_common 32 = .ok (.lstore 6, 2) := by decide +kernel
theorem dX10_common_34 : decode cX10_common 34 = .ok (.goto (-22), 3) := by decide +kernel
theorem dX10_common_37 : decode cX10_common 37 = .ok (.lload 4, 2) := by decide +kernel
theorem dX10_common_39 : decode cX10_common 39 = .ok (.lreturn, 1) := by decide +kernel
set_option maxRecDepth 20000 in
theorem ggX10_term_X10_common : GoodIn wsX10_term wsX10_common := goodIn_r _ [4, 5, 6, 3, 7] (by decide +kernel) (by decide +kernel)
set_option maxRecDepth 20000 in
theorem gX10_term_X10_common : GoodIn wsX10_term (va_wsS RX10 158 yX10_common wsX10_common) := goodIn_app (goodIn_of _ (by decide +kernel)) ggX10_term_X10_common
theorem dX10_term_0 : decode cX10_term 0 = .ok (.lload_n 0, 1) := by decide +kernel
theorem dX10_term_1 : decode cX10_term 1 = .ok (.lload_n 2, 1) := by decide +kernel
theorem dX10_term_2 : decode cX10_term 2 = .ok (.invokestatic 158, 3) := by decide +kernel
theorem dX10_term_5 : decode cX10_term 5 = .ok (.lstore 5, 2) := by decide +kernel
theorem dX10_term_7 : decode cX10_term 7 = .ok (.iload 4, 2) := by decide +kernel
theorem dX10_term_9 : decode cX10_term 9 = .ok (.ifCond .ne 10, 3) := by decide +kernel
theorem dX10_term_12 : decode cX10_term 12 = .ok (.lload_n 0, 1) := by decide +kernel
theorem dX10_term_13 : decode cX10_term 13 = .ok (.lload 5, 2) := by decide +kernel
theorem dX10_term_15 : decode cX10_term 15 = .ok (.ldiv, 1) := by decide +kernel
theorem dX10_term_16 : decode cX10_term 16 = .ok (.goto 7, 3) := by decide +kernel
theorem dX10_term_19 : decode cX10_term 19 = .ok (.lload_n 2, 1) := by decide +kernel
theorem dX10_term_20 : decode cX10_term 20 = .ok (.lload 5, 2) := by decide +kernel
theorem dX10_term_22 : decode cX10_term 22 = .ok (.ldiv, 1) := by decide +kernel
theorem dX10_term_23 : decode cX10_term 23 = .ok (.lstore 7, 2) := by decide +kernel
theorem dX10_term_25 : decode cX10_term 25 = .ok (.lload_n 2, 1) := by decide +kernel
theorem dX10_term_26 : decode cX10_term 26 = .ok (.lconst 0, 1) := by decide +kernel
theorem dX10_term_27 : decode cX10_term 27 = .ok (.lcmp, 1) := by decide +kernel
theorem dX10_term_28 : decode cX10_term 28 = .ok (.ifCond .ge 9, 3) := by decide +kernel
theorem dX10_term_31 : decode cX10_term 31 = .ok (.lload 7, 2) := by decide +kernel
theorem dX10_term_33 : decode cX10_term 33 = .ok (.lneg, 1) := by decide +kernel
theorem dX10_term_34 : decode cX10_term 34 = .ok (.goto 5, 3) := by decide +kernel
theorem dX10_term_37 : decode cX10_term 37 = .ok (.lload 7, 2) := by decide +kernel
theorem dX10_term_39 : decode cX10_term 39 = .ok (.lreturn, 1) := by decide +kernel
set_option maxRecDepth 20000 in
theorem ggX10_pull_X10_isSpot : GoodIn wsX10_pull wsX10_isSpot := goodIn_r _ [13, 6, 14, 15, 16, 12, 17, 18, 19, 20, 21, 22, 23, 45, 46, 47, 48, 49, 50, 51, 52, 53, 54, 55, 56, 57, 58, 59, 60, 61, 62, 63, 64, 65, 66, 67, 68, 69, 70, 71, 72, 73, 74, 75, 76, 77, 78, 79, 80, 81, 82, 83, 84, 85, 86, 87, 88, 89, 90] (by decide +kernel) (by decide +kernel)
set_option maxRecDepth 20000 in
theorem gX10_pull_X10_isSpot : GoodIn wsX10_pull (wsV RX10 143 RX10 yX10_isSpot wsX10_isSpot) := goodIn_app (goodIn_of _ (by decide +kernel)) ggX10_pull_X10_isSpot
set_option maxRecDepth 20000 in
theorem ggX10_pull_X10_in : GoodIn wsX10_pull wsX10_in := goodIn_r _ [23] (by decide +kernel) (by decide +kernel)
set_option maxRecDepth 20000 in
theorem gX10_pull_X10_in : GoodIn wsX10_pull (va_wsS RX10 124 yX10_in wsX10_in) := goodIn_app (goodIn_of _ (by decide +kernel)) ggX10_pull_X10_in
set_option maxRecDepth 20000 in
theorem ggX10_pull_X10_lay : GoodIn wsX10_pull wsX10_lay := goodIn_r _ [27, 6, 28, 29, 30, 31, 32, 33, 34, 8, 35, 4, 5, 7, 45, 46, 47, 48, 49, 50, 51, 52, 53, 54, 55, 56, 57, 58, 59, 60, 61, 62, 63, 64, 65, 66, 67, 68, 69, 70, 71, 72, 73, 74, 75, 76, 77, 78, 79, 80, 81, 82, 83, 84, 85, 86, 87, 88, 89, 90] (by decide +kernel) (by decide +kernel)
set_option maxRecDepth 20000 in
theorem gX10_pull_X10_lay : GoodIn wsX10_pull (wsV RX10 166 RX10 yX10_lay wsX10_lay) := goodIn_app (goodIn_of _ (by decide +kernel)) ggX10_pull_X10_lay
set_option maxRecDepth 20000 in
theorem ggX10_pull_X10_term : GoodIn wsX10_pull wsX10_term := goodIn_r _ [38, 39, 40, 12, 41, 42, 43, 44] (by decide +kernel) (by decide +kernel)
set_option maxRecDepth 20000 in
theorem gX10_pull_X10_term : GoodIn wsX10_pull (va_wsS RX10 171 yX10_term wsX10_term) := goodIn_app (goodIn_of _ (by decide +kernel)) ggX10_pull_X10_term
theorem dX10_pull_0 : decode cX10_pull 0 = .ok (.aload_n 0, 1) := by decide +kernel
theorem dX10_pull_1 : decode cX10_pull 1 = .ok (.iload_n 1, 1) := by decide +kernel
theorem dX10_pull_2 : decode cX10_pull 2 = .ok (.iload_n 2, 1) := by decide +kernel
theorem dX10_pull_3 : decode cX10_pull 3 = .ok (.invokevirtual 143, 3) := by decide +kernel
theorem dX10_pull_6 : decode cX10_pull 6 = .ok (.ifCond .ne 7, 3) := by decide +kernel
theorem dX10_pull_9 : decode cX10_pull 9 = .ok (.ldc2_w 162, 3) := by decide +kernel
theorem dX10_pull_12 : decode cX10_pull 12 = .ok (.lreturn, 1) := by decide +kernel
theorem dX10_pull_13 : decode cX10_pull 13 = .ok (.iload_n 3, 1) := by decide +kernel
theorem dX10_pull_14 : decode cX10_pull 14 = .ok (.iconst 0, 1) := by decide +kernel
theorem dX10_pull_15 : decode cX10_pull 15 = .ok (.iconst 2, 1) := by decide +kernel
theorem dX10_pull_16 : decode cX10_pull 16 = .ok (.invokestatic 124, 3) := by decide +kernel
theorem dX10_pull_19 : decode cX10_pull 19 = .ok (.ifCond .eq 13, 3) := by decide +kernel
theorem dX10_pull_22 : decode cX10_pull 22 = .ok (.iload 4, 2) := by decide +kernel
theorem dX10_pull_24 : decode cX10_pull 24 = .ok (.iconst 0, 1) := by decide +kernel
theorem dX10_pull_25 : decode cX10_pull 25 = .ok (.iconst 1, 1) := by decide +kernel
theorem dX10_pull_26 : decode cX10_pull 26 = .ok (.invokestatic 124, 3) := by decide +kernel
theorem dX10_pull_29 : decode cX10_pull 29 = .ok (.ifCond .ne 7, 3) := by decide +kernel
theorem dX10_pull_32 : decode cX10_pull 32 = .ok (.ldc2_w 164, 3) := by decide +kernel
theorem dX10_pull_35 : decode cX10_pull 35 = .ok (.lreturn, 1) := by decide +kernel
theorem dX10_pull_36 : decode cX10_pull 36 = .ok (.aload_n 0, 1) := by decide +kernel
theorem dX10_pull_37 : decode cX10_pull 37 = .ok (.iload_n 1, 1) := by decide +kernel
theorem dX10_pull_38 : decode cX10_pull 38 = .ok (.bipush (-6), 2) := by decide +kernel
theorem dX10_pull_40 : decode cX10_pull 40 = .ok (.invokevirtual 166, 3) := by decide +kernel
theorem dX10_pull_43 : decode cX10_pull 43 = .ok (.ifCond .ne 7, 3) := by decide +kernel
theorem dX10_pull_46 : decode cX10_pull 46 = .ok (.ldc2_w 169, 3) := by decide +kernel
theorem dX10_pull_49 : decode cX10_pull 49 = .ok (.lreturn, 1) := by decide +kernel
theorem dX10_pull_50 : decode cX10_pull 50 = .ok (.iload_n 3, 1) := by decide +kernel
theorem dX10_pull_51 : decode cX10_pull 51 = .ok (.ifCond .ne 12, 3) := by decide +kernel
theorem dX10_pull_54 : decode cX10_pull 54 = .ok (.aload_n 0, 1) := by decide +kernel
theorem dX10_pull_55 : decode cX10_pull 55 = .ok (.getfield 77, 3) := by decide +kernel
theorem dX10_pull_58 : decode cX10_pull 58 = .ok (.iload_n 2, 1) := by decide +kernel
theorem dX10_pull_59 : decode cX10_pull 59 = .ok (.laload, 1) := by decide +kernel
theorem dX10_pull_60 : decode cX10_pull 60 = .ok (.goto 39, 3) := by decide +kernel
theorem dX10_pull_63 : decode cX10_pull 63 = .ok (.iload_n 3, 1) := by decide +kernel
theorem dX10_pull_64 : decode cX10_pull 64 = .ok (.iconst 1, 1) := by decide +kernel
theorem dX10_pull_65 : decode cX10_pull 65 = .ok (.if_icmp .ne 12, 3) := by decide +kernel
theorem dX10_pull_68 : decode cX10_pull 68 = .ok (.aload_n 0, 1) := by decide +kernel
theorem dX10_pull_69 : decode cX10_pull 69 = .ok (.getfield 81, 3) := by decide +kernel
theorem dX10_pull_72 : decode cX10_pull 72 = .ok (.iload_n 2, 1) := by decide +kernel
theorem dX10_pull_73 : decode cX10_pull 73 = .ok (.laload, 1) := by decide +kernel
theorem dX10_pull_74 : decode cX10_pull 74 = .ok (.goto 25, 3) := by decide +kernel
theorem dX10_pull_77 : decode cX10_pull 77 = .ok (.iload_n 2, 1) := by decide +kernel
theorem dX10_pull_78 : decode cX10_pull 78 = .ok (.aload_n 0, 1) := by decide +kernel
theorem dX10_pull_79 : decode cX10_pull 79 = .ok (.getfield 13, 3) := by decide +kernel
theorem dX10_pull_82 : decode cX10_pull 82 = .ok (.iload_n 1, 1) := by decide +kernel
theorem dX10_pull_83 : decode cX10_pull 83 = .ok (.iaload, 1) := by decide +kernel
theorem dX10_pull_84 : decode cX10_pull 84 = .ok (.iconst 1, 1) := by decide +kernel
theorem dX10_pull_85 : decode cX10_pull 85 = .ok (.isub, 1) := by decide +kernel
theorem dX10_pull_86 : decode cX10_pull 86 = .ok (.if_icmp .ne 7, 3) := by decide +kernel
theorem dX10_pull_89 : decode cX10_pull 89 = .ok (.lconst 0, 1) := by decide +kernel
theorem dX10_pull_90 : decode cX10_pull 90 = .ok (.goto 9, 3) := by decide +kernel
theorem dX10_pull_93 : decode cX10_pull 93 = .ok (.aload_n 0, 1) := by decide +kernel
theorem dX10_pull_94 : decode cX10_pull 94 = .ok (.getfield 84, 3) := by decide +kernel
theorem dX10_pull_97 : decode cX10_pull 97 = .ok (.iload_n 2, 1) := by decide +kernel
theorem dX10_pull_98 : decode cX10_pull 98 = .ok (.laload, 1) := by decide +kernel
theorem dX10_pull_99 : decode cX10_pull 99 = .ok (.lstore 5, 2) := by decide +kernel
theorem dX10_pull_101 : decode cX10_pull 101 = .ok (.lload 5, 2) := by decide +kernel
theorem dX10_pull_103 : decode cX10_pull 103 = .ok (.aload_n 0, 1) := by decide +kernel
theorem dX10_pull_104 : decode cX10_pull 104 = .ok (.getfield 147, 3) := by decide +kernel
theorem dX10_pull_107 : decode cX10_pull 107 = .ok (.iload 4, 2) := by decide +kernel
theorem dX10_pull_109 : decode cX10_pull 109 = .ok (.invokestatic 171, 3) := by decide +kernel
theorem dX10_pull_112 : decode cX10_pull 112 = .ok (.lreturn, 1) := by decide +kernel
set_option maxRecDepth 20000 in
theorem ggX10_give_X10_isLap : GoodIn wsX10_give wsX10_isLap := goodIn_r _ [10, 11, 12, 13, 9, 14, 15, 16, 17, 41, 42, 43, 44, 45, 46, 47, 48, 49, 50, 51, 52, 53, 54, 55, 56, 57, 58, 59, 60, 61, 62, 63, 64, 65, 66, 67, 68, 69, 70, 71, 72, 73, 74, 75, 76, 77, 78, 79, 80, 81, 82, 83, 84, 85, 86] (by decide +kernel) (by decide +kernel)
set_option maxRecDepth 20000 in
theorem gX10_give_X10_isLap : GoodIn wsX10_give (wsV RX10 140 RX10 yX10_isLap wsX10_isLap) := goodIn_app (goodIn_of _ (by decide +kernel)) ggX10_give_X10_isLap
set_option maxRecDepth 20000 in
theorem ggX10_give_X10_in : GoodIn wsX10_give wsX10_in := goodIn_r _ [17] (by decide +kernel) (by decide +kernel)
set_option maxRecDepth 20000 in
theorem gX10_give_X10_in : GoodIn wsX10_give (va_wsS RX10 124 yX10_in wsX10_in) := goodIn_app (goodIn_of _ (by decide +kernel)) ggX10_give_X10_in
set_option maxRecDepth 20000 in
theorem ggX10_give_X10_lay : GoodIn wsX10_give wsX10_lay := goodIn_r _ [21, 11, 22, 23, 24, 25, 26, 27, 28, 4, 3, 29, 30, 31, 41, 42, 43, 44, 45, 46, 47, 48, 49, 50, 51, 52, 53, 54, 55, 56, 57, 58, 59, 60, 61, 62, 63, 64, 65, 66, 67, 68, 69, 70, 71, 72, 73, 74, 75, 76, 77, 78, 79, 80, 81, 82, 83, 84, 85, 86] (by decide +kernel) (by decide +kernel)
set_option maxRecDepth 20000 in
theorem gX10_give_X10_lay : GoodIn wsX10_give (wsV RX10 166 RX10 yX10_lay wsX10_lay) := goodIn_app (goodIn_of _ (by decide +kernel)) ggX10_give_X10_lay
set_option maxRecDepth 20000 in
theorem ggX10_give_X10_term : GoodIn wsX10_give wsX10_term := goodIn_r _ [34, 35, 36, 9, 37, 38, 39, 40] (by decide +kernel) (by decide +kernel)
set_option maxRecDepth 20000 in
theorem gX10_give_X10_term : GoodIn wsX10_give (va_wsS RX10 171 yX10_term wsX10_term) := goodIn_app (goodIn_of _ (by decide +kernel)) ggX10_give_X10_term
theorem dX10_give_0 : decode cX10_give 0 = .ok (.aload_n 0, 1) := by decide +kernel
theorem dX10_give_1 : decode cX10_give 1 = .ok (.iload_n 1, 1) := by decide +kernel
theorem dX10_give_2 : decode cX10_give 2 = .ok (.invokevirtual 140, 3) := by decide +kernel
theorem dX10_give_5 : decode cX10_give 5 = .ok (.ifCond .ne 7, 3) := by decide +kernel
theorem dX10_give_8 : decode cX10_give 8 = .ok (.ldc2_w 162, 3) := by decide +kernel
theorem dX10_give_11 : decode cX10_give 11 = .ok (.lreturn, 1) := by decide +kernel
theorem dX10_give_12 : decode cX10_give 12 = .ok (.iload_n 2, 1) := by decide +kernel
theorem dX10_give_13 : decode cX10_give 13 = .ok (.iconst 0, 1) := by decide +kernel
theorem dX10_give_14 : decode cX10_give 14 = .ok (.iconst 1, 1) := by decide +kernel
theorem dX10_give_15 : decode cX10_give 15 = .ok (.invokestatic 124, 3) := by decide +kernel
theorem dX10_give_18 : decode cX10_give 18 = .ok (.ifCond .ne 7, 3) := by decide +kernel
theorem dX10_give_21 : decode cX10_give 21 = .ok (.ldc2_w 164, 3) := by decide +kernel
theorem dX10_give_24 : decode cX10_give 24 = .ok (.lreturn, 1) := by decide +kernel
theorem dX10_give_25 : decode cX10_give 25 = .ok (.aload_n 0, 1) := by decide +kernel
theorem dX10_give_26 : decode cX10_give 26 = .ok (.iload_n 1, 1) := by decide +kernel
theorem dX10_give_27 : decode cX10_give 27 = .ok (.bipush (-6), 2) := by decide +kernel
theorem dX10_give_29 : decode cX10_give 29 = .ok (.invokevirtual 166, 3) := by decide +kernel
theorem dX10_give_32 : decode cX10_give 32 = .ok (.ifCond .eq 18, 3) := by decide +kernel
theorem dX10_give_35 : decode cX10_give 35 = .ok (.aload_n 0, 1) := by decide +kernel
theorem dX10_give_36 : decode cX10_give 36 = .ok (.getfield 151, 3) := by decide +kernel
theorem dX10_give_39 : decode cX10_give 39 = .ok (.aload_n 0, 1) := by decide +kernel
theorem dX10_give_40 : decode cX10_give 40 = .ok (.getfield 147, 3) := by decide +kernel
theorem dX10_give_43 : decode cX10_give 43 = .ok (.iload_n 2, 1) := by decide +kernel
theorem dX10_give_44 : decode cX10_give 44 = .ok (.invokestatic 171, 3) := by decide +kernel
theorem dX10_give_47 : decode cX10_give 47 = .ok (.goto 6, 3) := by decide +kernel
theorem dX10_give_50 : decode cX10_give 50 = .ok (.ldc2_w 169, 3) := by decide +kernel
theorem dX10_give_53 : decode cX10_give 53 = .ok (.lreturn, 1) := by decide +kernel
set_option maxRecDepth 20000 in
theorem ggX10_hardest_X10_isLap : GoodIn wsX10_hardest wsX10_isLap := goodIn_r _ [8, 1, 9, 10, 7, 11, 12, 13, 14, 32, 33, 34, 35, 36, 37, 38, 39, 40, 41, 42, 43, 44, 45, 46, 47, 48, 49, 50, 51, 52, 53, 54, 55, 56, 57, 58, 59, 60, 61, 62, 63, 64, 65, 66, 67, 68, 69, 70, 71, 72, 73, 74, 75, 76, 77] (by decide +kernel) (by decide +kernel)
set_option maxRecDepth 20000 in
theorem gX10_hardest_X10_isLap : GoodIn wsX10_hardest (wsV RX10 140 RX10 yX10_isLap wsX10_isLap) := goodIn_app (goodIn_of _ (by decide +kernel)) ggX10_hardest_X10_isLap
set_option maxRecDepth 20000 in
theorem ggX10_hardest_X10_lay : GoodIn wsX10_hardest wsX10_lay := goodIn_r _ [18, 1, 2, 19, 20, 21, 22, 23, 24, 25, 26, 27, 3, 28, 32, 33, 34, 35, 36, 37, 38, 39, 40, 41, 42, 43, 44, 45, 46, 47, 48, 49, 50, 51, 52, 53, 54, 55, 56, 57, 58, 59, 60, 61, 62, 63, 64, 65, 66, 67, 68, 69, 70, 71, 72, 73, 74, 75, 76, 77] (by decide +kernel) (by decide +kernel)
set_option maxRecDepth 20000 in
theorem gX10_hardest_X10_lay : GoodIn wsX10_hardest (wsV RX10 166 RX10 yX10_lay wsX10_lay) := goodIn_app (goodIn_of _ (by decide +kernel)) ggX10_hardest_X10_lay
set_option maxRecDepth 20000 in
theorem ggX10_hardest_X10_size : GoodIn wsX10_hardest wsX10_size := goodIn_r _ [31] (by decide +kernel) (by decide +kernel)
set_option maxRecDepth 20000 in
theorem gX10_hardest_X10_size : GoodIn wsX10_hardest (va_wsS RX10 154 yX10_size wsX10_size) := goodIn_app (goodIn_of _ (by decide +kernel)) ggX10_hardest_X10_size
theorem dX10_hardest_0 : decode cX10_hardest 0 = .ok (.aload_n 0, 1) := by decide +kernel
theorem dX10_hardest_1 : decode cX10_hardest 1 = .ok (.iload_n 1, 1) := by decide +kernel
theorem dX10_hardest_2 : decode cX10_hardest 2 = .ok (.invokevirtual 140, 3) := by decide +kernel
theorem dX10_hardest_5 : decode cX10_hardest 5 = .ok (.ifCond .ne 5, 3) := by decide +kernel
theorem dX10_hardest_8 : decode cX10_hardest 8 = .ok (.iconst (-1), 1) := by decide +kernel
theorem dX10_hardest_9 : decode cX10_hardest 9 = .ok (.ireturn, 1) := by decide +kernel
theorem dX10_hardest_10 : decode cX10_hardest 10 = .ok (.aload_n 0, 1) := by decide +kernel
theorem dX10_hardest_11 : decode cX10_hardest 11 = .ok (.iload_n 1, 1) := by decide +kernel
theorem dX10_hardest_12 : decode cX10_hardest 12 = .ok (.bipush (-6), 2) := by decide +kernel
theorem dX10_hardest_14 : decode cX10_hardest 14 = .ok (.invokevirtual 166, 3) := by decide +kernel
theorem dX10_hardest_17 : decode cX10_hardest 17 = .ok (.ifCond .ne 6, 3) := by decide +kernel
theorem dX10_hardest_20 : decode cX10_hardest 20 = .ok (.bipush (-3), 2) := by decide +kernel
theorem dX10_hardest_22 : decode cX10_hardest 22 = .ok (.ireturn, 1) := by decide +kernel
theorem dX10_hardest_23 : decode cX10_hardest 23 = .ok (.bipush (-6), 2) := by decide +kernel
theorem dX10_hardest_25 : decode cX10_hardest 25 = .ok (.istore_n 2, 1) := by decide +kernel
theorem dX10_hardest_26 : decode cX10_hardest 26 = .ok (.iconst 0, 1) := by decide +kernel
theorem dX10_hardest_27 : decode cX10_hardest 27 = .ok (.istore_n 3, 1) := by decide +kernel
theorem dX10_hardest_28 : decode cX10_hardest 28 = .ok (.iload_n 3, 1) := by decide +kernel
theorem dX10_hardest_29 : decode cX10_hardest 29 = .ok (.aload_n 0, 1) := by decide +kernel
theorem dX10_hardest_30 : decode cX10_hardest 30 = .ok (.getfield 13, 3) := by decide +kernel
theorem dX10_hardest_33 : decode cX10_hardest 33 = .ok (.iload_n 1, 1) := by decide +kernel
theorem dX10_hardest_34 : decode cX10_hardest 34 = .ok (.iaload, 1) := by decide +kernel
theorem dX10_hardest_35 : decode cX10_hardest 35 = .ok (.if_icmp .ge 66, 3) := by decide +kernel
theorem dX10_hardest_38 : decode cX10_hardest 38 = .ok (.aload_n 0, 1) := by decide +kernel
theorem dX10_hardest_39 : decode cX10_hardest 39 = .ok (.getfield 16, 3) := by decide +kernel
theorem dX10_hardest_42 : decode cX10_hardest 42 = .ok (.iconst 5, 1) := by decide +kernel
theorem dX10_hardest_43 : decode cX10_hardest 43 = .ok (.iload_n 1, 1) := by decide +kernel
theorem dX10_hardest_44 : decode cX10_hardest 44 = .ok (.imul, 1) := by decide +kernel
theorem dX10_hardest_45 : decode cX10_hardest 45 = .ok (.iload_n 3, 1) := by decide +kernel
theorem dX10_hardest_46 : decode cX10_hardest 46 = .ok (.iadd, 1) := by decide +kernel
theorem dX10_hardest_47 : decode cX10_hardest 47 = .ok (.iaload, 1) := by decide +kernel
theorem dX10_hardest_48 : decode cX10_hardest 48 = .ok (.ifCond .le 7, 3) := by decide +kernel
theorem dX10_hardest_51 : decode cX10_hardest 51 = .ok (.iconst 1, 1) := by decide +kernel
theorem dX10_hardest_52 : decode cX10_hardest 52 = .ok (.goto 4, 3) := by decide +kernel
theorem dX10_hardest_55 : decode cX10_hardest 55 = .ok (.iconst 0, 1) := by decide +kernel
theorem dX10_hardest_56 : decode cX10_hardest 56 = .ok (.istore 4, 2) := by decide +kernel
theorem dX10_hardest_58 : decode cX10_hardest 58 = .ok (.iload 4, 2) := by decide +kernel
theorem dX10_hardest_60 : decode cX10_hardest 60 = .ok (.ifCond .eq 33, 3) := by decide +kernel
theorem dX10_hardest_63 : decode cX10_hardest 63 = .ok (.iload_n 2, 1) := by decide +kernel
theorem dX10_hardest_64 : decode cX10_hardest 64 = .ok (.ifCond .lt 25, 3) := by decide +kernel
theorem dX10_hardest_67 : decode cX10_hardest 67 = .ok (.aload_n 0, 1) := by decide +kernel
theorem dX10_hardest_68 : decode cX10_hardest 68 = .ok (.getfield 81, 3) := by decide +kernel
theorem dX10_hardest_71 : decode cX10_hardest 71 = .ok (.iload_n 3, 1) := by decide +kernel
theorem dX10_hardest_72 : decode cX10_hardest 72 = .ok (.laload, 1) := by decide +kernel
theorem dX10_hardest_73 : decode cX10_hardest 73 = .ok (.invokestatic 154, 3) := by decide +kernel
theorem dX10_hardest_76 : decode cX10_hardest 76 = .ok (.aload_n 0, 1) := by decide +kernel
theorem dX10_hardest_77 : decode cX10_hardest 77 = .ok (.getfield 81, 3) := by decide +kernel
theorem dX10_hardest_80 : decode cX10_hardest 80 = .ok (.iload_n 2, 1) := by decide +kernel
theorem dX10_hardest_81 : decode cX10_hardest 81 = .ok (.laload, 1) := by decide +kernel
theorem dX10_hardest_82 : decode cX10_hardest 82 = .ok (.invokestatic 154, 3) := by decide +kernel
theorem dX10_hardest_85 : decode cX10_hardest 85 = .ok (.lcmp, 1) := by decide +kernel
theorem dX10_hardest_86 : decode cX10_hardest 86 = .ok (.ifCond .le 7, 3) := by decide +kernel
theorem dX10_hardest_89 : decode cX10_hardest 89 = .ok (.iload_n 3, 1) := by decide +kernel
theorem dX10_hardest_90 : decode cX10_hardest 90 = .ok (.goto 4, 3) := by decide +kernel
theorem dX10_hardest_93 : decode cX10_hardest 93 = .ok (.iload_n 2, 1) := by decide +kernel
theorem dX10_hardest_94 : decode cX10_hardest 94 = .ok (.istore_n 2, 1) := by decide +kernel
theorem dX10_hardest_95 : decode cX10_hardest 95 = .ok (.iinc 3 1, 3) := by decide +kernel
theorem dX10_hardest_98 : decode cX10_hardest 98 = .ok (.goto (-70), 3) := by decide +kernel
theorem dX10_hardest_101 : decode cX10_hardest 101 = .ok (.iload_n 2, 1) := by decide +kernel
theorem dX10_hardest_102 : decode cX10_hardest 102 = .ok (.ireturn, 1) := by decide +kernel
set_option maxRecDepth 20000 in
theorem ggX10_layBack_X10_lay : GoodIn wsX10_layBack wsX10_lay := goodIn_r _ [9, 10, 11, 12, 13, 14, 15, 16, 17, 2, 1, 18, 19, 20, 27, 28, 29, 30, 31, 32, 33, 34, 35, 36, 37, 38, 39, 40, 41, 42, 43, 44, 45, 46, 47, 48, 49, 50, 51, 52, 53, 54, 55, 56, 57, 58, 59, 60, 61, 62, 63, 64, 65, 66, 67, 68, 69, 70, 71, 72] (by decide +kernel) (by decide +kernel)
set_option maxRecDepth 20000 in
theorem gX10_layBack_X10_lay : GoodIn wsX10_layBack (wsV RX10 166 RX10 yX10_lay wsX10_lay) := goodIn_app (goodIn_of _ (by decide +kernel)) ggX10_layBack_X10_lay
set_option maxRecDepth 20000 in
theorem ggX10_layBack_X10_common : GoodIn wsX10_layBack wsX10_common := goodIn_r _ [23, 24, 25, 8, 26] (by decide +kernel) (by decide +kernel)
set_option maxRecDepth 20000 in
theorem gX10_layBack_X10_common : GoodIn wsX10_layBack (va_wsS RX10 158 yX10_common wsX10_common) := goodIn_app (goodIn_of _ (by decide +kernel)) ggX10_layBack_X10_common
theorem dX10_layBack_0 : decode cX10_layBack 0 = .ok (.aload_n 0, 1) := by decide +kernel
theorem dX10_layBack_1 : decode cX10_layBack 1 = .ok (.iload_n 1, 1) := by decide +kernel
theorem dX10_layBack_2 : decode cX10_layBack 2 = .ok (.bipush (-6), 2) := by decide +kernel
theorem dX10_layBack_4 : decode cX10_layBack 4 = .ok (.invokevirtual 166, 3) := by decide +kernel
theorem dX10_layBack_7 : decode cX10_layBack 7 = .ok (.pop, 1) := by decide +kernel
theorem dX10_layBack_8 : decode cX10_layBack 8 = .ok (.aload_n 0, 1) := by decide +kernel
theorem dX10_layBack_9 : decode cX10_layBack 9 = .ok (.getfield 151, 3) := by decide +kernel
theorem dX10_layBack_12 : decode cX10_layBack 12 = .ok (.lstore_n 3, 1) := by decide +kernel
theorem dX10_layBack_13 : decode cX10_layBack 13 = .ok (.aload_n 0, 1) := by decide +kernel
theorem dX10_layBack_14 : decode cX10_layBack 14 = .ok (.getfield 147, 3) := by decide +kernel
theorem dX10_layBack_17 : decode cX10_layBack 17 = .ok (.lstore 5, 2) := by decide +kernel
theorem dX10_layBack_19 : decode cX10_layBack 19 = .ok (.aload_n 0, 1) := by decide +kernel
theorem dX10_layBack_20 : decode cX10_layBack 20 = .ok (.iload_n 1, 1) := by decide +kernel
theorem dX10_layBack_21 : decode cX10_layBack 21 = .ok (.iload_n 2, 1) := by decide +kernel
theorem dX10_layBack_22 : decode cX10_layBack 22 = .ok (.invokevirtual 166, 3) := by decide +kernel
theorem dX10_layBack_25 : decode cX10_layBack 25 = .ok (.ifCond .eq 70, 3) := by decide +kernel
theorem dX10_layBack_28 : decode cX10_layBack 28 = .ok (.aload_n 0, 1) := by decide +kernel
theorem dX10_layBack_29 : decode cX10_layBack 29 = .ok (.aload_n 0, 1) := by decide +kernel
theorem dX10_layBack_30 : decode cX10_layBack 30 = .ok (.getfield 151, 3) := by decide +kernel
theorem dX10_layBack_33 : decode cX10_layBack 33 = .ok (.lload 5, 2) := by decide +kernel
theorem dX10_layBack_35 : decode cX10_layBack 35 = .ok (.lmul, 1) := by decide +kernel
theorem dX10_layBack_36 : decode cX10_layBack 36 = .ok (.lload_n 3, 1) := by decide +kernel
theorem dX10_layBack_37 : decode cX10_layBack 37 = .ok (.aload_n 0, 1) := by decide +kernel
theorem dX10_layBack_38 : decode cX10_layBack 38 = .ok (.getfield 147, 3) := by decide +kernel
theorem dX10_layBack_41 : decode cX10_layBack 41 = .ok (.lmul, 1) := by decide +kernel
theorem dX10_layBack_42 : decode cX10_layBack 42 = .ok (.lsub, 1) := by decide +kernel
theorem dX10_layBack_43 : decode cX10_layBack 43 = .ok (.putfield 175, 3) := by decide +kernel
theorem dX10_layBack_46 : decode cX10_layBack 46 = .ok (.aload_n 0, 1) := by decide +kernel
theorem dX10_layBack_47 : decode cX10_layBack 47 = .ok (.lload 5, 2) := by decide +kernel
theorem dX10_layBack_49 : decode cX10_layBack 49 = .ok (.aload_n 0, 1) := by decide +kernel
theorem dX10_layBack_50 : decode cX10_layBack 50 = .ok (.getfield 147, 3) := by decide +kernel
theorem dX10_layBack_53 : decode cX10_layBack 53 = .ok (.lmul, 1) := by decide +kernel
theorem dX10_layBack_54 : decode cX10_layBack 54 = .ok (.putfield 178, 3) := by decide +kernel
theorem dX10_layBack_57 : decode cX10_layBack 57 = .ok (.aload_n 0, 1) := by decide +kernel
theorem dX10_layBack_58 : decode cX10_layBack 58 = .ok (.getfield 175, 3) := by decide +kernel
theorem dX10_layBack_61 : decode cX10_layBack 61 = .ok (.aload_n 0, 1) := by decide +kernel
theorem dX10_layBack_62 : decode cX10_layBack 62 = .ok (.getfield 178, 3) := by decide +kernel
theorem dX10_layBack_65 : decode cX10_layBack 65 = .ok (.invokestatic 158, 3) := by decide +kernel
theorem dX10_layBack_68 : decode cX10_layBack 68 = .ok (.lstore 7, 2) := by decide +kernel
theorem dX10_layBack_70 : decode cX10_layBack 70 = .ok (.aload_n 0, 1) := by decide +kernel
theorem dX10_layBack_71 : decode cX10_layBack 71 = .ok (.dup, 1) := by decide +kernel
theorem dX10_layBack_72 : decode cX10_layBack 72 = .ok (.getfield 175, 3) := by decide +kernel
theorem dX10_layBack_75 : decode cX10_layBack 75 = .ok (.lload 7, 2) := by decide +kernel
theorem dX10_layBack_77 : decode cX10_layBack 77 = .ok (.ldiv, 1) := by decide +kernel
theorem dX10_layBack_78 : decode cX10_layBack 78 = .ok (.putfield 175, 3) := by decide +kernel
theorem dX10_layBack_81 : decode cX10_layBack 81 = .ok (.aload_n 0, 1) := by decide +kernel
theorem dX10_layBack_82 : decode cX10_layBack 82 = .ok (.dup, 1) := by decide +kernel
theorem dX10_layBack_83 : decode cX10_layBack 83 = .ok (.getfield 178, 3) := by decide +kernel
theorem dX10_layBack_86 : decode cX10_layBack 86 = .ok (.lload 7, 2) := by decide +kernel
theorem dX10_layBack_88 : decode cX10_layBack 88 = .ok (.ldiv, 1) := by decide +kernel
theorem dX10_layBack_89 : decode cX10_layBack 89 = .ok (.putfield 178, 3) := by decide +kernel
theorem dX10_layBack_92 : decode cX10_layBack 92 = .ok (.goto 14, 3) := by decide +kernel
theorem dX10_layBack_95 : decode cX10_layBack 95 = .ok (.aload_n 0, 1) := by decide +kernel
theorem dX10_layBack_96 : decode cX10_layBack 96 = .ok (.lload_n 3, 1) := by decide +kernel
theorem dX10_layBack_97 : decode cX10_layBack 97 = .ok (.putfield 175, 3) := by decide +kernel
theorem dX10_layBack_100 : decode cX10_layBack 100 = .ok (.aload_n 0, 1) := by decide +kernel
theorem dX10_layBack_101 : decode cX10_layBack 101 = .ok (.lload 5, 2) := by decide +kernel
theorem dX10_layBack_103 : decode cX10_layBack 103 = .ok (.putfield 178, 3) := by decide +kernel
theorem dX10_layBack_106 : decode cX10_layBack 106 = .ok (.return_, 1) := by decide +kernel
set_option maxRecDepth 20000 in
theorem ggX10_isPull_X10_in : GoodIn wsX10_isPull wsX10_in := goodIn_r _ [4] (by decide +kernel) (by decide +kernel)
set_option maxRecDepth 20000 in
theorem gX10_isPull_X10_in : GoodIn wsX10_isPull (va_wsS RX10 124 yX10_in wsX10_in) := goodIn_app (goodIn_of _ (by decide +kernel)) ggX10_isPull_X10_in
theorem dX10_isPull_0 : decode cX10_isPull 0 = .ok (.iload_n 0, 1) := by decide +kernel
theorem dX10_isPull_1 : decode cX10_isPull 1 = .ok (.iconst 1, 1) := by decide +kernel
theorem dX10_isPull_2 : decode cX10_isPull 2 = .ok (.bipush 100, 2) := by decide +kernel
theorem dX10_isPull_4 : decode cX10_isPull 4 = .ok (.invokestatic 124, 3) := by decide +kernel
theorem dX10_isPull_7 : decode cX10_isPull 7 = .ok (.ireturn, 1) := by decide +kernel
set_option maxRecDepth 20000 in
theorem ggX10_back_X10_isSpot : GoodIn wsX10_back wsX10_isSpot := goodIn_r _ [12, 13, 14, 15, 16, 11, 17, 18, 19, 20, 21, 22, 23, 55, 56, 57, 58, 59, 60, 61, 62, 63, 64, 65, 66, 67, 68, 69, 70, 71, 72, 73, 74, 75, 76, 77, 78, 79, 80, 81, 82, 83, 84, 85, 86, 87, 88, 89, 90, 91, 92, 93, 94, 95, 96, 97, 98, 99, 100] (by decide +kernel) (by decide +kernel)
set_option maxRecDepth 20000 in
theorem gX10_back_X10_isSpot : GoodIn wsX10_back (wsV RX10 143 RX10 yX10_isSpot wsX10_isSpot) := goodIn_app (goodIn_of _ (by decide +kernel)) ggX10_back_X10_isSpot
set_option maxRecDepth 20000 in
theorem ggX10_back_X10_isPull : GoodIn wsX10_back wsX10_isPull := goodIn_r _ [26, 21, 22, 11, 23] (by decide +kernel) (by decide +kernel)
set_option maxRecDepth 20000 in
theorem gX10_back_X10_isPull : GoodIn wsX10_back (va_wsS RX10 181 yX10_isPull wsX10_isPull) := goodIn_app (goodIn_of _ (by decide +kernel)) ggX10_back_X10_isPull
set_option maxRecDepth 20000 in
theorem ggX10_back_X10_in : GoodIn wsX10_back wsX10_in := goodIn_r _ [23] (by decide +kernel) (by decide +kernel)
set_option maxRecDepth 20000 in
theorem gX10_back_X10_in : GoodIn wsX10_back (va_wsS RX10 124 yX10_in wsX10_in) := goodIn_app (goodIn_of _ (by decide +kernel)) ggX10_back_X10_in
set_option maxRecDepth 20000 in
theorem ggX10_back_X10_layBack : GoodIn wsX10_back wsX10_layBack := goodIn_r _ [30, 31, 32, 5, 7, 33, 34, 35, 11, 36, 13, 3, 37, 38, 39, 40, 41, 42, 43, 44, 45, 46, 47, 48, 49, 50, 51, 55, 56, 57, 58, 59, 60, 61, 62, 63, 64, 65, 66, 67, 68, 69, 70, 71, 72, 73, 74, 75, 76, 77, 78, 79, 80, 81, 82, 83, 84, 85, 86, 87, 88, 89, 90, 91, 92, 93, 94, 95, 96, 97, 98, 99, 100] (by decide +kernel) (by decide +kernel)
set_option maxRecDepth 20000 in
theorem gX10_back_X10_layBack : GoodIn wsX10_back (wsV RX10 184 RX10 yX10_layBack wsX10_layBack) := goodIn_app (goodIn_of _ (by decide +kernel)) ggX10_back_X10_layBack
set_option maxRecDepth 20000 in
theorem ggX10_back_X10_term : GoodIn wsX10_back wsX10_term := goodIn_r _ [54, 46, 47, 11, 48, 49, 50, 51] (by decide +kernel) (by decide +kernel)
set_option maxRecDepth 20000 in
theorem gX10_back_X10_term : GoodIn wsX10_back (va_wsS RX10 171 yX10_term wsX10_term) := goodIn_app (goodIn_of _ (by decide +kernel)) ggX10_back_X10_term
theorem dX10_back_0 : decode cX10_back 0 = .ok (.aload_n 0, 1) := by decide +kernel
theorem dX10_back_1 : decode cX10_back 1 = .ok (.iload_n 1, 1) := by decide +kernel
theorem dX10_back_2 : decode cX10_back 2 = .ok (.iload_n 2, 1) := by decide +kernel
theorem dX10_back_3 : decode cX10_back 3 = .ok (.invokevirtual 143, 3) := by decide +kernel
theorem dX10_back_6 : decode cX10_back 6 = .ok (.ifCond .ne 7, 3) := by decide +kernel
theorem dX10_back_9 : decode cX10_back 9 = .ok (.ldc2_w 162, 3) := by decide +kernel
theorem dX10_back_12 : decode cX10_back 12 = .ok (.lreturn, 1) := by decide +kernel
theorem dX10_back_13 : decode cX10_back 13 = .ok (.iload_n 3, 1) := by decide +kernel
theorem dX10_back_14 : decode cX10_back 14 = .ok (.invokestatic 181, 3) := by decide +kernel
theorem dX10_back_17 : decode cX10_back 17 = .ok (.ifCond .eq 13, 3) := by decide +kernel
theorem dX10_back_20 : decode cX10_back 20 = .ok (.iload 4, 2) := by decide +kernel
theorem dX10_back_22 : decode cX10_back 22 = .ok (.iconst 0, 1) := by decide +kernel
theorem dX10_back_23 : decode cX10_back 23 = .ok (.iconst 1, 1) := by decide +kernel
theorem dX10_back_24 : decode cX10_back 24 = .ok (.invokestatic 124, 3) := by decide +kernel
theorem dX10_back_27 : decode cX10_back 27 = .ok (.ifCond .ne 7, 3) := by decide +kernel
theorem dX10_back_30 : decode cX10_back 30 = .ok (.ldc2_w 164, 3) := by decide +kernel
theorem dX10_back_33 : decode cX10_back 33 = .ok (.lreturn, 1) := by decide +kernel
theorem dX10_back_34 : decode cX10_back 34 = .ok (.aload_n 0, 1) := by decide +kernel
theorem dX10_back_35 : decode cX10_back 35 = .ok (.getfield 16, 3) := by decide +kernel
theorem dX10_back_38 : decode cX10_back 38 = .ok (.iconst 5, 1) := by decide +kernel
theorem dX10_back_39 : decode cX10_back 39 = .ok (.iload_n 1, 1) := by decide +kernel
theorem dX10_back_40 : decode cX10_back 40 = .ok (.imul, 1) := by decide +kernel
theorem dX10_back_41 : decode cX10_back 41 = .ok (.iload_n 2, 1) := by decide +kernel
theorem dX10_back_42 : decode cX10_back 42 = .ok (.iadd, 1) := by decide +kernel
theorem dX10_back_43 : decode cX10_back 43 = .ok (.iaload, 1) := by decide +kernel
theorem dX10_back_44 : decode cX10_back 44 = .ok (.ifCond .ne 7, 3) := by decide +kernel
theorem dX10_back_47 : decode cX10_back 47 = .ok (.ldc2_w 169, 3) := by decide +kernel
theorem dX10_back_50 : decode cX10_back 50 = .ok (.lreturn, 1) := by decide +kernel
theorem dX10_back_51 : decode cX10_back 51 = .ok (.aload_n 0, 1) := by decide +kernel
theorem dX10_back_52 : decode cX10_back 52 = .ok (.iload_n 1, 1) := by decide +kernel
theorem dX10_back_53 : decode cX10_back 53 = .ok (.iload_n 2, 1) := by decide +kernel
theorem dX10_back_54 : decode cX10_back 54 = .ok (.invokevirtual 184, 3) := by decide +kernel
theorem dX10_back_57 : decode cX10_back 57 = .ok (.aload_n 0, 1) := by decide +kernel
theorem dX10_back_58 : decode cX10_back 58 = .ok (.getfield 175, 3) := by decide +kernel
theorem dX10_back_61 : decode cX10_back 61 = .ok (.iload_n 3, 1) := by decide +kernel
theorem dX10_back_62 : decode cX10_back 62 = .ok (.i2l, 1) := by decide +kernel
theorem dX10_back_63 : decode cX10_back 63 = .ok (.lmul, 1) := by decide +kernel
theorem dX10_back_64 : decode cX10_back 64 = .ok (.iload_n 3, 1) := by decide +kernel
theorem dX10_back_65 : decode cX10_back 65 = .ok (.i2l, 1) := by decide +kernel
theorem dX10_back_66 : decode cX10_back 66 = .ok (.lmul, 1) := by decide +kernel
theorem dX10_back_67 : decode cX10_back 67 = .ok (.ldc2_w 188, 3) := by decide +kernel
theorem dX10_back_70 : decode cX10_back 70 = .ok (.aload_n 0, 1) := by decide +kernel
theorem dX10_back_71 : decode cX10_back 71 = .ok (.getfield 178, 3) := by decide +kernel
theorem dX10_back_74 : decode cX10_back 74 = .ok (.lmul, 1) := by decide +kernel
theorem dX10_back_75 : decode cX10_back 75 = .ok (.iload 4, 2) := by decide +kernel
theorem dX10_back_77 : decode cX10_back 77 = .ok (.invokestatic 171, 3) := by decide +kernel
theorem dX10_back_80 : decode cX10_back 80 = .ok (.lreturn, 1) := by decide +kernel
set_option maxRecDepth 20000 in
theorem ggX10_spreadsOf_X10_layBack : GoodIn wsX10_spreadsOf wsX10_layBack := goodIn_r _ [11, 12, 13, 3, 6, 14, 15, 16, 10, 17, 1, 2, 18, 19, 20, 21, 22, 23, 24, 25, 26, 27, 28, 29, 30, 31, 32, 33, 34, 35, 36, 37, 38, 39, 40, 41, 42, 43, 44, 45, 46, 47, 48, 49, 50, 51, 52, 53, 54, 55, 56, 57, 58, 59, 60, 61, 62, 63, 64, 65, 66, 67, 68, 69, 70, 71, 72, 73, 74, 75, 76, 77, 78] (by decide +kernel) (by decide +kernel)
set_option maxRecDepth 20000 in
theorem gX10_spreadsOf_X10_layBack : GoodIn wsX10_spreadsOf (wsV RX10 184 RX10 yX10_layBack wsX10_layBack) := goodIn_app (goodIn_of _ (by decide +kernel)) ggX10_spreadsOf_X10_layBack
theorem dX10_spreadsOf_0 : decode cX10_spreadsOf 0 = .ok (.iconst 0, 1) := by decide +kernel
theorem dX10_spreadsOf_1 : decode cX10_spreadsOf 1 = .ok (.istore_n 3, 1) := by decide +kernel
theorem dX10_spreadsOf_2 : decode cX10_spreadsOf 2 = .ok (.iconst 0, 1) := by decide +kernel
theorem dX10_spreadsOf_3 : decode cX10_spreadsOf 3 = .ok (.istore 4, 2) := by decide +kernel
theorem dX10_spreadsOf_5 : decode cX10_spreadsOf 5 = .ok (.iload 4, 2) := by decide +kernel
theorem dX10_spreadsOf_7 : decode cX10_spreadsOf 7 = .ok (.aload_n 0, 1) := by decide +kernel
theorem dX10_spreadsOf_8 : decode cX10_spreadsOf 8 = .ok (.getfield 13, 3) := by decide +kernel
theorem dX10_spreadsOf_11 : decode cX10_spreadsOf 11 = .ok (.iload_n 1, 1) := by decide +kernel
theorem dX10_spreadsOf_12 : decode cX10_spreadsOf 12 = .ok (.iaload, 1) := by decide +kernel
theorem dX10_spreadsOf_13 : decode cX10_spreadsOf 13 = .ok (.if_icmp .ge 76, 3) := by decide +kernel
theorem dX10_spreadsOf_16 : decode cX10_spreadsOf 16 = .ok (.aload_n 0, 1) := by decide +kernel
theorem dX10_spreadsOf_17 : decode cX10_spreadsOf 17 = .ok (.getfield 16, 3) := by decide +kernel
theorem dX10_spreadsOf_20 : decode cX10_spreadsOf 20 = .ok (.iconst 5, 1) := by decide +kernel
theorem dX10_spreadsOf_21 : decode cX10_spreadsOf 21 = .ok (.iload_n 1, 1) := by decide +kernel
theorem dX10_spreadsOf_22 : decode cX10_spreadsOf 22 = .ok (.imul, 1) := by decide +kernel
theorem dX10_spreadsOf_23 : decode cX10_spreadsOf 23 = .ok (.iload 4, 2) := by decide +kernel
theorem dX10_spreadsOf_25 : decode cX10_spreadsOf 25 = .ok (.iadd, 1) := by decide +kernel
theorem dX10_spreadsOf_26 : decode cX10_spreadsOf 26 = .ok (.iaload, 1) := by decide +kernel
theorem dX10_spreadsOf_27 : decode cX10_spreadsOf 27 = .ok (.ifCond .le 56, 3) := by decide +kernel
theorem dX10_spreadsOf_30 : decode cX10_spreadsOf 30 = .ok (.aload_n 0, 1) := by decide +kernel
theorem dX10_spreadsOf_31 : decode cX10_spreadsOf 31 = .ok (.iload_n 1, 1) := by decide +kernel
theorem dX10_spreadsOf_32 : decode cX10_spreadsOf 32 = .ok (.iload 4, 2) := by decide +kernel
theorem dX10_spreadsOf_34 : decode cX10_spreadsOf 34 = .ok (.invokevirtual 184, 3) := by decide +kernel
theorem dX10_spreadsOf_37 : decode cX10_spreadsOf 37 = .ok (.iload_n 3, 1) := by decide +kernel
theorem dX10_spreadsOf_38 : decode cX10_spreadsOf 38 = .ok (.aload_n 0, 1) := by decide +kernel
theorem dX10_spreadsOf_39 : decode cX10_spreadsOf 39 = .ok (.getfield 175, 3) := by decide +kernel
theorem dX10_spreadsOf_42 : decode cX10_spreadsOf 42 = .ok (.iload_n 2, 1) := by decide +kernel
theorem dX10_spreadsOf_43 : decode cX10_spreadsOf 43 = .ok (.i2l, 1) := by decide +kernel
theorem dX10_spreadsOf_44 : decode cX10_spreadsOf 44 = .ok (.lmul, 1) := by decide +kernel
theorem dX10_spreadsOf_45 : decode cX10_spreadsOf 45 = .ok (.iload_n 2, 1) := by decide +kernel
theorem dX10_spreadsOf_46 : decode cX10_spreadsOf 46 = .ok (.i2l, 1) := by decide +kernel
theorem dX10_spreadsOf_47 : decode cX10_spreadsOf 47 = .ok (.lmul, 1) := by decide +kernel
theorem dX10_spreadsOf_48 : decode cX10_spreadsOf 48 = .ok (.ldc2_w 188, 3) := by decide +kernel
theorem dX10_spreadsOf_51 : decode cX10_spreadsOf 51 = .ok (.aload_n 0, 1) := by decide +kernel
theorem dX10_spreadsOf_52 : decode cX10_spreadsOf 52 = .ok (.getfield 25, 3) := by decide +kernel
theorem dX10_spreadsOf_55 : decode cX10_spreadsOf 55 = .ok (.iconst 5, 1) := by decide +kernel
theorem dX10_spreadsOf_56 : decode cX10_spreadsOf 56 = .ok (.iload_n 1, 1) := by decide +kernel
theorem dX10_spreadsOf_57 : decode cX10_spreadsOf 57 = .ok (.imul, 1) := by decide +kernel
theorem dX10_spreadsOf_58 : decode cX10_spreadsOf 58 = .ok (.iload 4, 2) := by decide +kernel
theorem dX10_spreadsOf_60 : decode cX10_spreadsOf 60 = .ok (.iadd, 1) := by decide +kernel
theorem dX10_spreadsOf_61 : decode cX10_spreadsOf 61 = .ok (.iaload, 1) := by decide +kernel
theorem dX10_spreadsOf_62 : decode cX10_spreadsOf 62 = .ok (.i2l, 1) := by decide +kernel
theorem dX10_spreadsOf_63 : decode cX10_spreadsOf 63 = .ok (.lmul, 1) := by decide +kernel
theorem dX10_spreadsOf_64 : decode cX10_spreadsOf 64 = .ok (.aload_n 0, 1) := by decide +kernel
theorem dX10_spreadsOf_65 : decode cX10_spreadsOf 65 = .ok (.getfield 178, 3) := by decide +kernel
theorem dX10_spreadsOf_68 : decode cX10_spreadsOf 68 = .ok (.lmul, 1) := by decide +kernel
theorem dX10_spreadsOf_69 : decode cX10_spreadsOf 69 = .ok (.lcmp, 1) := by decide +kernel
theorem dX10_spreadsOf_70 : decode cX10_spreadsOf 70 = .ok (.ifCond .lt 10, 3) := by decide +kernel
theorem dX10_spreadsOf_73 : decode cX10_spreadsOf 73 = .ok (.iconst 1, 1) := by decide +kernel
theorem dX10_spreadsOf_74 : decode cX10_spreadsOf 74 = .ok (.iload 4, 2) := by decide +kernel
theorem dX10_spreadsOf_76 : decode cX10_spreadsOf 76 = .ok (.ishl, 1) := by decide +kernel
theorem dX10_spreadsOf_77 : decode cX10_spreadsOf 77 = .ok (.goto 4, 3) := by decide +kernel
theorem dX10_spreadsOf_80 : decode cX10_spreadsOf 80 = .ok (.iconst 0, 1) := by decide +kernel
theorem dX10_spreadsOf_81 : decode cX10_spreadsOf 81 = .ok (.ior, 1) := by decide +kernel
theorem dX10_spreadsOf_82 : decode cX10_spreadsOf 82 = .ok (.istore_n 3, 1) := by decide +kernel
theorem dX10_spreadsOf_83 : decode cX10_spreadsOf 83 = .ok (.iinc 4 1, 3) := by decide +kernel
theorem dX10_spreadsOf_86 : decode cX10_spreadsOf 86 = .ok (.goto (-81), 3) := by decide +kernel
theorem dX10_spreadsOf_89 : decode cX10_spreadsOf 89 = .ok (.iload_n 3, 1) := by decide +kernel
theorem dX10_spreadsOf_90 : decode cX10_spreadsOf 90 = .ok (.ireturn, 1) := by decide +kernel
set_option maxRecDepth 20000 in
theorem ggX10_spreads_X10_isLap : GoodIn wsX10_spreads wsX10_isLap := goodIn_r _ [5, 6, 7, 8, 4, 9, 10, 11, 12, 50, 51, 52, 53, 54, 55, 56, 57, 58, 59, 60, 61, 62, 63, 64, 65, 66, 67, 68, 69, 70, 71, 72, 73, 74, 75, 76, 77, 78, 79, 80, 81, 82, 83, 84, 85, 86, 87, 88, 89, 90, 91, 92, 93, 94, 95] (by decide +kernel) (by decide +kernel)
set_option maxRecDepth 20000 in
theorem gX10_spreads_X10_isLap : GoodIn wsX10_spreads (wsV RX10 140 RX10 yX10_isLap wsX10_isLap) := goodIn_app (goodIn_of _ (by decide +kernel)) ggX10_spreads_X10_isLap
set_option maxRecDepth 20000 in
theorem ggX10_spreads_X10_isPull : GoodIn wsX10_spreads wsX10_isPull := goodIn_r _ [15, 10, 11, 4, 12] (by decide +kernel) (by decide +kernel)
set_option maxRecDepth 20000 in
theorem gX10_spreads_X10_isPull : GoodIn wsX10_spreads (va_wsS RX10 181 yX10_isPull wsX10_isPull) := goodIn_app (goodIn_of _ (by decide +kernel)) ggX10_spreads_X10_isPull
set_option maxRecDepth 20000 in
theorem ggX10_spreads_X10_lay : GoodIn wsX10_spreads wsX10_lay := goodIn_r _ [19, 6, 20, 21, 22, 23, 24, 25, 26, 27, 28, 29, 30, 31, 50, 51, 52, 53, 54, 55, 56, 57, 58, 59, 60, 61, 62, 63, 64, 65, 66, 67, 68, 69, 70, 71, 72, 73, 74, 75, 76, 77, 78, 79, 80, 81, 82, 83, 84, 85, 86, 87, 88, 89, 90, 91, 92, 93, 94, 95] (by decide +kernel) (by decide +kernel)
set_option maxRecDepth 20000 in
theorem gX10_spreads_X10_lay : GoodIn wsX10_spreads (wsV RX10 166 RX10 yX10_lay wsX10_lay) := goodIn_app (goodIn_of _ (by decide +kernel)) ggX10_spreads_X10_lay
set_option maxRecDepth 20000 in
theorem ggX10_spreads_X10_spreadsOf : GoodIn wsX10_spreads wsX10_spreadsOf := goodIn_r _ [35, 6, 20, 36, 37, 38, 39, 40, 41, 42, 4, 43, 28, 27, 16, 17, 18, 19, 21, 22, 23, 24, 25, 26, 29, 30, 31, 44, 45, 46, 47, 48, 49, 50, 51, 52, 53, 54, 55, 56, 57, 58, 59, 60, 61, 62, 63, 64, 65, 66, 67, 68, 69, 70, 71, 72, 73, 74, 75, 76, 77, 78, 79, 80, 81, 82, 83, 84, 85, 86, 87, 88, 89, 90, 91, 92, 93, 94, 95] (by decide +kernel) (by decide +kernel)
set_option maxRecDepth 20000 in
theorem gX10_spreads_X10_spreadsOf : GoodIn wsX10_spreads (wsV RX10 190 RX10 yX10_spreadsOf wsX10_spreadsOf) := goodIn_app (goodIn_of _ (by decide +kernel)) ggX10_spreads_X10_spreadsOf
theorem dX10_spreads_0 : decode cX10_spreads 0 = .ok (.aload_n 0, 1) := by decide +kernel
theorem dX10_spreads_1 : decode cX10_spreads 1 = .ok (.iload_n 1, 1) := by decide +kernel
theorem dX10_spreads_2 : decode cX10_spreads 2 = .ok (.invokevirtual 140, 3) := by decide +kernel
theorem dX10_spreads_5 : decode cX10_spreads 5 = .ok (.ifCond .ne 5, 3) := by decide +kernel
theorem dX10_spreads_8 : decode cX10_spreads 8 = .ok (.iconst (-1), 1) := by decide +kernel
theorem dX10_spreads_9 : decode cX10_spreads 9 = .ok (.ireturn, 1) := by decide +kernel
theorem dX10_spreads_10 : decode cX10_spreads 10 = .ok (.iload_n 2, 1) := by decide +kernel
theorem dX10_spreads_11 : decode cX10_spreads 11 = .ok (.invokestatic 181, 3) := by decide +kernel
theorem dX10_spreads_14 : decode cX10_spreads 14 = .ok (.ifCond .ne 6, 3) := by decide +kernel
theorem dX10_spreads_17 : decode cX10_spreads 17 = .ok (.bipush (-2), 2) := by decide +kernel
theorem dX10_spreads_19 : decode cX10_spreads 19 = .ok (.ireturn, 1) := by decide +kernel
theorem dX10_spreads_20 : decode cX10_spreads 20 = .ok (.aload_n 0, 1) := by decide +kernel
theorem dX10_spreads_21 : decode cX10_spreads 21 = .ok (.iload_n 1, 1) := by decide +kernel
theorem dX10_spreads_22 : decode cX10_spreads 22 = .ok (.bipush (-6), 2) := by decide +kernel
theorem dX10_spreads_24 : decode cX10_spreads 24 = .ok (.invokevirtual 166, 3) := by decide +kernel
theorem dX10_spreads_27 : decode cX10_spreads 27 = .ok (.ifCond .eq 12, 3) := by decide +kernel
theorem dX10_spreads_30 : decode cX10_spreads 30 = .ok (.aload_n 0, 1) := by decide +kernel
theorem dX10_spreads_31 : decode cX10_spreads 31 = .ok (.iload_n 1, 1) := by decide +kernel
theorem dX10_spreads_32 : decode cX10_spreads 32 = .ok (.iload_n 2, 1) := by decide +kernel
theorem dX10_spreads_33 : decode cX10_spreads 33 = .ok (.invokevirtual 190, 3) := by decide +kernel
theorem dX10_spreads_36 : decode cX10_spreads 36 = .ok (.goto 5, 3) := by decide +kernel
theorem dX10_spreads_39 : decode cX10_spreads 39 = .ok (.bipush (-3), 2) := by decide +kernel
theorem dX10_spreads_41 : decode cX10_spreads 41 = .ok (.ireturn, 1) := by decide +kernel
set_option maxRecDepth 20000 in
theorem ggX10_first_X10_isLap : GoodIn wsX10_first wsX10_isLap := goodIn_r _ [5, 6, 7, 8, 4, 9, 10, 11, 12, 47, 48, 49, 50, 51, 52, 53, 54, 55, 56, 57, 58, 59, 60, 61, 62, 63, 64, 65, 66, 67, 68, 69, 70, 71, 72, 73, 74, 75, 76, 77, 78, 79, 80, 81, 82, 83, 84, 85, 86, 87, 88, 89, 90, 91, 92] (by decide +kernel) (by decide +kernel)
set_option maxRecDepth 20000 in
theorem gX10_first_X10_isLap : GoodIn wsX10_first (wsV RX10 140 RX10 yX10_isLap wsX10_isLap) := goodIn_app (goodIn_of _ (by decide +kernel)) ggX10_first_X10_isLap
set_option maxRecDepth 20000 in
theorem ggX10_first_X10_lay : GoodIn wsX10_first wsX10_lay := goodIn_r _ [16, 6, 17, 18, 19, 20, 21, 22, 23, 24, 25, 26, 27, 28, 47, 48, 49, 50, 51, 52, 53, 54, 55, 56, 57, 58, 59, 60, 61, 62, 63, 64, 65, 66, 67, 68, 69, 70, 71, 72, 73, 74, 75, 76, 77, 78, 79, 80, 81, 82, 83, 84, 85, 86, 87, 88, 89, 90, 91, 92] (by decide +kernel) (by decide +kernel)
set_option maxRecDepth 20000 in
theorem gX10_first_X10_lay : GoodIn wsX10_first (wsV RX10 166 RX10 yX10_lay wsX10_lay) := goodIn_app (goodIn_of _ (by decide +kernel)) ggX10_first_X10_lay
set_option maxRecDepth 20000 in
theorem ggX10_first_X10_spreadsOf : GoodIn wsX10_first wsX10_spreadsOf := goodIn_r _ [32, 6, 17, 33, 34, 35, 36, 37, 38, 39, 4, 40, 25, 24, 13, 14, 15, 16, 18, 19, 20, 21, 22, 23, 26, 27, 28, 41, 42, 43, 44, 45, 46, 47, 48, 49, 50, 51, 52, 53, 54, 55, 56, 57, 58, 59, 60, 61, 62, 63, 64, 65, 66, 67, 68, 69, 70, 71, 72, 73, 74, 75, 76, 77, 78, 79, 80, 81, 82, 83, 84, 85, 86, 87, 88, 89, 90, 91, 92] (by decide +kernel) (by decide +kernel)
set_option maxRecDepth 20000 in
theorem gX10_first_X10_spreadsOf : GoodIn wsX10_first (wsV RX10 190 RX10 yX10_spreadsOf wsX10_spreadsOf) := goodIn_app (goodIn_of _ (by decide +kernel)) ggX10_first_X10_spreadsOf
theorem dX10_first_0 : decode cX10_first 0 = .ok (.aload_n 0, 1) := by decide +kernel
theorem dX10_first_1 : decode cX10_first 1 = .ok (.iload_n 1, 1) := by decide +kernel
theorem dX10_first_2 : decode cX10_first 2 = .ok (.invokevirtual 140, 3) := by decide +kernel
theorem dX10_first_5 : decode cX10_first 5 = .ok (.ifCond .ne 5, 3) := by decide +kernel
theorem dX10_first_8 : decode cX10_first 8 = .ok (.iconst (-1), 1) := by decide +kernel
theorem dX10_first_9 : decode cX10_first 9 = .ok (.ireturn, 1) := by decide +kernel
theorem dX10_first_10 : decode cX10_first 10 = .ok (.aload_n 0, 1) := by decide +kernel
theorem dX10_first_11 : decode cX10_first 11 = .ok (.iload_n 1, 1) := by decide +kernel
theorem dX10_first_12 : decode cX10_first 12 = .ok (.bipush (-6), 2) := by decide +kernel
theorem dX10_first_14 : decode cX10_first 14 = .ok (.invokevirtual 166, 3) := by decide +kernel
theorem dX10_first_17 : decode cX10_first 17 = .ok (.ifCond .ne 6, 3) := by decide +kernel
theorem dX10_first_20 : decode cX10_first 20 = .ok (.bipush (-3), 2) := by decide +kernel
theorem dX10_first_22 : decode cX10_first 22 = .ok (.ireturn, 1) := by decide +kernel
theorem dX10_first_23 : decode cX10_first 23 = .ok (.iconst 1, 1) := by decide +kernel
theorem dX10_first_24 : decode cX10_first 24 = .ok (.istore_n 2, 1) := by decide +kernel
theorem dX10_first_25 : decode cX10_first 25 = .ok (.iload_n 2, 1) := by decide +kernel
theorem dX10_first_26 : decode cX10_first 26 = .ok (.bipush 100, 2) := by decide +kernel
theorem dX10_first_28 : decode cX10_first 28 = .ok (.if_icmp .gt 20, 3) := by decide +kernel
theorem dX10_first_31 : decode cX10_first 31 = .ok (.aload_n 0, 1) := by decide +kernel
theorem dX10_first_32 : decode cX10_first 32 = .ok (.iload_n 1, 1) := by decide +kernel
theorem dX10_first_33 : decode cX10_first 33 = .ok (.iload_n 2, 1) := by decide +kernel
theorem dX10_first_34 : decode cX10_first 34 = .ok (.invokevirtual 190, 3) := by decide +kernel
theorem dX10_first_37 : decode cX10_first 37 = .ok (.ifCond .le 5, 3) := by decide +kernel
theorem dX10_first_40 : decode cX10_first 40 = .ok (.iload_n 2, 1) := by decide +kernel
theorem dX10_first_41 : decode cX10_first 41 = .ok (.ireturn, 1) := by decide +kernel
theorem dX10_first_42 : decode cX10_first 42 = .ok (.iinc 2 1, 3) := by decide +kernel
theorem dX10_first_45 : decode cX10_first 45 = .ok (.goto (-20), 3) := by decide +kernel
theorem dX10_first_48 : decode cX10_first 48 = .ok (.bipush (-6), 2) := by decide +kernel
theorem dX10_first_50 : decode cX10_first 50 = .ok (.ireturn, 1) := by decide +kernel
set_option maxRecDepth 20000 in
theorem ggX10_snap_X10_isLap : GoodIn wsX10_snap wsX10_isLap := goodIn_r _ [6, 7, 8, 9, 5, 10, 11, 12, 13, 50, 51, 52, 53, 54, 55, 56, 57, 58, 59, 60, 61, 62, 63, 64, 65, 66, 67, 68, 69, 70, 71, 72, 73, 74, 75, 76, 77, 78, 79, 80, 81, 82, 83, 84, 85, 86, 87, 88, 89, 90, 91, 92, 93, 94, 95] (by decide +kernel) (by decide +kernel)
set_option maxRecDepth 20000 in
theorem gX10_snap_X10_isLap : GoodIn wsX10_snap (wsV RX10 140 RX10 yX10_isLap wsX10_isLap) := goodIn_app (goodIn_of _ (by decide +kernel)) ggX10_snap_X10_isLap
set_option maxRecDepth 20000 in
theorem ggX10_snap_X10_isPull : GoodIn wsX10_snap wsX10_isPull := goodIn_r _ [16, 11, 12, 5, 13] (by decide +kernel) (by decide +kernel)
set_option maxRecDepth 20000 in
theorem gX10_snap_X10_isPull : GoodIn wsX10_snap (va_wsS RX10 181 yX10_isPull wsX10_isPull) := goodIn_app (goodIn_of _ (by decide +kernel)) ggX10_snap_X10_isPull
set_option maxRecDepth 20000 in
theorem ggX10_snap_X10_lay : GoodIn wsX10_snap wsX10_lay := goodIn_r _ [20, 7, 1, 21, 22, 23, 24, 25, 26, 27, 28, 29, 30, 31, 50, 51, 52, 53, 54, 55, 56, 57, 58, 59, 60, 61, 62, 63, 64, 65, 66, 67, 68, 69, 70, 71, 72, 73, 74, 75, 76, 77, 78, 79, 80, 81, 82, 83, 84, 85, 86, 87, 88, 89, 90, 91, 92, 93, 94, 95] (by decide +kernel) (by decide +kernel)
set_option maxRecDepth 20000 in
theorem gX10_snap_X10_lay : GoodIn wsX10_snap (wsV RX10 166 RX10 yX10_lay wsX10_lay) := goodIn_app (goodIn_of _ (by decide +kernel)) ggX10_snap_X10_lay
set_option maxRecDepth 20000 in
theorem ggX10_snap_X10_spreadsOf : GoodIn wsX10_snap wsX10_spreadsOf := goodIn_r _ [35, 7, 1, 36, 37, 38, 39, 40, 41, 42, 5, 43, 28, 27, 17, 18, 19, 20, 21, 22, 23, 24, 25, 26, 29, 30, 31, 44, 45, 46, 47, 48, 49, 50, 51, 52, 53, 54, 55, 56, 57, 58, 59, 60, 61, 62, 63, 64, 65, 66, 67, 68, 69, 70, 71, 72, 73, 74, 75, 76, 77, 78, 79, 80, 81, 82, 83, 84, 85, 86, 87, 88, 89, 90, 91, 92, 93, 94, 95] (by decide +kernel) (by decide +kernel)
set_option maxRecDepth 20000 in
theorem gX10_snap_X10_spreadsOf : GoodIn wsX10_snap (wsV RX10 190 RX10 yX10_spreadsOf wsX10_spreadsOf) := goodIn_app (goodIn_of _ (by decide +kernel)) ggX10_snap_X10_spreadsOf
theorem dX10_snap_0 : decode cX10_snap 0 = .ok (.aload_n 0, 1) := by decide +kernel
theorem dX10_snap_1 : decode cX10_snap 1 = .ok (.iload_n 1, 1) := by decide +kernel
theorem dX10_snap_2 : decode cX10_snap 2 = .ok (.invokevirtual 140, 3) := by decide +kernel
theorem dX10_snap_5 : decode cX10_snap 5 = .ok (.ifCond .ne 5, 3) := by decide +kernel
theorem dX10_snap_8 : decode cX10_snap 8 = .ok (.iconst (-1), 1) := by decide +kernel
theorem dX10_snap_9 : decode cX10_snap 9 = .ok (.ireturn, 1) := by decide +kernel
theorem dX10_snap_10 : decode cX10_snap 10 = .ok (.iload_n 2, 1) := by decide +kernel
theorem dX10_snap_11 : decode cX10_snap 11 = .ok (.invokestatic 181, 3) := by decide +kernel
theorem dX10_snap_14 : decode cX10_snap 14 = .ok (.ifCond .ne 6, 3) := by decide +kernel
theorem dX10_snap_17 : decode cX10_snap 17 = .ok (.bipush (-2), 2) := by decide +kernel
theorem dX10_snap_19 : decode cX10_snap 19 = .ok (.ireturn, 1) := by decide +kernel
theorem dX10_snap_20 : decode cX10_snap 20 = .ok (.aload_n 0, 1) := by decide +kernel
theorem dX10_snap_21 : decode cX10_snap 21 = .ok (.iload_n 1, 1) := by decide +kernel
theorem dX10_snap_22 : decode cX10_snap 22 = .ok (.bipush (-6), 2) := by decide +kernel
theorem dX10_snap_24 : decode cX10_snap 24 = .ok (.invokevirtual 166, 3) := by decide +kernel
theorem dX10_snap_27 : decode cX10_snap 27 = .ok (.ifCond .ne 6, 3) := by decide +kernel
theorem dX10_snap_30 : decode cX10_snap 30 = .ok (.bipush (-3), 2) := by decide +kernel
theorem dX10_snap_32 : decode cX10_snap 32 = .ok (.ireturn, 1) := by decide +kernel
theorem dX10_snap_33 : decode cX10_snap 33 = .ok (.iconst 0, 1) := by decide +kernel
theorem dX10_snap_34 : decode cX10_snap 34 = .ok (.istore_n 3, 1) := by decide +kernel
theorem dX10_snap_35 : decode cX10_snap 35 = .ok (.iconst 1, 1) := by decide +kernel
theorem dX10_snap_36 : decode cX10_snap 36 = .ok (.istore 4, 2) := by decide +kernel
theorem dX10_snap_38 : decode cX10_snap 38 = .ok (.aload_n 0, 1) := by decide +kernel
theorem dX10_snap_39 : decode cX10_snap 39 = .ok (.iload_n 1, 1) := by decide +kernel
theorem dX10_snap_40 : decode cX10_snap 40 = .ok (.iload_n 2, 1) := by decide +kernel
theorem dX10_snap_41 : decode cX10_snap 41 = .ok (.invokevirtual 190, 3) := by decide +kernel
theorem dX10_snap_44 : decode cX10_snap 44 = .ok (.istore 5, 2) := by decide +kernel
theorem dX10_snap_46 : decode cX10_snap 46 = .ok (.iload 4, 2) := by decide +kernel
theorem dX10_snap_48 : decode cX10_snap 48 = .ok (.ifCond .eq 71, 3) := by decide +kernel
theorem dX10_snap_51 : decode cX10_snap 51 = .ok (.iload 5, 2) := by decide +kernel
theorem dX10_snap_53 : decode cX10_snap 53 = .ok (.ifCond .le 66, 3) := by decide +kernel
theorem dX10_snap_56 : decode cX10_snap 56 = .ok (.iconst 0, 1) := by decide +kernel
theorem dX10_snap_57 : decode cX10_snap 57 = .ok (.istore 6, 2) := by decide +kernel
theorem dX10_snap_59 : decode cX10_snap 59 = .ok (.iload 5, 2) := by decide +kernel
theorem dX10_snap_61 : decode cX10_snap 61 = .ok (.iload 6, 2) := by decide +kernel
theorem dX10_snap_63 : decode cX10_snap 63 = .ok (.ishr, 1) := by decide +kernel
theorem dX10_snap_64 : decode cX10_snap 64 = .ok (.iconst 1, 1) := by decide +kernel
theorem dX10_snap_65 : decode cX10_snap 65 = .ok (.iand, 1) := by decide +kernel
theorem dX10_snap_66 : decode cX10_snap 66 = .ok (.ifCond .ne 9, 3) := by decide +kernel
theorem dX10_snap_69 : decode cX10_snap 69 = .ok (.iinc 6 1, 3) := by decide +kernel
theorem dX10_snap_72 : decode cX10_snap 72 = .ok (.goto (-13), 3) := by decide +kernel
theorem dX10_snap_75 : decode cX10_snap 75 = .ok (.aload_n 0, 1) := by decide +kernel
theorem dX10_snap_76 : decode cX10_snap 76 = .ok (.getfield 16, 3) := by decide +kernel
theorem dX10_snap_79 : decode cX10_snap 79 = .ok (.iconst 5, 1) := by decide +kernel
theorem dX10_snap_80 : decode cX10_snap 80 = .ok (.iload_n 1, 1) := by decide +kernel
theorem dX10_snap_81 : decode cX10_snap 81 = .ok (.imul, 1) := by decide +kernel
theorem dX10_snap_82 : decode cX10_snap 82 = .ok (.iload 6, 2) := by decide +kernel
theorem dX10_snap_84 : decode cX10_snap 84 = .ok (.iadd, 1) := by decide +kernel
theorem dX10_snap_85 : decode cX10_snap 85 = .ok (.iconst 0, 1) := by decide +kernel
theorem dX10_snap_86 : decode cX10_snap 86 = .ok (.iastore, 1) := by decide +kernel
theorem dX10_snap_87 : decode cX10_snap 87 = .ok (.iinc 3 1, 3) := by decide +kernel
theorem dX10_snap_90 : decode cX10_snap 90 = .ok (.aload_n 0, 1) := by decide +kernel
theorem dX10_snap_91 : decode cX10_snap 91 = .ok (.iload_n 1, 1) := by decide +kernel
theorem dX10_snap_92 : decode cX10_snap 92 = .ok (.bipush (-6), 2) := by decide +kernel
theorem dX10_snap_94 : decode cX10_snap 94 = .ok (.invokevirtual 166, 3) := by decide +kernel
theorem dX10_snap_97 : decode cX10_snap 97 = .ok (.istore 4, 2) := by decide +kernel
theorem dX10_snap_99 : decode cX10_snap 99 = .ok (.iload 4, 2) := by decide +kernel
theorem dX10_snap_101 : decode cX10_snap 101 = .ok (.ifCond .eq 12, 3) := by decide +kernel
theorem dX10_snap_104 : decode cX10_snap 104 = .ok (.aload_n 0, 1) := by decide +kernel
theorem dX10_snap_105 : decode cX10_snap 105 = .ok (.iload_n 1, 1) := by decide +kernel
theorem dX10_snap_106 : decode cX10_snap 106 = .ok (.iload_n 2, 1) := by decide +kernel
theorem dX10_snap_107 : decode cX10_snap 107 = .ok (.invokevirtual 190, 3) := by decide +kernel
theorem dX10_snap_110 : decode cX10_snap 110 = .ok (.goto 4, 3) := by decide +kernel
theorem dX10_snap_113 : decode cX10_snap 113 = .ok (.iconst 0, 1) := by decide +kernel
theorem dX10_snap_114 : decode cX10_snap 114 = .ok (.istore 5, 2) := by decide +kernel
theorem dX10_snap_116 : decode cX10_snap 116 = .ok (.goto (-70), 3) := by decide +kernel
theorem dX10_snap_119 : decode cX10_snap 119 = .ok (.iload 4, 2) := by decide +kernel
theorem dX10_snap_121 : decode cX10_snap 121 = .ok (.ifCond .eq 7, 3) := by decide +kernel
theorem dX10_snap_124 : decode cX10_snap 124 = .ok (.iload_n 3, 1) := by decide +kernel
theorem dX10_snap_125 : decode cX10_snap 125 = .ok (.goto 7, 3) := by decide +kernel
theorem dX10_snap_128 : decode cX10_snap 128 = .ok (.iload_n 3, 1) := by decide +kernel
theorem dX10_snap_129 : decode cX10_snap 129 = .ok (.bipush 100, 2) := by decide +kernel
theorem dX10_snap_131 : decode cX10_snap 131 = .ok (.isub, 1) := by decide +kernel
theorem dX10_snap_132 : decode cX10_snap 132 = .ok (.ireturn, 1) := by decide +kernel
set_option maxRecDepth 20000 in
theorem ggX10_rounds_X10_isLap : GoodIn wsX10_rounds wsX10_isLap := goodIn_r _ [12, 1, 13, 14, 11, 15, 16, 17, 18, 38, 39, 40, 41, 42, 43, 44, 45, 46, 47, 48, 49, 50, 51, 52, 53, 54, 55, 56, 57, 58, 59, 60, 61, 62, 63, 64, 65, 66, 67, 68, 69, 70, 71, 72, 73, 74, 75, 76, 77, 78, 79, 80, 81, 82, 83] (by decide +kernel) (by decide +kernel)
set_option maxRecDepth 20000 in
theorem gX10_rounds_X10_isLap : GoodIn wsX10_rounds (wsV RX10 140 RX10 yX10_isLap wsX10_isLap) := goodIn_app (goodIn_of _ (by decide +kernel)) ggX10_rounds_X10_isLap
set_option maxRecDepth 20000 in
theorem ggX10_rounds_X10_isPull : GoodIn wsX10_rounds wsX10_isPull := goodIn_r _ [21, 16, 17, 11, 18] (by decide +kernel) (by decide +kernel)
set_option maxRecDepth 20000 in
theorem gX10_rounds_X10_isPull : GoodIn wsX10_rounds (va_wsS RX10 181 yX10_isPull wsX10_isPull) := goodIn_app (goodIn_of _ (by decide +kernel)) ggX10_rounds_X10_isPull
set_option maxRecDepth 20000 in
theorem ggX10_rounds_X10_in : GoodIn wsX10_rounds wsX10_in := goodIn_r _ [18] (by decide +kernel) (by decide +kernel)
set_option maxRecDepth 20000 in
theorem gX10_rounds_X10_in : GoodIn wsX10_rounds (va_wsS RX10 124 yX10_in wsX10_in) := goodIn_app (goodIn_of _ (by decide +kernel)) ggX10_rounds_X10_in
set_option maxRecDepth 20000 in
theorem ggX10_rounds_X10_lay : GoodIn wsX10_rounds wsX10_lay := goodIn_r _ [25, 1, 2, 26, 27, 28, 29, 30, 31, 6, 32, 33, 5, 34, 38, 39, 40, 41, 42, 43, 44, 45, 46, 47, 48, 49, 50, 51, 52, 53, 54, 55, 56, 57, 58, 59, 60, 61, 62, 63, 64, 65, 66, 67, 68, 69, 70, 71, 72, 73, 74, 75, 76, 77, 78, 79, 80, 81, 82, 83] (by decide +kernel) (by decide +kernel)
set_option maxRecDepth 20000 in
theorem gX10_rounds_X10_lay : GoodIn wsX10_rounds (wsV RX10 166 RX10 yX10_lay wsX10_lay) := goodIn_app (goodIn_of _ (by decide +kernel)) ggX10_rounds_X10_lay
set_option maxRecDepth 20000 in
theorem ggX10_rounds_X10_size : GoodIn wsX10_rounds wsX10_size := goodIn_r _ [37] (by decide +kernel) (by decide +kernel)
set_option maxRecDepth 20000 in
theorem gX10_rounds_X10_size : GoodIn wsX10_rounds (va_wsS RX10 154 yX10_size wsX10_size) := goodIn_app (goodIn_of _ (by decide +kernel)) ggX10_rounds_X10_size
theorem dX10_rounds_0 : decode cX10_rounds 0 = .ok (.aload_n 0, 1) := by decide +kernel
theorem dX10_rounds_1 : decode cX10_rounds 1 = .ok (.iload_n 1, 1) := by decide +kernel
theorem dX10_rounds_2 : decode cX10_rounds 2 = .ok (.invokevirtual 140, 3) := by decide +kernel
theorem dX10_rounds_5 : decode cX10_rounds 5 = .ok (.ifCond .ne 5, 3) := by decide +kernel
theorem dX10_rounds_8 : decode cX10_rounds 8 = .ok (.iconst (-1), 1) := by decide +kernel
theorem dX10_rounds_9 : decode cX10_rounds 9 = .ok (.ireturn, 1) := by decide +kernel
theorem dX10_rounds_10 : decode cX10_rounds 10 = .ok (.iload_n 2, 1) := by decide +kernel
theorem dX10_rounds_11 : decode cX10_rounds 11 = .ok (.invokestatic 181, 3) := by decide +kernel
theorem dX10_rounds_14 : decode cX10_rounds 14 = .ok (.ifCond .eq 14, 3) := by decide +kernel
theorem dX10_rounds_17 : decode cX10_rounds 17 = .ok (.iload_n 3, 1) := by decide +kernel
theorem dX10_rounds_18 : decode cX10_rounds 18 = .ok (.iconst 1, 1) := by decide +kernel
theorem dX10_rounds_19 : decode cX10_rounds 19 = .ok (.sipush 1000, 3) := by decide +kernel
theorem dX10_rounds_22 : decode cX10_rounds 22 = .ok (.invokestatic 124, 3) := by decide +kernel
theorem dX10_rounds_25 : decode cX10_rounds 25 = .ok (.ifCond .ne 6, 3) := by decide +kernel
theorem dX10_rounds_28 : decode cX10_rounds 28 = .ok (.bipush (-2), 2) := by decide +kernel
theorem dX10_rounds_30 : decode cX10_rounds 30 = .ok (.ireturn, 1) := by decide +kernel
theorem dX10_rounds_31 : decode cX10_rounds 31 = .ok (.aload_n 0, 1) := by decide +kernel
theorem dX10_rounds_32 : decode cX10_rounds 32 = .ok (.iload_n 1, 1) := by decide +kernel
theorem dX10_rounds_33 : decode cX10_rounds 33 = .ok (.bipush (-6), 2) := by decide +kernel
theorem dX10_rounds_35 : decode cX10_rounds 35 = .ok (.invokevirtual 166, 3) := by decide +kernel
theorem dX10_rounds_38 : decode cX10_rounds 38 = .ok (.ifCond .ne 6, 3) := by decide +kernel
theorem dX10_rounds_41 : decode cX10_rounds 41 = .ok (.bipush (-3), 2) := by decide +kernel
theorem dX10_rounds_43 : decode cX10_rounds 43 = .ok (.ireturn, 1) := by decide +kernel
theorem dX10_rounds_44 : decode cX10_rounds 44 = .ok (.iconst 1, 1) := by decide +kernel
theorem dX10_rounds_45 : decode cX10_rounds 45 = .ok (.istore 4, 2) := by decide +kernel
theorem dX10_rounds_47 : decode cX10_rounds 47 = .ok (.iload 4, 2) := by decide +kernel
theorem dX10_rounds_49 : decode cX10_rounds 49 = .ok (.iload_n 3, 1) := by decide +kernel
theorem dX10_rounds_50 : decode cX10_rounds 50 = .ok (.if_icmp .gt 155, 3) := by decide +kernel
theorem dX10_rounds_53 : decode cX10_rounds 53 = .ok (.iconst 0, 1) := by decide +kernel
theorem dX10_rounds_54 : decode cX10_rounds 54 = .ok (.istore 5, 2) := by decide +kernel
theorem dX10_rounds_56 : decode cX10_rounds 56 = .ok (.iload 5, 2) := by decide +kernel
theorem dX10_rounds_58 : decode cX10_rounds 58 = .ok (.aload_n 0, 1) := by decide +kernel
theorem dX10_rounds_59 : decode cX10_rounds 59 = .ok (.getfield 13, 3) := by decide +kernel
theorem dX10_rounds_62 : decode cX10_rounds 62 = .ok (.iload_n 1, 1) := by decide +kernel
theorem dX10_rounds_63 : decode cX10_rounds 63 = .ok (.iaload, 1) := by decide +kernel
theorem dX10_rounds_64 : decode cX10_rounds 64 = .ok (.if_icmp .ge 60, 3) := by decide +kernel
theorem dX10_rounds_67 : decode cX10_rounds 67 = .ok (.iconst 5, 1) := by decide +kernel
theorem dX10_rounds_68 : decode cX10_rounds 68 = .ok (.iload_n 1, 1) := by decide +kernel
theorem dX10_rounds_69 : decode cX10_rounds 69 = .ok (.imul, 1) := by decide +kernel
theorem dX10_rounds_70 : decode cX10_rounds 70 = .ok (.iload 5, 2) := by decide +kernel
theorem dX10_rounds_72 : decode cX10_rounds 72 = .ok (.iadd, 1) := by decide +kernel
theorem dX10_rounds_73 : decode cX10_rounds 73 = .ok (.istore 6, 2) := by decide +kernel
theorem dX10_rounds_75 : decode cX10_rounds 75 = .ok (.aload_n 0, 1) := by decide +kernel
theorem dX10_rounds_76 : decode cX10_rounds 76 = .ok (.getfield 16, 3) := by decide +kernel
theorem dX10_rounds_79 : decode cX10_rounds 79 = .ok (.iload 6, 2) := by decide +kernel
theorem dX10_rounds_81 : decode cX10_rounds 81 = .ok (.iaload, 1) := by decide +kernel
theorem dX10_rounds_82 : decode cX10_rounds 82 = .ok (.ifCond .le 36, 3) := by decide +kernel
theorem dX10_rounds_85 : decode cX10_rounds 85 = .ok (.aload_n 0, 1) := by decide +kernel
theorem dX10_rounds_86 : decode cX10_rounds 86 = .ok (.getfield 28, 3) := by decide +kernel
theorem dX10_rounds_89 : decode cX10_rounds 89 = .ok (.iload 6, 2) := by decide +kernel
theorem dX10_rounds_91 : decode cX10_rounds 91 = .ok (.dup2, 1) := by decide +kernel
theorem dX10_rounds_92 : decode cX10_rounds 92 = .ok (.iaload, 1) := by decide +kernel
theorem dX10_rounds_93 : decode cX10_rounds 93 = .ok (.ldc2_w 194, 3) := by decide +kernel
theorem dX10_rounds_96 : decode cX10_rounds 96 = .ok (.aload_n 0, 1) := by decide +kernel
theorem dX10_rounds_97 : decode cX10_rounds 97 = .ok (.getfield 81, 3) := by decide +kernel
theorem dX10_rounds_100 : decode cX10_rounds 100 = .ok (.iload 5, 2) := by decide +kernel
theorem dX10_rounds_102 : decode cX10_rounds 102 = .ok (.laload, 1) := by decide +kernel
theorem dX10_rounds_103 : decode cX10_rounds 103 = .ok (.invokestatic 154, 3) := by decide +kernel
theorem dX10_rounds_106 : decode cX10_rounds 106 = .ok (.lmul, 1) := by decide +kernel
theorem dX10_rounds_107 : decode cX10_rounds 107 = .ok (.iload_n 2, 1) := by decide +kernel
theorem dX10_rounds_108 : decode cX10_rounds 108 = .ok (.i2l, 1) := by decide +kernel
theorem dX10_rounds_109 : decode cX10_rounds 109 = .ok (.lmul, 1) := by decide +kernel
theorem dX10_rounds_110 : decode cX10_rounds 110 = .ok (.aload_n 0, 1) := by decide +kernel
theorem dX10_rounds_111 : decode cX10_rounds 111 = .ok (.getfield 147, 3) := by decide +kernel
theorem dX10_rounds_114 : decode cX10_rounds 114 = .ok (.ldiv, 1) := by decide +kernel
theorem dX10_rounds_115 : decode cX10_rounds 115 = .ok (.l2i, 1) := by decide +kernel
theorem dX10_rounds_116 : decode cX10_rounds 116 = .ok (.iadd, 1) := by decide +kernel
theorem dX10_rounds_117 : decode cX10_rounds 117 = .ok (.iastore, 1) := by decide +kernel
theorem dX10_rounds_118 : decode cX10_rounds 118 = .ok (.iinc 5 1, 3) := by decide +kernel
theorem dX10_rounds_121 : decode cX10_rounds 121 = .ok (.goto (-65), 3) := by decide +kernel
theorem dX10_rounds_124 : decode cX10_rounds 124 = .ok (.iconst 0, 1) := by decide +kernel
theorem dX10_rounds_125 : decode cX10_rounds 125 = .ok (.istore 5, 2) := by decide +kernel
theorem dX10_rounds_127 : decode cX10_rounds 127 = .ok (.iload 5, 2) := by decide +kernel
theorem dX10_rounds_129 : decode cX10_rounds 129 = .ok (.aload_n 0, 1) := by decide +kernel
theorem dX10_rounds_130 : decode cX10_rounds 130 = .ok (.getfield 13, 3) := by decide +kernel
theorem dX10_rounds_133 : decode cX10_rounds 133 = .ok (.iload_n 1, 1) := by decide +kernel
theorem dX10_rounds_134 : decode cX10_rounds 134 = .ok (.iaload, 1) := by decide +kernel
theorem dX10_rounds_135 : decode cX10_rounds 135 = .ok (.if_icmp .ge 51, 3) := by decide +kernel
theorem dX10_rounds_138 : decode cX10_rounds 138 = .ok (.iconst 5, 1) := by decide +kernel
theorem dX10_rounds_139 : decode cX10_rounds 139 = .ok (.iload_n 1, 1) := by decide +kernel
theorem dX10_rounds_140 : decode cX10_rounds 140 = .ok (.imul, 1) := by decide +kernel
theorem dX10_rounds_141 : decode cX10_rounds 141 = .ok (.iload 5, 2) := by decide +kernel
theorem dX10_rounds_143 : decode cX10_rounds 143 = .ok (.iadd, 1) := by decide +kernel
theorem dX10_rounds_144 : decode cX10_rounds 144 = .ok (.istore 6, 2) := by decide +kernel
theorem dX10_rounds_146 : decode cX10_rounds 146 = .ok (.aload_n 0, 1) := by decide +kernel
theorem dX10_rounds_147 : decode cX10_rounds 147 = .ok (.getfield 16, 3) := by decide +kernel
theorem dX10_rounds_150 : decode cX10_rounds 150 = .ok (.iload 6, 2) := by decide +kernel
theorem dX10_rounds_152 : decode cX10_rounds 152 = .ok (.aload_n 0, 1) := by decide +kernel
theorem dX10_rounds_153 : decode cX10_rounds 153 = .ok (.getfield 28, 3) := by decide +kernel
theorem dX10_rounds_156 : decode cX10_rounds 156 = .ok (.iload 6, 2) := by decide +kernel
theorem dX10_rounds_158 : decode cX10_rounds 158 = .ok (.iaload, 1) := by decide +kernel
theorem dX10_rounds_159 : decode cX10_rounds 159 = .ok (.aload_n 0, 1) := by decide +kernel
theorem dX10_rounds_160 : decode cX10_rounds 160 = .ok (.getfield 37, 3) := by decide +kernel
theorem dX10_rounds_163 : decode cX10_rounds 163 = .ok (.iconst 0, 1) := by decide +kernel
theorem dX10_rounds_164 : decode cX10_rounds 164 = .ok (.iaload, 1) := by decide +kernel
theorem dX10_rounds_165 : decode cX10_rounds 165 = .ok (.if_icmp .lt 7, 3) := by decide +kernel
theorem dX10_rounds_168 : decode cX10_rounds 168 = .ok (.iconst 0, 1) := by decide +kernel
theorem dX10_rounds_169 : decode cX10_rounds 169 = .ok (.goto 10, 3) := by decide +kernel
theorem dX10_rounds_172 : decode cX10_rounds 172 = .ok (.aload_n 0, 1) := by decide +kernel
theorem dX10_rounds_173 : decode cX10_rounds 173 = .ok (.getfield 16, 3) := by decide +kernel
theorem dX10_rounds_176 : decode cX10_rounds 176 = .ok (.iload 6, 2) := by decide +kernel
theorem dX10_rounds_178 : decode cX10_rounds 178 = .ok (.iaload, 1) := by decide +kernel
theorem dX10_rounds_179 : decode cX10_rounds 179 = .ok (.iastore, 1) := by decide +kernel
theorem dX10_rounds_180 : decode cX10_rounds 180 = .ok (.iinc 5 1, 3) := by decide +kernel
theorem dX10_rounds_183 : decode cX10_rounds 183 = .ok (.goto (-56), 3) := by decide +kernel
theorem dX10_rounds_186 : decode cX10_rounds 186 = .ok (.aload_n 0, 1) := by decide +kernel
theorem dX10_rounds_187 : decode cX10_rounds 187 = .ok (.iload_n 1, 1) := by decide +kernel
theorem dX10_rounds_188 : decode cX10_rounds 188 = .ok (.bipush (-6), 2) := by decide +kernel
theorem dX10_rounds_190 : decode cX10_rounds 190 = .ok (.invokevirtual 166, 3) := by decide +kernel
theorem dX10_rounds_193 : decode cX10_rounds 193 = .ok (.ifCond .ne 6, 3) := by decide +kernel
theorem dX10_rounds_196 : decode cX10_rounds 196 = .ok (.iload 4, 2) := by decide +kernel
theorem dX10_rounds_198 : decode cX10_rounds 198 = .ok (.ireturn, 1) := by decide +kernel
theorem dX10_rounds_199 : decode cX10_rounds 199 = .ok (.iinc 4 1, 3) := by decide +kernel
theorem dX10_rounds_202 : decode cX10_rounds 202 = .ok (.goto (-155), 3) := by decide +kernel
theorem dX10_rounds_205 : decode cX10_rounds 205 = .ok (.bipush (-6), 2) := by decide +kernel
theorem dX10_rounds_207 : decode cX10_rounds 207 = .ok (.ireturn, 1) := by decide +kernel
set_option maxRecDepth 20000 in
theorem ggX10_set_X10_in : GoodIn wsX10_set wsX10_in := goodIn_r _ [6] (by decide +kernel) (by decide +kernel)
set_option maxRecDepth 20000 in
theorem gX10_set_X10_in : GoodIn wsX10_set (va_wsS RX10 124 yX10_in wsX10_in) := goodIn_app (goodIn_of _ (by decide +kernel)) ggX10_set_X10_in
theorem dX10_set_0 : decode cX10_set 0 = .ok (.iload_n 1, 1) := by decide +kernel
theorem dX10_set_1 : decode cX10_set 1 = .ok (.iconst 0, 1) := by decide +kernel
theorem dX10_set_2 : decode cX10_set 2 = .ok (.bipush 7, 2) := by decide +kernel
theorem dX10_set_4 : decode cX10_set 4 = .ok (.invokestatic 124, 3) := by decide +kernel
theorem dX10_set_7 : decode cX10_set 7 = .ok (.ifCond .ne 6, 3) := by decide +kernel
theorem dX10_set_10 : decode cX10_set 10 = .ok (.bipush (-2), 2) := by decide +kernel
theorem dX10_set_12 : decode cX10_set 12 = .ok (.ireturn, 1) := by decide +kernel
theorem dX10_set_13 : decode cX10_set 13 = .ok (.iload_n 1, 1) := by decide +kernel
theorem dX10_set_14 : decode cX10_set 14 = .ok (.ifCond .ne 8, 3) := by decide +kernel
theorem dX10_set_17 : decode cX10_set 17 = .ok (.ldc 196, 2) := by decide +kernel
theorem dX10_set_19 : decode cX10_set 19 = .ok (.goto 62, 3) := by decide +kernel
theorem dX10_set_22 : decode cX10_set 22 = .ok (.iload_n 1, 1) := by decide +kernel
theorem dX10_set_23 : decode cX10_set 23 = .ok (.iconst 1, 1) := by decide +kernel
theorem dX10_set_24 : decode cX10_set 24 = .ok (.if_icmp .ne 8, 3) := by decide +kernel
theorem dX10_set_27 : decode cX10_set 27 = .ok (.bipush 50, 2) := by decide +kernel
theorem dX10_set_29 : decode cX10_set 29 = .ok (.goto 52, 3) := by decide +kernel
theorem dX10_set_32 : decode cX10_set 32 = .ok (.iload_n 1, 1) := by decide +kernel
theorem dX10_set_33 : decode cX10_set 33 = .ok (.iconst 2, 1) := by decide +kernel
theorem dX10_set_34 : decode cX10_set 34 = .ok (.if_icmp .ne 9, 3) := by decide +kernel
theorem dX10_set_37 : decode cX10_set 37 = .ok (.sipush 1000, 3) := by decide +kernel
theorem dX10_set_40 : decode cX10_set 40 = .ok (.goto 41, 3) := by decide +kernel
theorem dX10_set_43 : decode cX10_set 43 = .ok (.iload_n 1, 1) := by decide +kernel
theorem dX10_set_44 : decode cX10_set 44 = .ok (.iconst 3, 1) := by decide +kernel
theorem dX10_set_45 : decode cX10_set 45 = .ok (.if_icmp .ne 8, 3) := by decide +kernel
theorem dX10_set_48 : decode cX10_set 48 = .ok (.bipush 49, 2) := by decide +kernel
theorem dX10_set_50 : decode cX10_set 50 = .ok (.goto 31, 3) := by decide +kernel
theorem dX10_set_53 : decode cX10_set 53 = .ok (.iload_n 1, 1) := by decide +kernel
theorem dX10_set_54 : decode cX10_set 54 = .ok (.iconst 4, 1) := by decide +kernel
theorem dX10_set_55 : decode cX10_set 55 = .ok (.if_icmp .eq 9, 3) := by decide +kernel
theorem dX10_set_58 : decode cX10_set 58 = .ok (.iload_n 1, 1) := by decide +kernel
theorem dX10_set_59 : decode cX10_set 59 = .ok (.bipush 6, 2) := by decide +kernel
theorem dX10_set_61 : decode cX10_set 61 = .ok (.if_icmp .ne 7, 3) := by decide +kernel
theorem dX10_set_64 : decode cX10_set 64 = .ok (.iconst 3, 1) := by decide +kernel
theorem dX10_set_65 : decode cX10_set 65 = .ok (.goto 16, 3) := by decide +kernel
theorem dX10_set_68 : decode cX10_set 68 = .ok (.iload_n 1, 1) := by decide +kernel
theorem dX10_set_69 : decode cX10_set 69 = .ok (.iconst 5, 1) := by decide +kernel
theorem dX10_set_70 : decode cX10_set 70 = .ok (.if_icmp .ne 9, 3) := by decide +kernel
theorem dX10_set_73 : decode cX10_set 73 = .ok (.sipush 10000, 3) := by decide +kernel
theorem dX10_set_76 : decode cX10_set 76 = .ok (.goto 5, 3) := by decide +kernel
theorem dX10_set_79 : decode cX10_set 79 = .ok (.bipush 100, 2) := by decide +kernel
theorem dX10_set_81 : decode cX10_set 81 = .ok (.istore_n 3, 1) := by decide +kernel
theorem dX10_set_82 : decode cX10_set 82 = .ok (.iload_n 2, 1) := by decide +kernel
theorem dX10_set_83 : decode cX10_set 83 = .ok (.iload_n 1, 1) := by decide +kernel
theorem dX10_set_84 : decode cX10_set 84 = .ok (.ifCond .eq 8, 3) := by decide +kernel
theorem dX10_set_87 : decode cX10_set 87 = .ok (.iload_n 1, 1) := by decide +kernel
theorem dX10_set_88 : decode cX10_set 88 = .ok (.iconst 4, 1) := by decide +kernel
theorem dX10_set_89 : decode cX10_set 89 = .ok (.if_icmp .ne 7, 3) := by decide +kernel
theorem dX10_set_92 : decode cX10_set 92 = .ok (.iconst 1, 1) := by decide +kernel
theorem dX10_set_93 : decode cX10_set 93 = .ok (.goto 4, 3) := by decide +kernel
theorem dX10_set_96 : decode cX10_set 96 = .ok (.iconst 0, 1) := by decide +kernel
theorem dX10_set_97 : decode cX10_set 97 = .ok (.iload_n 3, 1) := by decide +kernel
theorem dX10_set_98 : decode cX10_set 98 = .ok (.invokestatic 124, 3) := by decide +kernel
theorem dX10_set_101 : decode cX10_set 101 = .ok (.ifCond .ne 6, 3) := by decide +kernel
theorem dX10_set_104 : decode cX10_set 104 = .ok (.bipush (-2), 2) := by decide +kernel
theorem dX10_set_106 : decode cX10_set 106 = .ok (.ireturn, 1) := by decide +kernel
theorem dX10_set_107 : decode cX10_set 107 = .ok (.aload_n 0, 1) := by decide +kernel
theorem dX10_set_108 : decode cX10_set 108 = .ok (.getfield 37, 3) := by decide +kernel
theorem dX10_set_111 : decode cX10_set 111 = .ok (.iload_n 1, 1) := by decide +kernel
theorem dX10_set_112 : decode cX10_set 112 = .ok (.iaload, 1) := by decide +kernel
theorem dX10_set_113 : decode cX10_set 113 = .ok (.istore 4, 2) := by decide +kernel
theorem dX10_set_115 : decode cX10_set 115 = .ok (.aload_n 0, 1) := by decide +kernel
theorem dX10_set_116 : decode cX10_set 116 = .ok (.getfield 37, 3) := by decide +kernel
theorem dX10_set_119 : decode cX10_set 119 = .ok (.iload_n 1, 1) := by decide +kernel
theorem dX10_set_120 : decode cX10_set 120 = .ok (.iload_n 2, 1) := by decide +kernel
theorem dX10_set_121 : decode cX10_set 121 = .ok (.iastore, 1) := by decide +kernel
theorem dX10_set_122 : decode cX10_set 122 = .ok (.iload 4, 2) := by decide +kernel
theorem dX10_set_124 : decode cX10_set 124 = .ok (.ireturn, 1) := by decide +kernel
set_option maxRecDepth 20000 in
theorem ggX10_damp_X10_isLap : GoodIn wsX10_damp wsX10_isLap := goodIn_r _ [6, 7, 8, 9, 5, 10, 11, 12, 13, 14, 15, 16, 17, 18, 19, 20, 21, 22, 23, 24, 25, 26, 27, 28, 29, 30, 31, 32, 33, 34, 35, 36, 37, 38, 39, 40, 41, 42, 43, 44, 45, 46, 47, 48, 49, 50, 51, 52, 53, 54, 55, 56, 57, 58, 59] (by decide +kernel) (by decide +kernel)
set_option maxRecDepth 20000 in
theorem gX10_damp_X10_isLap : GoodIn wsX10_damp (wsV RX10 140 RX10 yX10_isLap wsX10_isLap) := goodIn_app (goodIn_of _ (by decide +kernel)) ggX10_damp_X10_isLap
set_option maxRecDepth 20000 in
theorem ggX10_damp_X10_in : GoodIn wsX10_damp wsX10_in := goodIn_r _ [13] (by decide +kernel) (by decide +kernel)
set_option maxRecDepth 20000 in
theorem gX10_damp_X10_in : GoodIn wsX10_damp (va_wsS RX10 124 yX10_in wsX10_in) := goodIn_app (goodIn_of _ (by decide +kernel)) ggX10_damp_X10_in
theorem dX10_damp_0 : decode cX10_damp 0 = .ok (.aload_n 0, 1) := by decide +kernel
theorem dX10_damp_1 : decode cX10_damp 1 = .ok (.iload_n 1, 1) := by decide +kernel
theorem dX10_damp_2 : decode cX10_damp 2 = .ok (.invokevirtual 140, 3) := by decide +kernel
theorem dX10_damp_5 : decode cX10_damp 5 = .ok (.ifCond .ne 5, 3) := by decide +kernel
theorem dX10_damp_8 : decode cX10_damp 8 = .ok (.iconst (-1), 1) := by decide +kernel
theorem dX10_damp_9 : decode cX10_damp 9 = .ok (.ireturn, 1) := by decide +kernel
theorem dX10_damp_10 : decode cX10_damp 10 = .ok (.iload_n 2, 1) := by decide +kernel
theorem dX10_damp_11 : decode cX10_damp 11 = .ok (.iconst 0, 1) := by decide +kernel
theorem dX10_damp_12 : decode cX10_damp 12 = .ok (.bipush 9, 2) := by decide +kernel
theorem dX10_damp_14 : decode cX10_damp 14 = .ok (.invokestatic 124, 3) := by decide +kernel
theorem dX10_damp_17 : decode cX10_damp 17 = .ok (.ifCond .eq 14, 3) := by decide +kernel
theorem dX10_damp_20 : decode cX10_damp 20 = .ok (.iload_n 3, 1) := by decide +kernel
theorem dX10_damp_21 : decode cX10_damp 21 = .ok (.iconst 0, 1) := by decide +kernel
theorem dX10_damp_22 : decode cX10_damp 22 = .ok (.sipush 1000, 3) := by decide +kernel
theorem dX10_damp_25 : decode cX10_damp 25 = .ok (.invokestatic 124, 3) := by decide +kernel
theorem dX10_damp_28 : decode cX10_damp 28 = .ok (.ifCond .ne 6, 3) := by decide +kernel
theorem dX10_damp_31 : decode cX10_damp 31 = .ok (.bipush (-2), 2) := by decide +kernel
theorem dX10_damp_33 : decode cX10_damp 33 = .ok (.ireturn, 1) := by decide +kernel
theorem dX10_damp_34 : decode cX10_damp 34 = .ok (.aload_n 0, 1) := by decide +kernel
theorem dX10_damp_35 : decode cX10_damp 35 = .ok (.getfield 31, 3) := by decide +kernel
theorem dX10_damp_38 : decode cX10_damp 38 = .ok (.bipush 10, 2) := by decide +kernel
theorem dX10_damp_40 : decode cX10_damp 40 = .ok (.iload_n 1, 1) := by decide +kernel
theorem dX10_damp_41 : decode cX10_damp 41 = .ok (.imul, 1) := by decide +kernel
theorem dX10_damp_42 : decode cX10_damp 42 = .ok (.iload_n 2, 1) := by decide +kernel
theorem dX10_damp_43 : decode cX10_damp 43 = .ok (.iadd, 1) := by decide +kernel
theorem dX10_damp_44 : decode cX10_damp 44 = .ok (.iaload, 1) := by decide +kernel
theorem dX10_damp_45 : decode cX10_damp 45 = .ok (.istore 4, 2) := by decide +kernel
theorem dX10_damp_47 : decode cX10_damp 47 = .ok (.aload_n 0, 1) := by decide +kernel
theorem dX10_damp_48 : decode cX10_damp 48 = .ok (.getfield 31, 3) := by decide +kernel
theorem dX10_damp_51 : decode cX10_damp 51 = .ok (.bipush 10, 2) := by decide +kernel
theorem dX10_damp_53 : decode cX10_damp 53 = .ok (.iload_n 1, 1) := by decide +kernel
theorem dX10_damp_54 : decode cX10_damp 54 = .ok (.imul, 1) := by decide +kernel
theorem dX10_damp_55 : decode cX10_damp 55 = .ok (.iload_n 2, 1) := by decide +kernel
theorem dX10_damp_56 : decode cX10_damp 56 = .ok (.iadd, 1) := by decide +kernel
theorem dX10_damp_57 : decode cX10_damp 57 = .ok (.iload_n 3, 1) := by decide +kernel
theorem dX10_damp_58 : decode cX10_damp 58 = .ok (.iastore, 1) := by decide +kernel
theorem dX10_damp_59 : decode cX10_damp 59 = .ok (.iload 4, 2) := by decide +kernel
theorem dX10_damp_61 : decode cX10_damp 61 = .ok (.ireturn, 1) := by decide +kernel
set_option maxRecDepth 20000 in
theorem ggX10_hours_X10_isLap : GoodIn wsX10_hours wsX10_isLap := goodIn_r _ [10, 11, 12, 13, 9, 14, 15, 16, 17, 18, 19, 20, 21, 22, 23, 24, 25, 26, 27, 28, 29, 30, 31, 32, 33, 34, 35, 36, 37, 38, 39, 40, 41, 42, 43, 44, 45, 46, 47, 48, 49, 50, 51, 52, 53, 54, 55, 56, 57, 58, 59, 60, 61, 62, 63] (by decide +kernel) (by decide +kernel)
set_option maxRecDepth 20000 in
theorem gX10_hours_X10_isLap : GoodIn wsX10_hours (wsV RX10 140 RX10 yX10_isLap wsX10_isLap) := goodIn_app (goodIn_of _ (by decide +kernel)) ggX10_hours_X10_isLap
set_option maxRecDepth 20000 in
theorem ggX10_hours_X10_in : GoodIn wsX10_hours wsX10_in := goodIn_r _ [17] (by decide +kernel) (by decide +kernel)
set_option maxRecDepth 20000 in
theorem gX10_hours_X10_in : GoodIn wsX10_hours (va_wsS RX10 124 yX10_in wsX10_in) := goodIn_app (goodIn_of _ (by decide +kernel)) ggX10_hours_X10_in
theorem dX10_hours_0 : decode cX10_hours 0 = .ok (.aload_n 0, 1) := by decide +kernel
theorem dX10_hours_1 : decode cX10_hours 1 = .ok (.iload_n 1, 1) := by decide +kernel
theorem dX10_hours_2 : decode cX10_hours 2 = .ok (.invokevirtual 140, 3) := by decide +kernel
theorem dX10_hours_5 : decode cX10_hours 5 = .ok (.ifCond .ne 5, 3) := by decide +kernel
theorem dX10_hours_8 : decode cX10_hours 8 = .ok (.iconst (-1), 1) := by decide +kernel
theorem dX10_hours_9 : decode cX10_hours 9 = .ok (.ireturn, 1) := by decide +kernel
theorem dX10_hours_10 : decode cX10_hours 10 = .ok (.iload_n 2, 1) := by decide +kernel
theorem dX10_hours_11 : decode cX10_hours 11 = .ok (.iconst 1, 1) := by decide +kernel
theorem dX10_hours_12 : decode cX10_hours 12 = .ok (.sipush 1000, 3) := by decide +kernel
theorem dX10_hours_15 : decode cX10_hours 15 = .ok (.invokestatic 124, 3) := by decide +kernel
theorem dX10_hours_18 : decode cX10_hours 18 = .ok (.ifCond .ne 6, 3) := by decide +kernel
theorem dX10_hours_21 : decode cX10_hours 21 = .ok (.bipush (-2), 2) := by decide +kernel
theorem dX10_hours_23 : decode cX10_hours 23 = .ok (.ireturn, 1) := by decide +kernel
theorem dX10_hours_24 : decode cX10_hours 24 = .ok (.iconst 0, 1) := by decide +kernel
theorem dX10_hours_25 : decode cX10_hours 25 = .ok (.istore_n 3, 1) := by decide +kernel
theorem dX10_hours_26 : decode cX10_hours 26 = .ok (.iload_n 3, 1) := by decide +kernel
theorem dX10_hours_27 : decode cX10_hours 27 = .ok (.iload_n 2, 1) := by decide +kernel
theorem dX10_hours_28 : decode cX10_hours 28 = .ok (.if_icmp .ge 211, 3) := by decide +kernel
theorem dX10_hours_31 : decode cX10_hours 31 = .ok (.iconst 0, 1) := by decide +kernel
theorem dX10_hours_32 : decode cX10_hours 32 = .ok (.istore 4, 2) := by decide +kernel
theorem dX10_hours_34 : decode cX10_hours 34 = .ok (.iload 4, 2) := by decide +kernel
theorem dX10_hours_36 : decode cX10_hours 36 = .ok (.bipush 10, 2) := by decide +kernel
theorem dX10_hours_38 : decode cX10_hours 38 = .ok (.if_icmp .ge 115, 3) := by decide +kernel
theorem dX10_hours_41 : decode cX10_hours 41 = .ok (.aload_n 0, 1) := by decide +kernel
theorem dX10_hours_42 : decode cX10_hours 42 = .ok (.getfield 31, 3) := by decide +kernel
theorem dX10_hours_45 : decode cX10_hours 45 = .ok (.bipush 10, 2) := by decide +kernel
theorem dX10_hours_47 : decode cX10_hours 47 = .ok (.iload_n 1, 1) := by decide +kernel
theorem dX10_hours_48 : decode cX10_hours 48 = .ok (.imul, 1) := by decide +kernel
theorem dX10_hours_49 : decode cX10_hours 49 = .ok (.iload 4, 2) := by decide +kernel
theorem dX10_hours_51 : decode cX10_hours 51 = .ok (.iadd, 1) := by decide +kernel
theorem dX10_hours_52 : decode cX10_hours 52 = .ok (.iaload, 1) := by decide +kernel
theorem dX10_hours_53 : decode cX10_hours 53 = .ok (.istore 5, 2) := by decide +kernel
theorem dX10_hours_55 : decode cX10_hours 55 = .ok (.iload 4, 2) := by decide +kernel
theorem dX10_hours_57 : decode cX10_hours 57 = .ok (.ifCond .ne 12, 3) := by decide +kernel
theorem dX10_hours_60 : decode cX10_hours 60 = .ok (.aload_n 0, 1) := by decide +kernel
theorem dX10_hours_61 : decode cX10_hours 61 = .ok (.getfield 37, 3) := by decide +kernel
theorem dX10_hours_64 : decode cX10_hours 64 = .ok (.iconst 2, 1) := by decide +kernel
theorem dX10_hours_65 : decode cX10_hours 65 = .ok (.iaload, 1) := by decide +kernel
theorem dX10_hours_66 : decode cX10_hours 66 = .ok (.goto 17, 3) := by decide +kernel
theorem dX10_hours_69 : decode cX10_hours 69 = .ok (.aload_n 0, 1) := by decide +kernel
theorem dX10_hours_70 : decode cX10_hours 70 = .ok (.getfield 31, 3) := by decide +kernel
theorem dX10_hours_73 : decode cX10_hours 73 = .ok (.bipush 10, 2) := by decide +kernel
theorem dX10_hours_75 : decode cX10_hours 75 = .ok (.iload_n 1, 1) := by decide +kernel
theorem dX10_hours_76 : decode cX10_hours 76 = .ok (.imul, 1) := by decide +kernel
theorem dX10_hours_77 : decode cX10_hours 77 = .ok (.iload 4, 2) := by decide +kernel
theorem dX10_hours_79 : decode cX10_hours 79 = .ok (.iadd, 1) := by decide +kernel
theorem dX10_hours_80 : decode cX10_hours 80 = .ok (.iconst 1, 1) := by decide +kernel
theorem dX10_hours_81 : decode cX10_hours 81 = .ok (.isub, 1) := by decide +kernel
theorem dX10_hours_82 : decode cX10_hours 82 = .ok (.iaload, 1) := by decide +kernel
theorem dX10_hours_83 : decode cX10_hours 83 = .ok (.istore 6, 2) := by decide +kernel
theorem dX10_hours_85 : decode cX10_hours 85 = .ok (.iload 4, 2) := by decide +kernel
theorem dX10_hours_87 : decode cX10_hours 87 = .ok (.bipush 9, 2) := by decide +kernel
theorem dX10_hours_89 : decode cX10_hours 89 = .ok (.if_icmp .ne 12, 3) := by decide +kernel
theorem dX10_hours_92 : decode cX10_hours 92 = .ok (.aload_n 0, 1) := by decide +kernel
theorem dX10_hours_93 : decode cX10_hours 93 = .ok (.getfield 37, 3) := by decide +kernel
theorem dX10_hours_96 : decode cX10_hours 96 = .ok (.iconst 2, 1) := by decide +kernel
theorem dX10_hours_97 : decode cX10_hours 97 = .ok (.iaload, 1) := by decide +kernel
theorem dX10_hours_98 : decode cX10_hours 98 = .ok (.goto 17, 3) := by decide +kernel
theorem dX10_hours_101 : decode cX10_hours 101 = .ok (.aload_n 0, 1) := by decide +kernel
theorem dX10_hours_102 : decode cX10_hours 102 = .ok (.getfield 31, 3) := by decide +kernel
theorem dX10_hours_105 : decode cX10_hours 105 = .ok (.bipush 10, 2) := by decide +kernel
theorem dX10_hours_107 : decode cX10_hours 107 = .ok (.iload_n 1, 1) := by decide +kernel
theorem dX10_hours_108 : decode cX10_hours 108 = .ok (.imul, 1) := by decide +kernel
theorem dX10_hours_109 : decode cX10_hours 109 = .ok (.iload 4, 2) := by decide +kernel
theorem dX10_hours_111 : decode cX10_hours 111 = .ok (.iadd, 1) := by decide +kernel
theorem dX10_hours_112 : decode cX10_hours 112 = .ok (.iconst 1, 1) := by decide +kernel
theorem dX10_hours_113 : decode cX10_hours 113 = .ok (.iadd, 1) := by decide +kernel
theorem dX10_hours_114 : decode cX10_hours 114 = .ok (.iaload, 1) := by decide +kernel
theorem dX10_hours_115 : decode cX10_hours 115 = .ok (.istore 7, 2) := by decide +kernel
theorem dX10_hours_117 : decode cX10_hours 117 = .ok (.aload_n 0, 1) := by decide +kernel
theorem dX10_hours_118 : decode cX10_hours 118 = .ok (.getfield 99, 3) := by decide +kernel
theorem dX10_hours_121 : decode cX10_hours 121 = .ok (.iload 4, 2) := by decide +kernel
theorem dX10_hours_123 : decode cX10_hours 123 = .ok (.iload 5, 2) := by decide +kernel
theorem dX10_hours_125 : decode cX10_hours 125 = .ok (.aload_n 0, 1) := by decide +kernel
theorem dX10_hours_126 : decode cX10_hours 126 = .ok (.getfield 37, 3) := by decide +kernel
theorem dX10_hours_129 : decode cX10_hours 129 = .ok (.iconst 1, 1) := by decide +kernel
theorem dX10_hours_130 : decode cX10_hours 130 = .ok (.iaload, 1) := by decide +kernel
theorem dX10_hours_131 : decode cX10_hours 131 = .ok (.iload 6, 2) := by decide +kernel
theorem dX10_hours_133 : decode cX10_hours 133 = .ok (.iload 7, 2) := by decide +kernel
theorem dX10_hours_135 : decode cX10_hours 135 = .ok (.iadd, 1) := by decide +kernel
theorem dX10_hours_136 : decode cX10_hours 136 = .ok (.iconst 2, 1) := by decide +kernel
theorem dX10_hours_137 : decode cX10_hours 137 = .ok (.iload 5, 2) := by decide +kernel
theorem dX10_hours_139 : decode cX10_hours 139 = .ok (.imul, 1) := by decide +kernel
theorem dX10_hours_140 : decode cX10_hours 140 = .ok (.isub, 1) := by decide +kernel
theorem dX10_hours_141 : decode cX10_hours 141 = .ok (.imul, 1) := by decide +kernel
theorem dX10_hours_142 : decode cX10_hours 142 = .ok (.bipush 100, 2) := by decide +kernel
theorem dX10_hours_144 : decode cX10_hours 144 = .ok (.idiv, 1) := by decide +kernel
theorem dX10_hours_145 : decode cX10_hours 145 = .ok (.iadd, 1) := by decide +kernel
theorem dX10_hours_146 : decode cX10_hours 146 = .ok (.iastore, 1) := by decide +kernel
theorem dX10_hours_147 : decode cX10_hours 147 = .ok (.iinc 4 1, 3) := by decide +kernel
theorem dX10_hours_150 : decode cX10_hours 150 = .ok (.goto (-116), 3) := by decide +kernel
theorem dX10_hours_153 : decode cX10_hours 153 = .ok (.iconst 0, 1) := by decide +kernel
theorem dX10_hours_154 : decode cX10_hours 154 = .ok (.istore 4, 2) := by decide +kernel
theorem dX10_hours_156 : decode cX10_hours 156 = .ok (.iload 4, 2) := by decide +kernel
theorem dX10_hours_158 : decode cX10_hours 158 = .ok (.bipush 10, 2) := by decide +kernel
theorem dX10_hours_160 : decode cX10_hours 160 = .ok (.if_icmp .ge 28, 3) := by decide +kernel
theorem dX10_hours_163 : decode cX10_hours 163 = .ok (.aload_n 0, 1) := by decide +kernel
theorem dX10_hours_164 : decode cX10_hours 164 = .ok (.getfield 31, 3) := by decide +kernel
theorem dX10_hours_167 : decode cX10_hours 167 = .ok (.bipush 10, 2) := by decide +kernel
theorem dX10_hours_169 : decode cX10_hours 169 = .ok (.iload_n 1, 1) := by decide +kernel
theorem dX10_hours_170 : decode cX10_hours 170 = .ok (.imul, 1) := by decide +kernel
theorem dX10_hours_171 : decode cX10_hours 171 = .ok (.iload 4, 2) := by decide +kernel
theorem dX10_hours_173 : decode cX10_hours 173 = .ok (.iadd, 1) := by decide +kernel
theorem dX10_hours_174 : decode cX10_hours 174 = .ok (.aload_n 0, 1) := by decide +kernel
theorem dX10_hours_175 : decode cX10_hours 175 = .ok (.getfield 99, 3) := by decide +kernel
theorem dX10_hours_178 : decode cX10_hours 178 = .ok (.iload 4, 2) := by decide +kernel
theorem dX10_hours_180 : decode cX10_hours 180 = .ok (.iaload, 1) := by decide +kernel
theorem dX10_hours_181 : decode cX10_hours 181 = .ok (.iastore, 1) := by decide +kernel
theorem dX10_hours_182 : decode cX10_hours 182 = .ok (.iinc 4 1, 3) := by decide +kernel
theorem dX10_hours_185 : decode cX10_hours 185 = .ok (.goto (-29), 3) := by decide +kernel
theorem dX10_hours_188 : decode cX10_hours 188 = .ok (.aload_n 0, 1) := by decide +kernel
theorem dX10_hours_189 : decode cX10_hours 189 = .ok (.getfield 34, 3) := by decide +kernel
theorem dX10_hours_192 : decode cX10_hours 192 = .ok (.iload_n 1, 1) := by decide +kernel
theorem dX10_hours_193 : decode cX10_hours 193 = .ok (.iaload, 1) := by decide +kernel
theorem dX10_hours_194 : decode cX10_hours 194 = .ok (.aload_n 0, 1) := by decide +kernel
theorem dX10_hours_195 : decode cX10_hours 195 = .ok (.getfield 40, 3) := by decide +kernel
theorem dX10_hours_198 : decode cX10_hours 198 = .ok (.aload_n 0, 1) := by decide +kernel
theorem dX10_hours_199 : decode cX10_hours 199 = .ok (.getfield 37, 3) := by decide +kernel
theorem dX10_hours_202 : decode cX10_hours 202 = .ok (.iconst 3, 1) := by decide +kernel
theorem dX10_hours_203 : decode cX10_hours 203 = .ok (.iaload, 1) := by decide +kernel
theorem dX10_hours_204 : decode cX10_hours 204 = .ok (.bipush 10, 2) := by decide +kernel
theorem dX10_hours_206 : decode cX10_hours 206 = .ok (.idiv, 1) := by decide +kernel
theorem dX10_hours_207 : decode cX10_hours 207 = .ok (.iaload, 1) := by decide +kernel
theorem dX10_hours_208 : decode cX10_hours 208 = .ok (.iadd, 1) := by decide +kernel
theorem dX10_hours_209 : decode cX10_hours 209 = .ok (.istore 4, 2) := by decide +kernel
theorem dX10_hours_211 : decode cX10_hours 211 = .ok (.aload_n 0, 1) := by decide +kernel
theorem dX10_hours_212 : decode cX10_hours 212 = .ok (.getfield 34, 3) := by decide +kernel
theorem dX10_hours_215 : decode cX10_hours 215 = .ok (.iload_n 1, 1) := by decide +kernel
theorem dX10_hours_216 : decode cX10_hours 216 = .ok (.iload 4, 2) := by decide +kernel
theorem dX10_hours_218 : decode cX10_hours 218 = .ok (.sipush 1000, 3) := by decide +kernel
theorem dX10_hours_221 : decode cX10_hours 221 = .ok (.if_icmp .le 9, 3) := by decide +kernel
theorem dX10_hours_224 : decode cX10_hours 224 = .ok (.sipush 1000, 3) := by decide +kernel
theorem dX10_hours_227 : decode cX10_hours 227 = .ok (.goto 5, 3) := by decide +kernel
theorem dX10_hours_230 : decode cX10_hours 230 = .ok (.iload 4, 2) := by decide +kernel
theorem dX10_hours_232 : decode cX10_hours 232 = .ok (.iastore, 1) := by decide +kernel
theorem dX10_hours_233 : decode cX10_hours 233 = .ok (.iinc 3 1, 3) := by decide +kernel
theorem dX10_hours_236 : decode cX10_hours 236 = .ok (.goto (-210), 3) := by decide +kernel
theorem dX10_hours_239 : decode cX10_hours 239 = .ok (.aload_n 0, 1) := by decide +kernel
theorem dX10_hours_240 : decode cX10_hours 240 = .ok (.getfield 34, 3) := by decide +kernel
theorem dX10_hours_243 : decode cX10_hours 243 = .ok (.iload_n 1, 1) := by decide +kernel
theorem dX10_hours_244 : decode cX10_hours 244 = .ok (.iaload, 1) := by decide +kernel
theorem dX10_hours_245 : decode cX10_hours 245 = .ok (.ireturn, 1) := by decide +kernel
set_option maxRecDepth 20000 in
theorem ggX10_of_X10_isLap : GoodIn wsX10_of wsX10_isLap := goodIn_r _ [9, 2, 10, 11, 8, 12, 13, 14, 15, 16, 17, 18, 19, 20, 21, 22, 23, 24, 25, 26, 27, 28, 29, 30, 31, 32, 33, 34, 35, 36, 37, 38, 39, 40, 41, 42, 43, 44, 45, 46, 47, 48, 49, 50, 51, 52, 53, 54, 55, 56, 57, 58, 59, 60, 61] (by decide +kernel) (by decide +kernel)
set_option maxRecDepth 20000 in
theorem gX10_of_X10_isLap : GoodIn wsX10_of (wsV RX10 140 RX10 yX10_isLap wsX10_isLap) := goodIn_app (goodIn_of _ (by decide +kernel)) ggX10_of_X10_isLap
set_option maxRecDepth 20000 in
theorem ggX10_of_X10_in : GoodIn wsX10_of wsX10_in := goodIn_r _ [15] (by decide +kernel) (by decide +kernel)
set_option maxRecDepth 20000 in
theorem gX10_of_X10_in : GoodIn wsX10_of (va_wsS RX10 124 yX10_in wsX10_in) := goodIn_app (goodIn_of _ (by decide +kernel)) ggX10_of_X10_in
theorem dX10_of_0 : decode cX10_of 0 = .ok (.aload_n 0, 1) := by decide +kernel
theorem dX10_of_1 : decode cX10_of 1 = .ok (.iload_n 1, 1) := by decide +kernel
theorem dX10_of_2 : decode cX10_of 2 = .ok (.invokevirtual 140, 3) := by decide +kernel
theorem dX10_of_5 : decode cX10_of 5 = .ok (.ifCond .ne 5, 3) := by decide +kernel
theorem dX10_of_8 : decode cX10_of 8 = .ok (.iconst (-1), 1) := by decide +kernel
theorem dX10_of_9 : decode cX10_of 9 = .ok (.ireturn, 1) := by decide +kernel
theorem dX10_of_10 : decode cX10_of 10 = .ok (.iload_n 2, 1) := by decide +kernel
theorem dX10_of_11 : decode cX10_of 11 = .ok (.iconst 0, 1) := by decide +kernel
theorem dX10_of_12 : decode cX10_of 12 = .ok (.bipush 9, 2) := by decide +kernel
theorem dX10_of_14 : decode cX10_of 14 = .ok (.invokestatic 124, 3) := by decide +kernel
theorem dX10_of_17 : decode cX10_of 17 = .ok (.ifCond .eq 15, 3) := by decide +kernel
theorem dX10_of_20 : decode cX10_of 20 = .ok (.aload_n 0, 1) := by decide +kernel
theorem dX10_of_21 : decode cX10_of 21 = .ok (.getfield 31, 3) := by decide +kernel
theorem dX10_of_24 : decode cX10_of 24 = .ok (.bipush 10, 2) := by decide +kernel
theorem dX10_of_26 : decode cX10_of 26 = .ok (.iload_n 1, 1) := by decide +kernel
theorem dX10_of_27 : decode cX10_of 27 = .ok (.imul, 1) := by decide +kernel
theorem dX10_of_28 : decode cX10_of 28 = .ok (.iload_n 2, 1) := by decide +kernel
theorem dX10_of_29 : decode cX10_of 29 = .ok (.iadd, 1) := by decide +kernel
theorem dX10_of_30 : decode cX10_of 30 = .ok (.iaload, 1) := by decide +kernel
theorem dX10_of_31 : decode cX10_of 31 = .ok (.ireturn, 1) := by decide +kernel
theorem dX10_of_32 : decode cX10_of 32 = .ok (.iconst 0, 1) := by decide +kernel
theorem dX10_of_33 : decode cX10_of 33 = .ok (.istore_n 3, 1) := by decide +kernel
theorem dX10_of_34 : decode cX10_of 34 = .ok (.iconst 0, 1) := by decide +kernel
theorem dX10_of_35 : decode cX10_of 35 = .ok (.istore 4, 2) := by decide +kernel
theorem dX10_of_37 : decode cX10_of 37 = .ok (.iload 4, 2) := by decide +kernel
theorem dX10_of_39 : decode cX10_of 39 = .ok (.aload_n 0, 1) := by decide +kernel
theorem dX10_of_40 : decode cX10_of 40 = .ok (.getfield 13, 3) := by decide +kernel
theorem dX10_of_43 : decode cX10_of 43 = .ok (.iload_n 1, 1) := by decide +kernel
theorem dX10_of_44 : decode cX10_of 44 = .ok (.iaload, 1) := by decide +kernel
theorem dX10_of_45 : decode cX10_of 45 = .ok (.if_icmp .ge 31, 3) := by decide +kernel
theorem dX10_of_48 : decode cX10_of 48 = .ok (.iload_n 3, 1) := by decide +kernel
theorem dX10_of_49 : decode cX10_of 49 = .ok (.aload_n 0, 1) := by decide +kernel
theorem dX10_of_50 : decode cX10_of 50 = .ok (.getfield 16, 3) := by decide +kernel
theorem dX10_of_53 : decode cX10_of 53 = .ok (.iconst 5, 1) := by decide +kernel
theorem dX10_of_54 : decode cX10_of 54 = .ok (.iload_n 1, 1) := by decide +kernel
theorem dX10_of_55 : decode cX10_of 55 = .ok (.imul, 1) := by decide +kernel
theorem dX10_of_56 : decode cX10_of 56 = .ok (.iload 4, 2) := by decide +kernel
theorem dX10_of_58 : decode cX10_of 58 = .ok (.iadd, 1) := by decide +kernel
theorem dX10_of_59 : decode cX10_of 59 = .ok (.iaload, 1) := by decide +kernel
theorem dX10_of_60 : decode cX10_of 60 = .ok (.ifCond .le 7, 3) := by decide +kernel
theorem dX10_of_63 : decode cX10_of 63 = .ok (.iconst 1, 1) := by decide +kernel
theorem dX10_of_64 : decode cX10_of 64 = .ok (.goto 4, 3) := by decide +kernel
theorem dX10_of_67 : decode cX10_of 67 = .ok (.iconst 0, 1) := by decide +kernel
theorem dX10_of_68 : decode cX10_of 68 = .ok (.iadd, 1) := by decide +kernel
theorem dX10_of_69 : decode cX10_of 69 = .ok (.istore_n 3, 1) := by decide +kernel
theorem dX10_of_70 : decode cX10_of 70 = .ok (.iinc 4 1, 3) := by decide +kernel
theorem dX10_of_73 : decode cX10_of 73 = .ok (.goto (-36), 3) := by decide +kernel
theorem dX10_of_76 : decode cX10_of 76 = .ok (.iload_n 2, 1) := by decide +kernel
theorem dX10_of_77 : decode cX10_of 77 = .ok (.bipush 10, 2) := by decide +kernel
theorem dX10_of_79 : decode cX10_of 79 = .ok (.if_icmp .ne 12, 3) := by decide +kernel
theorem dX10_of_82 : decode cX10_of 82 = .ok (.aload_n 0, 1) := by decide +kernel
theorem dX10_of_83 : decode cX10_of 83 = .ok (.getfield 34, 3) := by decide +kernel
theorem dX10_of_86 : decode cX10_of 86 = .ok (.iload_n 1, 1) := by decide +kernel
theorem dX10_of_87 : decode cX10_of 87 = .ok (.iaload, 1) := by decide +kernel
theorem dX10_of_88 : decode cX10_of 88 = .ok (.goto 30, 3) := by decide +kernel
theorem dX10_of_91 : decode cX10_of 91 = .ok (.iload_n 2, 1) := by decide +kernel
theorem dX10_of_92 : decode cX10_of 92 = .ok (.bipush 11, 2) := by decide +kernel
theorem dX10_of_94 : decode cX10_of 94 = .ok (.if_icmp .ne 12, 3) := by decide +kernel
theorem dX10_of_97 : decode cX10_of 97 = .ok (.aload_n 0, 1) := by decide +kernel
theorem dX10_of_98 : decode cX10_of 98 = .ok (.getfield 13, 3) := by decide +kernel
theorem dX10_of_101 : decode cX10_of 101 = .ok (.iload_n 1, 1) := by decide +kernel
theorem dX10_of_102 : decode cX10_of 102 = .ok (.iaload, 1) := by decide +kernel
theorem dX10_of_103 : decode cX10_of 103 = .ok (.goto 15, 3) := by decide +kernel
theorem dX10_of_106 : decode cX10_of 106 = .ok (.iload_n 2, 1) := by decide +kernel
theorem dX10_of_107 : decode cX10_of 107 = .ok (.bipush 12, 2) := by decide +kernel
theorem dX10_of_109 : decode cX10_of 109 = .ok (.if_icmp .ne 7, 3) := by decide +kernel
theorem dX10_of_112 : decode cX10_of 112 = .ok (.iload_n 3, 1) := by decide +kernel
theorem dX10_of_113 : decode cX10_of 113 = .ok (.goto 5, 3) := by decide +kernel
theorem dX10_of_116 : decode cX10_of 116 = .ok (.bipush (-2), 2) := by decide +kernel
theorem dX10_of_118 : decode cX10_of 118 = .ok (.ireturn, 1) := by decide +kernel
set_option maxRecDepth 20000 in
theorem ggX10_rate_X10_in : GoodIn wsX10_rate wsX10_in := goodIn_r _ [5] (by decide +kernel) (by decide +kernel)
set_option maxRecDepth 20000 in
theorem gX10_rate_X10_in : GoodIn wsX10_rate (va_wsS RX10 124 yX10_in wsX10_in) := goodIn_app (goodIn_of _ (by decide +kernel)) ggX10_rate_X10_in
theorem dX10_rate_0 : decode cX10_rate 0 = .ok (.iload_n 1, 1) := by decide +kernel
theorem dX10_rate_1 : decode cX10_rate 1 = .ok (.iconst 0, 1) := by decide +kernel
theorem dX10_rate_2 : decode cX10_rate 2 = .ok (.iconst 4, 1) := by decide +kernel
theorem dX10_rate_3 : decode cX10_rate 3 = .ok (.invokestatic 124, 3) := by decide +kernel
theorem dX10_rate_6 : decode cX10_rate 6 = .ok (.ifCond .eq 13, 3) := by decide +kernel
theorem dX10_rate_9 : decode cX10_rate 9 = .ok (.iload_n 2, 1) := by decide +kernel
theorem dX10_rate_10 : decode cX10_rate 10 = .ok (.iconst 0, 1) := by decide +kernel
theorem dX10_rate_11 : decode cX10_rate 11 = .ok (.bipush 100, 2) := by decide +kernel
theorem dX10_rate_13 : decode cX10_rate 13 = .ok (.invokestatic 124, 3) := by decide +kernel
theorem dX10_rate_16 : decode cX10_rate 16 = .ok (.ifCond .ne 6, 3) := by decide +kernel
theorem dX10_rate_19 : decode cX10_rate 19 = .ok (.bipush (-2), 2) := by decide +kernel
theorem dX10_rate_21 : decode cX10_rate 21 = .ok (.ireturn, 1) := by decide +kernel
theorem dX10_rate_22 : decode cX10_rate 22 = .ok (.aload_n 0, 1) := by decide +kernel
theorem dX10_rate_23 : decode cX10_rate 23 = .ok (.getfield 40, 3) := by decide +kernel
theorem dX10_rate_26 : decode cX10_rate 26 = .ok (.iload_n 1, 1) := by decide +kernel
theorem dX10_rate_27 : decode cX10_rate 27 = .ok (.iaload, 1) := by decide +kernel
theorem dX10_rate_28 : decode cX10_rate 28 = .ok (.istore_n 3, 1) := by decide +kernel
theorem dX10_rate_29 : decode cX10_rate 29 = .ok (.aload_n 0, 1) := by decide +kernel
theorem dX10_rate_30 : decode cX10_rate 30 = .ok (.getfield 40, 3) := by decide +kernel
theorem dX10_rate_33 : decode cX10_rate 33 = .ok (.iload_n 1, 1) := by decide +kernel
theorem dX10_rate_34 : decode cX10_rate 34 = .ok (.iload_n 2, 1) := by decide +kernel
theorem dX10_rate_35 : decode cX10_rate 35 = .ok (.iastore, 1) := by decide +kernel
theorem dX10_rate_36 : decode cX10_rate 36 = .ok (.iload_n 3, 1) := by decide +kernel
theorem dX10_rate_37 : decode cX10_rate 37 = .ok (.ireturn, 1) := by decide +kernel
set_option maxRecDepth 20000 in
theorem ggX10_isJoint_X10_in : GoodIn wsX10_isJoint wsX10_in := goodIn_r _ [4] (by decide +kernel) (by decide +kernel)
set_option maxRecDepth 20000 in
theorem gX10_isJoint_X10_in : GoodIn wsX10_isJoint (va_wsS RX10 124 yX10_in wsX10_in) := goodIn_app (goodIn_of _ (by decide +kernel)) ggX10_isJoint_X10_in
theorem dX10_isJoint_0 : decode cX10_isJoint 0 = .ok (.iload_n 0, 1) := by decide +kernel
theorem dX10_isJoint_1 : decode cX10_isJoint 1 = .ok (.iconst 0, 1) := by decide +kernel
theorem dX10_isJoint_2 : decode cX10_isJoint 2 = .ok (.bipush 6, 2) := by decide +kernel
theorem dX10_isJoint_4 : decode cX10_isJoint 4 = .ok (.invokestatic 124, 3) := by decide +kernel
theorem dX10_isJoint_7 : decode cX10_isJoint 7 = .ok (.ireturn, 1) := by decide +kernel
set_option maxRecDepth 20000 in
theorem ggX10_joint_X10_isJoint : GoodIn wsX10_joint wsX10_isJoint := goodIn_r _ [6, 7, 8, 5, 9] (by decide +kernel) (by decide +kernel)
set_option maxRecDepth 20000 in
theorem gX10_joint_X10_isJoint : GoodIn wsX10_joint (va_wsS RX10 197 yX10_isJoint wsX10_isJoint) := goodIn_app (goodIn_of _ (by decide +kernel)) ggX10_joint_X10_isJoint
set_option maxRecDepth 20000 in
theorem ggX10_joint_X10_in : GoodIn wsX10_joint wsX10_in := goodIn_r _ [9] (by decide +kernel) (by decide +kernel)
set_option maxRecDepth 20000 in
theorem gX10_joint_X10_in : GoodIn wsX10_joint (va_wsS RX10 124 yX10_in wsX10_in) := goodIn_app (goodIn_of _ (by decide +kernel)) ggX10_joint_X10_in
theorem dX10_joint_0 : decode cX10_joint 0 = .ok (.iload_n 1, 1) := by decide +kernel
theorem dX10_joint_1 : decode cX10_joint 1 = .ok (.invokestatic 197, 3) := by decide +kernel
theorem dX10_joint_4 : decode cX10_joint 4 = .ok (.ifCond .ne 5, 3) := by decide +kernel
theorem dX10_joint_7 : decode cX10_joint 7 = .ok (.iconst (-1), 1) := by decide +kernel
theorem dX10_joint_8 : decode cX10_joint 8 = .ok (.ireturn, 1) := by decide +kernel
theorem dX10_joint_9 : decode cX10_joint 9 = .ok (.iload_n 2, 1) := by decide +kernel
theorem dX10_joint_10 : decode cX10_joint 10 = .ok (.iconst 0, 1) := by decide +kernel
theorem dX10_joint_11 : decode cX10_joint 11 = .ok (.bipush 100, 2) := by decide +kernel
theorem dX10_joint_13 : decode cX10_joint 13 = .ok (.invokestatic 124, 3) := by decide +kernel
theorem dX10_joint_16 : decode cX10_joint 16 = .ok (.ifCond .eq 13, 3) := by decide +kernel
theorem dX10_joint_19 : decode cX10_joint 19 = .ok (.iload_n 3, 1) := by decide +kernel
theorem dX10_joint_20 : decode cX10_joint 20 = .ok (.iconst 0, 1) := by decide +kernel
theorem dX10_joint_21 : decode cX10_joint 21 = .ok (.bipush 127, 2) := by decide +kernel
theorem dX10_joint_23 : decode cX10_joint 23 = .ok (.invokestatic 124, 3) := by decide +kernel
theorem dX10_joint_26 : decode cX10_joint 26 = .ok (.ifCond .ne 6, 3) := by decide +kernel
theorem dX10_joint_29 : decode cX10_joint 29 = .ok (.bipush (-2), 2) := by decide +kernel
theorem dX10_joint_31 : decode cX10_joint 31 = .ok (.ireturn, 1) := by decide +kernel
theorem dX10_joint_32 : decode cX10_joint 32 = .ok (.aload_n 0, 1) := by decide +kernel
theorem dX10_joint_33 : decode cX10_joint 33 = .ok (.getfield 43, 3) := by decide +kernel
theorem dX10_joint_36 : decode cX10_joint 36 = .ok (.iload_n 1, 1) := by decide +kernel
theorem dX10_joint_37 : decode cX10_joint 37 = .ok (.iaload, 1) := by decide +kernel
theorem dX10_joint_38 : decode cX10_joint 38 = .ok (.istore 4, 2) := by decide +kernel
theorem dX10_joint_40 : decode cX10_joint 40 = .ok (.aload_n 0, 1) := by decide +kernel
theorem dX10_joint_41 : decode cX10_joint 41 = .ok (.getfield 43, 3) := by decide +kernel
theorem dX10_joint_44 : decode cX10_joint 44 = .ok (.iload_n 1, 1) := by decide +kernel
theorem dX10_joint_45 : decode cX10_joint 45 = .ok (.iload_n 2, 1) := by decide +kernel
theorem dX10_joint_46 : decode cX10_joint 46 = .ok (.iastore, 1) := by decide +kernel
theorem dX10_joint_47 : decode cX10_joint 47 = .ok (.aload_n 0, 1) := by decide +kernel
theorem dX10_joint_48 : decode cX10_joint 48 = .ok (.getfield 46, 3) := by decide +kernel
theorem dX10_joint_51 : decode cX10_joint 51 = .ok (.iload_n 1, 1) := by decide +kernel
theorem dX10_joint_52 : decode cX10_joint 52 = .ok (.iload_n 3, 1) := by decide +kernel
theorem dX10_joint_53 : decode cX10_joint 53 = .ok (.iastore, 1) := by decide +kernel
theorem dX10_joint_54 : decode cX10_joint 54 = .ok (.iload 4, 2) := by decide +kernel
theorem dX10_joint_56 : decode cX10_joint 56 = .ok (.ireturn, 1) := by decide +kernel
theorem dX10_joints_0 : decode cX10_joints 0 = .ok (.iconst 0, 1) := by decide +kernel
theorem dX10_joints_1 : decode cX10_joints 1 = .ok (.istore_n 1, 1) := by decide +kernel
theorem dX10_joints_2 : decode cX10_joints 2 = .ok (.iconst 0, 1) := by decide +kernel
theorem dX10_joints_3 : decode cX10_joints 3 = .ok (.istore_n 2, 1) := by decide +kernel
theorem dX10_joints_4 : decode cX10_joints 4 = .ok (.iload_n 2, 1) := by decide +kernel
theorem dX10_joints_5 : decode cX10_joints 5 = .ok (.bipush 7, 2) := by decide +kernel
theorem dX10_joints_7 : decode cX10_joints 7 = .ok (.if_icmp .ge 28, 3) := by decide +kernel
theorem dX10_joints_10 : decode cX10_joints 10 = .ok (.iload_n 1, 1) := by decide +kernel
theorem dX10_joints_11 : decode cX10_joints 11 = .ok (.aload_n 0, 1) := by decide +kernel
theorem dX10_joints_12 : decode cX10_joints 12 = .ok (.getfield 43, 3) := by decide +kernel
theorem dX10_joints_15 : decode cX10_joints 15 = .ok (.iload_n 2, 1) := by decide +kernel
theorem dX10_joints_16 : decode cX10_joints 16 = .ok (.iaload, 1) := by decide +kernel
theorem dX10_joints_17 : decode cX10_joints 17 = .ok (.ifCond .le 9, 3) := by decide +kernel
theorem dX10_joints_20 : decode cX10_joints 20 = .ok (.iconst 1, 1) := by decide +kernel
theorem dX10_joints_21 : decode cX10_joints 21 = .ok (.iload_n 2, 1) := by decide +kernel
theorem dX10_joints_22 : decode cX10_joints 22 = .ok (.ishl, 1) := by decide +kernel
theorem dX10_joints_23 : decode cX10_joints 23 = .ok (.goto 4, 3) := by decide +kernel
theorem dX10_joints_26 : decode cX10_joints 26 = .ok (.iconst 0, 1) := by decide +kernel
theorem dX10_joints_27 : decode cX10_joints 27 = .ok (.ior, 1) := by decide +kernel
theorem dX10_joints_28 : decode cX10_joints 28 = .ok (.istore_n 1, 1) := by decide +kernel
theorem dX10_joints_29 : decode cX10_joints 29 = .ok (.iinc 2 1, 3) := by decide +kernel
theorem dX10_joints_32 : decode cX10_joints 32 = .ok (.goto (-28), 3) := by decide +kernel
theorem dX10_joints_35 : decode cX10_joints 35 = .ok (.iload_n 1, 1) := by decide +kernel
theorem dX10_joints_36 : decode cX10_joints 36 = .ok (.ireturn, 1) := by decide +kernel
set_option maxRecDepth 20000 in
theorem ggX10_canBe_X10_joints : GoodIn wsX10_canBe wsX10_joints := goodIn_r _ [6, 7, 8, 9, 10, 11, 12, 13, 14, 15, 16, 17, 18, 19, 20, 21, 22, 23, 24, 25, 26, 27, 28, 29, 30, 31, 32, 33, 34, 35, 36, 37, 38, 39, 40, 41, 42, 43, 44, 45, 46, 47, 48, 49, 50, 51, 52, 53] (by decide +kernel) (by decide +kernel)
set_option maxRecDepth 20000 in
theorem gX10_canBe_X10_joints : GoodIn wsX10_canBe (wsV RX10 200 RX10 yX10_joints wsX10_joints) := goodIn_app (goodIn_of _ (by decide +kernel)) ggX10_canBe_X10_joints
theorem dX10_canBe_0 : decode cX10_canBe 0 = .ok (.aload_n 0, 1) := by decide +kernel
theorem dX10_canBe_1 : decode cX10_canBe 1 = .ok (.invokevirtual 200, 3) := by decide +kernel
theorem dX10_canBe_4 : decode cX10_canBe 4 = .ok (.istore_n 1, 1) := by decide +kernel
theorem dX10_canBe_5 : decode cX10_canBe 5 = .ok (.iconst 0, 1) := by decide +kernel
theorem dX10_canBe_6 : decode cX10_canBe 6 = .ok (.istore_n 2, 1) := by decide +kernel
theorem dX10_canBe_7 : decode cX10_canBe 7 = .ok (.iconst 0, 1) := by decide +kernel
theorem dX10_canBe_8 : decode cX10_canBe 8 = .ok (.istore_n 3, 1) := by decide +kernel
theorem dX10_canBe_9 : decode cX10_canBe 9 = .ok (.iload_n 3, 1) := by decide +kernel
theorem dX10_canBe_10 : decode cX10_canBe 10 = .ok (.bipush 7, 2) := by decide +kernel
theorem dX10_canBe_12 : decode cX10_canBe 12 = .ok (.if_icmp .ge 60, 3) := by decide +kernel
theorem dX10_canBe_15 : decode cX10_canBe 15 = .ok (.iconst 0, 1) := by decide +kernel
theorem dX10_canBe_16 : decode cX10_canBe 16 = .ok (.istore 4, 2) := by decide +kernel
theorem dX10_canBe_18 : decode cX10_canBe 18 = .ok (.iload 4, 2) := by decide +kernel
theorem dX10_canBe_20 : decode cX10_canBe 20 = .ok (.bipush 7, 2) := by decide +kernel
theorem dX10_canBe_22 : decode cX10_canBe 22 = .ok (.if_icmp .ge 44, 3) := by decide +kernel
theorem dX10_canBe_25 : decode cX10_canBe 25 = .ok (.iload_n 2, 1) := by decide +kernel
theorem dX10_canBe_26 : decode cX10_canBe 26 = .ok (.iload_n 1, 1) := by decide +kernel
theorem dX10_canBe_27 : decode cX10_canBe 27 = .ok (.iload 4, 2) := by decide +kernel
theorem dX10_canBe_29 : decode cX10_canBe 29 = .ok (.ishr, 1) := by decide +kernel
theorem dX10_canBe_30 : decode cX10_canBe 30 = .ok (.iconst 1, 1) := by decide +kernel
theorem dX10_canBe_31 : decode cX10_canBe 31 = .ok (.iand, 1) := by decide +kernel
theorem dX10_canBe_32 : decode cX10_canBe 32 = .ok (.iconst 1, 1) := by decide +kernel
theorem dX10_canBe_33 : decode cX10_canBe 33 = .ok (.if_icmp .ne 24, 3) := by decide +kernel
theorem dX10_canBe_36 : decode cX10_canBe 36 = .ok (.aload_n 0, 1) := by decide +kernel
theorem dX10_canBe_37 : decode cX10_canBe 37 = .ok (.getfield 46, 3) := by decide +kernel
theorem dX10_canBe_40 : decode cX10_canBe 40 = .ok (.iload 4, 2) := by decide +kernel
theorem dX10_canBe_42 : decode cX10_canBe 42 = .ok (.iaload, 1) := by decide +kernel
theorem dX10_canBe_43 : decode cX10_canBe 43 = .ok (.iload_n 2, 1) := by decide +kernel
theorem dX10_canBe_44 : decode cX10_canBe 44 = .ok (.iconst (-1), 1) := by decide +kernel
theorem dX10_canBe_45 : decode cX10_canBe 45 = .ok (.ixor, 1) := by decide +kernel
theorem dX10_canBe_46 : decode cX10_canBe 46 = .ok (.iand, 1) := by decide +kernel
theorem dX10_canBe_47 : decode cX10_canBe 47 = .ok (.ifCond .ne 10, 3) := by decide +kernel
theorem dX10_canBe_50 : decode cX10_canBe 50 = .ok (.iconst 1, 1) := by decide +kernel
theorem dX10_canBe_51 : decode cX10_canBe 51 = .ok (.iload 4, 2) := by decide +kernel
theorem dX10_canBe_53 : decode cX10_canBe 53 = .ok (.ishl, 1) := by decide +kernel
theorem dX10_canBe_54 : decode cX10_canBe 54 = .ok (.goto 4, 3) := by decide +kernel
theorem dX10_canBe_57 : decode cX10_canBe 57 = .ok (.iconst 0, 1) := by decide +kernel
theorem dX10_canBe_58 : decode cX10_canBe 58 = .ok (.ior, 1) := by decide +kernel
theorem dX10_canBe_59 : decode cX10_canBe 59 = .ok (.istore_n 2, 1) := by decide +kernel
theorem dX10_canBe_60 : decode cX10_canBe 60 = .ok (.iinc 4 1, 3) := by decide +kernel
theorem dX10_canBe_63 : decode cX10_canBe 63 = .ok (.goto (-45), 3) := by decide +kernel
theorem dX10_canBe_66 : decode cX10_canBe 66 = .ok (.iinc 3 1, 3) := by decide +kernel
theorem dX10_canBe_69 : decode cX10_canBe 69 = .ok (.goto (-60), 3) := by decide +kernel
theorem dX10_canBe_72 : decode cX10_canBe 72 = .ok (.iload_n 2, 1) := by decide +kernel
theorem dX10_canBe_73 : decode cX10_canBe 73 = .ok (.iload_n 1, 1) := by decide +kernel
theorem dX10_canBe_74 : decode cX10_canBe 74 = .ok (.if_icmp .ne 7, 3) := by decide +kernel
theorem dX10_canBe_77 : decode cX10_canBe 77 = .ok (.iconst 1, 1) := by decide +kernel
theorem dX10_canBe_78 : decode cX10_canBe 78 = .ok (.goto 4, 3) := by decide +kernel
theorem dX10_canBe_81 : decode cX10_canBe 81 = .ok (.iconst 0, 1) := by decide +kernel
theorem dX10_canBe_82 : decode cX10_canBe 82 = .ok (.ireturn, 1) := by decide +kernel
theorem dX10_endOf_0 : decode cX10_endOf 0 = .ok (.iconst 0, 1) := by decide +kernel
theorem dX10_endOf_1 : decode cX10_endOf 1 = .ok (.istore_n 1, 1) := by decide +kernel
theorem dX10_endOf_2 : decode cX10_endOf 2 = .ok (.iconst 0, 1) := by decide +kernel
theorem dX10_endOf_3 : decode cX10_endOf 3 = .ok (.istore_n 2, 1) := by decide +kernel
theorem dX10_endOf_4 : decode cX10_endOf 4 = .ok (.iconst 0, 1) := by decide +kernel
theorem dX10_endOf_5 : decode cX10_endOf 5 = .ok (.istore_n 3, 1) := by decide +kernel
theorem dX10_endOf_6 : decode cX10_endOf 6 = .ok (.iconst 0, 1) := by decide +kernel
theorem dX10_endOf_7 : decode cX10_endOf 7 = .ok (.istore 4, 2) := by decide +kernel
theorem dX10_endOf_9 : decode cX10_endOf 9 = .ok (.iload 4, 2) := by decide +kernel
theorem dX10_endOf_11 : decode cX10_endOf 11 = .ok (.iconst 3, 1) := by decide +kernel
theorem dX10_endOf_12 : decode cX10_endOf 12 = .ok (.if_icmp .ge 17, 3) := by decide +kernel
theorem dX10_endOf_15 : decode cX10_endOf 15 = .ok (.aload_n 0, 1) := by decide +kernel
theorem dX10_endOf_16 : decode cX10_endOf 16 = .ok (.getfield 114, 3) := by decide +kernel
theorem dX10_endOf_19 : decode cX10_endOf 19 = .ok (.iload 4, 2) := by decide +kernel
theorem dX10_endOf_21 : decode cX10_endOf 21 = .ok (.iconst 0, 1) := by decide +kernel
theorem dX10_endOf_22 : decode cX10_endOf 22 = .ok (.iastore, 1) := by decide +kernel
theorem dX10_endOf_23 : decode cX10_endOf 23 = .ok (.iinc 4 1, 3) := by decide +kernel
theorem dX10_endOf_26 : decode cX10_endOf 26 = .ok (.goto (-17), 3) := by decide +kernel
theorem dX10_endOf_29 : decode cX10_endOf 29 = .ok (.iconst 0, 1) := by decide +kernel
theorem dX10_endOf_30 : decode cX10_endOf 30 = .ok (.istore 4, 2) := by decide +kernel
theorem dX10_endOf_32 : decode cX10_endOf 32 = .ok (.iload 4, 2) := by decide +kernel
theorem dX10_endOf_34 : decode cX10_endOf 34 = .ok (.aload_n 0, 1) := by decide +kernel
theorem dX10_endOf_35 : decode cX10_endOf 35 = .ok (.getfield 203, 3) := by decide +kernel
theorem dX10_endOf_38 : decode cX10_endOf 38 = .ok (.if_icmp .ge 244, 3) := by decide +kernel
theorem dX10_endOf_41 : decode cX10_endOf 41 = .ok (.aload_n 0, 1) := by decide +kernel
theorem dX10_endOf_42 : decode cX10_endOf 42 = .ok (.getfield 102, 3) := by decide +kernel
theorem dX10_endOf_45 : decode cX10_endOf 45 = .ok (.iload 4, 2) := by decide +kernel
theorem dX10_endOf_47 : decode cX10_endOf 47 = .ok (.iaload, 1) := by decide +kernel
theorem dX10_endOf_48 : decode cX10_endOf 48 = .ok (.istore 5, 2) := by decide +kernel
theorem dX10_endOf_50 : decode cX10_endOf 50 = .ok (.aload_n 0, 1) := by decide +kernel
theorem dX10_endOf_51 : decode cX10_endOf 51 = .ok (.getfield 46, 3) := by decide +kernel
theorem dX10_endOf_54 : decode cX10_endOf 54 = .ok (.iload 5, 2) := by decide +kernel
theorem dX10_endOf_56 : decode cX10_endOf 56 = .ok (.iaload, 1) := by decide +kernel
theorem dX10_endOf_57 : decode cX10_endOf 57 = .ok (.iload_n 1, 1) := by decide +kernel
theorem dX10_endOf_58 : decode cX10_endOf 58 = .ok (.iconst (-1), 1) := by decide +kernel
theorem dX10_endOf_59 : decode cX10_endOf 59 = .ok (.ixor, 1) := by decide +kernel
theorem dX10_endOf_60 : decode cX10_endOf 60 = .ok (.iand, 1) := by decide +kernel
theorem dX10_endOf_61 : decode cX10_endOf 61 = .ok (.ifCond .eq 6, 3) := by decide +kernel
theorem dX10_endOf_64 : decode cX10_endOf 64 = .ok (.bipush (-6), 2) := by decide +kernel
theorem dX10_endOf_66 : decode cX10_endOf 66 = .ok (.ireturn, 1) := by decide +kernel
theorem dX10_endOf_67 : decode cX10_endOf 67 = .ok (.iload_n 1, 1) := by decide +kernel
theorem dX10_endOf_68 : decode cX10_endOf 68 = .ok (.iconst 1, 1) := by decide +kernel
theorem dX10_endOf_69 : decode cX10_endOf 69 = .ok (.iload 5, 2) := by decide +kernel
theorem dX10_endOf_71 : decode cX10_endOf 71 = .ok (.ishl, 1) := by decide +kernel
theorem dX10_endOf_72 : decode cX10_endOf 72 = .ok (.ior, 1) := by decide +kernel
theorem dX10_endOf_73 : decode cX10_endOf 73 = .ok (.istore_n 1, 1) := by decide +kernel
theorem dX10_endOf_74 : decode cX10_endOf 74 = .ok (.iconst 0, 1) := by decide +kernel
theorem dX10_endOf_75 : decode cX10_endOf 75 = .ok (.istore 6, 2) := by decide +kernel
theorem dX10_endOf_77 : decode cX10_endOf 77 = .ok (.iconst 1, 1) := by decide +kernel
theorem dX10_endOf_78 : decode cX10_endOf 78 = .ok (.istore 7, 2) := by decide +kernel
theorem dX10_endOf_80 : decode cX10_endOf 80 = .ok (.iload 7, 2) := by decide +kernel
theorem dX10_endOf_82 : decode cX10_endOf 82 = .ok (.aload_n 0, 1) := by decide +kernel
theorem dX10_endOf_83 : decode cX10_endOf 83 = .ok (.getfield 37, 3) := by decide +kernel
theorem dX10_endOf_86 : decode cX10_endOf 86 = .ok (.iconst 4, 1) := by decide +kernel
theorem dX10_endOf_87 : decode cX10_endOf 87 = .ok (.iaload, 1) := by decide +kernel
theorem dX10_endOf_88 : decode cX10_endOf 88 = .ok (.if_icmp .ge 35, 3) := by decide +kernel
theorem dX10_endOf_91 : decode cX10_endOf 91 = .ok (.aload_n 0, 1) := by decide +kernel
theorem dX10_endOf_92 : decode cX10_endOf 92 = .ok (.getfield 114, 3) := by decide +kernel
theorem dX10_endOf_95 : decode cX10_endOf 95 = .ok (.iload 7, 2) := by decide +kernel
theorem dX10_endOf_97 : decode cX10_endOf 97 = .ok (.iaload, 1) := by decide +kernel
theorem dX10_endOf_98 : decode cX10_endOf 98 = .ok (.aload_n 0, 1) := by decide +kernel
theorem dX10_endOf_99 : decode cX10_endOf 99 = .ok (.getfield 114, 3) := by decide +kernel
theorem dX10_endOf_102 : decode cX10_endOf 102 = .ok (.iload 6, 2) := by decide +kernel
theorem dX10_endOf_104 : decode cX10_endOf 104 = .ok (.iaload, 1) := by decide +kernel
theorem dX10_endOf_105 : decode cX10_endOf 105 = .ok (.if_icmp .ge 8, 3) := by decide +kernel
theorem dX10_endOf_108 : decode cX10_endOf 108 = .ok (.iload 7, 2) := by decide +kernel
theorem dX10_endOf_110 : decode cX10_endOf 110 = .ok (.goto 5, 3) := by decide +kernel
theorem dX10_endOf_113 : decode cX10_endOf 113 = .ok (.iload 6, 2) := by decide +kernel
theorem dX10_endOf_115 : decode cX10_endOf 115 = .ok (.istore 6, 2) := by decide +kernel
theorem dX10_endOf_117 : decode cX10_endOf 117 = .ok (.iinc 7 1, 3) := by decide +kernel
theorem dX10_endOf_120 : decode cX10_endOf 120 = .ok (.goto (-40), 3) := by decide +kernel
theorem dX10_endOf_123 : decode cX10_endOf 123 = .ok (.aload_n 0, 1) := by decide +kernel
theorem dX10_endOf_124 : decode cX10_endOf 124 = .ok (.getfield 114, 3) := by decide +kernel
theorem dX10_endOf_127 : decode cX10_endOf 127 = .ok (.iload 6, 2) := by decide +kernel
theorem dX10_endOf_129 : decode cX10_endOf 129 = .ok (.iaload, 1) := by decide +kernel
theorem dX10_endOf_130 : decode cX10_endOf 130 = .ok (.iload_n 3, 1) := by decide +kernel
theorem dX10_endOf_131 : decode cX10_endOf 131 = .ok (.if_icmp .le 13, 3) := by decide +kernel
theorem dX10_endOf_134 : decode cX10_endOf 134 = .ok (.aload_n 0, 1) := by decide +kernel
theorem dX10_endOf_135 : decode cX10_endOf 135 = .ok (.getfield 114, 3) := by decide +kernel
theorem dX10_endOf_138 : decode cX10_endOf 138 = .ok (.iload 6, 2) := by decide +kernel
theorem dX10_endOf_140 : decode cX10_endOf 140 = .ok (.iaload, 1) := by decide +kernel
theorem dX10_endOf_141 : decode cX10_endOf 141 = .ok (.goto 4, 3) := by decide +kernel
theorem dX10_endOf_144 : decode cX10_endOf 144 = .ok (.iload_n 3, 1) := by decide +kernel
theorem dX10_endOf_145 : decode cX10_endOf 145 = .ok (.istore_n 3, 1) := by decide +kernel
theorem dX10_endOf_146 : decode cX10_endOf 146 = .ok (.iconst 0, 1) := by decide +kernel
theorem dX10_endOf_147 : decode cX10_endOf 147 = .ok (.istore 7, 2) := by decide +kernel
theorem dX10_endOf_149 : decode cX10_endOf 149 = .ok (.iload 7, 2) := by decide +kernel
theorem dX10_endOf_151 : decode cX10_endOf 151 = .ok (.bipush 7, 2) := by decide +kernel
theorem dX10_endOf_153 : decode cX10_endOf 153 = .ok (.if_icmp .ge 76, 3) := by decide +kernel
theorem dX10_endOf_156 : decode cX10_endOf 156 = .ok (.aload_n 0, 1) := by decide +kernel
theorem dX10_endOf_157 : decode cX10_endOf 157 = .ok (.getfield 46, 3) := by decide +kernel
theorem dX10_endOf_160 : decode cX10_endOf 160 = .ok (.iload 5, 2) := by decide +kernel
theorem dX10_endOf_162 : decode cX10_endOf 162 = .ok (.iaload, 1) := by decide +kernel
theorem dX10_endOf_163 : decode cX10_endOf 163 = .ok (.iload 7, 2) := by decide +kernel
theorem dX10_endOf_165 : decode cX10_endOf 165 = .ok (.ishr, 1) := by decide +kernel
theorem dX10_endOf_166 : decode cX10_endOf 166 = .ok (.iconst 1, 1) := by decide +kernel
theorem dX10_endOf_167 : decode cX10_endOf 167 = .ok (.iand, 1) := by decide +kernel
theorem dX10_endOf_168 : decode cX10_endOf 168 = .ok (.iconst 1, 1) := by decide +kernel
theorem dX10_endOf_169 : decode cX10_endOf 169 = .ok (.if_icmp .ne 7, 3) := by decide +kernel
theorem dX10_endOf_172 : decode cX10_endOf 172 = .ok (.iconst 1, 1) := by decide +kernel
theorem dX10_endOf_173 : decode cX10_endOf 173 = .ok (.goto 4, 3) := by decide +kernel
theorem dX10_endOf_176 : decode cX10_endOf 176 = .ok (.iconst 0, 1) := by decide +kernel
theorem dX10_endOf_177 : decode cX10_endOf 177 = .ok (.istore 8, 2) := by decide +kernel
theorem dX10_endOf_179 : decode cX10_endOf 179 = .ok (.iload 8, 2) := by decide +kernel
theorem dX10_endOf_181 : decode cX10_endOf 181 = .ok (.ifCond .eq 40, 3) := by decide +kernel
theorem dX10_endOf_184 : decode cX10_endOf 184 = .ok (.aload_n 0, 1) := by decide +kernel
theorem dX10_endOf_185 : decode cX10_endOf 185 = .ok (.getfield 108, 3) := by decide +kernel
theorem dX10_endOf_188 : decode cX10_endOf 188 = .ok (.iload 7, 2) := by decide +kernel
theorem dX10_endOf_190 : decode cX10_endOf 190 = .ok (.iaload, 1) := by decide +kernel
theorem dX10_endOf_191 : decode cX10_endOf 191 = .ok (.aload_n 0, 1) := by decide +kernel
theorem dX10_endOf_192 : decode cX10_endOf 192 = .ok (.getfield 43, 3) := by decide +kernel
theorem dX10_endOf_195 : decode cX10_endOf 195 = .ok (.iload 7, 2) := by decide +kernel
theorem dX10_endOf_197 : decode cX10_endOf 197 = .ok (.iaload, 1) := by decide +kernel
theorem dX10_endOf_198 : decode cX10_endOf 198 = .ok (.iadd, 1) := by decide +kernel
theorem dX10_endOf_199 : decode cX10_endOf 199 = .ok (.iload_n 3, 1) := by decide +kernel
theorem dX10_endOf_200 : decode cX10_endOf 200 = .ok (.if_icmp .le 21, 3) := by decide +kernel
theorem dX10_endOf_203 : decode cX10_endOf 203 = .ok (.aload_n 0, 1) := by decide +kernel
theorem dX10_endOf_204 : decode cX10_endOf 204 = .ok (.getfield 108, 3) := by decide +kernel
theorem dX10_endOf_207 : decode cX10_endOf 207 = .ok (.iload 7, 2) := by decide +kernel
theorem dX10_endOf_209 : decode cX10_endOf 209 = .ok (.iaload, 1) := by decide +kernel
theorem dX10_endOf_210 : decode cX10_endOf 210 = .ok (.aload_n 0, 1) := by decide +kernel
theorem dX10_endOf_211 : decode cX10_endOf 211 = .ok (.getfield 43, 3) := by decide +kernel
theorem dX10_endOf_214 : decode cX10_endOf 214 = .ok (.iload 7, 2) := by decide +kernel
theorem dX10_endOf_216 : decode cX10_endOf 216 = .ok (.iaload, 1) := by decide +kernel
theorem dX10_endOf_217 : decode cX10_endOf 217 = .ok (.iadd, 1) := by decide +kernel
theorem dX10_endOf_218 : decode cX10_endOf 218 = .ok (.goto 4, 3) := by decide +kernel
theorem dX10_endOf_221 : decode cX10_endOf 221 = .ok (.iload_n 3, 1) := by decide +kernel
theorem dX10_endOf_222 : decode cX10_endOf 222 = .ok (.istore_n 3, 1) := by decide +kernel
theorem dX10_endOf_223 : decode cX10_endOf 223 = .ok (.iinc 7 1, 3) := by decide +kernel
theorem dX10_endOf_226 : decode cX10_endOf 226 = .ok (.goto (-77), 3) := by decide +kernel
theorem dX10_endOf_229 : decode cX10_endOf 229 = .ok (.aload_n 0, 1) := by decide +kernel
theorem dX10_endOf_230 : decode cX10_endOf 230 = .ok (.getfield 108, 3) := by decide +kernel
theorem dX10_endOf_233 : decode cX10_endOf 233 = .ok (.iload 5, 2) := by decide +kernel
theorem dX10_endOf_235 : decode cX10_endOf 235 = .ok (.iload_n 3, 1) := by decide +kernel
theorem dX10_endOf_236 : decode cX10_endOf 236 = .ok (.iastore, 1) := by decide +kernel
theorem dX10_endOf_237 : decode cX10_endOf 237 = .ok (.aload_n 0, 1) := by decide +kernel
theorem dX10_endOf_238 : decode cX10_endOf 238 = .ok (.getfield 114, 3) := by decide +kernel
theorem dX10_endOf_241 : decode cX10_endOf 241 = .ok (.iload 6, 2) := by decide +kernel
theorem dX10_endOf_243 : decode cX10_endOf 243 = .ok (.iload_n 3, 1) := by decide +kernel
theorem dX10_endOf_244 : decode cX10_endOf 244 = .ok (.aload_n 0, 1) := by decide +kernel
theorem dX10_endOf_245 : decode cX10_endOf 245 = .ok (.getfield 43, 3) := by decide +kernel
theorem dX10_endOf_248 : decode cX10_endOf 248 = .ok (.iload 5, 2) := by decide +kernel
theorem dX10_endOf_250 : decode cX10_endOf 250 = .ok (.iaload, 1) := by decide +kernel
theorem dX10_endOf_251 : decode cX10_endOf 251 = .ok (.iadd, 1) := by decide +kernel
theorem dX10_endOf_252 : decode cX10_endOf 252 = .ok (.iastore, 1) := by decide +kernel
theorem dX10_endOf_253 : decode cX10_endOf 253 = .ok (.aload_n 0, 1) := by decide +kernel
theorem dX10_endOf_254 : decode cX10_endOf 254 = .ok (.getfield 114, 3) := by decide +kernel
theorem dX10_endOf_257 : decode cX10_endOf 257 = .ok (.iload 6, 2) := by decide +kernel
theorem dX10_endOf_259 : decode cX10_endOf 259 = .ok (.iaload, 1) := by decide +kernel
theorem dX10_endOf_260 : decode cX10_endOf 260 = .ok (.iload_n 2, 1) := by decide +kernel
theorem dX10_endOf_261 : decode cX10_endOf 261 = .ok (.if_icmp .le 13, 3) := by decide +kernel
theorem dX10_endOf_264 : decode cX10_endOf 264 = .ok (.aload_n 0, 1) := by decide +kernel
theorem dX10_endOf_265 : decode cX10_endOf 265 = .ok (.getfield 114, 3) := by decide +kernel
theorem dX10_endOf_268 : decode cX10_endOf 268 = .ok (.iload 6, 2) := by decide +kernel
theorem dX10_endOf_270 : decode cX10_endOf 270 = .ok (.iaload, 1) := by decide +kernel
theorem dX10_endOf_271 : decode cX10_endOf 271 = .ok (.goto 4, 3) := by decide +kernel
theorem dX10_endOf_274 : decode cX10_endOf 274 = .ok (.iload_n 2, 1) := by decide +kernel
theorem dX10_endOf_275 : decode cX10_endOf 275 = .ok (.istore_n 2, 1) := by decide +kernel
theorem dX10_endOf_276 : decode cX10_endOf 276 = .ok (.iinc 4 1, 3) := by decide +kernel
theorem dX10_endOf_279 : decode cX10_endOf 279 = .ok (.goto (-247), 3) := by decide +kernel
theorem dX10_endOf_282 : decode cX10_endOf 282 = .ok (.iload_n 2, 1) := by decide +kernel
theorem dX10_endOf_283 : decode cX10_endOf 283 = .ok (.ireturn, 1) := by decide +kernel
theorem dX10_nextOrder_0 : decode cX10_nextOrder 0 = .ok (.aload_n 0, 1) := by decide +kernel
theorem dX10_nextOrder_1 : decode cX10_nextOrder 1 = .ok (.getfield 203, 3) := by decide +kernel
theorem dX10_nextOrder_4 : decode cX10_nextOrder 4 = .ok (.iconst 2, 1) := by decide +kernel
theorem dX10_nextOrder_5 : decode cX10_nextOrder 5 = .ok (.isub, 1) := by decide +kernel
theorem dX10_nextOrder_6 : decode cX10_nextOrder 6 = .ok (.istore_n 1, 1) := by decide +kernel
theorem dX10_nextOrder_7 : decode cX10_nextOrder 7 = .ok (.iload_n 1, 1) := by decide +kernel
theorem dX10_nextOrder_8 : decode cX10_nextOrder 8 = .ok (.ifCond .lt 26, 3) := by decide +kernel
theorem dX10_nextOrder_11 : decode cX10_nextOrder 11 = .ok (.aload_n 0, 1) := by decide +kernel
theorem dX10_nextOrder_12 : decode cX10_nextOrder 12 = .ok (.getfield 102, 3) := by decide +kernel
theorem dX10_nextOrder_15 : decode cX10_nextOrder 15 = .ok (.iload_n 1, 1) := by decide +kernel
theorem dX10_nextOrder_16 : decode cX10_nextOrder 16 = .ok (.iaload, 1) := by decide +kernel
theorem dX10_nextOrder_17 : decode cX10_nextOrder 17 = .ok (.aload_n 0, 1) := by decide +kernel
theorem dX10_nextOrder_18 : decode cX10_nextOrder 18 = .ok (.getfield 102, 3) := by decide +kernel
theorem dX10_nextOrder_21 : decode cX10_nextOrder 21 = .ok (.iload_n 1, 1) := by decide +kernel
theorem dX10_nextOrder_22 : decode cX10_nextOrder 22 = .ok (.iconst 1, 1) := by decide +kernel
theorem dX10_nextOrder_23 : decode cX10_nextOrder 23 = .ok (.iadd, 1) := by decide +kernel
theorem dX10_nextOrder_24 : decode cX10_nextOrder 24 = .ok (.iaload, 1) := by decide +kernel
theorem dX10_nextOrder_25 : decode cX10_nextOrder 25 = .ok (.if_icmp .le 9, 3) := by decide +kernel
theorem dX10_nextOrder_28 : decode cX10_nextOrder 28 = .ok (.iinc 1 (-1), 3) := by decide +kernel
theorem dX10_nextOrder_31 : decode cX10_nextOrder 31 = .ok (.goto (-24), 3) := by decide +kernel
theorem dX10_nextOrder_34 : decode cX10_nextOrder 34 = .ok (.iload_n 1, 1) := by decide +kernel
theorem dX10_nextOrder_35 : decode cX10_nextOrder 35 = .ok (.ifCond .ge 5, 3) := by decide +kernel
theorem dX10_nextOrder_38 : decode cX10_nextOrder 38 = .ok (.iconst 0, 1) := by decide +kernel
theorem dX10_nextOrder_39 : decode cX10_nextOrder 39 = .ok (.ireturn, 1) := by decide +kernel
theorem dX10_nextOrder_40 : decode cX10_nextOrder 40 = .ok (.aload_n 0, 1) := by decide +kernel
theorem dX10_nextOrder_41 : decode cX10_nextOrder 41 = .ok (.getfield 203, 3) := by decide +kernel
theorem dX10_nextOrder_44 : decode cX10_nextOrder 44 = .ok (.iconst 1, 1) := by decide +kernel
theorem dX10_nextOrder_45 : decode cX10_nextOrder 45 = .ok (.isub, 1) := by decide +kernel
theorem dX10_nextOrder_46 : decode cX10_nextOrder 46 = .ok (.istore_n 2, 1) := by decide +kernel
theorem dX10_nextOrder_47 : decode cX10_nextOrder 47 = .ok (.aload_n 0, 1) := by decide +kernel
theorem dX10_nextOrder_48 : decode cX10_nextOrder 48 = .ok (.getfield 102, 3) := by decide +kernel
theorem dX10_nextOrder_51 : decode cX10_nextOrder 51 = .ok (.iload_n 2, 1) := by decide +kernel
theorem dX10_nextOrder_52 : decode cX10_nextOrder 52 = .ok (.iaload, 1) := by decide +kernel
theorem dX10_nextOrder_53 : decode cX10_nextOrder 53 = .ok (.aload_n 0, 1) := by decide +kernel
theorem dX10_nextOrder_54 : decode cX10_nextOrder 54 = .ok (.getfield 102, 3) := by decide +kernel
theorem dX10_nextOrder_57 : decode cX10_nextOrder 57 = .ok (.iload_n 1, 1) := by decide +kernel
theorem dX10_nextOrder_58 : decode cX10_nextOrder 58 = .ok (.iaload, 1) := by decide +kernel
theorem dX10_nextOrder_59 : decode cX10_nextOrder 59 = .ok (.if_icmp .ge 9, 3) := by decide +kernel
theorem dX10_nextOrder_62 : decode cX10_nextOrder 62 = .ok (.iinc 2 (-1), 3) := by decide +kernel
theorem dX10_nextOrder_65 : decode cX10_nextOrder 65 = .ok (.goto (-18), 3) := by decide +kernel
theorem dX10_nextOrder_68 : decode cX10_nextOrder 68 = .ok (.aload_n 0, 1) := by decide +kernel
theorem dX10_nextOrder_69 : decode cX10_nextOrder 69 = .ok (.getfield 102, 3) := by decide +kernel
theorem dX10_nextOrder_72 : decode cX10_nextOrder 72 = .ok (.iload_n 1, 1) := by decide +kernel
theorem dX10_nextOrder_73 : decode cX10_nextOrder 73 = .ok (.iaload, 1) := by decide +kernel
theorem dX10_nextOrder_74 : decode cX10_nextOrder 74 = .ok (.istore_n 3, 1) := by decide +kernel
theorem dX10_nextOrder_75 : decode cX10_nextOrder 75 = .ok (.aload_n 0, 1) := by decide +kernel
theorem dX10_nextOrder_76 : decode cX10_nextOrder 76 = .ok (.getfield 102, 3) := by decide +kernel
theorem dX10_nextOrder_79 : decode cX10_nextOrder 79 = .ok (.iload_n 1, 1) := by decide +kernel
theorem dX10_nextOrder_80 : decode cX10_nextOrder 80 = .ok (.aload_n 0, 1) := by decide +kernel
theorem dX10_nextOrder_81 : decode cX10_nextOrder 81 = .ok (.getfield 102, 3) := by decide +kernel
theorem dX10_nextOrder_84 : decode cX10_nextOrder 84 = .ok (.iload_n 2, 1) := by decide +kernel
theorem dX10_nextOrder_85 : decode cX10_nextOrder 85 = .ok (.iaload, 1) := by decide +kernel
theorem dX10_nextOrder_86 : decode cX10_nextOrder 86 = .ok (.iastore, 1) := by decide +kernel
theorem dX10_nextOrder_87 : decode cX10_nextOrder 87 = .ok (.aload_n 0, 1) := by decide +kernel
theorem dX10_nextOrder_88 : decode cX10_nextOrder 88 = .ok (.getfield 102, 3) := by decide +kernel
theorem dX10_nextOrder_91 : decode cX10_nextOrder 91 = .ok (.iload_n 2, 1) := by decide +kernel
theorem dX10_nextOrder_92 : decode cX10_nextOrder 92 = .ok (.iload_n 3, 1) := by decide +kernel
theorem dX10_nextOrder_93 : decode cX10_nextOrder 93 = .ok (.iastore, 1) := by decide +kernel
theorem dX10_nextOrder_94 : decode cX10_nextOrder 94 = .ok (.iload_n 1, 1) := by decide +kernel
theorem dX10_nextOrder_95 : decode cX10_nextOrder 95 = .ok (.iconst 1, 1) := by decide +kernel
theorem dX10_nextOrder_96 : decode cX10_nextOrder 96 = .ok (.iadd, 1) := by decide +kernel
theorem dX10_nextOrder_97 : decode cX10_nextOrder 97 = .ok (.istore 4, 2) := by decide +kernel
theorem dX10_nextOrder_99 : decode cX10_nextOrder 99 = .ok (.aload_n 0, 1) := by decide +kernel
theorem dX10_nextOrder_100 : decode cX10_nextOrder 100 = .ok (.getfield 203, 3) := by decide +kernel
theorem dX10_nextOrder_103 : decode cX10_nextOrder 103 = .ok (.iconst 1, 1) := by decide +kernel
theorem dX10_nextOrder_104 : decode cX10_nextOrder 104 = .ok (.isub, 1) := by decide +kernel
theorem dX10_nextOrder_105 : decode cX10_nextOrder 105 = .ok (.istore 5, 2) := by decide +kernel
theorem dX10_nextOrder_107 : decode cX10_nextOrder 107 = .ok (.iload 4, 2) := by decide +kernel
theorem dX10_nextOrder_109 : decode cX10_nextOrder 109 = .ok (.iload 5, 2) := by decide +kernel
theorem dX10_nextOrder_111 : decode cX10_nextOrder 111 = .ok (.if_icmp .ge 44, 3) := by decide +kernel
theorem dX10_nextOrder_114 : decode cX10_nextOrder 114 = .ok (.aload_n 0, 1) := by decide +kernel
theorem dX10_nextOrder_115 : decode cX10_nextOrder 115 = .ok (.getfield 102, 3) := by decide +kernel
theorem dX10_nextOrder_118 : decode cX10_nextOrder 118 = .ok (.iload 4, 2) := by decide +kernel
theorem dX10_nextOrder_120 : decode cX10_nextOrder 120 = .ok (.iaload, 1) := by decide +kernel
theorem dX10_nextOrder_121 : decode cX10_nextOrder 121 = .ok (.istore 6, 2) := by decide +kernel
theorem dX10_nextOrder_123 : decode cX10_nextOrder 123 = .ok (.aload_n 0, 1) := by decide +kernel
theorem dX10_nextOrder_124 : decode cX10_nextOrder 124 = .ok (.getfield 102, 3) := by decide +kernel
theorem dX10_nextOrder_127 : decode cX10_nextOrder 127 = .ok (.iload 4, 2) := by decide +kernel
theorem dX10_nextOrder_129 : decode cX10_nextOrder 129 = .ok (.aload_n 0, 1) := by decide +kernel
theorem dX10_nextOrder_130 : decode cX10_nextOrder 130 = .ok (.getfield 102, 3) := by decide +kernel
theorem dX10_nextOrder_133 : decode cX10_nextOrder 133 = .ok (.iload 5, 2) := by decide +kernel
theorem dX10_nextOrder_135 : decode cX10_nextOrder 135 = .ok (.iaload, 1) := by decide +kernel
theorem dX10_nextOrder_136 : decode cX10_nextOrder 136 = .ok (.iastore, 1) := by decide +kernel
theorem dX10_nextOrder_137 : decode cX10_nextOrder 137 = .ok (.aload_n 0, 1) := by decide +kernel
theorem dX10_nextOrder_138 : decode cX10_nextOrder 138 = .ok (.getfield 102, 3) := by decide +kernel
theorem dX10_nextOrder_141 : decode cX10_nextOrder 141 = .ok (.iload 5, 2) := by decide +kernel
theorem dX10_nextOrder_143 : decode cX10_nextOrder 143 = .ok (.iload 6, 2) := by decide +kernel
theorem dX10_nextOrder_145 : decode cX10_nextOrder 145 = .ok (.iastore, 1) := by decide +kernel
theorem dX10_nextOrder_146 : decode cX10_nextOrder 146 = .ok (.iinc 5 (-1), 3) := by decide +kernel
theorem dX10_nextOrder_149 : decode cX10_nextOrder 149 = .ok (.iinc 4 1, 3) := by decide +kernel
theorem dX10_nextOrder_152 : decode cX10_nextOrder 152 = .ok (.goto (-45), 3) := by decide +kernel
theorem dX10_nextOrder_155 : decode cX10_nextOrder 155 = .ok (.iconst 1, 1) := by decide +kernel
theorem dX10_nextOrder_156 : decode cX10_nextOrder 156 = .ok (.ireturn, 1) := by decide +kernel
set_option maxRecDepth 20000 in
theorem ggX10_layBest_X10_endOf : GoodIn wsX10_layBest wsX10_endOf := goodIn_r _ [12, 13, 1, 3, 14, 15, 7, 2, 20, 21, 22, 23, 24, 25, 26, 27, 28, 29, 30, 31, 32, 33, 34, 35, 36, 37, 38, 39, 40, 41, 42, 43, 44, 45, 46, 47, 48, 49, 50, 51, 52, 53, 54, 55, 56, 57, 58, 59, 60, 61, 62, 63, 64, 65] (by decide +kernel) (by decide +kernel)
set_option maxRecDepth 20000 in
theorem gX10_layBest_X10_endOf : GoodIn wsX10_layBest (wsV RX10 209 RX10 yX10_endOf wsX10_endOf) := goodIn_app (goodIn_of _ (by decide +kernel)) ggX10_layBest_X10_endOf
set_option maxRecDepth 20000 in
theorem ggX10_layBest_X10_nextOrder : GoodIn wsX10_layBest wsX10_nextOrder := goodIn_r _ [19, 1, 3, 20, 21, 22, 23, 24, 25, 26, 27, 28, 29, 30, 31, 32, 33, 34, 35, 36, 37, 38, 39, 40, 41, 42, 43, 44, 45, 46, 47, 48, 49, 50, 51, 52, 53, 54, 55, 56, 57, 58, 59, 60, 61, 62, 63, 64, 65] (by decide +kernel) (by decide +kernel)
set_option maxRecDepth 20000 in
theorem gX10_layBest_X10_nextOrder : GoodIn wsX10_layBest (wsV RX10 212 RX10 yX10_nextOrder wsX10_nextOrder) := goodIn_app (goodIn_of _ (by decide +kernel)) ggX10_layBest_X10_nextOrder
theorem dX10_layBest_0 : decode cX10_layBest 0 = .ok (.aload_n 0, 1) := by decide +kernel
theorem dX10_layBest_1 : decode cX10_layBest 1 = .ok (.iconst 0, 1) := by decide +kernel
theorem dX10_layBest_2 : decode cX10_layBest 2 = .ok (.putfield 203, 3) := by decide +kernel
theorem dX10_layBest_5 : decode cX10_layBest 5 = .ok (.iconst 0, 1) := by decide +kernel
theorem dX10_layBest_6 : decode cX10_layBest 6 = .ok (.istore_n 1, 1) := by decide +kernel
theorem dX10_layBest_7 : decode cX10_layBest 7 = .ok (.iload_n 1, 1) := by decide +kernel
theorem dX10_layBest_8 : decode cX10_layBest 8 = .ok (.bipush 7, 2) := by decide +kernel
theorem dX10_layBest_10 : decode cX10_layBest 10 = .ok (.if_icmp .ge 38, 3) := by decide +kernel
theorem dX10_layBest_13 : decode cX10_layBest 13 = .ok (.aload_n 0, 1) := by decide +kernel
theorem dX10_layBest_14 : decode cX10_layBest 14 = .ok (.getfield 43, 3) := by decide +kernel
theorem dX10_layBest_17 : decode cX10_layBest 17 = .ok (.iload_n 1, 1) := by decide +kernel
theorem dX10_layBest_18 : decode cX10_layBest 18 = .ok (.iaload, 1) := by decide +kernel
theorem dX10_layBest_19 : decode cX10_layBest 19 = .ok (.ifCond .le 23, 3) := by decide +kernel
theorem dX10_layBest_22 : decode cX10_layBest 22 = .ok (.aload_n 0, 1) := by decide +kernel
theorem dX10_layBest_23 : decode cX10_layBest 23 = .ok (.getfield 102, 3) := by decide +kernel
theorem dX10_layBest_26 : decode cX10_layBest 26 = .ok (.aload_n 0, 1) := by decide +kernel
theorem dX10_layBest_27 : decode cX10_layBest 27 = .ok (.getfield 203, 3) := by decide +kernel
theorem dX10_layBest_30 : decode cX10_layBest 30 = .ok (.iload_n 1, 1) := by decide +kernel
theorem dX10_layBest_31 : decode cX10_layBest 31 = .ok (.iastore, 1) := by decide +kernel
theorem dX10_layBest_32 : decode cX10_layBest 32 = .ok (.aload_n 0, 1) := by decide +kernel
theorem dX10_layBest_33 : decode cX10_layBest 33 = .ok (.dup, 1) := by decide +kernel
theorem dX10_layBest_34 : decode cX10_layBest 34 = .ok (.getfield 203, 3) := by decide +kernel
theorem dX10_layBest_37 : decode cX10_layBest 37 = .ok (.iconst 1, 1) := by decide +kernel
theorem dX10_layBest_38 : decode cX10_layBest 38 = .ok (.iadd, 1) := by decide +kernel
theorem dX10_layBest_39 : decode cX10_layBest 39 = .ok (.putfield 203, 3) := by decide +kernel
theorem dX10_layBest_42 : decode cX10_layBest 42 = .ok (.iinc 1 1, 3) := by decide +kernel
theorem dX10_layBest_45 : decode cX10_layBest 45 = .ok (.goto (-38), 3) := by decide +kernel
theorem dX10_layBest_48 : decode cX10_layBest 48 = .ok (.aload_n 0, 1) := by decide +kernel
theorem dX10_layBest_49 : decode cX10_layBest 49 = .ok (.iconst (-1), 1) := by decide +kernel
theorem dX10_layBest_50 : decode cX10_layBest 50 = .ok (.putfield 206, 3) := by decide +kernel
theorem dX10_layBest_53 : decode cX10_layBest 53 = .ok (.iconst 1, 1) := by decide +kernel
theorem dX10_layBest_54 : decode cX10_layBest 54 = .ok (.istore_n 1, 1) := by decide +kernel
theorem dX10_layBest_55 : decode cX10_layBest 55 = .ok (.iload_n 1, 1) := by decide +kernel
theorem dX10_layBest_56 : decode cX10_layBest 56 = .ok (.ifCond .eq 90, 3) := by decide +kernel
theorem dX10_layBest_59 : decode cX10_layBest 59 = .ok (.aload_n 0, 1) := by decide +kernel
theorem dX10_layBest_60 : decode cX10_layBest 60 = .ok (.invokevirtual 209, 3) := by decide +kernel
theorem dX10_layBest_63 : decode cX10_layBest 63 = .ok (.istore_n 2, 1) := by decide +kernel
theorem dX10_layBest_64 : decode cX10_layBest 64 = .ok (.iload_n 2, 1) := by decide +kernel
theorem dX10_layBest_65 : decode cX10_layBest 65 = .ok (.ifCond .lt 73, 3) := by decide +kernel
theorem dX10_layBest_68 : decode cX10_layBest 68 = .ok (.aload_n 0, 1) := by decide +kernel
theorem dX10_layBest_69 : decode cX10_layBest 69 = .ok (.getfield 206, 3) := by decide +kernel
theorem dX10_layBest_72 : decode cX10_layBest 72 = .ok (.ifCond .lt 11, 3) := by decide +kernel
theorem dX10_layBest_75 : decode cX10_layBest 75 = .ok (.iload_n 2, 1) := by decide +kernel
theorem dX10_layBest_76 : decode cX10_layBest 76 = .ok (.aload_n 0, 1) := by decide +kernel
theorem dX10_layBest_77 : decode cX10_layBest 77 = .ok (.getfield 206, 3) := by decide +kernel
theorem dX10_layBest_80 : decode cX10_layBest 80 = .ok (.if_icmp .ge 58, 3) := by decide +kernel
theorem dX10_layBest_83 : decode cX10_layBest 83 = .ok (.aload_n 0, 1) := by decide +kernel
theorem dX10_layBest_84 : decode cX10_layBest 84 = .ok (.iload_n 2, 1) := by decide +kernel
theorem dX10_layBest_85 : decode cX10_layBest 85 = .ok (.putfield 206, 3) := by decide +kernel
theorem dX10_layBest_88 : decode cX10_layBest 88 = .ok (.iconst 0, 1) := by decide +kernel
theorem dX10_layBest_89 : decode cX10_layBest 89 = .ok (.istore_n 3, 1) := by decide +kernel
theorem dX10_layBest_90 : decode cX10_layBest 90 = .ok (.iload_n 3, 1) := by decide +kernel
theorem dX10_layBest_91 : decode cX10_layBest 91 = .ok (.aload_n 0, 1) := by decide +kernel
theorem dX10_layBest_92 : decode cX10_layBest 92 = .ok (.getfield 203, 3) := by decide +kernel
theorem dX10_layBest_95 : decode cX10_layBest 95 = .ok (.if_icmp .ge 43, 3) := by decide +kernel
theorem dX10_layBest_98 : decode cX10_layBest 98 = .ok (.aload_n 0, 1) := by decide +kernel
theorem dX10_layBest_99 : decode cX10_layBest 99 = .ok (.getfield 105, 3) := by decide +kernel
theorem dX10_layBest_102 : decode cX10_layBest 102 = .ok (.iload_n 3, 1) := by decide +kernel
theorem dX10_layBest_103 : decode cX10_layBest 103 = .ok (.aload_n 0, 1) := by decide +kernel
theorem dX10_layBest_104 : decode cX10_layBest 104 = .ok (.getfield 102, 3) := by decide +kernel
theorem dX10_layBest_107 : decode cX10_layBest 107 = .ok (.iload_n 3, 1) := by decide +kernel
theorem dX10_layBest_108 : decode cX10_layBest 108 = .ok (.iaload, 1) := by decide +kernel
theorem dX10_layBest_109 : decode cX10_layBest 109 = .ok (.iastore, 1) := by decide +kernel
theorem dX10_layBest_110 : decode cX10_layBest 110 = .ok (.aload_n 0, 1) := by decide +kernel
theorem dX10_layBest_111 : decode cX10_layBest 111 = .ok (.getfield 111, 3) := by decide +kernel
theorem dX10_layBest_114 : decode cX10_layBest 114 = .ok (.aload_n 0, 1) := by decide +kernel
theorem dX10_layBest_115 : decode cX10_layBest 115 = .ok (.getfield 102, 3) := by decide +kernel
theorem dX10_layBest_118 : decode cX10_layBest 118 = .ok (.iload_n 3, 1) := by decide +kernel
theorem dX10_layBest_119 : decode cX10_layBest 119 = .ok (.iaload, 1) := by decide +kernel
theorem dX10_layBest_120 : decode cX10_layBest 120 = .ok (.aload_n 0, 1) := by decide +kernel
theorem dX10_layBest_121 : decode cX10_layBest 121 = .ok (.getfield 108, 3) := by decide +kernel
theorem dX10_layBest_124 : decode cX10_layBest 124 = .ok (.aload_n 0, 1) := by decide +kernel
theorem dX10_layBest_125 : decode cX10_layBest 125 = .ok (.getfield 102, 3) := by decide +kernel
theorem dX10_layBest_128 : decode cX10_layBest 128 = .ok (.iload_n 3, 1) := by decide +kernel
theorem dX10_layBest_129 : decode cX10_layBest 129 = .ok (.iaload, 1) := by decide +kernel
theorem dX10_layBest_130 : decode cX10_layBest 130 = .ok (.iaload, 1) := by decide +kernel
theorem dX10_layBest_131 : decode cX10_layBest 131 = .ok (.iastore, 1) := by decide +kernel
theorem dX10_layBest_132 : decode cX10_layBest 132 = .ok (.iinc 3 1, 3) := by decide +kernel
theorem dX10_layBest_135 : decode cX10_layBest 135 = .ok (.goto (-45), 3) := by decide +kernel
theorem dX10_layBest_138 : decode cX10_layBest 138 = .ok (.aload_n 0, 1) := by decide +kernel
theorem dX10_layBest_139 : decode cX10_layBest 139 = .ok (.invokevirtual 212, 3) := by decide +kernel
theorem dX10_layBest_142 : decode cX10_layBest 142 = .ok (.istore_n 1, 1) := by decide +kernel
theorem dX10_layBest_143 : decode cX10_layBest 143 = .ok (.goto (-88), 3) := by decide +kernel
theorem dX10_layBest_146 : decode cX10_layBest 146 = .ok (.return_, 1) := by decide +kernel
set_option maxRecDepth 20000 in
theorem ggX10_best_X10_canBe : GoodIn wsX10_best wsX10_canBe := goodIn_r _ [8, 9, 10, 11, 12, 7, 13, 14, 35, 36, 37, 38, 39, 40, 41, 42, 43, 44, 45, 46, 47, 48, 49, 50, 51, 52, 53, 54, 55, 56, 57, 58, 59, 60, 61, 62, 63, 64, 65, 66, 67, 68, 69, 70, 71, 72, 73, 74, 75, 76, 77, 78, 79, 80] (by decide +kernel) (by decide +kernel)
set_option maxRecDepth 20000 in
theorem gX10_best_X10_canBe : GoodIn wsX10_best (wsV RX10 216 RX10 yX10_canBe wsX10_canBe) := goodIn_app (goodIn_of _ (by decide +kernel)) ggX10_best_X10_canBe
set_option maxRecDepth 20000 in
theorem ggX10_best_X10_layBest : GoodIn wsX10_best wsX10_layBest := goodIn_r _ [18, 2, 14, 19, 1, 3, 20, 21, 22, 23, 24, 7, 25, 26, 9, 27, 28, 29, 30, 31, 35, 36, 37, 38, 39, 40, 41, 42, 43, 44, 45, 46, 47, 48, 49, 50, 51, 52, 53, 54, 55, 56, 57, 58, 59, 60, 61, 62, 63, 64, 65, 66, 67, 68, 69, 70, 71, 72, 73, 74, 75, 76, 77, 78, 79, 80] (by decide +kernel) (by decide +kernel)
set_option maxRecDepth 20000 in
theorem gX10_best_X10_layBest : GoodIn wsX10_best (wsV RX10 219 RX10 yX10_layBest wsX10_layBest) := goodIn_app (goodIn_of _ (by decide +kernel)) ggX10_best_X10_layBest
set_option maxRecDepth 20000 in
theorem ggX10_best_X10_in : GoodIn wsX10_best wsX10_in := goodIn_r _ [34] (by decide +kernel) (by decide +kernel)
set_option maxRecDepth 20000 in
theorem gX10_best_X10_in : GoodIn wsX10_best (va_wsS RX10 124 yX10_in wsX10_in) := goodIn_app (goodIn_of _ (by decide +kernel)) ggX10_best_X10_in
theorem dX10_best_0 : decode cX10_best 0 = .ok (.aload_n 0, 1) := by decide +kernel
theorem dX10_best_1 : decode cX10_best 1 = .ok (.invokevirtual 216, 3) := by decide +kernel
theorem dX10_best_4 : decode cX10_best 4 = .ok (.ifCond .ne 6, 3) := by decide +kernel
theorem dX10_best_7 : decode cX10_best 7 = .ok (.bipush (-3), 2) := by decide +kernel
theorem dX10_best_9 : decode cX10_best 9 = .ok (.ireturn, 1) := by decide +kernel
theorem dX10_best_10 : decode cX10_best 10 = .ok (.aload_n 0, 1) := by decide +kernel
theorem dX10_best_11 : decode cX10_best 11 = .ok (.invokevirtual 219, 3) := by decide +kernel
theorem dX10_best_14 : decode cX10_best 14 = .ok (.iload_n 1, 1) := by decide +kernel
theorem dX10_best_15 : decode cX10_best 15 = .ok (.iconst (-1), 1) := by decide +kernel
theorem dX10_best_16 : decode cX10_best 16 = .ok (.if_icmp .ne 10, 3) := by decide +kernel
theorem dX10_best_19 : decode cX10_best 19 = .ok (.aload_n 0, 1) := by decide +kernel
theorem dX10_best_20 : decode cX10_best 20 = .ok (.getfield 206, 3) := by decide +kernel
theorem dX10_best_23 : decode cX10_best 23 = .ok (.goto 28, 3) := by decide +kernel
theorem dX10_best_26 : decode cX10_best 26 = .ok (.iload_n 1, 1) := by decide +kernel
theorem dX10_best_27 : decode cX10_best 27 = .ok (.iconst 0, 1) := by decide +kernel
theorem dX10_best_28 : decode cX10_best 28 = .ok (.aload_n 0, 1) := by decide +kernel
theorem dX10_best_29 : decode cX10_best 29 = .ok (.getfield 203, 3) := by decide +kernel
theorem dX10_best_32 : decode cX10_best 32 = .ok (.iconst 1, 1) := by decide +kernel
theorem dX10_best_33 : decode cX10_best 33 = .ok (.isub, 1) := by decide +kernel
theorem dX10_best_34 : decode cX10_best 34 = .ok (.invokestatic 124, 3) := by decide +kernel
theorem dX10_best_37 : decode cX10_best 37 = .ok (.ifCond .eq 12, 3) := by decide +kernel
theorem dX10_best_40 : decode cX10_best 40 = .ok (.aload_n 0, 1) := by decide +kernel
theorem dX10_best_41 : decode cX10_best 41 = .ok (.getfield 105, 3) := by decide +kernel
theorem dX10_best_44 : decode cX10_best 44 = .ok (.iload_n 1, 1) := by decide +kernel
theorem dX10_best_45 : decode cX10_best 45 = .ok (.iaload, 1) := by decide +kernel
theorem dX10_best_46 : decode cX10_best 46 = .ok (.goto 5, 3) := by decide +kernel
theorem dX10_best_49 : decode cX10_best 49 = .ok (.bipush (-6), 2) := by decide +kernel
theorem dX10_best_51 : decode cX10_best 51 = .ok (.ireturn, 1) := by decide +kernel
set_option maxRecDepth 20000 in
theorem ggX10_begun_X10_isJoint : GoodIn wsX10_begun wsX10_isJoint := goodIn_r _ [6, 7, 8, 5, 9] (by decide +kernel) (by decide +kernel)
set_option maxRecDepth 20000 in
theorem gX10_begun_X10_isJoint : GoodIn wsX10_begun (va_wsS RX10 197 yX10_isJoint wsX10_isJoint) := goodIn_app (goodIn_of _ (by decide +kernel)) ggX10_begun_X10_isJoint
set_option maxRecDepth 20000 in
theorem ggX10_begun_X10_canBe : GoodIn wsX10_begun wsX10_canBe := goodIn_r _ [13, 14, 15, 16, 17, 5, 18, 1, 38, 39, 40, 41, 42, 43, 44, 45, 46, 47, 48, 49, 50, 51, 52, 53, 54, 55, 56, 57, 58, 59, 60, 61, 62, 63, 64, 65, 66, 67, 68, 69, 70, 71, 72, 73, 74, 75, 76, 77, 78, 79, 80, 81, 82, 83] (by decide +kernel) (by decide +kernel)
set_option maxRecDepth 20000 in
theorem gX10_begun_X10_canBe : GoodIn wsX10_begun (wsV RX10 216 RX10 yX10_canBe wsX10_canBe) := goodIn_app (goodIn_of _ (by decide +kernel)) ggX10_begun_X10_canBe
set_option maxRecDepth 20000 in
theorem ggX10_begun_X10_layBest : GoodIn wsX10_begun wsX10_layBest := goodIn_r _ [22, 23, 1, 24, 25, 26, 2, 27, 28, 29, 30, 5, 31, 32, 14, 33, 34, 35, 36, 37, 38, 39, 40, 41, 42, 43, 44, 45, 46, 47, 48, 49, 50, 51, 52, 53, 54, 55, 56, 57, 58, 59, 60, 61, 62, 63, 64, 65, 66, 67, 68, 69, 70, 71, 72, 73, 74, 75, 76, 77, 78, 79, 80, 81, 82, 83] (by decide +kernel) (by decide +kernel)
set_option maxRecDepth 20000 in
theorem gX10_begun_X10_layBest : GoodIn wsX10_begun (wsV RX10 219 RX10 yX10_layBest wsX10_layBest) := goodIn_app (goodIn_of _ (by decide +kernel)) ggX10_begun_X10_layBest
theorem dX10_begun_0 : decode cX10_begun 0 = .ok (.iload_n 1, 1) := by decide +kernel
theorem dX10_begun_1 : decode cX10_begun 1 = .ok (.invokestatic 197, 3) := by decide +kernel
theorem dX10_begun_4 : decode cX10_begun 4 = .ok (.ifCond .eq 12, 3) := by decide +kernel
theorem dX10_begun_7 : decode cX10_begun 7 = .ok (.aload_n 0, 1) := by decide +kernel
theorem dX10_begun_8 : decode cX10_begun 8 = .ok (.getfield 43, 3) := by decide +kernel
theorem dX10_begun_11 : decode cX10_begun 11 = .ok (.iload_n 1, 1) := by decide +kernel
theorem dX10_begun_12 : decode cX10_begun 12 = .ok (.iaload, 1) := by decide +kernel
theorem dX10_begun_13 : decode cX10_begun 13 = .ok (.ifCond .ne 5, 3) := by decide +kernel
theorem dX10_begun_16 : decode cX10_begun 16 = .ok (.iconst (-1), 1) := by decide +kernel
theorem dX10_begun_17 : decode cX10_begun 17 = .ok (.ireturn, 1) := by decide +kernel
theorem dX10_begun_18 : decode cX10_begun 18 = .ok (.aload_n 0, 1) := by decide +kernel
theorem dX10_begun_19 : decode cX10_begun 19 = .ok (.invokevirtual 216, 3) := by decide +kernel
theorem dX10_begun_22 : decode cX10_begun 22 = .ok (.ifCond .ne 6, 3) := by decide +kernel
theorem dX10_begun_25 : decode cX10_begun 25 = .ok (.bipush (-3), 2) := by decide +kernel
theorem dX10_begun_27 : decode cX10_begun 27 = .ok (.ireturn, 1) := by decide +kernel
theorem dX10_begun_28 : decode cX10_begun 28 = .ok (.aload_n 0, 1) := by decide +kernel
theorem dX10_begun_29 : decode cX10_begun 29 = .ok (.invokevirtual 219, 3) := by decide +kernel
theorem dX10_begun_32 : decode cX10_begun 32 = .ok (.aload_n 0, 1) := by decide +kernel
theorem dX10_begun_33 : decode cX10_begun 33 = .ok (.getfield 111, 3) := by decide +kernel
theorem dX10_begun_36 : decode cX10_begun 36 = .ok (.iload_n 1, 1) := by decide +kernel
theorem dX10_begun_37 : decode cX10_begun 37 = .ok (.iaload, 1) := by decide +kernel
theorem dX10_begun_38 : decode cX10_begun 38 = .ok (.ireturn, 1) := by decide +kernel
set_option maxRecDepth 20000 in
theorem ggX10_strip_X10_in : GoodIn wsX10_strip wsX10_in := goodIn_r _ [7] (by decide +kernel) (by decide +kernel)
set_option maxRecDepth 20000 in
theorem gX10_strip_X10_in : GoodIn wsX10_strip (va_wsS RX10 124 yX10_in wsX10_in) := goodIn_app (goodIn_of _ (by decide +kernel)) ggX10_strip_X10_in
theorem dX10_strip_0 : decode cX10_strip 0 = .ok (.iload_n 1, 1) := by decide +kernel
theorem dX10_strip_1 : decode cX10_strip 1 = .ok (.iconst 0, 1) := by decide +kernel
theorem dX10_strip_2 : decode cX10_strip 2 = .ok (.sipush 10000, 3) := by decide +kernel
theorem dX10_strip_5 : decode cX10_strip 5 = .ok (.invokestatic 124, 3) := by decide +kernel
theorem dX10_strip_8 : decode cX10_strip 8 = .ok (.ifCond .ne 6, 3) := by decide +kernel
theorem dX10_strip_11 : decode cX10_strip 11 = .ok (.bipush (-2), 2) := by decide +kernel
theorem dX10_strip_13 : decode cX10_strip 13 = .ok (.ireturn, 1) := by decide +kernel
theorem dX10_strip_14 : decode cX10_strip 14 = .ok (.aload_n 0, 1) := by decide +kernel
theorem dX10_strip_15 : decode cX10_strip 15 = .ok (.getfield 222, 3) := by decide +kernel
theorem dX10_strip_18 : decode cX10_strip 18 = .ok (.bipush 20, 2) := by decide +kernel
theorem dX10_strip_20 : decode cX10_strip 20 = .ok (.if_icmp .ne 6, 3) := by decide +kernel
theorem dX10_strip_23 : decode cX10_strip 23 = .ok (.bipush (-4), 2) := by decide +kernel
theorem dX10_strip_25 : decode cX10_strip 25 = .ok (.ireturn, 1) := by decide +kernel
theorem dX10_strip_26 : decode cX10_strip 26 = .ok (.aload_n 0, 1) := by decide +kernel
theorem dX10_strip_27 : decode cX10_strip 27 = .ok (.getfield 49, 3) := by decide +kernel
theorem dX10_strip_30 : decode cX10_strip 30 = .ok (.aload_n 0, 1) := by decide +kernel
theorem dX10_strip_31 : decode cX10_strip 31 = .ok (.getfield 222, 3) := by decide +kernel
theorem dX10_strip_34 : decode cX10_strip 34 = .ok (.iload_n 1, 1) := by decide +kernel
theorem dX10_strip_35 : decode cX10_strip 35 = .ok (.iastore, 1) := by decide +kernel
theorem dX10_strip_36 : decode cX10_strip 36 = .ok (.aload_n 0, 1) := by decide +kernel
theorem dX10_strip_37 : decode cX10_strip 37 = .ok (.getfield 52, 3) := by decide +kernel
theorem dX10_strip_40 : decode cX10_strip 40 = .ok (.aload_n 0, 1) := by decide +kernel
theorem dX10_strip_41 : decode cX10_strip 41 = .ok (.getfield 222, 3) := by decide +kernel
theorem dX10_strip_44 : decode cX10_strip 44 = .ok (.iconst 0, 1) := by decide +kernel
theorem dX10_strip_45 : decode cX10_strip 45 = .ok (.bastore, 1) := by decide +kernel
theorem dX10_strip_46 : decode cX10_strip 46 = .ok (.aload_n 0, 1) := by decide +kernel
theorem dX10_strip_47 : decode cX10_strip 47 = .ok (.dup, 1) := by decide +kernel
theorem dX10_strip_48 : decode cX10_strip 48 = .ok (.getfield 222, 3) := by decide +kernel
theorem dX10_strip_51 : decode cX10_strip 51 = .ok (.iconst 1, 1) := by decide +kernel
theorem dX10_strip_52 : decode cX10_strip 52 = .ok (.iadd, 1) := by decide +kernel
theorem dX10_strip_53 : decode cX10_strip 53 = .ok (.putfield 222, 3) := by decide +kernel
theorem dX10_strip_56 : decode cX10_strip 56 = .ok (.aload_n 0, 1) := by decide +kernel
theorem dX10_strip_57 : decode cX10_strip 57 = .ok (.getfield 222, 3) := by decide +kernel
theorem dX10_strip_60 : decode cX10_strip 60 = .ok (.iconst 1, 1) := by decide +kernel
theorem dX10_strip_61 : decode cX10_strip 61 = .ok (.isub, 1) := by decide +kernel
theorem dX10_strip_62 : decode cX10_strip 62 = .ok (.ireturn, 1) := by decide +kernel
set_option maxRecDepth 20000 in
theorem ggX10_bar_X10_in : GoodIn wsX10_bar wsX10_in := goodIn_r _ [6] (by decide +kernel) (by decide +kernel)
set_option maxRecDepth 20000 in
theorem gX10_bar_X10_in : GoodIn wsX10_bar (va_wsS RX10 124 yX10_in wsX10_in) := goodIn_app (goodIn_of _ (by decide +kernel)) ggX10_bar_X10_in
theorem dX10_bar_0 : decode cX10_bar 0 = .ok (.iload_n 1, 1) := by decide +kernel
theorem dX10_bar_1 : decode cX10_bar 1 = .ok (.iconst 0, 1) := by decide +kernel
theorem dX10_bar_2 : decode cX10_bar 2 = .ok (.aload_n 0, 1) := by decide +kernel
theorem dX10_bar_3 : decode cX10_bar 3 = .ok (.getfield 222, 3) := by decide +kernel
theorem dX10_bar_6 : decode cX10_bar 6 = .ok (.iconst 1, 1) := by decide +kernel
theorem dX10_bar_7 : decode cX10_bar 7 = .ok (.isub, 1) := by decide +kernel
theorem dX10_bar_8 : decode cX10_bar 8 = .ok (.invokestatic 124, 3) := by decide +kernel
theorem dX10_bar_11 : decode cX10_bar 11 = .ok (.ifCond .ne 5, 3) := by decide +kernel
theorem dX10_bar_14 : decode cX10_bar 14 = .ok (.iconst (-1), 1) := by decide +kernel
theorem dX10_bar_15 : decode cX10_bar 15 = .ok (.ireturn, 1) := by decide +kernel
theorem dX10_bar_16 : decode cX10_bar 16 = .ok (.aload_n 0, 1) := by decide +kernel
theorem dX10_bar_17 : decode cX10_bar 17 = .ok (.getfield 52, 3) := by decide +kernel
theorem dX10_bar_20 : decode cX10_bar 20 = .ok (.iload_n 1, 1) := by decide +kernel
theorem dX10_bar_21 : decode cX10_bar 21 = .ok (.baload, 1) := by decide +kernel
theorem dX10_bar_22 : decode cX10_bar 22 = .ok (.ifCond .eq 7, 3) := by decide +kernel
theorem dX10_bar_25 : decode cX10_bar 25 = .ok (.iconst 1, 1) := by decide +kernel
theorem dX10_bar_26 : decode cX10_bar 26 = .ok (.goto 4, 3) := by decide +kernel
theorem dX10_bar_29 : decode cX10_bar 29 = .ok (.iconst 0, 1) := by decide +kernel
theorem dX10_bar_30 : decode cX10_bar 30 = .ok (.istore_n 3, 1) := by decide +kernel
theorem dX10_bar_31 : decode cX10_bar 31 = .ok (.aload_n 0, 1) := by decide +kernel
theorem dX10_bar_32 : decode cX10_bar 32 = .ok (.getfield 52, 3) := by decide +kernel
theorem dX10_bar_35 : decode cX10_bar 35 = .ok (.iload_n 1, 1) := by decide +kernel
theorem dX10_bar_36 : decode cX10_bar 36 = .ok (.iload_n 2, 1) := by decide +kernel
theorem dX10_bar_37 : decode cX10_bar 37 = .ok (.bastore, 1) := by decide +kernel
theorem dX10_bar_38 : decode cX10_bar 38 = .ok (.iload_n 3, 1) := by decide +kernel
theorem dX10_bar_39 : decode cX10_bar 39 = .ok (.ireturn, 1) := by decide +kernel
set_option maxRecDepth 20000 in
theorem ggX10_strips_X10_in : GoodIn wsX10_strips wsX10_in := goodIn_r _ [9] (by decide +kernel) (by decide +kernel)
set_option maxRecDepth 20000 in
theorem gX10_strips_X10_in : GoodIn wsX10_strips (va_wsS RX10 124 yX10_in wsX10_in) := goodIn_app (goodIn_of _ (by decide +kernel)) ggX10_strips_X10_in
set_option maxRecDepth 20000 in
theorem ggX10_strips_X10_term : GoodIn wsX10_strips wsX10_term := goodIn_r _ [12, 13, 14, 8, 15, 16, 17, 18] (by decide +kernel) (by decide +kernel)
set_option maxRecDepth 20000 in
theorem gX10_strips_X10_term : GoodIn wsX10_strips (va_wsS RX10 171 yX10_term wsX10_term) := goodIn_app (goodIn_of _ (by decide +kernel)) ggX10_strips_X10_term
theorem dX10_strips_0 : decode cX10_strips 0 = .ok (.iload_n 1, 1) := by decide +kernel
theorem dX10_strips_1 : decode cX10_strips 1 = .ok (.iconst 0, 1) := by decide +kernel
theorem dX10_strips_2 : decode cX10_strips 2 = .ok (.iconst 1, 1) := by decide +kernel
theorem dX10_strips_3 : decode cX10_strips 3 = .ok (.invokestatic 124, 3) := by decide +kernel
theorem dX10_strips_6 : decode cX10_strips 6 = .ok (.ifCond .eq 12, 3) := by decide +kernel
theorem dX10_strips_9 : decode cX10_strips 9 = .ok (.iload_n 2, 1) := by decide +kernel
theorem dX10_strips_10 : decode cX10_strips 10 = .ok (.iconst 0, 1) := by decide +kernel
theorem dX10_strips_11 : decode cX10_strips 11 = .ok (.iconst 1, 1) := by decide +kernel
theorem dX10_strips_12 : decode cX10_strips 12 = .ok (.invokestatic 124, 3) := by decide +kernel
theorem dX10_strips_15 : decode cX10_strips 15 = .ok (.ifCond .ne 7, 3) := by decide +kernel
theorem dX10_strips_18 : decode cX10_strips 18 = .ok (.ldc2_w 164, 3) := by decide +kernel
theorem dX10_strips_21 : decode cX10_strips 21 = .ok (.lreturn, 1) := by decide +kernel
theorem dX10_strips_22 : decode cX10_strips 22 = .ok (.lconst 0, 1) := by decide +kernel
theorem dX10_strips_23 : decode cX10_strips 23 = .ok (.lstore_n 3, 1) := by decide +kernel
theorem dX10_strips_24 : decode cX10_strips 24 = .ok (.lconst 0, 1) := by decide +kernel
theorem dX10_strips_25 : decode cX10_strips 25 = .ok (.lstore 5, 2) := by decide +kernel
theorem dX10_strips_27 : decode cX10_strips 27 = .ok (.lconst 0, 1) := by decide +kernel
theorem dX10_strips_28 : decode cX10_strips 28 = .ok (.lstore 7, 2) := by decide +kernel
theorem dX10_strips_30 : decode cX10_strips 30 = .ok (.iconst 0, 1) := by decide +kernel
theorem dX10_strips_31 : decode cX10_strips 31 = .ok (.istore 9, 2) := by decide +kernel
theorem dX10_strips_33 : decode cX10_strips 33 = .ok (.iload 9, 2) := by decide +kernel
theorem dX10_strips_35 : decode cX10_strips 35 = .ok (.aload_n 0, 1) := by decide +kernel
theorem dX10_strips_36 : decode cX10_strips 36 = .ok (.getfield 222, 3) := by decide +kernel
theorem dX10_strips_39 : decode cX10_strips 39 = .ok (.if_icmp .ge 58, 3) := by decide +kernel
theorem dX10_strips_42 : decode cX10_strips 42 = .ok (.aload_n 0, 1) := by decide +kernel
theorem dX10_strips_43 : decode cX10_strips 43 = .ok (.getfield 52, 3) := by decide +kernel
theorem dX10_strips_46 : decode cX10_strips 46 = .ok (.iload 9, 2) := by decide +kernel
theorem dX10_strips_48 : decode cX10_strips 48 = .ok (.baload, 1) := by decide +kernel
theorem dX10_strips_49 : decode cX10_strips 49 = .ok (.ifCond .ne 42, 3) := by decide +kernel
theorem dX10_strips_52 : decode cX10_strips 52 = .ok (.lload_n 3, 1) := by decide +kernel
theorem dX10_strips_53 : decode cX10_strips 53 = .ok (.lconst 1, 1) := by decide +kernel
theorem dX10_strips_54 : decode cX10_strips 54 = .ok (.ladd, 1) := by decide +kernel
theorem dX10_strips_55 : decode cX10_strips 55 = .ok (.lstore_n 3, 1) := by decide +kernel
theorem dX10_strips_56 : decode cX10_strips 56 = .ok (.lload 5, 2) := by decide +kernel
theorem dX10_strips_58 : decode cX10_strips 58 = .ok (.aload_n 0, 1) := by decide +kernel
theorem dX10_strips_59 : decode cX10_strips 59 = .ok (.getfield 49, 3) := by decide +kernel
theorem dX10_strips_62 : decode cX10_strips 62 = .ok (.iload 9, 2) := by decide +kernel
theorem dX10_strips_64 : decode cX10_strips 64 = .ok (.iaload, 1) := by decide +kernel
theorem dX10_strips_65 : decode cX10_strips 65 = .ok (.i2l, 1) := by decide +kernel
theorem dX10_strips_66 : decode cX10_strips 66 = .ok (.ladd, 1) := by decide +kernel
theorem dX10_strips_67 : decode cX10_strips 67 = .ok (.lstore 5, 2) := by decide +kernel
theorem dX10_strips_69 : decode cX10_strips 69 = .ok (.lload 7, 2) := by decide +kernel
theorem dX10_strips_71 : decode cX10_strips 71 = .ok (.aload_n 0, 1) := by decide +kernel
theorem dX10_strips_72 : decode cX10_strips 72 = .ok (.getfield 49, 3) := by decide +kernel
theorem dX10_strips_75 : decode cX10_strips 75 = .ok (.iload 9, 2) := by decide +kernel
theorem dX10_strips_77 : decode cX10_strips 77 = .ok (.iaload, 1) := by decide +kernel
theorem dX10_strips_78 : decode cX10_strips 78 = .ok (.i2l, 1) := by decide +kernel
theorem dX10_strips_79 : decode cX10_strips 79 = .ok (.aload_n 0, 1) := by decide +kernel
theorem dX10_strips_80 : decode cX10_strips 80 = .ok (.getfield 49, 3) := by decide +kernel
theorem dX10_strips_83 : decode cX10_strips 83 = .ok (.iload 9, 2) := by decide +kernel
theorem dX10_strips_85 : decode cX10_strips 85 = .ok (.iaload, 1) := by decide +kernel
theorem dX10_strips_86 : decode cX10_strips 86 = .ok (.i2l, 1) := by decide +kernel
theorem dX10_strips_87 : decode cX10_strips 87 = .ok (.lmul, 1) := by decide +kernel
theorem dX10_strips_88 : decode cX10_strips 88 = .ok (.ladd, 1) := by decide +kernel
theorem dX10_strips_89 : decode cX10_strips 89 = .ok (.lstore 7, 2) := by decide +kernel
theorem dX10_strips_91 : decode cX10_strips 91 = .ok (.iinc 9 1, 3) := by decide +kernel
theorem dX10_strips_94 : decode cX10_strips 94 = .ok (.goto (-61), 3) := by decide +kernel
theorem dX10_strips_97 : decode cX10_strips 97 = .ok (.lload_n 3, 1) := by decide +kernel
theorem dX10_strips_98 : decode cX10_strips 98 = .ok (.lconst 0, 1) := by decide +kernel
theorem dX10_strips_99 : decode cX10_strips 99 = .ok (.lcmp, 1) := by decide +kernel
theorem dX10_strips_100 : decode cX10_strips 100 = .ok (.ifCond .ne 7, 3) := by decide +kernel
theorem dX10_strips_103 : decode cX10_strips 103 = .ok (.ldc2_w 169, 3) := by decide +kernel
theorem dX10_strips_106 : decode cX10_strips 106 = .ok (.lreturn, 1) := by decide +kernel
theorem dX10_strips_107 : decode cX10_strips 107 = .ok (.iload_n 1, 1) := by decide +kernel
theorem dX10_strips_108 : decode cX10_strips 108 = .ok (.ifCond .ne 13, 3) := by decide +kernel
theorem dX10_strips_111 : decode cX10_strips 111 = .ok (.lload 5, 2) := by decide +kernel
theorem dX10_strips_113 : decode cX10_strips 113 = .ok (.lload_n 3, 1) := by decide +kernel
theorem dX10_strips_114 : decode cX10_strips 114 = .ok (.iload_n 2, 1) := by decide +kernel
theorem dX10_strips_115 : decode cX10_strips 115 = .ok (.invokestatic 171, 3) := by decide +kernel
theorem dX10_strips_118 : decode cX10_strips 118 = .ok (.goto 20, 3) := by decide +kernel
theorem dX10_strips_121 : decode cX10_strips 121 = .ok (.lload_n 3, 1) := by decide +kernel
theorem dX10_strips_122 : decode cX10_strips 122 = .ok (.lload 7, 2) := by decide +kernel
theorem dX10_strips_124 : decode cX10_strips 124 = .ok (.lmul, 1) := by decide +kernel
theorem dX10_strips_125 : decode cX10_strips 125 = .ok (.lload 5, 2) := by decide +kernel
theorem dX10_strips_127 : decode cX10_strips 127 = .ok (.lload 5, 2) := by decide +kernel
theorem dX10_strips_129 : decode cX10_strips 129 = .ok (.lmul, 1) := by decide +kernel
theorem dX10_strips_130 : decode cX10_strips 130 = .ok (.lsub, 1) := by decide +kernel
theorem dX10_strips_131 : decode cX10_strips 131 = .ok (.lload_n 3, 1) := by decide +kernel
theorem dX10_strips_132 : decode cX10_strips 132 = .ok (.lload_n 3, 1) := by decide +kernel
theorem dX10_strips_133 : decode cX10_strips 133 = .ok (.lmul, 1) := by decide +kernel
theorem dX10_strips_134 : decode cX10_strips 134 = .ok (.iload_n 2, 1) := by decide +kernel
theorem dX10_strips_135 : decode cX10_strips 135 = .ok (.invokestatic 171, 3) := by decide +kernel
theorem dX10_strips_138 : decode cX10_strips 138 = .ok (.lreturn, 1) := by decide +kernel
theorem dX10_weak_0 : decode cX10_weak 0 = .ok (.iconst 0, 1) := by decide +kernel
theorem dX10_weak_1 : decode cX10_weak 1 = .ok (.istore_n 1, 1) := by decide +kernel
theorem dX10_weak_2 : decode cX10_weak 2 = .ok (.iconst 0, 1) := by decide +kernel
theorem dX10_weak_3 : decode cX10_weak 3 = .ok (.istore_n 2, 1) := by decide +kernel
theorem dX10_weak_4 : decode cX10_weak 4 = .ok (.iload_n 2, 1) := by decide +kernel
theorem dX10_weak_5 : decode cX10_weak 5 = .ok (.aload_n 0, 1) := by decide +kernel
theorem dX10_weak_6 : decode cX10_weak 6 = .ok (.getfield 222, 3) := by decide +kernel
theorem dX10_weak_9 : decode cX10_weak 9 = .ok (.if_icmp .ge 41, 3) := by decide +kernel
theorem dX10_weak_12 : decode cX10_weak 12 = .ok (.iload_n 1, 1) := by decide +kernel
theorem dX10_weak_13 : decode cX10_weak 13 = .ok (.aload_n 0, 1) := by decide +kernel
theorem dX10_weak_14 : decode cX10_weak 14 = .ok (.getfield 52, 3) := by decide +kernel
theorem dX10_weak_17 : decode cX10_weak 17 = .ok (.iload_n 2, 1) := by decide +kernel
theorem dX10_weak_18 : decode cX10_weak 18 = .ok (.baload, 1) := by decide +kernel
theorem dX10_weak_19 : decode cX10_weak 19 = .ok (.ifCond .ne 22, 3) := by decide +kernel
theorem dX10_weak_22 : decode cX10_weak 22 = .ok (.aload_n 0, 1) := by decide +kernel
theorem dX10_weak_23 : decode cX10_weak 23 = .ok (.getfield 49, 3) := by decide +kernel
theorem dX10_weak_26 : decode cX10_weak 26 = .ok (.iload_n 2, 1) := by decide +kernel
theorem dX10_weak_27 : decode cX10_weak 27 = .ok (.iaload, 1) := by decide +kernel
theorem dX10_weak_28 : decode cX10_weak 28 = .ok (.aload_n 0, 1) := by decide +kernel
theorem dX10_weak_29 : decode cX10_weak 29 = .ok (.getfield 37, 3) := by decide +kernel
theorem dX10_weak_32 : decode cX10_weak 32 = .ok (.iconst 5, 1) := by decide +kernel
theorem dX10_weak_33 : decode cX10_weak 33 = .ok (.iaload, 1) := by decide +kernel
theorem dX10_weak_34 : decode cX10_weak 34 = .ok (.if_icmp .ge 7, 3) := by decide +kernel
theorem dX10_weak_37 : decode cX10_weak 37 = .ok (.iconst 1, 1) := by decide +kernel
theorem dX10_weak_38 : decode cX10_weak 38 = .ok (.goto 4, 3) := by decide +kernel
theorem dX10_weak_41 : decode cX10_weak 41 = .ok (.iconst 0, 1) := by decide +kernel
theorem dX10_weak_42 : decode cX10_weak 42 = .ok (.iadd, 1) := by decide +kernel
theorem dX10_weak_43 : decode cX10_weak 43 = .ok (.istore_n 1, 1) := by decide +kernel
theorem dX10_weak_44 : decode cX10_weak 44 = .ok (.iinc 2 1, 3) := by decide +kernel
theorem dX10_weak_47 : decode cX10_weak 47 = .ok (.goto (-43), 3) := by decide +kernel
theorem dX10_weak_50 : decode cX10_weak 50 = .ok (.iload_n 1, 1) := by decide +kernel
theorem dX10_weak_51 : decode cX10_weak 51 = .ok (.ireturn, 1) := by decide +kernel
set_option maxRecDepth 20000 in
theorem ggX10_odd_X10_in : GoodIn wsX10_odd wsX10_in := goodIn_r _ [11] (by decide +kernel) (by decide +kernel)
set_option maxRecDepth 20000 in
theorem gX10_odd_X10_in : GoodIn wsX10_odd (va_wsS RX10 124 yX10_in wsX10_in) := goodIn_app (goodIn_of _ (by decide +kernel)) ggX10_odd_X10_in
set_option maxRecDepth 20000 in
theorem ggX10_odd_X10_term : GoodIn wsX10_odd wsX10_term := goodIn_r _ [14, 15, 16, 10, 17, 18, 19, 20] (by decide +kernel) (by decide +kernel)
set_option maxRecDepth 20000 in
theorem gX10_odd_X10_term : GoodIn wsX10_odd (va_wsS RX10 171 yX10_term wsX10_term) := goodIn_app (goodIn_of _ (by decide +kernel)) ggX10_odd_X10_term
theorem dX10_odd_0 : decode cX10_odd 0 = .ok (.iload_n 1, 1) := by decide +kernel
theorem dX10_odd_1 : decode cX10_odd 1 = .ok (.iconst 1, 1) := by decide +kernel
theorem dX10_odd_2 : decode cX10_odd 2 = .ok (.bipush 19, 2) := by decide +kernel
theorem dX10_odd_4 : decode cX10_odd 4 = .ok (.invokestatic 124, 3) := by decide +kernel
theorem dX10_odd_7 : decode cX10_odd 7 = .ok (.ifCond .eq 12, 3) := by decide +kernel
theorem dX10_odd_10 : decode cX10_odd 10 = .ok (.iload_n 2, 1) := by decide +kernel
theorem dX10_odd_11 : decode cX10_odd 11 = .ok (.iconst 0, 1) := by decide +kernel
theorem dX10_odd_12 : decode cX10_odd 12 = .ok (.iconst 1, 1) := by decide +kernel
theorem dX10_odd_13 : decode cX10_odd 13 = .ok (.invokestatic 124, 3) := by decide +kernel
theorem dX10_odd_16 : decode cX10_odd 16 = .ok (.ifCond .ne 7, 3) := by decide +kernel
theorem dX10_odd_19 : decode cX10_odd 19 = .ok (.ldc2_w 164, 3) := by decide +kernel
theorem dX10_odd_22 : decode cX10_odd 22 = .ok (.lreturn, 1) := by decide +kernel
theorem dX10_odd_23 : decode cX10_odd 23 = .ok (.iconst 0, 1) := by decide +kernel
theorem dX10_odd_24 : decode cX10_odd 24 = .ok (.istore_n 3, 1) := by decide +kernel
theorem dX10_odd_25 : decode cX10_odd 25 = .ok (.iconst 0, 1) := by decide +kernel
theorem dX10_odd_26 : decode cX10_odd 26 = .ok (.istore 4, 2) := by decide +kernel
theorem dX10_odd_28 : decode cX10_odd 28 = .ok (.iconst 0, 1) := by decide +kernel
theorem dX10_odd_29 : decode cX10_odd 29 = .ok (.istore 5, 2) := by decide +kernel
theorem dX10_odd_31 : decode cX10_odd 31 = .ok (.iload 5, 2) := by decide +kernel
theorem dX10_odd_33 : decode cX10_odd 33 = .ok (.aload_n 0, 1) := by decide +kernel
theorem dX10_odd_34 : decode cX10_odd 34 = .ok (.getfield 222, 3) := by decide +kernel
theorem dX10_odd_37 : decode cX10_odd 37 = .ok (.if_icmp .ge 54, 3) := by decide +kernel
theorem dX10_odd_40 : decode cX10_odd 40 = .ok (.iload_n 3, 1) := by decide +kernel
theorem dX10_odd_41 : decode cX10_odd 41 = .ok (.bipush 12, 2) := by decide +kernel
theorem dX10_odd_43 : decode cX10_odd 43 = .ok (.if_icmp .ge 48, 3) := by decide +kernel
theorem dX10_odd_46 : decode cX10_odd 46 = .ok (.aload_n 0, 1) := by decide +kernel
theorem dX10_odd_47 : decode cX10_odd 47 = .ok (.getfield 52, 3) := by decide +kernel
theorem dX10_odd_50 : decode cX10_odd 50 = .ok (.iload 5, 2) := by decide +kernel
theorem dX10_odd_52 : decode cX10_odd 52 = .ok (.baload, 1) := by decide +kernel
theorem dX10_odd_53 : decode cX10_odd 53 = .ok (.ifCond .ne 32, 3) := by decide +kernel
theorem dX10_odd_56 : decode cX10_odd 56 = .ok (.iinc 3 1, 3) := by decide +kernel
theorem dX10_odd_59 : decode cX10_odd 59 = .ok (.iload 4, 2) := by decide +kernel
theorem dX10_odd_61 : decode cX10_odd 61 = .ok (.aload_n 0, 1) := by decide +kernel
theorem dX10_odd_62 : decode cX10_odd 62 = .ok (.getfield 49, 3) := by decide +kernel
theorem dX10_odd_65 : decode cX10_odd 65 = .ok (.iload 5, 2) := by decide +kernel
theorem dX10_odd_67 : decode cX10_odd 67 = .ok (.iaload, 1) := by decide +kernel
theorem dX10_odd_68 : decode cX10_odd 68 = .ok (.aload_n 0, 1) := by decide +kernel
theorem dX10_odd_69 : decode cX10_odd 69 = .ok (.getfield 37, 3) := by decide +kernel
theorem dX10_odd_72 : decode cX10_odd 72 = .ok (.iconst 5, 1) := by decide +kernel
theorem dX10_odd_73 : decode cX10_odd 73 = .ok (.iaload, 1) := by decide +kernel
theorem dX10_odd_74 : decode cX10_odd 74 = .ok (.if_icmp .ge 7, 3) := by decide +kernel
theorem dX10_odd_77 : decode cX10_odd 77 = .ok (.iconst 1, 1) := by decide +kernel
theorem dX10_odd_78 : decode cX10_odd 78 = .ok (.goto 4, 3) := by decide +kernel
theorem dX10_odd_81 : decode cX10_odd 81 = .ok (.iconst 0, 1) := by decide +kernel
theorem dX10_odd_82 : decode cX10_odd 82 = .ok (.iadd, 1) := by decide +kernel
theorem dX10_odd_83 : decode cX10_odd 83 = .ok (.istore 4, 2) := by decide +kernel
theorem dX10_odd_85 : decode cX10_odd 85 = .ok (.iinc 5 1, 3) := by decide +kernel
theorem dX10_odd_88 : decode cX10_odd 88 = .ok (.goto (-57), 3) := by decide +kernel
theorem dX10_odd_91 : decode cX10_odd 91 = .ok (.iload_n 3, 1) := by decide +kernel
theorem dX10_odd_92 : decode cX10_odd 92 = .ok (.ifCond .ne 7, 3) := by decide +kernel
theorem dX10_odd_95 : decode cX10_odd 95 = .ok (.ldc2_w 169, 3) := by decide +kernel
theorem dX10_odd_98 : decode cX10_odd 98 = .ok (.lreturn, 1) := by decide +kernel
theorem dX10_odd_99 : decode cX10_odd 99 = .ok (.lconst 0, 1) := by decide +kernel
theorem dX10_odd_100 : decode cX10_odd 100 = .ok (.lstore 5, 2) := by decide +kernel
theorem dX10_odd_102 : decode cX10_odd 102 = .ok (.lconst 1, 1) := by decide +kernel
theorem dX10_odd_103 : decode cX10_odd 103 = .ok (.lstore 7, 2) := by decide +kernel
theorem dX10_odd_105 : decode cX10_odd 105 = .ok (.iconst 0, 1) := by decide +kernel
theorem dX10_odd_106 : decode cX10_odd 106 = .ok (.istore 9, 2) := by decide +kernel
theorem dX10_odd_108 : decode cX10_odd 108 = .ok (.iload 9, 2) := by decide +kernel
theorem dX10_odd_110 : decode cX10_odd 110 = .ok (.iload_n 3, 1) := by decide +kernel
theorem dX10_odd_111 : decode cX10_odd 111 = .ok (.if_icmp .ge 17, 3) := by decide +kernel
theorem dX10_odd_114 : decode cX10_odd 114 = .ok (.lload 7, 2) := by decide +kernel
theorem dX10_odd_116 : decode cX10_odd 116 = .ok (.ldc2_w 225, 3) := by decide +kernel
theorem dX10_odd_119 : decode cX10_odd 119 = .ok (.lmul, 1) := by decide +kernel
theorem dX10_odd_120 : decode cX10_odd 120 = .ok (.lstore 7, 2) := by decide +kernel
theorem dX10_odd_122 : decode cX10_odd 122 = .ok (.iinc 9 1, 3) := by decide +kernel
theorem dX10_odd_125 : decode cX10_odd 125 = .ok (.goto (-17), 3) := by decide +kernel
theorem dX10_odd_128 : decode cX10_odd 128 = .ok (.lconst 1, 1) := by decide +kernel
theorem dX10_odd_129 : decode cX10_odd 129 = .ok (.lstore 9, 2) := by decide +kernel
theorem dX10_odd_131 : decode cX10_odd 131 = .ok (.iconst 0, 1) := by decide +kernel
theorem dX10_odd_132 : decode cX10_odd 132 = .ok (.istore 11, 2) := by decide +kernel
theorem dX10_odd_134 : decode cX10_odd 134 = .ok (.iload 11, 2) := by decide +kernel
theorem dX10_odd_136 : decode cX10_odd 136 = .ok (.iload_n 3, 1) := by decide +kernel
theorem dX10_odd_137 : decode cX10_odd 137 = .ok (.if_icmp .gt 84, 3) := by decide +kernel
theorem dX10_odd_140 : decode cX10_odd 140 = .ok (.lload 9, 2) := by decide +kernel
theorem dX10_odd_142 : decode cX10_odd 142 = .ok (.lstore 12, 2) := by decide +kernel
theorem dX10_odd_144 : decode cX10_odd 144 = .ok (.iconst 0, 1) := by decide +kernel
theorem dX10_odd_145 : decode cX10_odd 145 = .ok (.istore 14, 2) := by decide +kernel
theorem dX10_odd_147 : decode cX10_odd 147 = .ok (.iload 14, 2) := by decide +kernel
theorem dX10_odd_149 : decode cX10_odd 149 = .ok (.iload_n 3, 1) := by decide +kernel
theorem dX10_odd_150 : decode cX10_odd 150 = .ok (.if_icmp .ge 31, 3) := by decide +kernel
theorem dX10_odd_153 : decode cX10_odd 153 = .ok (.lload 12, 2) := by decide +kernel
theorem dX10_odd_155 : decode cX10_odd 155 = .ok (.iload 14, 2) := by decide +kernel
theorem dX10_odd_157 : decode cX10_odd 157 = .ok (.iload 11, 2) := by decide +kernel
theorem dX10_odd_159 : decode cX10_odd 159 = .ok (.if_icmp .ge 8, 3) := by decide +kernel
theorem dX10_odd_162 : decode cX10_odd 162 = .ok (.iload_n 1, 1) := by decide +kernel
theorem dX10_odd_163 : decode cX10_odd 163 = .ok (.i2l, 1) := by decide +kernel
theorem dX10_odd_164 : decode cX10_odd 164 = .ok (.goto 8, 3) := by decide +kernel
theorem dX10_odd_167 : decode cX10_odd 167 = .ok (.bipush 20, 2) := by decide +kernel
theorem dX10_odd_169 : decode cX10_odd 169 = .ok (.iload_n 1, 1) := by decide +kernel
theorem dX10_odd_170 : decode cX10_odd 170 = .ok (.isub, 1) := by decide +kernel
theorem dX10_odd_171 : decode cX10_odd 171 = .ok (.i2l, 1) := by decide +kernel
theorem dX10_odd_172 : decode cX10_odd 172 = .ok (.lmul, 1) := by decide +kernel
theorem dX10_odd_173 : decode cX10_odd 173 = .ok (.lstore 12, 2) := by decide +kernel
theorem dX10_odd_175 : decode cX10_odd 175 = .ok (.iinc 14 1, 3) := by decide +kernel
theorem dX10_odd_178 : decode cX10_odd 178 = .ok (.goto (-31), 3) := by decide +kernel
theorem dX10_odd_181 : decode cX10_odd 181 = .ok (.lload 5, 2) := by decide +kernel
theorem dX10_odd_183 : decode cX10_odd 183 = .ok (.iload 11, 2) := by decide +kernel
theorem dX10_odd_185 : decode cX10_odd 185 = .ok (.iload 4, 2) := by decide +kernel
theorem dX10_odd_187 : decode cX10_odd 187 = .ok (.if_icmp .lt 8, 3) := by decide +kernel
theorem dX10_odd_190 : decode cX10_odd 190 = .ok (.lload 12, 2) := by decide +kernel
theorem dX10_odd_192 : decode cX10_odd 192 = .ok (.goto 4, 3) := by decide +kernel
theorem dX10_odd_195 : decode cX10_odd 195 = .ok (.lconst 0, 1) := by decide +kernel
theorem dX10_odd_196 : decode cX10_odd 196 = .ok (.ladd, 1) := by decide +kernel
theorem dX10_odd_197 : decode cX10_odd 197 = .ok (.lstore 5, 2) := by decide +kernel
theorem dX10_odd_199 : decode cX10_odd 199 = .ok (.lload 9, 2) := by decide +kernel
theorem dX10_odd_201 : decode cX10_odd 201 = .ok (.iload_n 3, 1) := by decide +kernel
theorem dX10_odd_202 : decode cX10_odd 202 = .ok (.iload 11, 2) := by decide +kernel
theorem dX10_odd_204 : decode cX10_odd 204 = .ok (.isub, 1) := by decide +kernel
theorem dX10_odd_205 : decode cX10_odd 205 = .ok (.i2l, 1) := by decide +kernel
theorem dX10_odd_206 : decode cX10_odd 206 = .ok (.lmul, 1) := by decide +kernel
theorem dX10_odd_207 : decode cX10_odd 207 = .ok (.iload 11, 2) := by decide +kernel
theorem dX10_odd_209 : decode cX10_odd 209 = .ok (.iconst 1, 1) := by decide +kernel
theorem dX10_odd_210 : decode cX10_odd 210 = .ok (.iadd, 1) := by decide +kernel
theorem dX10_odd_211 : decode cX10_odd 211 = .ok (.i2l, 1) := by decide +kernel
theorem dX10_odd_212 : decode cX10_odd 212 = .ok (.ldiv, 1) := by decide +kernel
theorem dX10_odd_213 : decode cX10_odd 213 = .ok (.lstore 9, 2) := by decide +kernel
theorem dX10_odd_215 : decode cX10_odd 215 = .ok (.iinc 11 1, 3) := by decide +kernel
theorem dX10_odd_218 : decode cX10_odd 218 = .ok (.goto (-84), 3) := by decide +kernel
theorem dX10_odd_221 : decode cX10_odd 221 = .ok (.lload 5, 2) := by decide +kernel
theorem dX10_odd_223 : decode cX10_odd 223 = .ok (.lload 7, 2) := by decide +kernel
theorem dX10_odd_225 : decode cX10_odd 225 = .ok (.iload_n 2, 1) := by decide +kernel
theorem dX10_odd_226 : decode cX10_odd 226 = .ok (.invokestatic 171, 3) := by decide +kernel
theorem dX10_odd_229 : decode cX10_odd 229 = .ok (.lreturn, 1) := by decide +kernel
set_option maxRecDepth 20000 in
theorem ggX10_knock_X10_in : GoodIn wsX10_knock wsX10_in := goodIn_r _ [5] (by decide +kernel) (by decide +kernel)
set_option maxRecDepth 20000 in
theorem gX10_knock_X10_in : GoodIn wsX10_knock (va_wsS RX10 124 yX10_in wsX10_in) := goodIn_app (goodIn_of _ (by decide +kernel)) ggX10_knock_X10_in
theorem dX10_knock_0 : decode cX10_knock 0 = .ok (.iload_n 1, 1) := by decide +kernel
theorem dX10_knock_1 : decode cX10_knock 1 = .ok (.iconst 0, 1) := by decide +kernel
theorem dX10_knock_2 : decode cX10_knock 2 = .ok (.bipush 9, 2) := by decide +kernel
theorem dX10_knock_4 : decode cX10_knock 4 = .ok (.invokestatic 124, 3) := by decide +kernel
theorem dX10_knock_7 : decode cX10_knock 7 = .ok (.ifCond .ne 5, 3) := by decide +kernel
theorem dX10_knock_10 : decode cX10_knock 10 = .ok (.iconst (-1), 1) := by decide +kernel
theorem dX10_knock_11 : decode cX10_knock 11 = .ok (.ireturn, 1) := by decide +kernel
theorem dX10_knock_12 : decode cX10_knock 12 = .ok (.iload_n 2, 1) := by decide +kernel
theorem dX10_knock_13 : decode cX10_knock 13 = .ok (.iconst (-1), 1) := by decide +kernel
theorem dX10_knock_14 : decode cX10_knock 14 = .ok (.bipush 9, 2) := by decide +kernel
theorem dX10_knock_16 : decode cX10_knock 16 = .ok (.invokestatic 124, 3) := by decide +kernel
theorem dX10_knock_19 : decode cX10_knock 19 = .ok (.ifCond .ne 6, 3) := by decide +kernel
theorem dX10_knock_22 : decode cX10_knock 22 = .ok (.bipush (-2), 2) := by decide +kernel
theorem dX10_knock_24 : decode cX10_knock 24 = .ok (.ireturn, 1) := by decide +kernel
theorem dX10_knock_25 : decode cX10_knock 25 = .ok (.aload_n 0, 1) := by decide +kernel
theorem dX10_knock_26 : decode cX10_knock 26 = .ok (.getfield 56, 3) := by decide +kernel
theorem dX10_knock_29 : decode cX10_knock 29 = .ok (.iload_n 1, 1) := by decide +kernel
theorem dX10_knock_30 : decode cX10_knock 30 = .ok (.iaload, 1) := by decide +kernel
theorem dX10_knock_31 : decode cX10_knock 31 = .ok (.istore_n 3, 1) := by decide +kernel
theorem dX10_knock_32 : decode cX10_knock 32 = .ok (.aload_n 0, 1) := by decide +kernel
theorem dX10_knock_33 : decode cX10_knock 33 = .ok (.getfield 56, 3) := by decide +kernel
theorem dX10_knock_36 : decode cX10_knock 36 = .ok (.iload_n 1, 1) := by decide +kernel
theorem dX10_knock_37 : decode cX10_knock 37 = .ok (.iload_n 2, 1) := by decide +kernel
theorem dX10_knock_38 : decode cX10_knock 38 = .ok (.ifCond .ge 8, 3) := by decide +kernel
theorem dX10_knock_41 : decode cX10_knock 41 = .ok (.bipush (-6), 2) := by decide +kernel
theorem dX10_knock_43 : decode cX10_knock 43 = .ok (.goto 4, 3) := by decide +kernel
theorem dX10_knock_46 : decode cX10_knock 46 = .ok (.iload_n 2, 1) := by decide +kernel
theorem dX10_knock_47 : decode cX10_knock 47 = .ok (.iastore, 1) := by decide +kernel
theorem dX10_knock_48 : decode cX10_knock 48 = .ok (.iload_n 3, 1) := by decide +kernel
theorem dX10_knock_49 : decode cX10_knock 49 = .ok (.ireturn, 1) := by decide +kernel
set_option maxRecDepth 20000 in
theorem ggX10_sheet_X10_in : GoodIn wsX10_sheet wsX10_in := goodIn_r _ [5] (by decide +kernel) (by decide +kernel)
set_option maxRecDepth 20000 in
theorem gX10_sheet_X10_in : GoodIn wsX10_sheet (va_wsS RX10 124 yX10_in wsX10_in) := goodIn_app (goodIn_of _ (by decide +kernel)) ggX10_sheet_X10_in
theorem dX10_sheet_0 : decode cX10_sheet 0 = .ok (.iload_n 1, 1) := by decide +kernel
theorem dX10_sheet_1 : decode cX10_sheet 1 = .ok (.iconst 0, 1) := by decide +kernel
theorem dX10_sheet_2 : decode cX10_sheet 2 = .ok (.bipush 9, 2) := by decide +kernel
theorem dX10_sheet_4 : decode cX10_sheet 4 = .ok (.invokestatic 124, 3) := by decide +kernel
theorem dX10_sheet_7 : decode cX10_sheet 7 = .ok (.ifCond .ne 5, 3) := by decide +kernel
theorem dX10_sheet_10 : decode cX10_sheet 10 = .ok (.iconst (-1), 1) := by decide +kernel
theorem dX10_sheet_11 : decode cX10_sheet 11 = .ok (.ireturn, 1) := by decide +kernel
theorem dX10_sheet_12 : decode cX10_sheet 12 = .ok (.iload_n 2, 1) := by decide +kernel
theorem dX10_sheet_13 : decode cX10_sheet 13 = .ok (.iconst 0, 1) := by decide +kernel
theorem dX10_sheet_14 : decode cX10_sheet 14 = .ok (.iconst 3, 1) := by decide +kernel
theorem dX10_sheet_15 : decode cX10_sheet 15 = .ok (.invokestatic 124, 3) := by decide +kernel
theorem dX10_sheet_18 : decode cX10_sheet 18 = .ok (.ifCond .ne 6, 3) := by decide +kernel
theorem dX10_sheet_21 : decode cX10_sheet 21 = .ok (.bipush (-2), 2) := by decide +kernel
theorem dX10_sheet_23 : decode cX10_sheet 23 = .ok (.ireturn, 1) := by decide +kernel
theorem dX10_sheet_24 : decode cX10_sheet 24 = .ok (.aload_n 0, 1) := by decide +kernel
theorem dX10_sheet_25 : decode cX10_sheet 25 = .ok (.getfield 59, 3) := by decide +kernel
theorem dX10_sheet_28 : decode cX10_sheet 28 = .ok (.iload_n 1, 1) := by decide +kernel
theorem dX10_sheet_29 : decode cX10_sheet 29 = .ok (.iaload, 1) := by decide +kernel
theorem dX10_sheet_30 : decode cX10_sheet 30 = .ok (.istore_n 3, 1) := by decide +kernel
theorem dX10_sheet_31 : decode cX10_sheet 31 = .ok (.aload_n 0, 1) := by decide +kernel
theorem dX10_sheet_32 : decode cX10_sheet 32 = .ok (.getfield 59, 3) := by decide +kernel
theorem dX10_sheet_35 : decode cX10_sheet 35 = .ok (.iload_n 1, 1) := by decide +kernel
theorem dX10_sheet_36 : decode cX10_sheet 36 = .ok (.iload_n 2, 1) := by decide +kernel
theorem dX10_sheet_37 : decode cX10_sheet 37 = .ok (.iastore, 1) := by decide +kernel
theorem dX10_sheet_38 : decode cX10_sheet 38 = .ok (.iload_n 3, 1) := by decide +kernel
theorem dX10_sheet_39 : decode cX10_sheet 39 = .ok (.ireturn, 1) := by decide +kernel
set_option maxRecDepth 20000 in
theorem ggX10_table_X10_in : GoodIn wsX10_table wsX10_in := goodIn_r _ [5] (by decide +kernel) (by decide +kernel)
set_option maxRecDepth 20000 in
theorem gX10_table_X10_in : GoodIn wsX10_table (va_wsS RX10 124 yX10_in wsX10_in) := goodIn_app (goodIn_of _ (by decide +kernel)) ggX10_table_X10_in
theorem dX10_table_0 : decode cX10_table 0 = .ok (.iload_n 1, 1) := by decide +kernel
theorem dX10_table_1 : decode cX10_table 1 = .ok (.iconst 0, 1) := by decide +kernel
theorem dX10_table_2 : decode cX10_table 2 = .ok (.iconst 3, 1) := by decide +kernel
theorem dX10_table_3 : decode cX10_table 3 = .ok (.invokestatic 124, 3) := by decide +kernel
theorem dX10_table_6 : decode cX10_table 6 = .ok (.ifCond .eq 22, 3) := by decide +kernel
theorem dX10_table_9 : decode cX10_table 9 = .ok (.iload_n 2, 1) := by decide +kernel
theorem dX10_table_10 : decode cX10_table 10 = .ok (.iconst 0, 1) := by decide +kernel
theorem dX10_table_11 : decode cX10_table 11 = .ok (.iconst 3, 1) := by decide +kernel
theorem dX10_table_12 : decode cX10_table 12 = .ok (.invokestatic 124, 3) := by decide +kernel
theorem dX10_table_15 : decode cX10_table 15 = .ok (.ifCond .eq 13, 3) := by decide +kernel
theorem dX10_table_18 : decode cX10_table 18 = .ok (.iload_n 3, 1) := by decide +kernel
theorem dX10_table_19 : decode cX10_table 19 = .ok (.iconst 0, 1) := by decide +kernel
theorem dX10_table_20 : decode cX10_table 20 = .ok (.bipush 9, 2) := by decide +kernel
theorem dX10_table_22 : decode cX10_table 22 = .ok (.invokestatic 124, 3) := by decide +kernel
theorem dX10_table_25 : decode cX10_table 25 = .ok (.ifCond .ne 6, 3) := by decide +kernel
theorem dX10_table_28 : decode cX10_table 28 = .ok (.bipush (-2), 2) := by decide +kernel
theorem dX10_table_30 : decode cX10_table 30 = .ok (.ireturn, 1) := by decide +kernel
theorem dX10_table_31 : decode cX10_table 31 = .ok (.aload_n 0, 1) := by decide +kernel
theorem dX10_table_32 : decode cX10_table 32 = .ok (.getfield 62, 3) := by decide +kernel
theorem dX10_table_35 : decode cX10_table 35 = .ok (.iconst 4, 1) := by decide +kernel
theorem dX10_table_36 : decode cX10_table 36 = .ok (.iload_n 1, 1) := by decide +kernel
theorem dX10_table_37 : decode cX10_table 37 = .ok (.imul, 1) := by decide +kernel
theorem dX10_table_38 : decode cX10_table 38 = .ok (.iload_n 2, 1) := by decide +kernel
theorem dX10_table_39 : decode cX10_table 39 = .ok (.iadd, 1) := by decide +kernel
theorem dX10_table_40 : decode cX10_table 40 = .ok (.iaload, 1) := by decide +kernel
theorem dX10_table_41 : decode cX10_table 41 = .ok (.istore 4, 2) := by decide +kernel
theorem dX10_table_43 : decode cX10_table 43 = .ok (.aload_n 0, 1) := by decide +kernel
theorem dX10_table_44 : decode cX10_table 44 = .ok (.getfield 62, 3) := by decide +kernel
theorem dX10_table_47 : decode cX10_table 47 = .ok (.iconst 4, 1) := by decide +kernel
theorem dX10_table_48 : decode cX10_table 48 = .ok (.iload_n 1, 1) := by decide +kernel
theorem dX10_table_49 : decode cX10_table 49 = .ok (.imul, 1) := by decide +kernel
theorem dX10_table_50 : decode cX10_table 50 = .ok (.iload_n 2, 1) := by decide +kernel
theorem dX10_table_51 : decode cX10_table 51 = .ok (.iadd, 1) := by decide +kernel
theorem dX10_table_52 : decode cX10_table 52 = .ok (.iload_n 3, 1) := by decide +kernel
theorem dX10_table_53 : decode cX10_table 53 = .ok (.iastore, 1) := by decide +kernel
theorem dX10_table_54 : decode cX10_table 54 = .ok (.iload 4, 2) := by decide +kernel
theorem dX10_table_56 : decode cX10_table 56 = .ok (.ireturn, 1) := by decide +kernel
theorem dX10_fitsAt_0 : decode cX10_fitsAt 0 = .ok (.aload_n 0, 1) := by decide +kernel
theorem dX10_fitsAt_1 : decode cX10_fitsAt 1 = .ok (.getfield 56, 3) := by decide +kernel
theorem dX10_fitsAt_4 : decode cX10_fitsAt 4 = .ok (.iload_n 1, 1) := by decide +kernel
theorem dX10_fitsAt_5 : decode cX10_fitsAt 5 = .ok (.iaload, 1) := by decide +kernel
theorem dX10_fitsAt_6 : decode cX10_fitsAt 6 = .ok (.ifCond .lt 27, 3) := by decide +kernel
theorem dX10_fitsAt_9 : decode cX10_fitsAt 9 = .ok (.aload_n 0, 1) := by decide +kernel
theorem dX10_fitsAt_10 : decode cX10_fitsAt 10 = .ok (.getfield 62, 3) := by decide +kernel
theorem dX10_fitsAt_13 : decode cX10_fitsAt 13 = .ok (.iconst 4, 1) := by decide +kernel
theorem dX10_fitsAt_14 : decode cX10_fitsAt 14 = .ok (.aload_n 0, 1) := by decide +kernel
theorem dX10_fitsAt_15 : decode cX10_fitsAt 15 = .ok (.getfield 59, 3) := by decide +kernel
theorem dX10_fitsAt_18 : decode cX10_fitsAt 18 = .ok (.iload_n 1, 1) := by decide +kernel
theorem dX10_fitsAt_19 : decode cX10_fitsAt 19 = .ok (.iaload, 1) := by decide +kernel
theorem dX10_fitsAt_20 : decode cX10_fitsAt 20 = .ok (.imul, 1) := by decide +kernel
theorem dX10_fitsAt_21 : decode cX10_fitsAt 21 = .ok (.iload_n 2, 1) := by decide +kernel
theorem dX10_fitsAt_22 : decode cX10_fitsAt 22 = .ok (.iadd, 1) := by decide +kernel
theorem dX10_fitsAt_23 : decode cX10_fitsAt 23 = .ok (.iaload, 1) := by decide +kernel
theorem dX10_fitsAt_24 : decode cX10_fitsAt 24 = .ok (.aload_n 0, 1) := by decide +kernel
theorem dX10_fitsAt_25 : decode cX10_fitsAt 25 = .ok (.getfield 56, 3) := by decide +kernel
theorem dX10_fitsAt_28 : decode cX10_fitsAt 28 = .ok (.iload_n 1, 1) := by decide +kernel
theorem dX10_fitsAt_29 : decode cX10_fitsAt 29 = .ok (.iaload, 1) := by decide +kernel
theorem dX10_fitsAt_30 : decode cX10_fitsAt 30 = .ok (.if_icmp .ne 7, 3) := by decide +kernel
theorem dX10_fitsAt_33 : decode cX10_fitsAt 33 = .ok (.iconst 1, 1) := by decide +kernel
theorem dX10_fitsAt_34 : decode cX10_fitsAt 34 = .ok (.goto 4, 3) := by decide +kernel
theorem dX10_fitsAt_37 : decode cX10_fitsAt 37 = .ok (.iconst 0, 1) := by decide +kernel
theorem dX10_fitsAt_38 : decode cX10_fitsAt 38 = .ok (.ireturn, 1) := by decide +kernel
set_option maxRecDepth 20000 in
theorem ggX10_fit_X10_in : GoodIn wsX10_fit wsX10_in := goodIn_r _ [4] (by decide +kernel) (by decide +kernel)
set_option maxRecDepth 20000 in
theorem gX10_fit_X10_in : GoodIn wsX10_fit (va_wsS RX10 124 yX10_in wsX10_in) := goodIn_app (goodIn_of _ (by decide +kernel)) ggX10_fit_X10_in
set_option maxRecDepth 20000 in
theorem ggX10_fit_X10_fitsAt : GoodIn wsX10_fit wsX10_fitsAt := goodIn_r _ [8, 9, 10, 11, 12, 13, 14, 15, 16, 17, 18, 19, 20, 21, 22, 23, 24, 25, 26, 27, 28, 29, 30, 31, 32, 33, 34, 35, 36, 37, 38, 39, 40, 41, 42, 43, 44, 45, 46, 47, 48, 49, 50, 51, 52, 53, 54, 55, 56, 57] (by decide +kernel) (by decide +kernel)
set_option maxRecDepth 20000 in
theorem gX10_fit_X10_fitsAt : GoodIn wsX10_fit (wsV RX10 227 RX10 yX10_fitsAt wsX10_fitsAt) := goodIn_app (goodIn_of _ (by decide +kernel)) ggX10_fit_X10_fitsAt
theorem dX10_fit_0 : decode cX10_fit 0 = .ok (.iload_n 1, 1) := by decide +kernel
theorem dX10_fit_1 : decode cX10_fit 1 = .ok (.iconst 0, 1) := by decide +kernel
theorem dX10_fit_2 : decode cX10_fit 2 = .ok (.bipush 9, 2) := by decide +kernel
theorem dX10_fit_4 : decode cX10_fit 4 = .ok (.invokestatic 124, 3) := by decide +kernel
theorem dX10_fit_7 : decode cX10_fit 7 = .ok (.ifCond .ne 5, 3) := by decide +kernel
theorem dX10_fit_10 : decode cX10_fit 10 = .ok (.iconst (-1), 1) := by decide +kernel
theorem dX10_fit_11 : decode cX10_fit 11 = .ok (.ireturn, 1) := by decide +kernel
theorem dX10_fit_12 : decode cX10_fit 12 = .ok (.iconst 0, 1) := by decide +kernel
theorem dX10_fit_13 : decode cX10_fit 13 = .ok (.istore_n 2, 1) := by decide +kernel
theorem dX10_fit_14 : decode cX10_fit 14 = .ok (.iconst 0, 1) := by decide +kernel
theorem dX10_fit_15 : decode cX10_fit 15 = .ok (.istore_n 3, 1) := by decide +kernel
theorem dX10_fit_16 : decode cX10_fit 16 = .ok (.iload_n 3, 1) := by decide +kernel
theorem dX10_fit_17 : decode cX10_fit 17 = .ok (.iconst 4, 1) := by decide +kernel
theorem dX10_fit_18 : decode cX10_fit 18 = .ok (.if_icmp .ge 28, 3) := by decide +kernel
theorem dX10_fit_21 : decode cX10_fit 21 = .ok (.iload_n 2, 1) := by decide +kernel
theorem dX10_fit_22 : decode cX10_fit 22 = .ok (.aload_n 0, 1) := by decide +kernel
theorem dX10_fit_23 : decode cX10_fit 23 = .ok (.iload_n 1, 1) := by decide +kernel
theorem dX10_fit_24 : decode cX10_fit 24 = .ok (.iload_n 3, 1) := by decide +kernel
theorem dX10_fit_25 : decode cX10_fit 25 = .ok (.invokevirtual 227, 3) := by decide +kernel
theorem dX10_fit_28 : decode cX10_fit 28 = .ok (.ifCond .eq 9, 3) := by decide +kernel
theorem dX10_fit_31 : decode cX10_fit 31 = .ok (.iconst 1, 1) := by decide +kernel
theorem dX10_fit_32 : decode cX10_fit 32 = .ok (.iload_n 3, 1) := by decide +kernel
theorem dX10_fit_33 : decode cX10_fit 33 = .ok (.ishl, 1) := by decide +kernel
theorem dX10_fit_34 : decode cX10_fit 34 = .ok (.goto 4, 3) := by decide +kernel
theorem dX10_fit_37 : decode cX10_fit 37 = .ok (.iconst 0, 1) := by decide +kernel
theorem dX10_fit_38 : decode cX10_fit 38 = .ok (.ior, 1) := by decide +kernel
theorem dX10_fit_39 : decode cX10_fit 39 = .ok (.istore_n 2, 1) := by decide +kernel
theorem dX10_fit_40 : decode cX10_fit 40 = .ok (.iinc 3 1, 3) := by decide +kernel
theorem dX10_fit_43 : decode cX10_fit 43 = .ok (.goto (-27), 3) := by decide +kernel
theorem dX10_fit_46 : decode cX10_fit 46 = .ok (.iload_n 2, 1) := by decide +kernel
theorem dX10_fit_47 : decode cX10_fit 47 = .ok (.ireturn, 1) := by decide +kernel
set_option maxRecDepth 20000 in
theorem ggX10_rows_X10_fitsAt : GoodIn wsX10_rows wsX10_fitsAt := goodIn_r _ [8, 9, 10, 11, 12, 13, 14, 15, 16, 17, 18, 19, 20, 21, 22, 23, 24, 25, 26, 27, 28, 29, 30, 31, 32, 33, 34, 35, 36, 37, 38, 39, 40, 41, 42, 43, 44, 45, 46, 47, 48, 49, 50, 51, 52, 53, 54, 55, 56, 57] (by decide +kernel) (by decide +kernel)
set_option maxRecDepth 20000 in
theorem gX10_rows_X10_fitsAt : GoodIn wsX10_rows (wsV RX10 227 RX10 yX10_fitsAt wsX10_fitsAt) := goodIn_app (goodIn_of _ (by decide +kernel)) ggX10_rows_X10_fitsAt
theorem dX10_rows_0 : decode cX10_rows 0 = .ok (.iconst 0, 1) := by decide +kernel
theorem dX10_rows_1 : decode cX10_rows 1 = .ok (.istore_n 3, 1) := by decide +kernel
theorem dX10_rows_2 : decode cX10_rows 2 = .ok (.iload_n 3, 1) := by decide +kernel
theorem dX10_rows_3 : decode cX10_rows 3 = .ok (.bipush 10, 2) := by decide +kernel
theorem dX10_rows_5 : decode cX10_rows 5 = .ok (.if_icmp .ge 181, 3) := by decide +kernel
theorem dX10_rows_8 : decode cX10_rows 8 = .ok (.iconst 0, 1) := by decide +kernel
theorem dX10_rows_9 : decode cX10_rows 9 = .ok (.istore 4, 2) := by decide +kernel
theorem dX10_rows_11 : decode cX10_rows 11 = .ok (.iload 4, 2) := by decide +kernel
theorem dX10_rows_13 : decode cX10_rows 13 = .ok (.iconst 4, 1) := by decide +kernel
theorem dX10_rows_14 : decode cX10_rows 14 = .ok (.if_icmp .ge 137, 3) := by decide +kernel
theorem dX10_rows_17 : decode cX10_rows 17 = .ok (.aload_n 0, 1) := by decide +kernel
theorem dX10_rows_18 : decode cX10_rows 18 = .ok (.iload_n 3, 1) := by decide +kernel
theorem dX10_rows_19 : decode cX10_rows 19 = .ok (.iload 4, 2) := by decide +kernel
theorem dX10_rows_21 : decode cX10_rows 21 = .ok (.invokevirtual 227, 3) := by decide +kernel
theorem dX10_rows_24 : decode cX10_rows 24 = .ok (.ifCond .eq 18, 3) := by decide +kernel
theorem dX10_rows_27 : decode cX10_rows 27 = .ok (.iload_n 3, 1) := by decide +kernel
theorem dX10_rows_28 : decode cX10_rows 28 = .ok (.iload_n 1, 1) := by decide +kernel
theorem dX10_rows_29 : decode cX10_rows 29 = .ok (.if_icmp .ne 9, 3) := by decide +kernel
theorem dX10_rows_32 : decode cX10_rows 32 = .ok (.iload 4, 2) := by decide +kernel
theorem dX10_rows_34 : decode cX10_rows 34 = .ok (.iload_n 2, 1) := by decide +kernel
theorem dX10_rows_35 : decode cX10_rows 35 = .ok (.if_icmp .ne 7, 3) := by decide +kernel
theorem dX10_rows_38 : decode cX10_rows 38 = .ok (.iconst 1, 1) := by decide +kernel
theorem dX10_rows_39 : decode cX10_rows 39 = .ok (.goto 4, 3) := by decide +kernel
theorem dX10_rows_42 : decode cX10_rows 42 = .ok (.iconst 0, 1) := by decide +kernel
theorem dX10_rows_43 : decode cX10_rows 43 = .ok (.istore 5, 2) := by decide +kernel
theorem dX10_rows_45 : decode cX10_rows 45 = .ok (.aload_n 0, 1) := by decide +kernel
theorem dX10_rows_46 : decode cX10_rows 46 = .ok (.getfield 120, 3) := by decide +kernel
theorem dX10_rows_49 : decode cX10_rows 49 = .ok (.iload 4, 2) := by decide +kernel
theorem dX10_rows_51 : decode cX10_rows 51 = .ok (.iload_n 3, 1) := by decide +kernel
theorem dX10_rows_52 : decode cX10_rows 52 = .ok (.ifCond .ne 12, 3) := by decide +kernel
theorem dX10_rows_55 : decode cX10_rows 55 = .ok (.iload 5, 2) := by decide +kernel
theorem dX10_rows_57 : decode cX10_rows 57 = .ok (.ifCond .eq 7, 3) := by decide +kernel
theorem dX10_rows_60 : decode cX10_rows 60 = .ok (.iconst 1, 1) := by decide +kernel
theorem dX10_rows_61 : decode cX10_rows 61 = .ok (.goto 4, 3) := by decide +kernel
theorem dX10_rows_64 : decode cX10_rows 64 = .ok (.iconst 0, 1) := by decide +kernel
theorem dX10_rows_65 : decode cX10_rows 65 = .ok (.iastore, 1) := by decide +kernel
theorem dX10_rows_66 : decode cX10_rows 66 = .ok (.iconst 0, 1) := by decide +kernel
theorem dX10_rows_67 : decode cX10_rows 67 = .ok (.istore 6, 2) := by decide +kernel
theorem dX10_rows_69 : decode cX10_rows 69 = .ok (.iload 6, 2) := by decide +kernel
theorem dX10_rows_71 : decode cX10_rows 71 = .ok (.iconst 4, 1) := by decide +kernel
theorem dX10_rows_72 : decode cX10_rows 72 = .ok (.if_icmp .ge 73, 3) := by decide +kernel
theorem dX10_rows_75 : decode cX10_rows 75 = .ok (.iload_n 3, 1) := by decide +kernel
theorem dX10_rows_76 : decode cX10_rows 76 = .ok (.ifCond .le 69, 3) := by decide +kernel
theorem dX10_rows_79 : decode cX10_rows 79 = .ok (.iload 5, 2) := by decide +kernel
theorem dX10_rows_81 : decode cX10_rows 81 = .ok (.ifCond .eq 64, 3) := by decide +kernel
theorem dX10_rows_84 : decode cX10_rows 84 = .ok (.iload 4, 2) := by decide +kernel
theorem dX10_rows_86 : decode cX10_rows 86 = .ok (.iload 6, 2) := by decide +kernel
theorem dX10_rows_88 : decode cX10_rows 88 = .ok (.if_icmp .ge 11, 3) := by decide +kernel
theorem dX10_rows_91 : decode cX10_rows 91 = .ok (.iload 6, 2) := by decide +kernel
theorem dX10_rows_93 : decode cX10_rows 93 = .ok (.iload 4, 2) := by decide +kernel
theorem dX10_rows_95 : decode cX10_rows 95 = .ok (.isub, 1) := by decide +kernel
theorem dX10_rows_96 : decode cX10_rows 96 = .ok (.goto 8, 3) := by decide +kernel
theorem dX10_rows_99 : decode cX10_rows 99 = .ok (.iload 4, 2) := by decide +kernel
theorem dX10_rows_101 : decode cX10_rows 101 = .ok (.iload 6, 2) := by decide +kernel
theorem dX10_rows_103 : decode cX10_rows 103 = .ok (.isub, 1) := by decide +kernel
theorem dX10_rows_104 : decode cX10_rows 104 = .ok (.istore 7, 2) := by decide +kernel
theorem dX10_rows_106 : decode cX10_rows 106 = .ok (.aload_n 0, 1) := by decide +kernel
theorem dX10_rows_107 : decode cX10_rows 107 = .ok (.getfield 120, 3) := by decide +kernel
theorem dX10_rows_110 : decode cX10_rows 110 = .ok (.iload 4, 2) := by decide +kernel
theorem dX10_rows_112 : decode cX10_rows 112 = .ok (.dup2, 1) := by decide +kernel
theorem dX10_rows_113 : decode cX10_rows 113 = .ok (.iaload, 1) := by decide +kernel
theorem dX10_rows_114 : decode cX10_rows 114 = .ok (.iload 7, 2) := by decide +kernel
theorem dX10_rows_116 : decode cX10_rows 116 = .ok (.aload_n 0, 1) := by decide +kernel
theorem dX10_rows_117 : decode cX10_rows 117 = .ok (.getfield 37, 3) := by decide +kernel
theorem dX10_rows_120 : decode cX10_rows 120 = .ok (.bipush 6, 2) := by decide +kernel
theorem dX10_rows_122 : decode cX10_rows 122 = .ok (.iaload, 1) := by decide +kernel
theorem dX10_rows_123 : decode cX10_rows 123 = .ok (.if_icmp .gt 13, 3) := by decide +kernel
theorem dX10_rows_126 : decode cX10_rows 126 = .ok (.aload_n 0, 1) := by decide +kernel
theorem dX10_rows_127 : decode cX10_rows 127 = .ok (.getfield 117, 3) := by decide +kernel
theorem dX10_rows_130 : decode cX10_rows 130 = .ok (.iload 6, 2) := by decide +kernel
theorem dX10_rows_132 : decode cX10_rows 132 = .ok (.iaload, 1) := by decide +kernel
theorem dX10_rows_133 : decode cX10_rows 133 = .ok (.goto 4, 3) := by decide +kernel
theorem dX10_rows_136 : decode cX10_rows 136 = .ok (.iconst 0, 1) := by decide +kernel
theorem dX10_rows_137 : decode cX10_rows 137 = .ok (.iadd, 1) := by decide +kernel
theorem dX10_rows_138 : decode cX10_rows 138 = .ok (.iastore, 1) := by decide +kernel
theorem dX10_rows_139 : decode cX10_rows 139 = .ok (.iinc 6 1, 3) := by decide +kernel
theorem dX10_rows_142 : decode cX10_rows 142 = .ok (.goto (-73), 3) := by decide +kernel
theorem dX10_rows_145 : decode cX10_rows 145 = .ok (.iinc 4 1, 3) := by decide +kernel
theorem dX10_rows_148 : decode cX10_rows 148 = .ok (.goto (-137), 3) := by decide +kernel
theorem dX10_rows_151 : decode cX10_rows 151 = .ok (.iconst 0, 1) := by decide +kernel
theorem dX10_rows_152 : decode cX10_rows 152 = .ok (.istore 4, 2) := by decide +kernel
theorem dX10_rows_154 : decode cX10_rows 154 = .ok (.iload 4, 2) := by decide +kernel
theorem dX10_rows_156 : decode cX10_rows 156 = .ok (.iconst 4, 1) := by decide +kernel
theorem dX10_rows_157 : decode cX10_rows 157 = .ok (.if_icmp .ge 23, 3) := by decide +kernel
theorem dX10_rows_160 : decode cX10_rows 160 = .ok (.aload_n 0, 1) := by decide +kernel
theorem dX10_rows_161 : decode cX10_rows 161 = .ok (.getfield 117, 3) := by decide +kernel
theorem dX10_rows_164 : decode cX10_rows 164 = .ok (.iload 4, 2) := by decide +kernel
theorem dX10_rows_166 : decode cX10_rows 166 = .ok (.aload_n 0, 1) := by decide +kernel
theorem dX10_rows_167 : decode cX10_rows 167 = .ok (.getfield 120, 3) := by decide +kernel
theorem dX10_rows_170 : decode cX10_rows 170 = .ok (.iload 4, 2) := by decide +kernel
theorem dX10_rows_172 : decode cX10_rows 172 = .ok (.iaload, 1) := by decide +kernel
theorem dX10_rows_173 : decode cX10_rows 173 = .ok (.iastore, 1) := by decide +kernel
theorem dX10_rows_174 : decode cX10_rows 174 = .ok (.iinc 4 1, 3) := by decide +kernel
theorem dX10_rows_177 : decode cX10_rows 177 = .ok (.goto (-23), 3) := by decide +kernel
theorem dX10_rows_180 : decode cX10_rows 180 = .ok (.iinc 3 1, 3) := by decide +kernel
theorem dX10_rows_183 : decode cX10_rows 183 = .ok (.goto (-181), 3) := by decide +kernel
theorem dX10_rows_186 : decode cX10_rows 186 = .ok (.aload_n 0, 1) := by decide +kernel
theorem dX10_rows_187 : decode cX10_rows 187 = .ok (.getfield 117, 3) := by decide +kernel
theorem dX10_rows_190 : decode cX10_rows 190 = .ok (.iconst 0, 1) := by decide +kernel
theorem dX10_rows_191 : decode cX10_rows 191 = .ok (.iaload, 1) := by decide +kernel
theorem dX10_rows_192 : decode cX10_rows 192 = .ok (.aload_n 0, 1) := by decide +kernel
theorem dX10_rows_193 : decode cX10_rows 193 = .ok (.getfield 117, 3) := by decide +kernel
theorem dX10_rows_196 : decode cX10_rows 196 = .ok (.iconst 1, 1) := by decide +kernel
theorem dX10_rows_197 : decode cX10_rows 197 = .ok (.iaload, 1) := by decide +kernel
theorem dX10_rows_198 : decode cX10_rows 198 = .ok (.iadd, 1) := by decide +kernel
theorem dX10_rows_199 : decode cX10_rows 199 = .ok (.aload_n 0, 1) := by decide +kernel
theorem dX10_rows_200 : decode cX10_rows 200 = .ok (.getfield 117, 3) := by decide +kernel
theorem dX10_rows_203 : decode cX10_rows 203 = .ok (.iconst 2, 1) := by decide +kernel
theorem dX10_rows_204 : decode cX10_rows 204 = .ok (.iaload, 1) := by decide +kernel
theorem dX10_rows_205 : decode cX10_rows 205 = .ok (.iadd, 1) := by decide +kernel
theorem dX10_rows_206 : decode cX10_rows 206 = .ok (.aload_n 0, 1) := by decide +kernel
theorem dX10_rows_207 : decode cX10_rows 207 = .ok (.getfield 117, 3) := by decide +kernel
theorem dX10_rows_210 : decode cX10_rows 210 = .ok (.iconst 3, 1) := by decide +kernel
theorem dX10_rows_211 : decode cX10_rows 211 = .ok (.iaload, 1) := by decide +kernel
theorem dX10_rows_212 : decode cX10_rows 212 = .ok (.iadd, 1) := by decide +kernel
theorem dX10_rows_213 : decode cX10_rows 213 = .ok (.ireturn, 1) := by decide +kernel
set_option maxRecDepth 20000 in
theorem ggX10_fits_X10_rows : GoodIn wsX10_fits wsX10_rows := goodIn_r _ [5, 6, 7, 8, 9, 10, 11, 4, 12, 13, 14, 15, 16, 17, 18, 19, 20, 21, 22, 23, 24, 25, 26, 27, 28, 29, 30, 31, 32, 33, 34, 35, 36, 37, 38, 39, 40, 41, 42, 43, 44, 45, 46, 47, 48, 49, 50, 51, 52, 53, 54, 55, 56, 57, 58, 59, 60, 61] (by decide +kernel) (by decide +kernel)
set_option maxRecDepth 20000 in
theorem gX10_fits_X10_rows : GoodIn wsX10_fits (wsV RX10 230 RX10 yX10_rows wsX10_rows) := goodIn_app (goodIn_of _ (by decide +kernel)) ggX10_fits_X10_rows
theorem dX10_fits_0 : decode cX10_fits 0 = .ok (.aload_n 0, 1) := by decide +kernel
theorem dX10_fits_1 : decode cX10_fits 1 = .ok (.bipush (-6), 2) := by decide +kernel
theorem dX10_fits_3 : decode cX10_fits 3 = .ok (.iconst 0, 1) := by decide +kernel
theorem dX10_fits_4 : decode cX10_fits 4 = .ok (.invokevirtual 230, 3) := by decide +kernel
theorem dX10_fits_7 : decode cX10_fits 7 = .ok (.ireturn, 1) := by decide +kernel
set_option maxRecDepth 20000 in
theorem ggX10_sure_X10_in : GoodIn wsX10_sure wsX10_in := goodIn_r _ [4] (by decide +kernel) (by decide +kernel)
set_option maxRecDepth 20000 in
theorem gX10_sure_X10_in : GoodIn wsX10_sure (va_wsS RX10 124 yX10_in wsX10_in) := goodIn_app (goodIn_of _ (by decide +kernel)) ggX10_sure_X10_in
set_option maxRecDepth 20000 in
theorem ggX10_sure_X10_rows : GoodIn wsX10_sure wsX10_rows := goodIn_r _ [8, 9, 10, 11, 12, 13, 14, 3, 15, 16, 17, 18, 19, 20, 21, 22, 23, 24, 25, 26, 27, 28, 29, 30, 31, 32, 33, 34, 35, 36, 37, 38, 39, 40, 41, 42, 43, 44, 45, 46, 47, 48, 49, 50, 51, 52, 53, 54, 55, 56, 57, 58, 59, 60, 61, 62, 63, 64] (by decide +kernel) (by decide +kernel)
set_option maxRecDepth 20000 in
theorem gX10_sure_X10_rows : GoodIn wsX10_sure (wsV RX10 230 RX10 yX10_rows wsX10_rows) := goodIn_app (goodIn_of _ (by decide +kernel)) ggX10_sure_X10_rows
theorem dX10_sure_0 : decode cX10_sure 0 = .ok (.iload_n 1, 1) := by decide +kernel
theorem dX10_sure_1 : decode cX10_sure 1 = .ok (.iconst 0, 1) := by decide +kernel
theorem dX10_sure_2 : decode cX10_sure 2 = .ok (.bipush 9, 2) := by decide +kernel
theorem dX10_sure_4 : decode cX10_sure 4 = .ok (.invokestatic 124, 3) := by decide +kernel
theorem dX10_sure_7 : decode cX10_sure 7 = .ok (.ifCond .ne 5, 3) := by decide +kernel
theorem dX10_sure_10 : decode cX10_sure 10 = .ok (.iconst (-1), 1) := by decide +kernel
theorem dX10_sure_11 : decode cX10_sure 11 = .ok (.ireturn, 1) := by decide +kernel
theorem dX10_sure_12 : decode cX10_sure 12 = .ok (.iconst 0, 1) := by decide +kernel
theorem dX10_sure_13 : decode cX10_sure 13 = .ok (.istore_n 2, 1) := by decide +kernel
theorem dX10_sure_14 : decode cX10_sure 14 = .ok (.bipush (-6), 2) := by decide +kernel
theorem dX10_sure_16 : decode cX10_sure 16 = .ok (.istore_n 3, 1) := by decide +kernel
theorem dX10_sure_17 : decode cX10_sure 17 = .ok (.iconst 0, 1) := by decide +kernel
theorem dX10_sure_18 : decode cX10_sure 18 = .ok (.istore 4, 2) := by decide +kernel
theorem dX10_sure_20 : decode cX10_sure 20 = .ok (.iload 4, 2) := by decide +kernel
theorem dX10_sure_22 : decode cX10_sure 22 = .ok (.iconst 4, 1) := by decide +kernel
theorem dX10_sure_23 : decode cX10_sure 23 = .ok (.if_icmp .ge 25, 3) := by decide +kernel
theorem dX10_sure_26 : decode cX10_sure 26 = .ok (.aload_n 0, 1) := by decide +kernel
theorem dX10_sure_27 : decode cX10_sure 27 = .ok (.iload_n 1, 1) := by decide +kernel
theorem dX10_sure_28 : decode cX10_sure 28 = .ok (.iload 4, 2) := by decide +kernel
theorem dX10_sure_30 : decode cX10_sure 30 = .ok (.invokevirtual 230, 3) := by decide +kernel
theorem dX10_sure_33 : decode cX10_sure 33 = .ok (.ifCond .le 9, 3) := by decide +kernel
theorem dX10_sure_36 : decode cX10_sure 36 = .ok (.iinc 2 1, 3) := by decide +kernel
theorem dX10_sure_39 : decode cX10_sure 39 = .ok (.iload 4, 2) := by decide +kernel
theorem dX10_sure_41 : decode cX10_sure 41 = .ok (.istore_n 3, 1) := by decide +kernel
theorem dX10_sure_42 : decode cX10_sure 42 = .ok (.iinc 4 1, 3) := by decide +kernel
theorem dX10_sure_45 : decode cX10_sure 45 = .ok (.goto (-25), 3) := by decide +kernel
theorem dX10_sure_48 : decode cX10_sure 48 = .ok (.iload_n 2, 1) := by decide +kernel
theorem dX10_sure_49 : decode cX10_sure 49 = .ok (.iconst 1, 1) := by decide +kernel
theorem dX10_sure_50 : decode cX10_sure 50 = .ok (.if_icmp .ne 7, 3) := by decide +kernel
theorem dX10_sure_53 : decode cX10_sure 53 = .ok (.iload_n 3, 1) := by decide +kernel
theorem dX10_sure_54 : decode cX10_sure 54 = .ok (.goto 5, 3) := by decide +kernel
theorem dX10_sure_57 : decode cX10_sure 57 = .ok (.bipush (-6), 2) := by decide +kernel
theorem dX10_sure_59 : decode cX10_sure 59 = .ok (.ireturn, 1) := by decide +kernel
set_option maxRecDepth 20000 in
theorem ggX10_unseen_X10_in : GoodIn wsX10_unseen wsX10_in := goodIn_r _ [5] (by decide +kernel) (by decide +kernel)
set_option maxRecDepth 20000 in
theorem gX10_unseen_X10_in : GoodIn wsX10_unseen (va_wsS RX10 124 yX10_in wsX10_in) := goodIn_app (goodIn_of _ (by decide +kernel)) ggX10_unseen_X10_in
theorem dX10_unseen_0 : decode cX10_unseen 0 = .ok (.iload_n 1, 1) := by decide +kernel
theorem dX10_unseen_1 : decode cX10_unseen 1 = .ok (.iconst 0, 1) := by decide +kernel
theorem dX10_unseen_2 : decode cX10_unseen 2 = .ok (.iconst 3, 1) := by decide +kernel
theorem dX10_unseen_3 : decode cX10_unseen 3 = .ok (.invokestatic 124, 3) := by decide +kernel
theorem dX10_unseen_6 : decode cX10_unseen 6 = .ok (.ifCond .ne 6, 3) := by decide +kernel
theorem dX10_unseen_9 : decode cX10_unseen 9 = .ok (.bipush (-2), 2) := by decide +kernel
theorem dX10_unseen_11 : decode cX10_unseen 11 = .ok (.ireturn, 1) := by decide +kernel
theorem dX10_unseen_12 : decode cX10_unseen 12 = .ok (.iconst 0, 1) := by decide +kernel
theorem dX10_unseen_13 : decode cX10_unseen 13 = .ok (.istore_n 2, 1) := by decide +kernel
theorem dX10_unseen_14 : decode cX10_unseen 14 = .ok (.iconst 0, 1) := by decide +kernel
theorem dX10_unseen_15 : decode cX10_unseen 15 = .ok (.istore_n 3, 1) := by decide +kernel
theorem dX10_unseen_16 : decode cX10_unseen 16 = .ok (.iload_n 3, 1) := by decide +kernel
theorem dX10_unseen_17 : decode cX10_unseen 17 = .ok (.iconst 4, 1) := by decide +kernel
theorem dX10_unseen_18 : decode cX10_unseen 18 = .ok (.if_icmp .ge 56, 3) := by decide +kernel
theorem dX10_unseen_21 : decode cX10_unseen 21 = .ok (.iconst 0, 1) := by decide +kernel
theorem dX10_unseen_22 : decode cX10_unseen 22 = .ok (.istore 4, 2) := by decide +kernel
theorem dX10_unseen_24 : decode cX10_unseen 24 = .ok (.iload 4, 2) := by decide +kernel
theorem dX10_unseen_26 : decode cX10_unseen 26 = .ok (.iload_n 3, 1) := by decide +kernel
theorem dX10_unseen_27 : decode cX10_unseen 27 = .ok (.if_icmp .ge 41, 3) := by decide +kernel
theorem dX10_unseen_30 : decode cX10_unseen 30 = .ok (.iload_n 2, 1) := by decide +kernel
theorem dX10_unseen_31 : decode cX10_unseen 31 = .ok (.aload_n 0, 1) := by decide +kernel
theorem dX10_unseen_32 : decode cX10_unseen 32 = .ok (.getfield 62, 3) := by decide +kernel
theorem dX10_unseen_35 : decode cX10_unseen 35 = .ok (.iconst 4, 1) := by decide +kernel
theorem dX10_unseen_36 : decode cX10_unseen 36 = .ok (.iload_n 1, 1) := by decide +kernel
theorem dX10_unseen_37 : decode cX10_unseen 37 = .ok (.imul, 1) := by decide +kernel
theorem dX10_unseen_38 : decode cX10_unseen 38 = .ok (.iload_n 3, 1) := by decide +kernel
theorem dX10_unseen_39 : decode cX10_unseen 39 = .ok (.iadd, 1) := by decide +kernel
theorem dX10_unseen_40 : decode cX10_unseen 40 = .ok (.iaload, 1) := by decide +kernel
theorem dX10_unseen_41 : decode cX10_unseen 41 = .ok (.aload_n 0, 1) := by decide +kernel
theorem dX10_unseen_42 : decode cX10_unseen 42 = .ok (.getfield 62, 3) := by decide +kernel
theorem dX10_unseen_45 : decode cX10_unseen 45 = .ok (.iconst 4, 1) := by decide +kernel
theorem dX10_unseen_46 : decode cX10_unseen 46 = .ok (.iload_n 1, 1) := by decide +kernel
theorem dX10_unseen_47 : decode cX10_unseen 47 = .ok (.imul, 1) := by decide +kernel
theorem dX10_unseen_48 : decode cX10_unseen 48 = .ok (.iload 4, 2) := by decide +kernel
theorem dX10_unseen_50 : decode cX10_unseen 50 = .ok (.iadd, 1) := by decide +kernel
theorem dX10_unseen_51 : decode cX10_unseen 51 = .ok (.iaload, 1) := by decide +kernel
theorem dX10_unseen_52 : decode cX10_unseen 52 = .ok (.if_icmp .ne 7, 3) := by decide +kernel
theorem dX10_unseen_55 : decode cX10_unseen 55 = .ok (.iconst 1, 1) := by decide +kernel
theorem dX10_unseen_56 : decode cX10_unseen 56 = .ok (.goto 4, 3) := by decide +kernel
theorem dX10_unseen_59 : decode cX10_unseen 59 = .ok (.iconst 0, 1) := by decide +kernel
theorem dX10_unseen_60 : decode cX10_unseen 60 = .ok (.iadd, 1) := by decide +kernel
theorem dX10_unseen_61 : decode cX10_unseen 61 = .ok (.istore_n 2, 1) := by decide +kernel
theorem dX10_unseen_62 : decode cX10_unseen 62 = .ok (.iinc 4 1, 3) := by decide +kernel
theorem dX10_unseen_65 : decode cX10_unseen 65 = .ok (.goto (-41), 3) := by decide +kernel
theorem dX10_unseen_68 : decode cX10_unseen 68 = .ok (.iinc 3 1, 3) := by decide +kernel
theorem dX10_unseen_71 : decode cX10_unseen 71 = .ok (.goto (-55), 3) := by decide +kernel
theorem dX10_unseen_74 : decode cX10_unseen 74 = .ok (.iload_n 2, 1) := by decide +kernel
theorem dX10_unseen_75 : decode cX10_unseen 75 = .ok (.ireturn, 1) := by decide +kernel
set_option maxRecDepth 20000 in
theorem ggX10_choice_X10_in : GoodIn wsX10_choice wsX10_in := goodIn_r _ [9] (by decide +kernel) (by decide +kernel)
set_option maxRecDepth 20000 in
theorem gX10_choice_X10_in : GoodIn wsX10_choice (va_wsS RX10 124 yX10_in wsX10_in) := goodIn_app (goodIn_of _ (by decide +kernel)) ggX10_choice_X10_in
theorem dX10_choice_0 : decode cX10_choice 0 = .ok (.iload_n 1, 1) := by decide +kernel
theorem dX10_choice_1 : decode cX10_choice 1 = .ok (.iconst 0, 1) := by decide +kernel
theorem dX10_choice_2 : decode cX10_choice 2 = .ok (.iconst 3, 1) := by decide +kernel
theorem dX10_choice_3 : decode cX10_choice 3 = .ok (.invokestatic 124, 3) := by decide +kernel
theorem dX10_choice_6 : decode cX10_choice 6 = .ok (.ifCond .ne 5, 3) := by decide +kernel
theorem dX10_choice_9 : decode cX10_choice 9 = .ok (.iconst (-1), 1) := by decide +kernel
theorem dX10_choice_10 : decode cX10_choice 10 = .ok (.ireturn, 1) := by decide +kernel
theorem dX10_choice_11 : decode cX10_choice 11 = .ok (.iload_n 2, 1) := by decide +kernel
theorem dX10_choice_12 : decode cX10_choice 12 = .ok (.iconst 0, 1) := by decide +kernel
theorem dX10_choice_13 : decode cX10_choice 13 = .ok (.sipush 1000, 3) := by decide +kernel
theorem dX10_choice_16 : decode cX10_choice 16 = .ok (.invokestatic 124, 3) := by decide +kernel
theorem dX10_choice_19 : decode cX10_choice 19 = .ok (.ifCond .eq 26, 3) := by decide +kernel
theorem dX10_choice_22 : decode cX10_choice 22 = .ok (.iload_n 3, 1) := by decide +kernel
theorem dX10_choice_23 : decode cX10_choice 23 = .ok (.iconst 0, 1) := by decide +kernel
theorem dX10_choice_24 : decode cX10_choice 24 = .ok (.sipush 10000, 3) := by decide +kernel
theorem dX10_choice_27 : decode cX10_choice 27 = .ok (.invokestatic 124, 3) := by decide +kernel
theorem dX10_choice_30 : decode cX10_choice 30 = .ok (.ifCond .eq 15, 3) := by decide +kernel
theorem dX10_choice_33 : decode cX10_choice 33 = .ok (.iload 4, 2) := by decide +kernel
theorem dX10_choice_35 : decode cX10_choice 35 = .ok (.iconst 0, 1) := by decide +kernel
theorem dX10_choice_36 : decode cX10_choice 36 = .ok (.sipush 10000, 3) := by decide +kernel
theorem dX10_choice_39 : decode cX10_choice 39 = .ok (.invokestatic 124, 3) := by decide +kernel
theorem dX10_choice_42 : decode cX10_choice 42 = .ok (.ifCond .ne 6, 3) := by decide +kernel
theorem dX10_choice_45 : decode cX10_choice 45 = .ok (.bipush (-2), 2) := by decide +kernel
theorem dX10_choice_47 : decode cX10_choice 47 = .ok (.ireturn, 1) := by decide +kernel
theorem dX10_choice_48 : decode cX10_choice 48 = .ok (.aload_n 0, 1) := by decide +kernel
theorem dX10_choice_49 : decode cX10_choice 49 = .ok (.getfield 233, 3) := by decide +kernel
theorem dX10_choice_52 : decode cX10_choice 52 = .ok (.bipush 12, 2) := by decide +kernel
theorem dX10_choice_54 : decode cX10_choice 54 = .ok (.if_icmp .ne 6, 3) := by decide +kernel
theorem dX10_choice_57 : decode cX10_choice 57 = .ok (.bipush (-4), 2) := by decide +kernel
theorem dX10_choice_59 : decode cX10_choice 59 = .ok (.ireturn, 1) := by decide +kernel
theorem dX10_choice_60 : decode cX10_choice 60 = .ok (.aload_n 0, 1) := by decide +kernel
theorem dX10_choice_61 : decode cX10_choice 61 = .ok (.getfield 65, 3) := by decide +kernel
theorem dX10_choice_64 : decode cX10_choice 64 = .ok (.aload_n 0, 1) := by decide +kernel
theorem dX10_choice_65 : decode cX10_choice 65 = .ok (.getfield 233, 3) := by decide +kernel
theorem dX10_choice_68 : decode cX10_choice 68 = .ok (.iload_n 1, 1) := by decide +kernel
theorem dX10_choice_69 : decode cX10_choice 69 = .ok (.iastore, 1) := by decide +kernel
theorem dX10_choice_70 : decode cX10_choice 70 = .ok (.aload_n 0, 1) := by decide +kernel
theorem dX10_choice_71 : decode cX10_choice 71 = .ok (.getfield 68, 3) := by decide +kernel
theorem dX10_choice_74 : decode cX10_choice 74 = .ok (.aload_n 0, 1) := by decide +kernel
theorem dX10_choice_75 : decode cX10_choice 75 = .ok (.getfield 233, 3) := by decide +kernel
theorem dX10_choice_78 : decode cX10_choice 78 = .ok (.iload_n 2, 1) := by decide +kernel
theorem dX10_choice_79 : decode cX10_choice 79 = .ok (.iastore, 1) := by decide +kernel
theorem dX10_choice_80 : decode cX10_choice 80 = .ok (.aload_n 0, 1) := by decide +kernel
theorem dX10_choice_81 : decode cX10_choice 81 = .ok (.getfield 71, 3) := by decide +kernel
theorem dX10_choice_84 : decode cX10_choice 84 = .ok (.aload_n 0, 1) := by decide +kernel
theorem dX10_choice_85 : decode cX10_choice 85 = .ok (.getfield 233, 3) := by decide +kernel
theorem dX10_choice_88 : decode cX10_choice 88 = .ok (.iload_n 3, 1) := by decide +kernel
theorem dX10_choice_89 : decode cX10_choice 89 = .ok (.iastore, 1) := by decide +kernel
theorem dX10_choice_90 : decode cX10_choice 90 = .ok (.aload_n 0, 1) := by decide +kernel
theorem dX10_choice_91 : decode cX10_choice 91 = .ok (.getfield 74, 3) := by decide +kernel
theorem dX10_choice_94 : decode cX10_choice 94 = .ok (.aload_n 0, 1) := by decide +kernel
theorem dX10_choice_95 : decode cX10_choice 95 = .ok (.getfield 233, 3) := by decide +kernel
theorem dX10_choice_98 : decode cX10_choice 98 = .ok (.iload 4, 2) := by decide +kernel
theorem dX10_choice_100 : decode cX10_choice 100 = .ok (.iastore, 1) := by decide +kernel
theorem dX10_choice_101 : decode cX10_choice 101 = .ok (.aload_n 0, 1) := by decide +kernel
theorem dX10_choice_102 : decode cX10_choice 102 = .ok (.dup, 1) := by decide +kernel
theorem dX10_choice_103 : decode cX10_choice 103 = .ok (.getfield 233, 3) := by decide +kernel
theorem dX10_choice_106 : decode cX10_choice 106 = .ok (.iconst 1, 1) := by decide +kernel
theorem dX10_choice_107 : decode cX10_choice 107 = .ok (.iadd, 1) := by decide +kernel
theorem dX10_choice_108 : decode cX10_choice 108 = .ok (.putfield 233, 3) := by decide +kernel
theorem dX10_choice_111 : decode cX10_choice 111 = .ok (.aload_n 0, 1) := by decide +kernel
theorem dX10_choice_112 : decode cX10_choice 112 = .ok (.getfield 233, 3) := by decide +kernel
theorem dX10_choice_115 : decode cX10_choice 115 = .ok (.iconst 1, 1) := by decide +kernel
theorem dX10_choice_116 : decode cX10_choice 116 = .ok (.isub, 1) := by decide +kernel
theorem dX10_choice_117 : decode cX10_choice 117 = .ok (.ireturn, 1) := by decide +kernel
set_option maxRecDepth 20000 in
theorem ggX10_cheapest_X10_in : GoodIn wsX10_cheapest wsX10_in := goodIn_r _ [10] (by decide +kernel) (by decide +kernel)
set_option maxRecDepth 20000 in
theorem gX10_cheapest_X10_in : GoodIn wsX10_cheapest (va_wsS RX10 124 yX10_in wsX10_in) := goodIn_app (goodIn_of _ (by decide +kernel)) ggX10_cheapest_X10_in
theorem dX10_cheapest_0 : decode cX10_cheapest 0 = .ok (.iload_n 2, 1) := by decide +kernel
theorem dX10_cheapest_1 : decode cX10_cheapest 1 = .ok (.iconst (-1), 1) := by decide +kernel
theorem dX10_cheapest_2 : decode cX10_cheapest 2 = .ok (.iconst 3, 1) := by decide +kernel
theorem dX10_cheapest_3 : decode cX10_cheapest 3 = .ok (.invokestatic 124, 3) := by decide +kernel
theorem dX10_cheapest_6 : decode cX10_cheapest 6 = .ok (.ifCond .ne 5, 3) := by decide +kernel
theorem dX10_cheapest_9 : decode cX10_cheapest 9 = .ok (.iconst (-1), 1) := by decide +kernel
theorem dX10_cheapest_10 : decode cX10_cheapest 10 = .ok (.ireturn, 1) := by decide +kernel
theorem dX10_cheapest_11 : decode cX10_cheapest 11 = .ok (.iload_n 1, 1) := by decide +kernel
theorem dX10_cheapest_12 : decode cX10_cheapest 12 = .ok (.iconst 0, 1) := by decide +kernel
theorem dX10_cheapest_13 : decode cX10_cheapest 13 = .ok (.sipush 10000, 3) := by decide +kernel
theorem dX10_cheapest_16 : decode cX10_cheapest 16 = .ok (.invokestatic 124, 3) := by decide +kernel
theorem dX10_cheapest_19 : decode cX10_cheapest 19 = .ok (.ifCond .ne 6, 3) := by decide +kernel
theorem dX10_cheapest_22 : decode cX10_cheapest 22 = .ok (.bipush (-2), 2) := by decide +kernel
theorem dX10_cheapest_24 : decode cX10_cheapest 24 = .ok (.ireturn, 1) := by decide +kernel
theorem dX10_cheapest_25 : decode cX10_cheapest 25 = .ok (.bipush (-6), 2) := by decide +kernel
theorem dX10_cheapest_27 : decode cX10_cheapest 27 = .ok (.istore_n 3, 1) := by decide +kernel
theorem dX10_cheapest_28 : decode cX10_cheapest 28 = .ok (.iconst 0, 1) := by decide +kernel
theorem dX10_cheapest_29 : decode cX10_cheapest 29 = .ok (.istore 4, 2) := by decide +kernel
theorem dX10_cheapest_31 : decode cX10_cheapest 31 = .ok (.iload 4, 2) := by decide +kernel
theorem dX10_cheapest_33 : decode cX10_cheapest 33 = .ok (.aload_n 0, 1) := by decide +kernel
theorem dX10_cheapest_34 : decode cX10_cheapest 34 = .ok (.getfield 233, 3) := by decide +kernel
theorem dX10_cheapest_37 : decode cX10_cheapest 37 = .ok (.if_icmp .ge 122, 3) := by decide +kernel
theorem dX10_cheapest_40 : decode cX10_cheapest 40 = .ok (.aload_n 0, 1) := by decide +kernel
theorem dX10_cheapest_41 : decode cX10_cheapest 41 = .ok (.getfield 71, 3) := by decide +kernel
theorem dX10_cheapest_44 : decode cX10_cheapest 44 = .ok (.iload 4, 2) := by decide +kernel
theorem dX10_cheapest_46 : decode cX10_cheapest 46 = .ok (.iaload, 1) := by decide +kernel
theorem dX10_cheapest_47 : decode cX10_cheapest 47 = .ok (.iload_n 1, 1) := by decide +kernel
theorem dX10_cheapest_48 : decode cX10_cheapest 48 = .ok (.if_icmp .lt 43, 3) := by decide +kernel
theorem dX10_cheapest_51 : decode cX10_cheapest 51 = .ok (.aload_n 0, 1) := by decide +kernel
theorem dX10_cheapest_52 : decode cX10_cheapest 52 = .ok (.getfield 71, 3) := by decide +kernel
theorem dX10_cheapest_55 : decode cX10_cheapest 55 = .ok (.iload 4, 2) := by decide +kernel
theorem dX10_cheapest_57 : decode cX10_cheapest 57 = .ok (.iaload, 1) := by decide +kernel
theorem dX10_cheapest_58 : decode cX10_cheapest 58 = .ok (.aload_n 0, 1) := by decide +kernel
theorem dX10_cheapest_59 : decode cX10_cheapest 59 = .ok (.getfield 74, 3) := by decide +kernel
theorem dX10_cheapest_62 : decode cX10_cheapest 62 = .ok (.iload 4, 2) := by decide +kernel
theorem dX10_cheapest_64 : decode cX10_cheapest 64 = .ok (.iaload, 1) := by decide +kernel
theorem dX10_cheapest_65 : decode cX10_cheapest 65 = .ok (.isub, 1) := by decide +kernel
theorem dX10_cheapest_66 : decode cX10_cheapest 66 = .ok (.aload_n 0, 1) := by decide +kernel
theorem dX10_cheapest_67 : decode cX10_cheapest 67 = .ok (.getfield 71, 3) := by decide +kernel
theorem dX10_cheapest_70 : decode cX10_cheapest 70 = .ok (.iload 4, 2) := by decide +kernel
theorem dX10_cheapest_72 : decode cX10_cheapest 72 = .ok (.iaload, 1) := by decide +kernel
theorem dX10_cheapest_73 : decode cX10_cheapest 73 = .ok (.aload_n 0, 1) := by decide +kernel
theorem dX10_cheapest_74 : decode cX10_cheapest 74 = .ok (.getfield 37, 3) := by decide +kernel
theorem dX10_cheapest_77 : decode cX10_cheapest 77 = .ok (.bipush 7, 2) := by decide +kernel
theorem dX10_cheapest_79 : decode cX10_cheapest 79 = .ok (.iaload, 1) := by decide +kernel
theorem dX10_cheapest_80 : decode cX10_cheapest 80 = .ok (.imul, 1) := by decide +kernel
theorem dX10_cheapest_81 : decode cX10_cheapest 81 = .ok (.bipush 100, 2) := by decide +kernel
theorem dX10_cheapest_83 : decode cX10_cheapest 83 = .ok (.idiv, 1) := by decide +kernel
theorem dX10_cheapest_84 : decode cX10_cheapest 84 = .ok (.if_icmp .lt 7, 3) := by decide +kernel
theorem dX10_cheapest_87 : decode cX10_cheapest 87 = .ok (.iconst 1, 1) := by decide +kernel
theorem dX10_cheapest_88 : decode cX10_cheapest 88 = .ok (.goto 4, 3) := by decide +kernel
theorem dX10_cheapest_91 : decode cX10_cheapest 91 = .ok (.iconst 0, 1) := by decide +kernel
theorem dX10_cheapest_92 : decode cX10_cheapest 92 = .ok (.istore 5, 2) := by decide +kernel
theorem dX10_cheapest_94 : decode cX10_cheapest 94 = .ok (.iload 5, 2) := by decide +kernel
theorem dX10_cheapest_96 : decode cX10_cheapest 96 = .ok (.ifCond .eq 22, 3) := by decide +kernel
theorem dX10_cheapest_99 : decode cX10_cheapest 99 = .ok (.iload_n 2, 1) := by decide +kernel
theorem dX10_cheapest_100 : decode cX10_cheapest 100 = .ok (.ifCond .lt 14, 3) := by decide +kernel
theorem dX10_cheapest_103 : decode cX10_cheapest 103 = .ok (.aload_n 0, 1) := by decide +kernel
theorem dX10_cheapest_104 : decode cX10_cheapest 104 = .ok (.getfield 65, 3) := by decide +kernel
theorem dX10_cheapest_107 : decode cX10_cheapest 107 = .ok (.iload 4, 2) := by decide +kernel
theorem dX10_cheapest_109 : decode cX10_cheapest 109 = .ok (.iaload, 1) := by decide +kernel
theorem dX10_cheapest_110 : decode cX10_cheapest 110 = .ok (.iload_n 2, 1) := by decide +kernel
theorem dX10_cheapest_111 : decode cX10_cheapest 111 = .ok (.if_icmp .ne 7, 3) := by decide +kernel
theorem dX10_cheapest_114 : decode cX10_cheapest 114 = .ok (.iconst 1, 1) := by decide +kernel
theorem dX10_cheapest_115 : decode cX10_cheapest 115 = .ok (.goto 4, 3) := by decide +kernel
theorem dX10_cheapest_118 : decode cX10_cheapest 118 = .ok (.iconst 0, 1) := by decide +kernel
theorem dX10_cheapest_119 : decode cX10_cheapest 119 = .ok (.istore 6, 2) := by decide +kernel
theorem dX10_cheapest_121 : decode cX10_cheapest 121 = .ok (.iload 6, 2) := by decide +kernel
theorem dX10_cheapest_123 : decode cX10_cheapest 123 = .ok (.ifCond .eq 28, 3) := by decide +kernel
theorem dX10_cheapest_126 : decode cX10_cheapest 126 = .ok (.iload_n 3, 1) := by decide +kernel
theorem dX10_cheapest_127 : decode cX10_cheapest 127 = .ok (.ifCond .lt 19, 3) := by decide +kernel
theorem dX10_cheapest_130 : decode cX10_cheapest 130 = .ok (.aload_n 0, 1) := by decide +kernel
theorem dX10_cheapest_131 : decode cX10_cheapest 131 = .ok (.getfield 68, 3) := by decide +kernel
theorem dX10_cheapest_134 : decode cX10_cheapest 134 = .ok (.iload 4, 2) := by decide +kernel
theorem dX10_cheapest_136 : decode cX10_cheapest 136 = .ok (.iaload, 1) := by decide +kernel
theorem dX10_cheapest_137 : decode cX10_cheapest 137 = .ok (.aload_n 0, 1) := by decide +kernel
theorem dX10_cheapest_138 : decode cX10_cheapest 138 = .ok (.getfield 68, 3) := by decide +kernel
theorem dX10_cheapest_141 : decode cX10_cheapest 141 = .ok (.iload_n 3, 1) := by decide +kernel
theorem dX10_cheapest_142 : decode cX10_cheapest 142 = .ok (.iaload, 1) := by decide +kernel
theorem dX10_cheapest_143 : decode cX10_cheapest 143 = .ok (.if_icmp .ge 8, 3) := by decide +kernel
theorem dX10_cheapest_146 : decode cX10_cheapest 146 = .ok (.iload 4, 2) := by decide +kernel
theorem dX10_cheapest_148 : decode cX10_cheapest 148 = .ok (.goto 4, 3) := by decide +kernel
theorem dX10_cheapest_151 : decode cX10_cheapest 151 = .ok (.iload_n 3, 1) := by decide +kernel
theorem dX10_cheapest_152 : decode cX10_cheapest 152 = .ok (.istore_n 3, 1) := by decide +kernel
theorem dX10_cheapest_153 : decode cX10_cheapest 153 = .ok (.iinc 4 1, 3) := by decide +kernel
theorem dX10_cheapest_156 : decode cX10_cheapest 156 = .ok (.goto (-125), 3) := by decide +kernel
theorem dX10_cheapest_159 : decode cX10_cheapest 159 = .ok (.iload_n 3, 1) := by decide +kernel
theorem dX10_cheapest_160 : decode cX10_cheapest 160 = .ok (.ireturn, 1) := by decide +kernel
theorem dX10_strengthBy_0 : decode cX10_strengthBy 0 = .ok (.iload_n 0, 1) := by decide +kernel
theorem dX10_strengthBy_1 : decode cX10_strengthBy 1 = .ok (.iload_n 1, 1) := by decide +kernel
theorem dX10_strengthBy_2 : decode cX10_strengthBy 2 = .ok (.imul, 1) := by decide +kernel
theorem dX10_strengthBy_3 : decode cX10_strengthBy 3 = .ok (.bipush 100, 2) := by decide +kernel
theorem dX10_strengthBy_5 : decode cX10_strengthBy 5 = .ok (.idiv, 1) := by decide +kernel
theorem dX10_strengthBy_6 : decode cX10_strengthBy 6 = .ok (.iload_n 2, 1) := by decide +kernel
theorem dX10_strengthBy_7 : decode cX10_strengthBy 7 = .ok (.imul, 1) := by decide +kernel
theorem dX10_strengthBy_8 : decode cX10_strengthBy 8 = .ok (.sipush 1000, 3) := by decide +kernel
theorem dX10_strengthBy_11 : decode cX10_strengthBy 11 = .ok (.idiv, 1) := by decide +kernel
theorem dX10_strengthBy_12 : decode cX10_strengthBy 12 = .ok (.sipush 1000, 3) := by decide +kernel
theorem dX10_strengthBy_15 : decode cX10_strengthBy 15 = .ok (.iload_n 3, 1) := by decide +kernel
theorem dX10_strengthBy_16 : decode cX10_strengthBy 16 = .ok (.isub, 1) := by decide +kernel
theorem dX10_strengthBy_17 : decode cX10_strengthBy 17 = .ok (.imul, 1) := by decide +kernel
theorem dX10_strengthBy_18 : decode cX10_strengthBy 18 = .ok (.sipush 1000, 3) := by decide +kernel
theorem dX10_strengthBy_21 : decode cX10_strengthBy 21 = .ok (.idiv, 1) := by decide +kernel
theorem dX10_strengthBy_22 : decode cX10_strengthBy 22 = .ok (.ireturn, 1) := by decide +kernel
set_option maxRecDepth 20000 in
theorem ggX10_led_X10_isLap : GoodIn wsX10_led wsX10_isLap := goodIn_r _ [7, 8, 9, 10, 6, 11, 12, 13, 14, 18, 19, 20, 21, 22, 23, 24, 25, 26, 27, 28, 29, 30, 31, 32, 33, 34, 35, 36, 37, 38, 39, 40, 41, 42, 43, 44, 45, 46, 47, 48, 49, 50, 51, 52, 53, 54, 55, 56, 57, 58, 59, 60, 61, 62, 63] (by decide +kernel) (by decide +kernel)
set_option maxRecDepth 20000 in
theorem gX10_led_X10_isLap : GoodIn wsX10_led (wsV RX10 140 RX10 yX10_isLap wsX10_isLap) := goodIn_app (goodIn_of _ (by decide +kernel)) ggX10_led_X10_isLap
set_option maxRecDepth 20000 in
theorem ggX10_led_X10_in : GoodIn wsX10_led wsX10_in := goodIn_r _ [14] (by decide +kernel) (by decide +kernel)
set_option maxRecDepth 20000 in
theorem gX10_led_X10_in : GoodIn wsX10_led (va_wsS RX10 124 yX10_in wsX10_in) := goodIn_app (goodIn_of _ (by decide +kernel)) ggX10_led_X10_in
set_option maxRecDepth 20000 in
theorem ggX10_led_X10_strengthBy : GoodIn wsX10_led wsX10_strengthBy := goodIn_r _ [17] (by decide +kernel) (by decide +kernel)
set_option maxRecDepth 20000 in
theorem gX10_led_X10_strengthBy : GoodIn wsX10_led (va_wsS RX10 236 yX10_strengthBy wsX10_strengthBy) := goodIn_app (goodIn_of _ (by decide +kernel)) ggX10_led_X10_strengthBy
theorem dX10_led_0 : decode cX10_led 0 = .ok (.aload_n 0, 1) := by decide +kernel
theorem dX10_led_1 : decode cX10_led 1 = .ok (.iload_n 1, 1) := by decide +kernel
theorem dX10_led_2 : decode cX10_led 2 = .ok (.invokevirtual 140, 3) := by decide +kernel
theorem dX10_led_5 : decode cX10_led 5 = .ok (.ifCond .ne 5, 3) := by decide +kernel
theorem dX10_led_8 : decode cX10_led 8 = .ok (.iconst (-1), 1) := by decide +kernel
theorem dX10_led_9 : decode cX10_led 9 = .ok (.ireturn, 1) := by decide +kernel
theorem dX10_led_10 : decode cX10_led 10 = .ok (.iload_n 2, 1) := by decide +kernel
theorem dX10_led_11 : decode cX10_led 11 = .ok (.iconst 0, 1) := by decide +kernel
theorem dX10_led_12 : decode cX10_led 12 = .ok (.sipush 10000, 3) := by decide +kernel
theorem dX10_led_15 : decode cX10_led 15 = .ok (.invokestatic 124, 3) := by decide +kernel
theorem dX10_led_18 : decode cX10_led 18 = .ok (.ifCond .eq 47, 3) := by decide +kernel
theorem dX10_led_21 : decode cX10_led 21 = .ok (.iload_n 3, 1) := by decide +kernel
theorem dX10_led_22 : decode cX10_led 22 = .ok (.iconst 0, 1) := by decide +kernel
theorem dX10_led_23 : decode cX10_led 23 = .ok (.bipush 100, 2) := by decide +kernel
theorem dX10_led_25 : decode cX10_led 25 = .ok (.invokestatic 124, 3) := by decide +kernel
theorem dX10_led_28 : decode cX10_led 28 = .ok (.ifCond .eq 37, 3) := by decide +kernel
theorem dX10_led_31 : decode cX10_led 31 = .ok (.iload 4, 2) := by decide +kernel
theorem dX10_led_33 : decode cX10_led 33 = .ok (.iconst 0, 1) := by decide +kernel
theorem dX10_led_34 : decode cX10_led 34 = .ok (.sipush 10000, 3) := by decide +kernel
theorem dX10_led_37 : decode cX10_led 37 = .ok (.invokestatic 124, 3) := by decide +kernel
theorem dX10_led_40 : decode cX10_led 40 = .ok (.ifCond .eq 25, 3) := by decide +kernel
theorem dX10_led_43 : decode cX10_led 43 = .ok (.iload 5, 2) := by decide +kernel
theorem dX10_led_45 : decode cX10_led 45 = .ok (.iconst 0, 1) := by decide +kernel
theorem dX10_led_46 : decode cX10_led 46 = .ok (.sipush 10000, 3) := by decide +kernel
theorem dX10_led_49 : decode cX10_led 49 = .ok (.invokestatic 124, 3) := by decide +kernel
theorem dX10_led_52 : decode cX10_led 52 = .ok (.ifCond .eq 13, 3) := by decide +kernel
theorem dX10_led_55 : decode cX10_led 55 = .ok (.iload 6, 2) := by decide +kernel
theorem dX10_led_57 : decode cX10_led 57 = .ok (.iconst 0, 1) := by decide +kernel
theorem dX10_led_58 : decode cX10_led 58 = .ok (.iconst 1, 1) := by decide +kernel
theorem dX10_led_59 : decode cX10_led 59 = .ok (.invokestatic 124, 3) := by decide +kernel
theorem dX10_led_62 : decode cX10_led 62 = .ok (.ifCond .ne 6, 3) := by decide +kernel
theorem dX10_led_65 : decode cX10_led 65 = .ok (.bipush (-2), 2) := by decide +kernel
theorem dX10_led_67 : decode cX10_led 67 = .ok (.ireturn, 1) := by decide +kernel
theorem dX10_led_68 : decode cX10_led 68 = .ok (.iconst 0, 1) := by decide +kernel
theorem dX10_led_69 : decode cX10_led 69 = .ok (.istore 7, 2) := by decide +kernel
theorem dX10_led_71 : decode cX10_led 71 = .ok (.iconst 0, 1) := by decide +kernel
theorem dX10_led_72 : decode cX10_led 72 = .ok (.istore 8, 2) := by decide +kernel
theorem dX10_led_74 : decode cX10_led 74 = .ok (.iload 8, 2) := by decide +kernel
theorem dX10_led_76 : decode cX10_led 76 = .ok (.bipush 10, 2) := by decide +kernel
theorem dX10_led_78 : decode cX10_led 78 = .ok (.if_icmp .ge 45, 3) := by decide +kernel
theorem dX10_led_81 : decode cX10_led 81 = .ok (.aload_n 0, 1) := by decide +kernel
theorem dX10_led_82 : decode cX10_led 82 = .ok (.getfield 31, 3) := by decide +kernel
theorem dX10_led_85 : decode cX10_led 85 = .ok (.bipush 10, 2) := by decide +kernel
theorem dX10_led_87 : decode cX10_led 87 = .ok (.iload_n 1, 1) := by decide +kernel
theorem dX10_led_88 : decode cX10_led 88 = .ok (.imul, 1) := by decide +kernel
theorem dX10_led_89 : decode cX10_led 89 = .ok (.iload 8, 2) := by decide +kernel
theorem dX10_led_91 : decode cX10_led 91 = .ok (.iadd, 1) := by decide +kernel
theorem dX10_led_92 : decode cX10_led 92 = .ok (.iaload, 1) := by decide +kernel
theorem dX10_led_93 : decode cX10_led 93 = .ok (.iload 7, 2) := by decide +kernel
theorem dX10_led_95 : decode cX10_led 95 = .ok (.if_icmp .le 18, 3) := by decide +kernel
theorem dX10_led_98 : decode cX10_led 98 = .ok (.aload_n 0, 1) := by decide +kernel
theorem dX10_led_99 : decode cX10_led 99 = .ok (.getfield 31, 3) := by decide +kernel
theorem dX10_led_102 : decode cX10_led 102 = .ok (.bipush 10, 2) := by decide +kernel
theorem dX10_led_104 : decode cX10_led 104 = .ok (.iload_n 1, 1) := by decide +kernel
theorem dX10_led_105 : decode cX10_led 105 = .ok (.imul, 1) := by decide +kernel
theorem dX10_led_106 : decode cX10_led 106 = .ok (.iload 8, 2) := by decide +kernel
theorem dX10_led_108 : decode cX10_led 108 = .ok (.iadd, 1) := by decide +kernel
theorem dX10_led_109 : decode cX10_led 109 = .ok (.iaload, 1) := by decide +kernel
theorem dX10_led_110 : decode cX10_led 110 = .ok (.goto 5, 3) := by decide +kernel
theorem dX10_led_113 : decode cX10_led 113 = .ok (.iload 7, 2) := by decide +kernel
theorem dX10_led_115 : decode cX10_led 115 = .ok (.istore 7, 2) := by decide +kernel
theorem dX10_led_117 : decode cX10_led 117 = .ok (.iinc 8 1, 3) := by decide +kernel
theorem dX10_led_120 : decode cX10_led 120 = .ok (.goto (-46), 3) := by decide +kernel
theorem dX10_led_123 : decode cX10_led 123 = .ok (.iload 6, 2) := by decide +kernel
theorem dX10_led_125 : decode cX10_led 125 = .ok (.ifCond .ne 17, 3) := by decide +kernel
theorem dX10_led_128 : decode cX10_led 128 = .ok (.iload_n 2, 1) := by decide +kernel
theorem dX10_led_129 : decode cX10_led 129 = .ok (.iload_n 3, 1) := by decide +kernel
theorem dX10_led_130 : decode cX10_led 130 = .ok (.aload_n 0, 1) := by decide +kernel
theorem dX10_led_131 : decode cX10_led 131 = .ok (.getfield 34, 3) := by decide +kernel
theorem dX10_led_134 : decode cX10_led 134 = .ok (.iload_n 1, 1) := by decide +kernel
theorem dX10_led_135 : decode cX10_led 135 = .ok (.iaload, 1) := by decide +kernel
theorem dX10_led_136 : decode cX10_led 136 = .ok (.iload 7, 2) := by decide +kernel
theorem dX10_led_138 : decode cX10_led 138 = .ok (.invokestatic 236, 3) := by decide +kernel
theorem dX10_led_141 : decode cX10_led 141 = .ok (.ireturn, 1) := by decide +kernel
theorem dX10_led_142 : decode cX10_led 142 = .ok (.iload_n 2, 1) := by decide +kernel
theorem dX10_led_143 : decode cX10_led 143 = .ok (.iload_n 3, 1) := by decide +kernel
theorem dX10_led_144 : decode cX10_led 144 = .ok (.sipush 1000, 3) := by decide +kernel
theorem dX10_led_147 : decode cX10_led 147 = .ok (.iconst 0, 1) := by decide +kernel
theorem dX10_led_148 : decode cX10_led 148 = .ok (.invokestatic 236, 3) := by decide +kernel
theorem dX10_led_151 : decode cX10_led 151 = .ok (.iload 5, 2) := by decide +kernel
theorem dX10_led_153 : decode cX10_led 153 = .ok (.if_icmp .ge 7, 3) := by decide +kernel
theorem dX10_led_156 : decode cX10_led 156 = .ok (.iconst 1, 1) := by decide +kernel
theorem dX10_led_157 : decode cX10_led 157 = .ok (.goto 4, 3) := by decide +kernel
theorem dX10_led_160 : decode cX10_led 160 = .ok (.iconst 0, 1) := by decide +kernel
theorem dX10_led_161 : decode cX10_led 161 = .ok (.istore 8, 2) := by decide +kernel
theorem dX10_led_163 : decode cX10_led 163 = .ok (.iload 8, 2) := by decide +kernel
theorem dX10_led_165 : decode cX10_led 165 = .ok (.iload_n 2, 1) := by decide +kernel
theorem dX10_led_166 : decode cX10_led 166 = .ok (.bipush 100, 2) := by decide +kernel
theorem dX10_led_168 : decode cX10_led 168 = .ok (.aload_n 0, 1) := by decide +kernel
theorem dX10_led_169 : decode cX10_led 169 = .ok (.getfield 34, 3) := by decide +kernel
theorem dX10_led_172 : decode cX10_led 172 = .ok (.iload_n 1, 1) := by decide +kernel
theorem dX10_led_173 : decode cX10_led 173 = .ok (.iaload, 1) := by decide +kernel
theorem dX10_led_174 : decode cX10_led 174 = .ok (.iconst 0, 1) := by decide +kernel
theorem dX10_led_175 : decode cX10_led 175 = .ok (.invokestatic 236, 3) := by decide +kernel
theorem dX10_led_178 : decode cX10_led 178 = .ok (.iload 5, 2) := by decide +kernel
theorem dX10_led_180 : decode cX10_led 180 = .ok (.if_icmp .ge 7, 3) := by decide +kernel
theorem dX10_led_183 : decode cX10_led 183 = .ok (.iconst 2, 1) := by decide +kernel
theorem dX10_led_184 : decode cX10_led 184 = .ok (.goto 4, 3) := by decide +kernel
theorem dX10_led_187 : decode cX10_led 187 = .ok (.iconst 0, 1) := by decide +kernel
theorem dX10_led_188 : decode cX10_led 188 = .ok (.ior, 1) := by decide +kernel
theorem dX10_led_189 : decode cX10_led 189 = .ok (.istore 8, 2) := by decide +kernel
theorem dX10_led_191 : decode cX10_led 191 = .ok (.iload 8, 2) := by decide +kernel
theorem dX10_led_193 : decode cX10_led 193 = .ok (.iload_n 2, 1) := by decide +kernel
theorem dX10_led_194 : decode cX10_led 194 = .ok (.bipush 100, 2) := by decide +kernel
theorem dX10_led_196 : decode cX10_led 196 = .ok (.sipush 1000, 3) := by decide +kernel
theorem dX10_led_199 : decode cX10_led 199 = .ok (.iload 7, 2) := by decide +kernel
theorem dX10_led_201 : decode cX10_led 201 = .ok (.invokestatic 236, 3) := by decide +kernel
theorem dX10_led_204 : decode cX10_led 204 = .ok (.iload 5, 2) := by decide +kernel
theorem dX10_led_206 : decode cX10_led 206 = .ok (.if_icmp .ge 7, 3) := by decide +kernel
theorem dX10_led_209 : decode cX10_led 209 = .ok (.iconst 4, 1) := by decide +kernel
theorem dX10_led_210 : decode cX10_led 210 = .ok (.goto 4, 3) := by decide +kernel
theorem dX10_led_213 : decode cX10_led 213 = .ok (.iconst 0, 1) := by decide +kernel
theorem dX10_led_214 : decode cX10_led 214 = .ok (.ior, 1) := by decide +kernel
theorem dX10_led_215 : decode cX10_led 215 = .ok (.istore 8, 2) := by decide +kernel
theorem dX10_led_217 : decode cX10_led 217 = .ok (.iload 8, 2) := by decide +kernel
theorem dX10_led_219 : decode cX10_led 219 = .ok (.iload_n 2, 1) := by decide +kernel
theorem dX10_led_220 : decode cX10_led 220 = .ok (.iload 4, 2) := by decide +kernel
theorem dX10_led_222 : decode cX10_led 222 = .ok (.if_icmp .ge 15, 3) := by decide +kernel
theorem dX10_led_225 : decode cX10_led 225 = .ok (.iload 4, 2) := by decide +kernel
theorem dX10_led_227 : decode cX10_led 227 = .ok (.iload 5, 2) := by decide +kernel
theorem dX10_led_229 : decode cX10_led 229 = .ok (.if_icmp .le 8, 3) := by decide +kernel
theorem dX10_led_232 : decode cX10_led 232 = .ok (.bipush 8, 2) := by decide +kernel
theorem dX10_led_234 : decode cX10_led 234 = .ok (.goto 4, 3) := by decide +kernel
theorem dX10_led_237 : decode cX10_led 237 = .ok (.iconst 0, 1) := by decide +kernel
theorem dX10_led_238 : decode cX10_led 238 = .ok (.ior, 1) := by decide +kernel
theorem dX10_led_239 : decode cX10_led 239 = .ok (.ireturn, 1) := by decide +kernel
set_option maxRecDepth 20000 in
theorem ggX10_told_X10_in : GoodIn wsX10_told wsX10_in := goodIn_r _ [9] (by decide +kernel) (by decide +kernel)
set_option maxRecDepth 20000 in
theorem gX10_told_X10_in : GoodIn wsX10_told (va_wsS RX10 124 yX10_in wsX10_in) := goodIn_app (goodIn_of _ (by decide +kernel)) ggX10_told_X10_in
set_option maxRecDepth 20000 in
theorem ggX10_told_X10_joints : GoodIn wsX10_told wsX10_joints := goodIn_r _ [13, 14, 15, 16, 17, 18, 19, 20, 21, 22, 23, 24, 25, 26, 27, 28, 29, 30, 31, 32, 33, 34, 35, 36, 37, 38, 39, 40, 41, 42, 43, 44, 45, 46, 47, 48, 49, 50, 51, 52, 53, 54, 55, 56, 57, 58, 59, 60] (by decide +kernel) (by decide +kernel)
set_option maxRecDepth 20000 in
theorem gX10_told_X10_joints : GoodIn wsX10_told (wsV RX10 200 RX10 yX10_joints wsX10_joints) := goodIn_app (goodIn_of _ (by decide +kernel)) ggX10_told_X10_joints
theorem dX10_told_0 : decode cX10_told 0 = .ok (.iload_n 1, 1) := by decide +kernel
theorem dX10_told_1 : decode cX10_told 1 = .ok (.bipush 10, 2) := by decide +kernel
theorem dX10_told_3 : decode cX10_told 3 = .ok (.bipush 17, 2) := by decide +kernel
theorem dX10_told_5 : decode cX10_told 5 = .ok (.invokestatic 124, 3) := by decide +kernel
theorem dX10_told_8 : decode cX10_told 8 = .ok (.ifCond .eq 13, 3) := by decide +kernel
theorem dX10_told_11 : decode cX10_told 11 = .ok (.aload_n 0, 1) := by decide +kernel
theorem dX10_told_12 : decode cX10_told 12 = .ok (.getfield 37, 3) := by decide +kernel
theorem dX10_told_15 : decode cX10_told 15 = .ok (.iload_n 1, 1) := by decide +kernel
theorem dX10_told_16 : decode cX10_told 16 = .ok (.bipush 10, 2) := by decide +kernel
theorem dX10_told_18 : decode cX10_told 18 = .ok (.isub, 1) := by decide +kernel
theorem dX10_told_19 : decode cX10_told 19 = .ok (.iaload, 1) := by decide +kernel
theorem dX10_told_20 : decode cX10_told 20 = .ok (.ireturn, 1) := by decide +kernel
theorem dX10_told_21 : decode cX10_told 21 = .ok (.iconst 0, 1) := by decide +kernel
theorem dX10_told_22 : decode cX10_told 22 = .ok (.istore_n 2, 1) := by decide +kernel
theorem dX10_told_23 : decode cX10_told 23 = .ok (.iconst 0, 1) := by decide +kernel
theorem dX10_told_24 : decode cX10_told 24 = .ok (.istore_n 3, 1) := by decide +kernel
theorem dX10_told_25 : decode cX10_told 25 = .ok (.iload_n 3, 1) := by decide +kernel
theorem dX10_told_26 : decode cX10_told 26 = .ok (.bipush 6, 2) := by decide +kernel
theorem dX10_told_28 : decode cX10_told 28 = .ok (.if_icmp .ge 28, 3) := by decide +kernel
theorem dX10_told_31 : decode cX10_told 31 = .ok (.iload_n 2, 1) := by decide +kernel
theorem dX10_told_32 : decode cX10_told 32 = .ok (.aload_n 0, 1) := by decide +kernel
theorem dX10_told_33 : decode cX10_told 33 = .ok (.getfield 13, 3) := by decide +kernel
theorem dX10_told_36 : decode cX10_told 36 = .ok (.iload_n 3, 1) := by decide +kernel
theorem dX10_told_37 : decode cX10_told 37 = .ok (.iaload, 1) := by decide +kernel
theorem dX10_told_38 : decode cX10_told 38 = .ok (.ifCond .le 9, 3) := by decide +kernel
theorem dX10_told_41 : decode cX10_told 41 = .ok (.iconst 1, 1) := by decide +kernel
theorem dX10_told_42 : decode cX10_told 42 = .ok (.iload_n 3, 1) := by decide +kernel
theorem dX10_told_43 : decode cX10_told 43 = .ok (.ishl, 1) := by decide +kernel
theorem dX10_told_44 : decode cX10_told 44 = .ok (.goto 4, 3) := by decide +kernel
theorem dX10_told_47 : decode cX10_told 47 = .ok (.iconst 0, 1) := by decide +kernel
theorem dX10_told_48 : decode cX10_told 48 = .ok (.ior, 1) := by decide +kernel
theorem dX10_told_49 : decode cX10_told 49 = .ok (.istore_n 2, 1) := by decide +kernel
theorem dX10_told_50 : decode cX10_told 50 = .ok (.iinc 3 1, 3) := by decide +kernel
theorem dX10_told_53 : decode cX10_told 53 = .ok (.goto (-28), 3) := by decide +kernel
theorem dX10_told_56 : decode cX10_told 56 = .ok (.iload_n 1, 1) := by decide +kernel
theorem dX10_told_57 : decode cX10_told 57 = .ok (.ifCond .ne 10, 3) := by decide +kernel
theorem dX10_told_60 : decode cX10_told 60 = .ok (.aload_n 0, 1) := by decide +kernel
theorem dX10_told_61 : decode cX10_told 61 = .ok (.getfield 128, 3) := by decide +kernel
theorem dX10_told_64 : decode cX10_told 64 = .ok (.goto 50, 3) := by decide +kernel
theorem dX10_told_67 : decode cX10_told 67 = .ok (.iload_n 1, 1) := by decide +kernel
theorem dX10_told_68 : decode cX10_told 68 = .ok (.iconst 1, 1) := by decide +kernel
theorem dX10_told_69 : decode cX10_told 69 = .ok (.if_icmp .ne 7, 3) := by decide +kernel
theorem dX10_told_72 : decode cX10_told 72 = .ok (.iload_n 2, 1) := by decide +kernel
theorem dX10_told_73 : decode cX10_told 73 = .ok (.goto 41, 3) := by decide +kernel
theorem dX10_told_76 : decode cX10_told 76 = .ok (.iload_n 1, 1) := by decide +kernel
theorem dX10_told_77 : decode cX10_told 77 = .ok (.iconst 2, 1) := by decide +kernel
theorem dX10_told_78 : decode cX10_told 78 = .ok (.if_icmp .ne 10, 3) := by decide +kernel
theorem dX10_told_81 : decode cX10_told 81 = .ok (.aload_n 0, 1) := by decide +kernel
theorem dX10_told_82 : decode cX10_told 82 = .ok (.getfield 222, 3) := by decide +kernel
theorem dX10_told_85 : decode cX10_told 85 = .ok (.goto 29, 3) := by decide +kernel
theorem dX10_told_88 : decode cX10_told 88 = .ok (.iload_n 1, 1) := by decide +kernel
theorem dX10_told_89 : decode cX10_told 89 = .ok (.iconst 3, 1) := by decide +kernel
theorem dX10_told_90 : decode cX10_told 90 = .ok (.if_icmp .ne 10, 3) := by decide +kernel
theorem dX10_told_93 : decode cX10_told 93 = .ok (.aload_n 0, 1) := by decide +kernel
theorem dX10_told_94 : decode cX10_told 94 = .ok (.getfield 233, 3) := by decide +kernel
theorem dX10_told_97 : decode cX10_told 97 = .ok (.goto 17, 3) := by decide +kernel
theorem dX10_told_100 : decode cX10_told 100 = .ok (.iload_n 1, 1) := by decide +kernel
theorem dX10_told_101 : decode cX10_told 101 = .ok (.iconst 4, 1) := by decide +kernel
theorem dX10_told_102 : decode cX10_told 102 = .ok (.if_icmp .ne 10, 3) := by decide +kernel
theorem dX10_told_105 : decode cX10_told 105 = .ok (.aload_n 0, 1) := by decide +kernel
theorem dX10_told_106 : decode cX10_told 106 = .ok (.invokevirtual 200, 3) := by decide +kernel
theorem dX10_told_109 : decode cX10_told 109 = .ok (.goto 5, 3) := by decide +kernel
theorem dX10_told_112 : decode cX10_told 112 = .ok (.bipush (-2), 2) := by decide +kernel
theorem dX10_told_114 : decode cX10_told 114 = .ok (.ireturn, 1) := by decide +kernel
