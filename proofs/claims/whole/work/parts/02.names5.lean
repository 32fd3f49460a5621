theorem dX6_digest_210 : decode cX6_digest 210 = .ok (.iinc 4 1, 3) := by decide +kernel
theorem dX6_digest_213 : decode cX6_digest 213 = .ok (.goto (-24), 3) := by decide +kernel
theorem dX6_digest_216 : decode cX6_digest 216 = .ok (.iconst 0, 1) := by decide +kernel
theorem dX6_digest_217 : decode cX6_digest 217 = .ok (.istore 4, 2) := by decide +kernel
theorem dX6_digest_219 : decode cX6_digest 219 = .ok (.iload 4, 2) := by decide +kernel
theorem dX6_digest_221 : decode cX6_digest 221 = .ok (.iconst 3, 1) := by decide +kernel
theorem dX6_digest_222 : decode cX6_digest 222 = .ok (.if_icmp .ge 76, 3) := by decide +kernel
theorem dX6_digest_225 : decode cX6_digest 225 = .ok (.ldc2_w 332, 3) := by decide +kernel
theorem dX6_digest_228 : decode cX6_digest 228 = .ok (.lload_n 1, 1) := by decide +kernel
theorem dX6_digest_229 : decode cX6_digest 229 = .ok (.lmul, 1) := by decide +kernel
theorem dX6_digest_230 : decode cX6_digest 230 = .ok (.aload_n 0, 1) := by decide +kernel
theorem dX6_digest_231 : decode cX6_digest 231 = .ok (.getfield 10, 3) := by decide +kernel
theorem dX6_digest_234 : decode cX6_digest 234 = .ok (.getfield 185, 3) := by decide +kernel
theorem dX6_digest_237 : decode cX6_digest 237 = .ok (.iload_n 3, 1) := by decide +kernel
theorem dX6_digest_238 : decode cX6_digest 238 = .ok (.iload 4, 2) := by decide +kernel
theorem dX6_digest_240 : decode cX6_digest 240 = .ok (.invokestatic 188, 3) := by decide +kernel
theorem dX6_digest_243 : decode cX6_digest 243 = .ok (.invokestatic 115, 3) := by decide +kernel
theorem dX6_digest_246 : decode cX6_digest 246 = .ok (.i2l, 1) := by decide +kernel
theorem dX6_digest_247 : decode cX6_digest 247 = .ok (.ladd, 1) := by decide +kernel
theorem dX6_digest_248 : decode cX6_digest 248 = .ok (.lstore_n 1, 1) := by decide +kernel
theorem dX6_digest_249 : decode cX6_digest 249 = .ok (.ldc2_w 332, 3) := by decide +kernel
theorem dX6_digest_252 : decode cX6_digest 252 = .ok (.lload_n 1, 1) := by decide +kernel
theorem dX6_digest_253 : decode cX6_digest 253 = .ok (.lmul, 1) := by decide +kernel
theorem dX6_digest_254 : decode cX6_digest 254 = .ok (.aload_n 0, 1) := by decide +kernel
theorem dX6_digest_255 : decode cX6_digest 255 = .ok (.getfield 22, 3) := by decide +kernel
theorem dX6_digest_258 : decode cX6_digest 258 = .ok (.aload_n 0, 1) := by decide +kernel
theorem dX6_digest_259 : decode cX6_digest 259 = .ok (.getfield 10, 3) := by decide +kernel
theorem dX6_digest_262 : decode cX6_digest 262 = .ok (.iload_n 3, 1) := by decide +kernel
theorem dX6_digest_263 : decode cX6_digest 263 = .ok (.iload 4, 2) := by decide +kernel
theorem dX6_digest_265 : decode cX6_digest 265 = .ok (.invokestatic 188, 3) := by decide +kernel
theorem dX6_digest_268 : decode cX6_digest 268 = .ok (.invokevirtual 306, 3) := by decide +kernel
theorem dX6_digest_271 : decode cX6_digest 271 = .ok (.i2l, 1) := by decide +kernel
theorem dX6_digest_272 : decode cX6_digest 272 = .ok (.ladd, 1) := by decide +kernel
theorem dX6_digest_273 : decode cX6_digest 273 = .ok (.lstore_n 1, 1) := by decide +kernel
theorem dX6_digest_274 : decode cX6_digest 274 = .ok (.ldc2_w 332, 3) := by decide +kernel
theorem dX6_digest_277 : decode cX6_digest 277 = .ok (.lload_n 1, 1) := by decide +kernel
theorem dX6_digest_278 : decode cX6_digest 278 = .ok (.lmul, 1) := by decide +kernel
theorem dX6_digest_279 : decode cX6_digest 279 = .ok (.aload_n 0, 1) := by decide +kernel
theorem dX6_digest_280 : decode cX6_digest 280 = .ok (.getfield 31, 3) := by decide +kernel
theorem dX6_digest_283 : decode cX6_digest 283 = .ok (.iload_n 3, 1) := by decide +kernel
theorem dX6_digest_284 : decode cX6_digest 284 = .ok (.iload 4, 2) := by decide +kernel
theorem dX6_digest_286 : decode cX6_digest 286 = .ok (.invokevirtual 216, 3) := by decide +kernel
theorem dX6_digest_289 : decode cX6_digest 289 = .ok (.i2l, 1) := by decide +kernel
theorem dX6_digest_290 : decode cX6_digest 290 = .ok (.ladd, 1) := by decide +kernel
theorem dX6_digest_291 : decode cX6_digest 291 = .ok (.lstore_n 1, 1) := by decide +kernel
theorem dX6_digest_292 : decode cX6_digest 292 = .ok (.iinc 4 1, 3) := by decide +kernel
theorem dX6_digest_295 : decode cX6_digest 295 = .ok (.goto (-76), 3) := by decide +kernel
theorem dX6_digest_298 : decode cX6_digest 298 = .ok (.iinc 3 1, 3) := by decide +kernel
theorem dX6_digest_301 : decode cX6_digest 301 = .ok (.goto (-121), 3) := by decide +kernel
theorem dX6_digest_304 : decode cX6_digest 304 = .ok (.ldc2_w 332, 3) := by decide +kernel
theorem dX6_digest_307 : decode cX6_digest 307 = .ok (.lload_n 1, 1) := by decide +kernel
theorem dX6_digest_308 : decode cX6_digest 308 = .ok (.lmul, 1) := by decide +kernel
theorem dX6_digest_309 : decode cX6_digest 309 = .ok (.aload_n 0, 1) := by decide +kernel
theorem dX6_digest_310 : decode cX6_digest 310 = .ok (.invokevirtual 334, 3) := by decide +kernel
theorem dX6_digest_313 : decode cX6_digest 313 = .ok (.invokestatic 338, 3) := by decide +kernel
theorem dX6_digest_316 : decode cX6_digest 316 = .ok (.ladd, 1) := by decide +kernel
theorem dX6_digest_317 : decode cX6_digest 317 = .ok (.lstore_n 1, 1) := by decide +kernel
theorem dX6_digest_318 : decode cX6_digest 318 = .ok (.ldc2_w 332, 3) := by decide +kernel
theorem dX6_digest_321 : decode cX6_digest 321 = .ok (.lload_n 1, 1) := by decide +kernel
theorem dX6_digest_322 : decode cX6_digest 322 = .ok (.lmul, 1) := by decide +kernel
theorem dX6_digest_323 : decode cX6_digest 323 = .ok (.aload_n 0, 1) := by decide +kernel
theorem dX6_digest_324 : decode cX6_digest 324 = .ok (.getfield 52, 3) := by decide +kernel
theorem dX6_digest_327 : decode cX6_digest 327 = .ok (.getfield 230, 3) := by decide +kernel
theorem dX6_digest_330 : decode cX6_digest 330 = .ok (.i2l, 1) := by decide +kernel
theorem dX6_digest_331 : decode cX6_digest 331 = .ok (.ladd, 1) := by decide +kernel
theorem dX6_digest_332 : decode cX6_digest 332 = .ok (.lstore_n 1, 1) := by decide +kernel
theorem dX6_digest_333 : decode cX6_digest 333 = .ok (.iconst 0, 1) := by decide +kernel
theorem dX6_digest_334 : decode cX6_digest 334 = .ok (.istore_n 3, 1) := by decide +kernel
theorem dX6_digest_335 : decode cX6_digest 335 = .ok (.iload_n 3, 1) := by decide +kernel
theorem dX6_digest_336 : decode cX6_digest 336 = .ok (.aload_n 0, 1) := by decide +kernel
theorem dX6_digest_337 : decode cX6_digest 337 = .ok (.getfield 52, 3) := by decide +kernel
theorem dX6_digest_340 : decode cX6_digest 340 = .ok (.getfield 230, 3) := by decide +kernel
theorem dX6_digest_343 : decode cX6_digest 343 = .ok (.if_icmp .ge 28, 3) := by decide +kernel
theorem dX6_digest_346 : decode cX6_digest 346 = .ok (.ldc2_w 332, 3) := by decide +kernel
theorem dX6_digest_349 : decode cX6_digest 349 = .ok (.lload_n 1, 1) := by decide +kernel
theorem dX6_digest_350 : decode cX6_digest 350 = .ok (.lmul, 1) := by decide +kernel
theorem dX6_digest_351 : decode cX6_digest 351 = .ok (.aload_n 0, 1) := by decide +kernel
theorem dX6_digest_352 : decode cX6_digest 352 = .ok (.getfield 52, 3) := by decide +kernel
theorem dX6_digest_355 : decode cX6_digest 355 = .ok (.getfield 342, 3) := by decide +kernel
theorem dX6_digest_358 : decode cX6_digest 358 = .ok (.iload_n 3, 1) := by decide +kernel
theorem dX6_digest_359 : decode cX6_digest 359 = .ok (.invokestatic 115, 3) := by decide +kernel
theorem dX6_digest_362 : decode cX6_digest 362 = .ok (.i2l, 1) := by decide +kernel
theorem dX6_digest_363 : decode cX6_digest 363 = .ok (.ladd, 1) := by decide +kernel
theorem dX6_digest_364 : decode cX6_digest 364 = .ok (.lstore_n 1, 1) := by decide +kernel
theorem dX6_digest_365 : decode cX6_digest 365 = .ok (.iinc 3 1, 3) := by decide +kernel
theorem dX6_digest_368 : decode cX6_digest 368 = .ok (.goto (-33), 3) := by decide +kernel
theorem dX6_digest_371 : decode cX6_digest 371 = .ok (.lload_n 1, 1) := by decide +kernel
theorem dX6_digest_372 : decode cX6_digest 372 = .ok (.lreturn, 1) := by decide +kernel
set_option maxRecDepth 20000 in
theorem ggX6_figureOfAll_X5_planCount : GoodIn wsX6_figureOfAll wsX5_planCount := goodIn_r _ [13, 14, 15, 16, 12, 17, 18, 19, 20, 21, 142, 143, 144, 145, 146, 147, 148, 149, 150, 151, 152, 153] (by decide +kernel) (by decide +kernel)
set_option maxRecDepth 20000 in
theorem gX6_figureOfAll_X5_planCount : GoodIn wsX6_figureOfAll (wsV RX6 219 RX5 yX5_planCount wsX5_planCount) := goodIn_app (goodIn_of _ (by decide +kernel)) ggX6_figureOfAll_X5_planCount
set_option maxRecDepth 20000 in
theorem ggX6_figureOfAll_X2_joyOfPlan : GoodIn wsX6_figureOfAll wsX2_joyOfPlan := goodIn_r _ [26, 27, 28, 29, 25, 30, 31, 32, 33, 20, 34, 19, 21, 35, 36, 37, 38, 39, 40, 41, 42, 43, 44, 45, 46, 47, 48, 49, 50, 51, 52, 53, 157, 158, 142, 143, 144, 145, 146, 147, 148, 149, 150, 151, 152, 153] (by decide +kernel) (by decide +kernel)
set_option maxRecDepth 20000 in
theorem gX6_figureOfAll_X2_joyOfPlan : GoodIn wsX6_figureOfAll (wsV RX6 213 RX2 yX2_joyOfPlan wsX2_joyOfPlan) := goodIn_app (goodIn_of _ (by decide +kernel)) ggX6_figureOfAll_X2_joyOfPlan
set_option maxRecDepth 20000 in
theorem ggX6_figureOfAll_X5_planCost : GoodIn wsX6_figureOfAll wsX5_planCost := goodIn_r _ [57, 58, 59, 60, 12, 61, 62, 63, 64, 65, 18, 66, 33, 20, 34, 19, 21, 142, 143, 144, 145, 146, 147, 148, 149, 150, 151, 152, 153] (by decide +kernel) (by decide +kernel)
set_option maxRecDepth 20000 in
theorem gX6_figureOfAll_X5_planCost : GoodIn wsX6_figureOfAll (wsV RX6 345 RX5 yX5_planCost wsX5_planCost) := goodIn_app (goodIn_of _ (by decide +kernel)) ggX6_figureOfAll_X5_planCost
set_option maxRecDepth 20000 in
theorem ggX6_figureOfAll_X5_sourceCount : GoodIn wsX6_figureOfAll wsX5_sourceCount := goodIn_r _ [70, 71, 18, 19, 20, 21, 142, 143, 144, 145, 146, 147, 148, 149, 150, 151, 152, 153] (by decide +kernel) (by decide +kernel)
set_option maxRecDepth 20000 in
theorem gX6_figureOfAll_X5_sourceCount : GoodIn wsX6_figureOfAll (wsV RX6 323 RX5 yX5_sourceCount wsX5_sourceCount) := goodIn_app (goodIn_of _ (by decide +kernel)) ggX6_figureOfAll_X5_sourceCount
set_option maxRecDepth 20000 in
theorem ggX6_figureOfAll_X1_wastedOfAll : GoodIn wsX6_figureOfAll wsX1_wastedOfAll := goodIn_r _ [76, 77, 78, 79, 80, 75, 81, 82, 83, 84, 85, 86, 87, 88, 89, 90, 91, 92, 93, 94, 12, 95, 96, 71, 19, 20, 21, 97, 98, 99, 100, 101, 102, 33, 34, 103, 104, 105, 106, 107, 46, 47, 48, 108, 109, 110, 111, 112, 113, 114, 115, 142, 143, 144, 145, 146, 147, 148, 149, 150, 151, 152, 153, 159, 160] (by decide +kernel) (by decide +kernel)
set_option maxRecDepth 20000 in
theorem gX6_figureOfAll_X1_wastedOfAll : GoodIn wsX6_figureOfAll (wsV RX6 326 RX1 yX1_wastedOfAll wsX1_wastedOfAll) := goodIn_app (goodIn_of _ (by decide +kernel)) ggX6_figureOfAll_X1_wastedOfAll
set_option maxRecDepth 20000 in
theorem ggX6_figureOfAll_X5_wholeMeals : GoodIn wsX6_figureOfAll wsX5_wholeMeals := goodIn_r _ [119, 120, 121, 122, 12, 123, 18, 33, 20, 34, 19, 21, 142, 143, 144, 145, 146, 147, 148, 149, 150, 151, 152, 153] (by decide +kernel) (by decide +kernel)
set_option maxRecDepth 20000 in
theorem gX6_figureOfAll_X5_wholeMeals : GoodIn wsX6_figureOfAll (wsV RX6 348 RX5 yX5_wholeMeals wsX5_wholeMeals) := goodIn_app (goodIn_of _ (by decide +kernel)) ggX6_figureOfAll_X5_wholeMeals
set_option maxRecDepth 20000 in
theorem ggX6_figureOfAll_X5_weekCost : GoodIn wsX6_figureOfAll wsX5_weekCost := goodIn_r _ [61, 62, 63, 64, 12, 65, 18, 66, 33, 20, 34, 19, 21, 142, 143, 144, 145, 146, 147, 148, 149, 150, 151, 152, 153] (by decide +kernel) (by decide +kernel)
set_option maxRecDepth 20000 in
theorem gX6_figureOfAll_X5_weekCost : GoodIn wsX6_figureOfAll (wsV RX6 351 RX5 yX5_weekCost wsX5_weekCost) := goodIn_app (goodIn_of _ (by decide +kernel)) ggX6_figureOfAll_X5_weekCost
set_option maxRecDepth 20000 in
theorem ggX6_figureOfAll_X4_takenCount : GoodIn wsX6_figureOfAll wsX4_takenCount := goodIn_r _ [129, 130, 131, 132, 128, 133, 134, 161, 162] (by decide +kernel) (by decide +kernel)
set_option maxRecDepth 20000 in
theorem gX6_figureOfAll_X4_takenCount : GoodIn wsX6_figureOfAll (wsV RX6 354 RX4 yX4_takenCount wsX4_takenCount) := goodIn_app (goodIn_of _ (by decide +kernel)) ggX6_figureOfAll_X4_takenCount
theorem dX6_figureOfAll_0 : decode cX6_figureOfAll 0 = .ok (.iload_n 1, 1) := by decide +kernel
theorem dX6_figureOfAll_1 : decode cX6_figureOfAll 1 = .ok (.tableswitch 167 0 13 #[71, 79, 87, 95, 103, 111, 119, 131, 139, 139, 139, 139, 151, 159], 71) := by decide +kernel
theorem dX6_figureOfAll_72 : decode cX6_figureOfAll 72 = .ok (.aload_n 0, 1) := by decide +kernel
theorem dX6_figureOfAll_73 : decode cX6_figureOfAll 73 = .ok (.getfield 10, 3) := by decide +kernel
theorem dX6_figureOfAll_76 : decode cX6_figureOfAll 76 = .ok (.getfield 67, 3) := by decide +kernel
theorem dX6_figureOfAll_79 : decode cX6_figureOfAll 79 = .ok (.ireturn, 1) := by decide +kernel
theorem dX6_figureOfAll_80 : decode cX6_figureOfAll 80 = .ok (.aload_n 0, 1) := by decide +kernel
theorem dX6_figureOfAll_81 : decode cX6_figureOfAll 81 = .ok (.getfield 10, 3) := by decide +kernel
theorem dX6_figureOfAll_84 : decode cX6_figureOfAll 84 = .ok (.getfield 122, 3) := by decide +kernel
theorem dX6_figureOfAll_87 : decode cX6_figureOfAll 87 = .ok (.ireturn, 1) := by decide +kernel
theorem dX6_figureOfAll_88 : decode cX6_figureOfAll 88 = .ok (.aload_n 0, 1) := by decide +kernel
theorem dX6_figureOfAll_89 : decode cX6_figureOfAll 89 = .ok (.getfield 10, 3) := by decide +kernel
theorem dX6_figureOfAll_92 : decode cX6_figureOfAll 92 = .ok (.invokevirtual 219, 3) := by decide +kernel
theorem dX6_figureOfAll_95 : decode cX6_figureOfAll 95 = .ok (.ireturn, 1) := by decide +kernel
theorem dX6_figureOfAll_96 : decode cX6_figureOfAll 96 = .ok (.aload_n 0, 1) := by decide +kernel
theorem dX6_figureOfAll_97 : decode cX6_figureOfAll 97 = .ok (.getfield 31, 3) := by decide +kernel
theorem dX6_figureOfAll_100 : decode cX6_figureOfAll 100 = .ok (.invokevirtual 213, 3) := by decide +kernel
theorem dX6_figureOfAll_103 : decode cX6_figureOfAll 103 = .ok (.ireturn, 1) := by decide +kernel
theorem dX6_figureOfAll_104 : decode cX6_figureOfAll 104 = .ok (.aload_n 0, 1) := by decide +kernel
theorem dX6_figureOfAll_105 : decode cX6_figureOfAll 105 = .ok (.getfield 10, 3) := by decide +kernel
theorem dX6_figureOfAll_108 : decode cX6_figureOfAll 108 = .ok (.invokevirtual 345, 3) := by decide +kernel
theorem dX6_figureOfAll_111 : decode cX6_figureOfAll 111 = .ok (.ireturn, 1) := by decide +kernel
theorem dX6_figureOfAll_112 : decode cX6_figureOfAll 112 = .ok (.aload_n 0, 1) := by decide +kernel
theorem dX6_figureOfAll_113 : decode cX6_figureOfAll 113 = .ok (.getfield 10, 3) := by decide +kernel
theorem dX6_figureOfAll_116 : decode cX6_figureOfAll 116 = .ok (.invokevirtual 323, 3) := by decide +kernel
theorem dX6_figureOfAll_119 : decode cX6_figureOfAll 119 = .ok (.ireturn, 1) := by decide +kernel
theorem dX6_figureOfAll_120 : decode cX6_figureOfAll 120 = .ok (.aload_n 0, 1) := by decide +kernel
theorem dX6_figureOfAll_121 : decode cX6_figureOfAll 121 = .ok (.getfield 22, 3) := by decide +kernel
theorem dX6_figureOfAll_124 : decode cX6_figureOfAll 124 = .ok (.aload_n 0, 1) := by decide +kernel
theorem dX6_figureOfAll_125 : decode cX6_figureOfAll 125 = .ok (.getfield 10, 3) := by decide +kernel
theorem dX6_figureOfAll_128 : decode cX6_figureOfAll 128 = .ok (.invokevirtual 326, 3) := by decide +kernel
theorem dX6_figureOfAll_131 : decode cX6_figureOfAll 131 = .ok (.ireturn, 1) := by decide +kernel
theorem dX6_figureOfAll_132 : decode cX6_figureOfAll 132 = .ok (.aload_n 0, 1) := by decide +kernel
theorem dX6_figureOfAll_133 : decode cX6_figureOfAll 133 = .ok (.getfield 10, 3) := by decide +kernel
theorem dX6_figureOfAll_136 : decode cX6_figureOfAll 136 = .ok (.invokevirtual 348, 3) := by decide +kernel
theorem dX6_figureOfAll_139 : decode cX6_figureOfAll 139 = .ok (.ireturn, 1) := by decide +kernel
theorem dX6_figureOfAll_140 : decode cX6_figureOfAll 140 = .ok (.aload_n 0, 1) := by decide +kernel
theorem dX6_figureOfAll_141 : decode cX6_figureOfAll 141 = .ok (.getfield 10, 3) := by decide +kernel
theorem dX6_figureOfAll_144 : decode cX6_figureOfAll 144 = .ok (.iload_n 1, 1) := by decide +kernel
theorem dX6_figureOfAll_145 : decode cX6_figureOfAll 145 = .ok (.bipush 8, 2) := by decide +kernel
theorem dX6_figureOfAll_147 : decode cX6_figureOfAll 147 = .ok (.isub, 1) := by decide +kernel
theorem dX6_figureOfAll_148 : decode cX6_figureOfAll 148 = .ok (.invokevirtual 351, 3) := by decide +kernel
theorem dX6_figureOfAll_151 : decode cX6_figureOfAll 151 = .ok (.ireturn, 1) := by decide +kernel
theorem dX6_figureOfAll_152 : decode cX6_figureOfAll 152 = .ok (.aload_n 0, 1) := by decide +kernel
theorem dX6_figureOfAll_153 : decode cX6_figureOfAll 153 = .ok (.getfield 45, 3) := by decide +kernel
theorem dX6_figureOfAll_156 : decode cX6_figureOfAll 156 = .ok (.invokevirtual 354, 3) := by decide +kernel
theorem dX6_figureOfAll_159 : decode cX6_figureOfAll 159 = .ok (.ireturn, 1) := by decide +kernel
theorem dX6_figureOfAll_160 : decode cX6_figureOfAll 160 = .ok (.aload_n 0, 1) := by decide +kernel
theorem dX6_figureOfAll_161 : decode cX6_figureOfAll 161 = .ok (.getfield 38, 3) := by decide +kernel
theorem dX6_figureOfAll_164 : decode cX6_figureOfAll 164 = .ok (.getfield 283, 3) := by decide +kernel
theorem dX6_figureOfAll_167 : decode cX6_figureOfAll 167 = .ok (.ireturn, 1) := by decide +kernel
theorem dX6_figureOfAll_168 : decode cX6_figureOfAll 168 = .ok (.iconst (-1), 1) := by decide +kernel
theorem dX6_figureOfAll_169 : decode cX6_figureOfAll 169 = .ok (.ireturn, 1) := by decide +kernel
set_option maxRecDepth 20000 in
theorem ggX6_figureOfDish_X6_at : GoodIn wsX6_figureOfDish wsX6_at := goodIn_r _ [12] (by decide +kernel) (by decide +kernel)
set_option maxRecDepth 20000 in
theorem gX6_figureOfDish_X6_at : GoodIn wsX6_figureOfDish (va_wsS RX6 115 yX6_at wsX6_at) := goodIn_app (goodIn_of _ (by decide +kernel)) ggX6_figureOfDish_X6_at
set_option maxRecDepth 20000 in
theorem ggX6_figureOfDish_X5_isLeftover : GoodIn wsX6_figureOfDish wsX5_isLeftover := goodIn_r _ [17, 18, 19, 10, 11, 12, 77, 78, 79, 80, 81, 82, 83, 84, 85, 86, 87, 88] (by decide +kernel) (by decide +kernel)
set_option maxRecDepth 20000 in
theorem gX6_figureOfDish_X5_isLeftover : GoodIn wsX6_figureOfDish (wsV RX6 366 RX5 yX5_isLeftover wsX5_isLeftover) := goodIn_app (goodIn_of _ (by decide +kernel)) ggX6_figureOfDish_X5_isLeftover
set_option maxRecDepth 20000 in
theorem ggX6_figureOfDish_X5_timesPlanned : GoodIn wsX6_figureOfDish wsX5_timesPlanned := goodIn_r _ [23, 24, 10, 11, 12, 77, 78, 79, 80, 81, 82, 83, 84, 85, 86, 87, 88] (by decide +kernel) (by decide +kernel)
set_option maxRecDepth 20000 in
theorem gX6_figureOfDish_X5_timesPlanned : GoodIn wsX6_figureOfDish (wsV RX6 369 RX5 yX5_timesPlanned wsX5_timesPlanned) := goodIn_app (goodIn_of _ (by decide +kernel)) ggX6_figureOfDish_X5_timesPlanned
set_option maxRecDepth 20000 in
theorem ggX6_figureOfDish_X1_wastedOf : GoodIn wsX6_figureOfDish wsX1_wastedOf := goodIn_r _ [29, 30, 31, 32, 28, 33, 34, 35, 36, 37, 38, 39, 40, 41, 42, 43, 44, 45, 14, 15, 16, 17, 18, 19, 10, 11, 12, 46, 47, 48, 49, 50, 51, 52, 53, 54, 55, 56, 57, 58, 59, 60, 61, 62, 63, 64, 65, 66, 67, 68, 69, 77, 78, 79, 80, 81, 82, 83, 84, 85, 86, 87, 88, 89, 90] (by decide +kernel) (by decide +kernel)
set_option maxRecDepth 20000 in
theorem gX6_figureOfDish_X1_wastedOf : GoodIn wsX6_figureOfDish (wsV RX6 372 RX1 yX1_wastedOf wsX1_wastedOf) := goodIn_app (goodIn_of _ (by decide +kernel)) ggX6_figureOfDish_X1_wastedOf
theorem dX6_figureOfDish_0 : decode cX6_figureOfDish 0 = .ok (.iload_n 2, 1) := by decide +kernel
theorem dX6_figureOfDish_1 : decode cX6_figureOfDish 1 = .ok (.tableswitch 162 0 8 #[51, 63, 75, 87, 99, 111, 123, 140, 149], 51) := by decide +kernel
theorem dX6_figureOfDish_52 : decode cX6_figureOfDish 52 = .ok (.aload_n 0, 1) := by decide +kernel
theorem dX6_figureOfDish_53 : decode cX6_figureOfDish 53 = .ok (.getfield 10, 3) := by decide +kernel
theorem dX6_figureOfDish_56 : decode cX6_figureOfDish 56 = .ok (.getfield 176, 3) := by decide +kernel
theorem dX6_figureOfDish_59 : decode cX6_figureOfDish 59 = .ok (.iload_n 1, 1) := by decide +kernel
theorem dX6_figureOfDish_60 : decode cX6_figureOfDish 60 = .ok (.invokestatic 115, 3) := by decide +kernel
theorem dX6_figureOfDish_63 : decode cX6_figureOfDish 63 = .ok (.ireturn, 1) := by decide +kernel
theorem dX6_figureOfDish_64 : decode cX6_figureOfDish 64 = .ok (.aload_n 0, 1) := by decide +kernel
theorem dX6_figureOfDish_65 : decode cX6_figureOfDish 65 = .ok (.getfield 10, 3) := by decide +kernel
theorem dX6_figureOfDish_68 : decode cX6_figureOfDish 68 = .ok (.getfield 357, 3) := by decide +kernel
theorem dX6_figureOfDish_71 : decode cX6_figureOfDish 71 = .ok (.iload_n 1, 1) := by decide +kernel
theorem dX6_figureOfDish_72 : decode cX6_figureOfDish 72 = .ok (.invokestatic 115, 3) := by decide +kernel
theorem dX6_figureOfDish_75 : decode cX6_figureOfDish 75 = .ok (.ireturn, 1) := by decide +kernel
theorem dX6_figureOfDish_76 : decode cX6_figureOfDish 76 = .ok (.aload_n 0, 1) := by decide +kernel
theorem dX6_figureOfDish_77 : decode cX6_figureOfDish 77 = .ok (.getfield 10, 3) := by decide +kernel
theorem dX6_figureOfDish_80 : decode cX6_figureOfDish 80 = .ok (.getfield 360, 3) := by decide +kernel
theorem dX6_figureOfDish_83 : decode cX6_figureOfDish 83 = .ok (.iload_n 1, 1) := by decide +kernel
theorem dX6_figureOfDish_84 : decode cX6_figureOfDish 84 = .ok (.invokestatic 115, 3) := by decide +kernel
theorem dX6_figureOfDish_87 : decode cX6_figureOfDish 87 = .ok (.ireturn, 1) := by decide +kernel
theorem dX6_figureOfDish_88 : decode cX6_figureOfDish 88 = .ok (.aload_n 0, 1) := by decide +kernel
theorem dX6_figureOfDish_89 : decode cX6_figureOfDish 89 = .ok (.getfield 10, 3) := by decide +kernel
theorem dX6_figureOfDish_92 : decode cX6_figureOfDish 92 = .ok (.getfield 363, 3) := by decide +kernel
theorem dX6_figureOfDish_95 : decode cX6_figureOfDish 95 = .ok (.iload_n 1, 1) := by decide +kernel
theorem dX6_figureOfDish_96 : decode cX6_figureOfDish 96 = .ok (.invokestatic 115, 3) := by decide +kernel
theorem dX6_figureOfDish_99 : decode cX6_figureOfDish 99 = .ok (.ireturn, 1) := by decide +kernel
theorem dX6_figureOfDish_100 : decode cX6_figureOfDish 100 = .ok (.aload_n 0, 1) := by decide +kernel
theorem dX6_figureOfDish_101 : decode cX6_figureOfDish 101 = .ok (.getfield 10, 3) := by decide +kernel
theorem dX6_figureOfDish_104 : decode cX6_figureOfDish 104 = .ok (.getfield 98, 3) := by decide +kernel
theorem dX6_figureOfDish_107 : decode cX6_figureOfDish 107 = .ok (.iload_n 1, 1) := by decide +kernel
theorem dX6_figureOfDish_108 : decode cX6_figureOfDish 108 = .ok (.invokestatic 115, 3) := by decide +kernel
theorem dX6_figureOfDish_111 : decode cX6_figureOfDish 111 = .ok (.ireturn, 1) := by decide +kernel
theorem dX6_figureOfDish_112 : decode cX6_figureOfDish 112 = .ok (.aload_n 0, 1) := by decide +kernel
theorem dX6_figureOfDish_113 : decode cX6_figureOfDish 113 = .ok (.getfield 10, 3) := by decide +kernel
theorem dX6_figureOfDish_116 : decode cX6_figureOfDish 116 = .ok (.getfield 106, 3) := by decide +kernel
theorem dX6_figureOfDish_119 : decode cX6_figureOfDish 119 = .ok (.iload_n 1, 1) := by decide +kernel
theorem dX6_figureOfDish_120 : decode cX6_figureOfDish 120 = .ok (.invokestatic 115, 3) := by decide +kernel
theorem dX6_figureOfDish_123 : decode cX6_figureOfDish 123 = .ok (.ireturn, 1) := by decide +kernel
theorem dX6_figureOfDish_124 : decode cX6_figureOfDish 124 = .ok (.aload_n 0, 1) := by decide +kernel
theorem dX6_figureOfDish_125 : decode cX6_figureOfDish 125 = .ok (.getfield 10, 3) := by decide +kernel
theorem dX6_figureOfDish_128 : decode cX6_figureOfDish 128 = .ok (.iload_n 1, 1) := by decide +kernel
theorem dX6_figureOfDish_129 : decode cX6_figureOfDish 129 = .ok (.invokevirtual 366, 3) := by decide +kernel
theorem dX6_figureOfDish_132 : decode cX6_figureOfDish 132 = .ok (.ifCond .eq 7, 3) := by decide +kernel
theorem dX6_figureOfDish_135 : decode cX6_figureOfDish 135 = .ok (.iconst 1, 1) := by decide +kernel
theorem dX6_figureOfDish_136 : decode cX6_figureOfDish 136 = .ok (.goto 4, 3) := by decide +kernel
theorem dX6_figureOfDish_139 : decode cX6_figureOfDish 139 = .ok (.iconst 0, 1) := by decide +kernel
theorem dX6_figureOfDish_140 : decode cX6_figureOfDish 140 = .ok (.ireturn, 1) := by decide +kernel
theorem dX6_figureOfDish_141 : decode cX6_figureOfDish 141 = .ok (.aload_n 0, 1) := by decide +kernel
theorem dX6_figureOfDish_142 : decode cX6_figureOfDish 142 = .ok (.getfield 10, 3) := by decide +kernel
theorem dX6_figureOfDish_145 : decode cX6_figureOfDish 145 = .ok (.iload_n 1, 1) := by decide +kernel
theorem dX6_figureOfDish_146 : decode cX6_figureOfDish 146 = .ok (.invokevirtual 369, 3) := by decide +kernel
theorem dX6_figureOfDish_149 : decode cX6_figureOfDish 149 = .ok (.ireturn, 1) := by decide +kernel
theorem dX6_figureOfDish_150 : decode cX6_figureOfDish 150 = .ok (.aload_n 0, 1) := by decide +kernel
theorem dX6_figureOfDish_151 : decode cX6_figureOfDish 151 = .ok (.getfield 22, 3) := by decide +kernel
theorem dX6_figureOfDish_154 : decode cX6_figureOfDish 154 = .ok (.aload_n 0, 1) := by decide +kernel
theorem dX6_figureOfDish_155 : decode cX6_figureOfDish 155 = .ok (.getfield 10, 3) := by decide +kernel
theorem dX6_figureOfDish_158 : decode cX6_figureOfDish 158 = .ok (.iload_n 1, 1) := by decide +kernel
theorem dX6_figureOfDish_159 : decode cX6_figureOfDish 159 = .ok (.invokevirtual 372, 3) := by decide +kernel
theorem dX6_figureOfDish_162 : decode cX6_figureOfDish 162 = .ok (.ireturn, 1) := by decide +kernel
theorem dX6_figureOfDish_163 : decode cX6_figureOfDish 163 = .ok (.iconst (-1), 1) := by decide +kernel
theorem dX6_figureOfDish_164 : decode cX6_figureOfDish 164 = .ok (.ireturn, 1) := by decide +kernel
set_option maxRecDepth 20000 in
theorem ggX6_figureOfGuest_X6_at : GoodIn wsX6_figureOfGuest wsX6_at := goodIn_r _ [7] (by decide +kernel) (by decide +kernel)
set_option maxRecDepth 20000 in
theorem gX6_figureOfGuest_X6_at : GoodIn wsX6_figureOfGuest (va_wsS RX6 115 yX6_at wsX6_at) := goodIn_app (goodIn_of _ (by decide +kernel)) ggX6_figureOfGuest_X6_at
set_option maxRecDepth 20000 in
theorem ggX6_figureOfGuest_X5_dishesBefore : GoodIn wsX6_figureOfGuest wsX5_dishesBefore := goodIn_r _ [12, 13, 14, 15, 11, 16, 17, 5, 6, 7, 18, 19, 20, 21, 22, 23, 24, 32, 33, 34, 35, 36, 37, 38, 39, 40, 41, 42, 43] (by decide +kernel) (by decide +kernel)
set_option maxRecDepth 20000 in
theorem gX6_figureOfGuest_X5_dishesBefore : GoodIn wsX6_figureOfGuest (wsV RX6 375 RX5 yX5_dishesBefore wsX5_dishesBefore) := goodIn_app (goodIn_of _ (by decide +kernel)) ggX6_figureOfGuest_X5_dishesBefore
theorem dX6_figureOfGuest_0 : decode cX6_figureOfGuest 0 = .ok (.iload_n 2, 1) := by decide +kernel
theorem dX6_figureOfGuest_1 : decode cX6_figureOfGuest 1 = .ok (.tableswitch 60 0 2 #[27, 39, 51], 27) := by decide +kernel
theorem dX6_figureOfGuest_28 : decode cX6_figureOfGuest 28 = .ok (.aload_n 0, 1) := by decide +kernel
theorem dX6_figureOfGuest_29 : decode cX6_figureOfGuest 29 = .ok (.getfield 10, 3) := by decide +kernel
theorem dX6_figureOfGuest_32 : decode cX6_figureOfGuest 32 = .ok (.getfield 138, 3) := by decide +kernel
theorem dX6_figureOfGuest_35 : decode cX6_figureOfGuest 35 = .ok (.iload_n 1, 1) := by decide +kernel
theorem dX6_figureOfGuest_36 : decode cX6_figureOfGuest 36 = .ok (.invokestatic 115, 3) := by decide +kernel
theorem dX6_figureOfGuest_39 : decode cX6_figureOfGuest 39 = .ok (.ireturn, 1) := by decide +kernel
theorem dX6_figureOfGuest_40 : decode cX6_figureOfGuest 40 = .ok (.aload_n 0, 1) := by decide +kernel
theorem dX6_figureOfGuest_41 : decode cX6_figureOfGuest 41 = .ok (.getfield 10, 3) := by decide +kernel
theorem dX6_figureOfGuest_44 : decode cX6_figureOfGuest 44 = .ok (.getfield 149, 3) := by decide +kernel
theorem dX6_figureOfGuest_47 : decode cX6_figureOfGuest 47 = .ok (.iload_n 1, 1) := by decide +kernel
theorem dX6_figureOfGuest_48 : decode cX6_figureOfGuest 48 = .ok (.invokestatic 115, 3) := by decide +kernel
theorem dX6_figureOfGuest_51 : decode cX6_figureOfGuest 51 = .ok (.ireturn, 1) := by decide +kernel
theorem dX6_figureOfGuest_52 : decode cX6_figureOfGuest 52 = .ok (.aload_n 0, 1) := by decide +kernel
theorem dX6_figureOfGuest_53 : decode cX6_figureOfGuest 53 = .ok (.getfield 10, 3) := by decide +kernel
theorem dX6_figureOfGuest_56 : decode cX6_figureOfGuest 56 = .ok (.iload_n 1, 1) := by decide +kernel
theorem dX6_figureOfGuest_57 : decode cX6_figureOfGuest 57 = .ok (.invokevirtual 375, 3) := by decide +kernel
theorem dX6_figureOfGuest_60 : decode cX6_figureOfGuest 60 = .ok (.ireturn, 1) := by decide +kernel
theorem dX6_figureOfGuest_61 : decode cX6_figureOfGuest 61 = .ok (.iconst (-1), 1) := by decide +kernel
theorem dX6_figureOfGuest_62 : decode cX6_figureOfGuest 62 = .ok (.ireturn, 1) := by decide +kernel
set_option maxRecDepth 20000 in
theorem ggX6_figureOfDay_X5_mealCount : GoodIn wsX6_figureOfDay wsX5_mealCount := goodIn_r _ [7, 8, 9, 10, 11, 12, 13, 67, 68, 69, 70, 71, 72, 73, 74, 75, 76, 77, 78] (by decide +kernel) (by decide +kernel)
set_option maxRecDepth 20000 in
theorem gX6_figureOfDay_X5_mealCount : GoodIn wsX6_figureOfDay (wsV RX6 378 RX5 yX5_mealCount wsX5_mealCount) := goodIn_app (goodIn_of _ (by decide +kernel)) ggX6_figureOfDay_X5_mealCount
set_option maxRecDepth 20000 in
theorem ggX6_figureOfDay_X5_mealCost : GoodIn wsX6_figureOfDay wsX5_mealCost := goodIn_r _ [17, 8, 18, 9, 10, 11, 12, 13, 67, 68, 69, 70, 71, 72, 73, 74, 75, 76, 77, 78] (by decide +kernel) (by decide +kernel)
set_option maxRecDepth 20000 in
theorem gX6_figureOfDay_X5_mealCost : GoodIn wsX6_figureOfDay (wsV RX6 381 RX5 yX5_mealCost wsX5_mealCost) := goodIn_app (goodIn_of _ (by decide +kernel)) ggX6_figureOfDay_X5_mealCost
set_option maxRecDepth 20000 in
theorem ggX6_figureOfDay_X2_joyOfMeal : GoodIn wsX6_figureOfDay wsX2_joyOfMeal := goodIn_r _ [23, 24, 25, 9, 10, 11, 12, 13, 26, 27, 28, 22, 29, 30, 31, 32, 33, 34, 35, 36, 37, 38, 39, 40, 41, 42, 43, 44, 79, 80, 67, 68, 69, 70, 71, 72, 73, 74, 75, 76, 77, 78] (by decide +kernel) (by decide +kernel)
set_option maxRecDepth 20000 in
theorem gX6_figureOfDay_X2_joyOfMeal : GoodIn wsX6_figureOfDay (wsV RX6 384 RX2 yX2_joyOfMeal wsX2_joyOfMeal) := goodIn_app (goodIn_of _ (by decide +kernel)) ggX6_figureOfDay_X2_joyOfMeal
set_option maxRecDepth 20000 in
theorem ggX6_figureOfDay_X5_vetoedTastes : GoodIn wsX6_figureOfDay wsX5_vetoedTastes := goodIn_r _ [48, 49, 50, 51, 52, 53, 6, 54, 55, 12, 10, 13, 67, 68, 69, 70, 71, 72, 73, 74, 75, 76, 77, 78] (by decide +kernel) (by decide +kernel)
set_option maxRecDepth 20000 in
theorem gX6_figureOfDay_X5_vetoedTastes : GoodIn wsX6_figureOfDay (wsV RX6 387 RX5 yX5_vetoedTastes wsX5_vetoedTastes) := goodIn_app (goodIn_of _ (by decide +kernel)) ggX6_figureOfDay_X5_vetoedTastes
set_option maxRecDepth 20000 in
theorem ggX6_figureOfDay_X5_guestsOn : GoodIn wsX6_figureOfDay wsX5_guestsOn := goodIn_r _ [59, 49, 51, 52, 53, 6, 54, 55, 12, 10, 13, 67, 68, 69, 70, 71, 72, 73, 74, 75, 76, 77, 78] (by decide +kernel) (by decide +kernel)
set_option maxRecDepth 20000 in
theorem gX6_figureOfDay_X5_guestsOn : GoodIn wsX6_figureOfDay (wsV RX6 390 RX5 yX5_guestsOn wsX5_guestsOn) := goodIn_app (goodIn_of _ (by decide +kernel)) ggX6_figureOfDay_X5_guestsOn
theorem dX6_figureOfDay_0 : decode cX6_figureOfDay 0 = .ok (.iload_n 2, 1) := by decide +kernel
theorem dX6_figureOfDay_1 : decode cX6_figureOfDay 1 = .ok (.tableswitch 80 0 4 #[35, 44, 53, 62, 71], 35) := by decide +kernel
theorem dX6_figureOfDay_36 : decode cX6_figureOfDay 36 = .ok (.aload_n 0, 1) := by decide +kernel
theorem dX6_figureOfDay_37 : decode cX6_figureOfDay 37 = .ok (.getfield 10, 3) := by decide +kernel
theorem dX6_figureOfDay_40 : decode cX6_figureOfDay 40 = .ok (.iload_n 1, 1) := by decide +kernel
theorem dX6_figureOfDay_41 : decode cX6_figureOfDay 41 = .ok (.invokevirtual 378, 3) := by decide +kernel
theorem dX6_figureOfDay_44 : decode cX6_figureOfDay 44 = .ok (.ireturn, 1) := by decide +kernel
theorem dX6_figureOfDay_45 : decode cX6_figureOfDay 45 = .ok (.aload_n 0, 1) := by decide +kernel
theorem dX6_figureOfDay_46 : decode cX6_figureOfDay 46 = .ok (.getfield 10, 3) := by decide +kernel
theorem dX6_figureOfDay_49 : decode cX6_figureOfDay 49 = .ok (.iload_n 1, 1) := by decide +kernel
theorem dX6_figureOfDay_50 : decode cX6_figureOfDay 50 = .ok (.invokevirtual 381, 3) := by decide +kernel
theorem dX6_figureOfDay_53 : decode cX6_figureOfDay 53 = .ok (.ireturn, 1) := by decide +kernel
theorem dX6_figureOfDay_54 : decode cX6_figureOfDay 54 = .ok (.aload_n 0, 1) := by decide +kernel
theorem dX6_figureOfDay_55 : decode cX6_figureOfDay 55 = .ok (.getfield 31, 3) := by decide +kernel
theorem dX6_figureOfDay_58 : decode cX6_figureOfDay 58 = .ok (.iload_n 1, 1) := by decide +kernel
theorem dX6_figureOfDay_59 : decode cX6_figureOfDay 59 = .ok (.invokevirtual 384, 3) := by decide +kernel
theorem dX6_figureOfDay_62 : decode cX6_figureOfDay 62 = .ok (.ireturn, 1) := by decide +kernel
theorem dX6_figureOfDay_63 : decode cX6_figureOfDay 63 = .ok (.aload_n 0, 1) := by decide +kernel
theorem dX6_figureOfDay_64 : decode cX6_figureOfDay 64 = .ok (.getfield 10, 3) := by decide +kernel
theorem dX6_figureOfDay_67 : decode cX6_figureOfDay 67 = .ok (.iload_n 1, 1) := by decide +kernel
theorem dX6_figureOfDay_68 : decode cX6_figureOfDay 68 = .ok (.invokevirtual 387, 3) := by decide +kernel
theorem dX6_figureOfDay_71 : decode cX6_figureOfDay 71 = .ok (.ireturn, 1) := by decide +kernel
theorem dX6_figureOfDay_72 : decode cX6_figureOfDay 72 = .ok (.aload_n 0, 1) := by decide +kernel
theorem dX6_figureOfDay_73 : decode cX6_figureOfDay 73 = .ok (.getfield 10, 3) := by decide +kernel
theorem dX6_figureOfDay_76 : decode cX6_figureOfDay 76 = .ok (.iload_n 1, 1) := by decide +kernel
theorem dX6_figureOfDay_77 : decode cX6_figureOfDay 77 = .ok (.invokevirtual 390, 3) := by decide +kernel
theorem dX6_figureOfDay_80 : decode cX6_figureOfDay 80 = .ok (.ireturn, 1) := by decide +kernel
theorem dX6_figureOfDay_81 : decode cX6_figureOfDay 81 = .ok (.iconst (-1), 1) := by decide +kernel
theorem dX6_figureOfDay_82 : decode cX6_figureOfDay 82 = .ok (.ireturn, 1) := by decide +kernel
theorem dX6_bitsOfShare_0 : decode cX6_bitsOfShare 0 = .ok (.dload_n 0, 1) := by decide +kernel
theorem dX6_bitsOfShare_1 : decode cX6_bitsOfShare 1 = .ok (.dconst 0, 1) := by decide +kernel
theorem dX6_bitsOfShare_2 : decode cX6_bitsOfShare 2 = .ok (.dcmp .g, 1) := by decide +kernel
theorem dX6_bitsOfShare_3 : decode cX6_bitsOfShare 3 = .ok (.ifCond .gt 5, 3) := by decide +kernel
theorem dX6_bitsOfShare_6 : decode cX6_bitsOfShare 6 = .ok (.lconst 0, 1) := by decide +kernel
theorem dX6_bitsOfShare_7 : decode cX6_bitsOfShare 7 = .ok (.lreturn, 1) := by decide +kernel
theorem dX6_bitsOfShare_8 : decode cX6_bitsOfShare 8 = .ok (.dload_n 0, 1) := by decide +kernel
theorem dX6_bitsOfShare_9 : decode cX6_bitsOfShare 9 = .ok (.dstore_n 2, 1) := by decide +kernel
theorem dX6_bitsOfShare_10 : decode cX6_bitsOfShare 10 = .ok (.ldc2_w 393, 3) := by decide +kernel
theorem dX6_bitsOfShare_13 : decode cX6_bitsOfShare 13 = .ok (.lstore 4, 2) := by decide +kernel
theorem dX6_bitsOfShare_15 : decode cX6_bitsOfShare 15 = .ok (.iconst 0, 1) := by decide +kernel
theorem dX6_bitsOfShare_16 : decode cX6_bitsOfShare 16 = .ok (.istore 6, 2) := by decide +kernel
theorem dX6_bitsOfShare_18 : decode cX6_bitsOfShare 18 = .ok (.iload 6, 2) := by decide +kernel
theorem dX6_bitsOfShare_20 : decode cX6_bitsOfShare 20 = .ok (.bipush 60, 2) := by decide +kernel
theorem dX6_bitsOfShare_22 : decode cX6_bitsOfShare 22 = .ok (.if_icmp .ge 27, 3) := by decide +kernel
theorem dX6_bitsOfShare_25 : decode cX6_bitsOfShare 25 = .ok (.dload_n 2, 1) := by decide +kernel
theorem dX6_bitsOfShare_26 : decode cX6_bitsOfShare 26 = .ok (.dconst 1, 1) := by decide +kernel
theorem dX6_bitsOfShare_27 : decode cX6_bitsOfShare 27 = .ok (.dcmp .g, 1) := by decide +kernel
theorem dX6_bitsOfShare_28 : decode cX6_bitsOfShare 28 = .ok (.ifCond .ge 21, 3) := by decide +kernel
theorem dX6_bitsOfShare_31 : decode cX6_bitsOfShare 31 = .ok (.dload_n 2, 1) := by decide +kernel
theorem dX6_bitsOfShare_32 : decode cX6_bitsOfShare 32 = .ok (.ldc2_w 395, 3) := by decide +kernel
theorem dX6_bitsOfShare_35 : decode cX6_bitsOfShare 35 = .ok (.dmul, 1) := by decide +kernel
theorem dX6_bitsOfShare_36 : decode cX6_bitsOfShare 36 = .ok (.dstore_n 2, 1) := by decide +kernel
theorem dX6_bitsOfShare_37 : decode cX6_bitsOfShare 37 = .ok (.lload 4, 2) := by decide +kernel
theorem dX6_bitsOfShare_39 : decode cX6_bitsOfShare 39 = .ok (.lconst 1, 1) := by decide +kernel
theorem dX6_bitsOfShare_40 : decode cX6_bitsOfShare 40 = .ok (.lsub, 1) := by decide +kernel
theorem dX6_bitsOfShare_41 : decode cX6_bitsOfShare 41 = .ok (.lstore 4, 2) := by decide +kernel
theorem dX6_bitsOfShare_43 : decode cX6_bitsOfShare 43 = .ok (.iinc 6 1, 3) := by decide +kernel
theorem dX6_bitsOfShare_46 : decode cX6_bitsOfShare 46 = .ok (.goto (-28), 3) := by decide +kernel
theorem dX6_bitsOfShare_49 : decode cX6_bitsOfShare 49 = .ok (.lload 4, 2) := by decide +kernel
theorem dX6_bitsOfShare_51 : decode cX6_bitsOfShare 51 = .ok (.bipush 52, 2) := by decide +kernel
theorem dX6_bitsOfShare_53 : decode cX6_bitsOfShare 53 = .ok (.lshl, 1) := by decide +kernel
theorem dX6_bitsOfShare_54 : decode cX6_bitsOfShare 54 = .ok (.dload_n 2, 1) := by decide +kernel
theorem dX6_bitsOfShare_55 : decode cX6_bitsOfShare 55 = .ok (.dconst 1, 1) := by decide +kernel
theorem dX6_bitsOfShare_56 : decode cX6_bitsOfShare 56 = .ok (.dsub, 1) := by decide +kernel
theorem dX6_bitsOfShare_57 : decode cX6_bitsOfShare 57 = .ok (.ldc2_w 397, 3) := by decide +kernel
theorem dX6_bitsOfShare_60 : decode cX6_bitsOfShare 60 = .ok (.dmul, 1) := by decide +kernel
theorem dX6_bitsOfShare_61 : decode cX6_bitsOfShare 61 = .ok (.d2l, 1) := by decide +kernel
theorem dX6_bitsOfShare_62 : decode cX6_bitsOfShare 62 = .ok (.lor, 1) := by decide +kernel
theorem dX6_bitsOfShare_63 : decode cX6_bitsOfShare 63 = .ok (.lreturn, 1) := by decide +kernel
set_option maxRecDepth 20000 in
theorem ggX6_takeOverTrial_X0_save : GoodIn wsX6_takeOverTrial wsX0_save := goodIn_r _ [8, 9, 10, 11, 12, 13, 7, 14, 15, 16, 17, 18, 19, 20, 21, 22, 23, 24, 25, 26, 27, 28, 29, 30, 31, 32, 33, 34, 35, 36, 37, 38, 39, 40, 41, 42, 43, 52, 53, 54, 55, 56, 57, 58, 59, 60, 61, 62, 63, 64, 65, 66] (by decide +kernel) (by decide +kernel)
set_option maxRecDepth 20000 in
theorem gX6_takeOverTrial_X0_save : GoodIn wsX6_takeOverTrial (wsV RX6 76 RX0 yX0_save wsX0_save) := goodIn_app (goodIn_of _ (by decide +kernel)) ggX6_takeOverTrial_X0_save
set_option maxRecDepth 20000 in
theorem ggX6_takeOverTrial_X5_copyFrom : GoodIn wsX6_takeOverTrial wsX5_copyFrom := goodIn_r _ [20, 21, 22, 23, 24, 25, 26, 27, 28, 29, 30, 31, 32, 33, 34, 35, 36, 37, 38, 39, 40, 41, 42, 43, 55, 56, 57, 58, 59, 60, 61, 62, 63, 64, 65, 66] (by decide +kernel) (by decide +kernel)
set_option maxRecDepth 20000 in
theorem gX6_takeOverTrial_X5_copyFrom : GoodIn wsX6_takeOverTrial (wsV RX6 95 RX5 yX5_copyFrom wsX5_copyFrom) := goodIn_app (goodIn_of _ (by decide +kernel)) ggX6_takeOverTrial_X5_copyFrom
theorem dX6_takeOverTrial_0 : decode cX6_takeOverTrial 0 = .ok (.aload_n 0, 1) := by decide +kernel
theorem dX6_takeOverTrial_1 : decode cX6_takeOverTrial 1 = .ok (.getfield 38, 3) := by decide +kernel
theorem dX6_takeOverTrial_4 : decode cX6_takeOverTrial 4 = .ok (.aload_n 0, 1) := by decide +kernel
theorem dX6_takeOverTrial_5 : decode cX6_takeOverTrial 5 = .ok (.getfield 10, 3) := by decide +kernel
theorem dX6_takeOverTrial_8 : decode cX6_takeOverTrial 8 = .ok (.invokevirtual 76, 3) := by decide +kernel
theorem dX6_takeOverTrial_11 : decode cX6_takeOverTrial 11 = .ok (.aload_n 0, 1) := by decide +kernel
theorem dX6_takeOverTrial_12 : decode cX6_takeOverTrial 12 = .ok (.getfield 10, 3) := by decide +kernel
theorem dX6_takeOverTrial_15 : decode cX6_takeOverTrial 15 = .ok (.aload_n 0, 1) := by decide +kernel
theorem dX6_takeOverTrial_16 : decode cX6_takeOverTrial 16 = .ok (.getfield 16, 3) := by decide +kernel
theorem dX6_takeOverTrial_19 : decode cX6_takeOverTrial 19 = .ok (.invokevirtual 95, 3) := by decide +kernel
theorem dX6_takeOverTrial_22 : decode cX6_takeOverTrial 22 = .ok (.return_, 1) := by decide +kernel
set_option maxRecDepth 20000 in
theorem ggX6_canStand_X5_hasVetoedDish : GoodIn wsX6_canStand wsX5_hasVetoedDish := goodIn_r _ [6, 7, 8, 9, 10, 11, 12, 13, 5, 14, 15, 16, 17, 18, 19, 20, 21, 22, 23, 24, 25, 26, 94, 95, 96, 97, 98, 99, 100, 101, 102, 103, 104, 105] (by decide +kernel) (by decide +kernel)
set_option maxRecDepth 20000 in
theorem gX6_canStand_X5_hasVetoedDish : GoodIn wsX6_canStand (wsV RX6 141 RX5 yX5_hasVetoedDish wsX5_hasVetoedDish) := goodIn_app (goodIn_of _ (by decide +kernel)) ggX6_canStand_X5_hasVetoedDish
set_option maxRecDepth 20000 in
theorem ggX6_canStand_X5_isAboveBudget : GoodIn wsX6_canStand wsX5_isAboveBudget := goodIn_r _ [30, 31, 32, 33, 34, 5, 35, 36, 37, 38, 39, 7, 40, 41, 9, 42, 8, 10, 94, 95, 96, 97, 98, 99, 100, 101, 102, 103, 104, 105] (by decide +kernel) (by decide +kernel)
set_option maxRecDepth 20000 in
theorem gX6_canStand_X5_isAboveBudget : GoodIn wsX6_canStand (wsV RX6 166 RX5 yX5_isAboveBudget wsX5_isAboveBudget) := goodIn_app (goodIn_of _ (by decide +kernel)) ggX6_canStand_X5_isAboveBudget
set_option maxRecDepth 20000 in
theorem ggX6_canStand_X1_areSound : GoodIn wsX6_canStand wsX1_areSound := goodIn_r _ [47, 48, 49, 50, 46, 51, 52, 53, 54, 55, 56, 57, 58, 59, 60, 61, 62, 63, 64, 65, 5, 66, 67, 68, 8, 9, 10, 69, 70, 71, 72, 73, 74, 41, 42, 75, 76, 77, 78, 79, 80, 81, 82, 83, 84, 85, 86, 94, 95, 96, 97, 98, 99, 100, 101, 102, 103, 104, 105, 106, 107] (by decide +kernel) (by decide +kernel)
set_option maxRecDepth 20000 in
theorem gX6_canStand_X1_areSound : GoodIn wsX6_canStand (wsV RX6 109 RX1 yX1_areSound wsX1_areSound) := goodIn_app (goodIn_of _ (by decide +kernel)) ggX6_canStand_X1_areSound
theorem dX6_canStand_0 : decode cX6_canStand 0 = .ok (.aload_n 1, 1) := by decide +kernel
theorem dX6_canStand_1 : decode cX6_canStand 1 = .ok (.invokevirtual 141, 3) := by decide +kernel
theorem dX6_canStand_4 : decode cX6_canStand 4 = .ok (.ifCond .ne 25, 3) := by decide +kernel
theorem dX6_canStand_7 : decode cX6_canStand 7 = .ok (.aload_n 1, 1) := by decide +kernel
theorem dX6_canStand_8 : decode cX6_canStand 8 = .ok (.invokevirtual 166, 3) := by decide +kernel
theorem dX6_canStand_11 : decode cX6_canStand 11 = .ok (.ifCond .ne 18, 3) := by decide +kernel
theorem dX6_canStand_14 : decode cX6_canStand 14 = .ok (.aload_n 0, 1) := by decide +kernel
theorem dX6_canStand_15 : decode cX6_canStand 15 = .ok (.getfield 22, 3) := by decide +kernel
theorem dX6_canStand_18 : decode cX6_canStand 18 = .ok (.aload_n 1, 1) := by decide +kernel
theorem dX6_canStand_19 : decode cX6_canStand 19 = .ok (.invokevirtual 109, 3) := by decide +kernel
theorem dX6_canStand_22 : decode cX6_canStand 22 = .ok (.ifCond .eq 7, 3) := by decide +kernel
theorem dX6_canStand_25 : decode cX6_canStand 25 = .ok (.iconst 1, 1) := by decide +kernel
theorem dX6_canStand_26 : decode cX6_canStand 26 = .ok (.goto 4, 3) := by decide +kernel
theorem dX6_canStand_29 : decode cX6_canStand 29 = .ok (.iconst 0, 1) := by decide +kernel
theorem dX6_canStand_30 : decode cX6_canStand 30 = .ok (.ireturn, 1) := by decide +kernel
set_option maxRecDepth 20000 in
theorem ggX6_servesIfItCan_X5_hasDish : GoodIn wsX6_servesIfItCan wsX5_hasDish := goodIn_r _ [9, 10, 101, 102, 103, 104, 105, 106, 107, 108, 109, 110, 111, 112] (by decide +kernel) (by decide +kernel)
set_option maxRecDepth 20000 in
theorem gX6_servesIfItCan_X5_hasDish : GoodIn wsX6_servesIfItCan (wsV RX6 84 RX5 yX5_hasDish wsX5_hasDish) := goodIn_app (goodIn_of _ (by decide +kernel)) ggX6_servesIfItCan_X5_hasDish
set_option maxRecDepth 20000 in
theorem ggX6_servesIfItCan_X6_at : GoodIn wsX6_servesIfItCan wsX6_at := goodIn_r _ [14] (by decide +kernel) (by decide +kernel)
set_option maxRecDepth 20000 in
theorem gX6_servesIfItCan_X6_at : GoodIn wsX6_servesIfItCan (va_wsS RX6 115 yX6_at wsX6_at) := goodIn_app (goodIn_of _ (by decide +kernel)) ggX6_servesIfItCan_X6_at
set_option maxRecDepth 20000 in
theorem ggX6_servesIfItCan_X2_reasonAgainst : GoodIn wsX6_servesIfItCan wsX2_reasonAgainst := goodIn_r _ [19, 20, 21, 22, 23, 24, 25, 26, 13, 27, 12, 14, 28, 29, 30, 8, 31, 32, 33, 34, 35, 36, 37, 38, 39, 40, 41, 42, 43, 44, 45, 46, 47, 48, 49, 50, 51, 52, 53, 54, 55, 56, 57, 58, 59, 60, 61, 62, 63, 10, 64, 65, 66, 67, 68, 69, 70, 71, 72, 73, 74, 75, 76, 77, 78, 79, 80, 81, 82, 83, 84, 85, 86, 87, 88, 89, 90, 91, 113, 114, 101, 102, 103, 104, 105, 106, 107, 108, 109, 110, 111, 112, 115, 116] (by decide +kernel) (by decide +kernel)
set_option maxRecDepth 20000 in
theorem gX6_servesIfItCan_X2_reasonAgainst : GoodIn wsX6_servesIfItCan (wsV RX6 179 RX2 yX2_reasonAgainst wsX2_reasonAgainst) := goodIn_app (goodIn_of _ (by decide +kernel)) ggX6_servesIfItCan_X2_reasonAgainst
set_option maxRecDepth 20000 in
theorem ggX6_servesIfItCan_X6_cellOf : GoodIn wsX6_servesIfItCan wsX6_cellOf := goodIn_r _ [27] (by decide +kernel) (by decide +kernel)
set_option maxRecDepth 20000 in
theorem gX6_servesIfItCan_X6_cellOf : GoodIn wsX6_servesIfItCan (va_wsS RX6 188 yX6_cellOf wsX6_cellOf) := goodIn_app (goodIn_of _ (by decide +kernel)) ggX6_servesIfItCan_X6_cellOf
set_option maxRecDepth 20000 in
theorem ggX6_servesIfItCan_X6_put : GoodIn wsX6_servesIfItCan wsX6_put := goodIn_r _ [76] (by decide +kernel) (by decide +kernel)
set_option maxRecDepth 20000 in
theorem gX6_servesIfItCan_X6_put : GoodIn wsX6_servesIfItCan (va_wsS RX6 102 yX6_put wsX6_put) := goodIn_app (goodIn_of _ (by decide +kernel)) ggX6_servesIfItCan_X6_put
theorem dX6_servesIfItCan_0 : decode cX6_servesIfItCan 0 = .ok (.aload_n 0, 1) := by decide +kernel
theorem dX6_servesIfItCan_1 : decode cX6_servesIfItCan 1 = .ok (.getfield 10, 3) := by decide +kernel
theorem dX6_servesIfItCan_4 : decode cX6_servesIfItCan 4 = .ok (.iload_n 2, 1) := by decide +kernel
theorem dX6_servesIfItCan_5 : decode cX6_servesIfItCan 5 = .ok (.invokevirtual 84, 3) := by decide +kernel
theorem dX6_servesIfItCan_8 : decode cX6_servesIfItCan 8 = .ok (.ifCond .ne 5, 3) := by decide +kernel
theorem dX6_servesIfItCan_11 : decode cX6_servesIfItCan 11 = .ok (.iconst 0, 1) := by decide +kernel
theorem dX6_servesIfItCan_12 : decode cX6_servesIfItCan 12 = .ok (.ireturn, 1) := by decide +kernel
theorem dX6_servesIfItCan_13 : decode cX6_servesIfItCan 13 = .ok (.aload_n 0, 1) := by decide +kernel
theorem dX6_servesIfItCan_14 : decode cX6_servesIfItCan 14 = .ok (.getfield 10, 3) := by decide +kernel
theorem dX6_servesIfItCan_17 : decode cX6_servesIfItCan 17 = .ok (.getfield 176, 3) := by decide +kernel
theorem dX6_servesIfItCan_20 : decode cX6_servesIfItCan 20 = .ok (.iload_n 2, 1) := by decide +kernel
theorem dX6_servesIfItCan_21 : decode cX6_servesIfItCan 21 = .ok (.invokestatic 115, 3) := by decide +kernel
theorem dX6_servesIfItCan_24 : decode cX6_servesIfItCan 24 = .ok (.istore_n 3, 1) := by decide +kernel
theorem dX6_servesIfItCan_25 : decode cX6_servesIfItCan 25 = .ok (.aload_n 0, 1) := by decide +kernel
theorem dX6_servesIfItCan_26 : decode cX6_servesIfItCan 26 = .ok (.getfield 31, 3) := by decide +kernel
theorem dX6_servesIfItCan_29 : decode cX6_servesIfItCan 29 = .ok (.iload_n 1, 1) := by decide +kernel
theorem dX6_servesIfItCan_30 : decode cX6_servesIfItCan 30 = .ok (.iload_n 3, 1) := by decide +kernel
theorem dX6_servesIfItCan_31 : decode cX6_servesIfItCan 31 = .ok (.iload_n 2, 1) := by decide +kernel
theorem dX6_servesIfItCan_32 : decode cX6_servesIfItCan 32 = .ok (.invokevirtual 179, 3) := by decide +kernel
theorem dX6_servesIfItCan_35 : decode cX6_servesIfItCan 35 = .ok (.ifCond .eq 5, 3) := by decide +kernel
theorem dX6_servesIfItCan_38 : decode cX6_servesIfItCan 38 = .ok (.iconst 0, 1) := by decide +kernel
theorem dX6_servesIfItCan_39 : decode cX6_servesIfItCan 39 = .ok (.ireturn, 1) := by decide +kernel
theorem dX6_servesIfItCan_40 : decode cX6_servesIfItCan 40 = .ok (.aload_n 0, 1) := by decide +kernel
theorem dX6_servesIfItCan_41 : decode cX6_servesIfItCan 41 = .ok (.getfield 10, 3) := by decide +kernel
theorem dX6_servesIfItCan_44 : decode cX6_servesIfItCan 44 = .ok (.getfield 185, 3) := by decide +kernel
theorem dX6_servesIfItCan_47 : decode cX6_servesIfItCan 47 = .ok (.iload_n 1, 1) := by decide +kernel
theorem dX6_servesIfItCan_48 : decode cX6_servesIfItCan 48 = .ok (.iload_n 3, 1) := by decide +kernel
theorem dX6_servesIfItCan_49 : decode cX6_servesIfItCan 49 = .ok (.invokestatic 188, 3) := by decide +kernel
theorem dX6_servesIfItCan_52 : decode cX6_servesIfItCan 52 = .ok (.iload_n 2, 1) := by decide +kernel
theorem dX6_servesIfItCan_53 : decode cX6_servesIfItCan 53 = .ok (.invokestatic 102, 3) := by decide +kernel
theorem dX6_servesIfItCan_56 : decode cX6_servesIfItCan 56 = .ok (.iconst 1, 1) := by decide +kernel
theorem dX6_servesIfItCan_57 : decode cX6_servesIfItCan 57 = .ok (.ireturn, 1) := by decide +kernel
theorem dX6_leastValue_0 : decode cX6_leastValue 0 = .ok (.iload_n 0, 1) := by decide +kernel
theorem dX6_leastValue_1 : decode cX6_leastValue 1 = .ok (.iconst 1, 1) := by decide +kernel
theorem dX6_leastValue_2 : decode cX6_leastValue 2 = .ok (.if_icmp .ne 7, 3) := by decide +kernel
theorem dX6_leastValue_5 : decode cX6_leastValue 5 = .ok (.iconst 1, 1) := by decide +kernel
theorem dX6_leastValue_6 : decode cX6_leastValue 6 = .ok (.goto 4, 3) := by decide +kernel
theorem dX6_leastValue_9 : decode cX6_leastValue 9 = .ok (.iconst 0, 1) := by decide +kernel
theorem dX6_leastValue_10 : decode cX6_leastValue 10 = .ok (.ireturn, 1) := by decide +kernel
theorem dX6_greatestValue_0 : decode cX6_greatestValue 0 = .ok (.iload_n 0, 1) := by decide +kernel
theorem dX6_greatestValue_1 : decode cX6_greatestValue 1 = .ok (.ifCond .ne 6, 3) := by decide +kernel
theorem dX6_greatestValue_4 : decode cX6_greatestValue 4 = .ok (.bipush 9, 2) := by decide +kernel
theorem dX6_greatestValue_6 : decode cX6_greatestValue 6 = .ok (.ireturn, 1) := by decide +kernel
theorem dX6_greatestValue_7 : decode cX6_greatestValue 7 = .ok (.iload_n 0, 1) := by decide +kernel
theorem dX6_greatestValue_8 : decode cX6_greatestValue 8 = .ok (.iconst 1, 1) := by decide +kernel
theorem dX6_greatestValue_9 : decode cX6_greatestValue 9 = .ok (.if_icmp .ne 8, 3) := by decide +kernel
theorem dX6_greatestValue_12 : decode cX6_greatestValue 12 = .ok (.bipush 10, 2) := by decide +kernel
theorem dX6_greatestValue_14 : decode cX6_greatestValue 14 = .ok (.goto 6, 3) := by decide +kernel
theorem dX6_greatestValue_17 : decode cX6_greatestValue 17 = .ok (.sipush 999, 3) := by decide +kernel
theorem dX6_greatestValue_20 : decode cX6_greatestValue 20 = .ok (.ireturn, 1) := by decide +kernel
theorem dX6_isWithin_0 : decode cX6_isWithin 0 = .ok (.iload_n 0, 1) := by decide +kernel
theorem dX6_isWithin_1 : decode cX6_isWithin 1 = .ok (.iload_n 1, 1) := by decide +kernel
theorem dX6_isWithin_2 : decode cX6_isWithin 2 = .ok (.if_icmp .lt 12, 3) := by decide +kernel
theorem dX6_isWithin_5 : decode cX6_isWithin 5 = .ok (.iload_n 0, 1) := by decide +kernel
theorem dX6_isWithin_6 : decode cX6_isWithin 6 = .ok (.iload_n 2, 1) := by decide +kernel
theorem dX6_isWithin_7 : decode cX6_isWithin 7 = .ok (.if_icmp .gt 7, 3) := by decide +kernel
theorem dX6_isWithin_10 : decode cX6_isWithin 10 = .ok (.iconst 1, 1) := by decide +kernel
theorem dX6_isWithin_11 : decode cX6_isWithin 11 = .ok (.goto 4, 3) := by decide +kernel
theorem dX6_isWithin_14 : decode cX6_isWithin 14 = .ok (.iconst 0, 1) := by decide +kernel
theorem dX6_isWithin_15 : decode cX6_isWithin 15 = .ok (.ireturn, 1) := by decide +kernel
theorem dX6_isDay_0 : decode cX6_isDay 0 = .ok (.iload_n 0, 1) := by decide +kernel
theorem dX6_isDay_1 : decode cX6_isDay 1 = .ok (.ifCond .lt 13, 3) := by decide +kernel
theorem dX6_isDay_4 : decode cX6_isDay 4 = .ok (.iload_n 0, 1) := by decide +kernel
theorem dX6_isDay_5 : decode cX6_isDay 5 = .ok (.bipush 28, 2) := by decide +kernel
theorem dX6_isDay_7 : decode cX6_isDay 7 = .ok (.if_icmp .ge 7, 3) := by decide +kernel
theorem dX6_isDay_10 : decode cX6_isDay 10 = .ok (.iconst 1, 1) := by decide +kernel
theorem dX6_isDay_11 : decode cX6_isDay 11 = .ok (.goto 4, 3) := by decide +kernel
theorem dX6_isDay_14 : decode cX6_isDay 14 = .ok (.iconst 0, 1) := by decide +kernel
theorem dX6_isDay_15 : decode cX6_isDay 15 = .ok (.ireturn, 1) := by decide +kernel
theorem dX6_isPart_0 : decode cX6_isPart 0 = .ok (.iload_n 0, 1) := by decide +kernel
theorem dX6_isPart_1 : decode cX6_isPart 1 = .ok (.ifCond .lt 12, 3) := by decide +kernel
theorem dX6_isPart_4 : decode cX6_isPart 4 = .ok (.iload_n 0, 1) := by decide +kernel
theorem dX6_isPart_5 : decode cX6_isPart 5 = .ok (.iconst 3, 1) := by decide +kernel
theorem dX6_isPart_6 : decode cX6_isPart 6 = .ok (.if_icmp .ge 7, 3) := by decide +kernel
theorem dX6_isPart_9 : decode cX6_isPart 9 = .ok (.iconst 1, 1) := by decide +kernel
theorem dX6_isPart_10 : decode cX6_isPart 10 = .ok (.goto 4, 3) := by decide +kernel
theorem dX6_isPart_13 : decode cX6_isPart 13 = .ok (.iconst 0, 1) := by decide +kernel
theorem dX6_isPart_14 : decode cX6_isPart 14 = .ok (.ireturn, 1) := by decide +kernel
theorem dX6_cellOf_0 : decode cX6_cellOf 0 = .ok (.iload_n 0, 1) := by decide +kernel
theorem dX6_cellOf_1 : decode cX6_cellOf 1 = .ok (.iconst 3, 1) := by decide +kernel
theorem dX6_cellOf_2 : decode cX6_cellOf 2 = .ok (.imul, 1) := by decide +kernel
theorem dX6_cellOf_3 : decode cX6_cellOf 3 = .ok (.iload_n 1, 1) := by decide +kernel
theorem dX6_cellOf_4 : decode cX6_cellOf 4 = .ok (.iadd, 1) := by decide +kernel
theorem dX6_cellOf_5 : decode cX6_cellOf 5 = .ok (.ireturn, 1) := by decide +kernel
theorem dX6_at_0 : decode cX6_at 0 = .ok (.aload_n 0, 1) := by decide +kernel
theorem dX6_at_1 : decode cX6_at 1 = .ok (.ifnull 19, 3) := by decide +kernel
theorem dX6_at_4 : decode cX6_at 4 = .ok (.iload_n 1, 1) := by decide +kernel
theorem dX6_at_5 : decode cX6_at 5 = .ok (.ifCond .lt 15, 3) := by decide +kernel
theorem dX6_at_8 : decode cX6_at 8 = .ok (.iload_n 1, 1) := by decide +kernel
theorem dX6_at_9 : decode cX6_at 9 = .ok (.aload_n 0, 1) := by decide +kernel
theorem dX6_at_10 : decode cX6_at 10 = .ok (.arraylength, 1) := by decide +kernel
theorem dX6_at_11 : decode cX6_at 11 = .ok (.if_icmp .ge 9, 3) := by decide +kernel
theorem dX6_at_14 : decode cX6_at 14 = .ok (.aload_n 0, 1) := by decide +kernel
theorem dX6_at_15 : decode cX6_at 15 = .ok (.iload_n 1, 1) := by decide +kernel
theorem dX6_at_16 : decode cX6_at 16 = .ok (.iaload, 1) := by decide +kernel
theorem dX6_at_17 : decode cX6_at 17 = .ok (.goto 4, 3) := by decide +kernel
theorem dX6_at_20 : decode cX6_at 20 = .ok (.iconst (-1), 1) := by decide +kernel
theorem dX6_at_21 : decode cX6_at 21 = .ok (.ireturn, 1) := by decide +kernel
theorem dX6_put_0 : decode cX6_put 0 = .ok (.aload_n 0, 1) := by decide +kernel
theorem dX6_put_1 : decode cX6_put 1 = .ok (.ifnull 17, 3) := by decide +kernel
theorem dX6_put_4 : decode cX6_put 4 = .ok (.iload_n 1, 1) := by decide +kernel
theorem dX6_put_5 : decode cX6_put 5 = .ok (.ifCond .lt 13, 3) := by decide +kernel
theorem dX6_put_8 : decode cX6_put 8 = .ok (.iload_n 1, 1) := by decide +kernel
theorem dX6_put_9 : decode cX6_put 9 = .ok (.aload_n 0, 1) := by decide +kernel
theorem dX6_put_10 : decode cX6_put 10 = .ok (.arraylength, 1) := by decide +kernel
theorem dX6_put_11 : decode cX6_put 11 = .ok (.if_icmp .ge 7, 3) := by decide +kernel
theorem dX6_put_14 : decode cX6_put 14 = .ok (.aload_n 0, 1) := by decide +kernel
theorem dX6_put_15 : decode cX6_put 15 = .ok (.iload_n 1, 1) := by decide +kernel
theorem dX6_put_16 : decode cX6_put 16 = .ok (.iload_n 2, 1) := by decide +kernel
theorem dX6_put_17 : decode cX6_put 17 = .ok (.iastore, 1) := by decide +kernel
theorem dX6_put_18 : decode cX6_put 18 = .ok (.return_, 1) := by decide +kernel
theorem dX6_copyRow_0 : decode cX6_copyRow 0 = .ok (.aload_n 0, 1) := by decide +kernel
theorem dX6_copyRow_1 : decode cX6_copyRow 1 = .ok (.ifnull 21, 3) := by decide +kernel
theorem dX6_copyRow_4 : decode cX6_copyRow 4 = .ok (.aload_n 1, 1) := by decide +kernel
theorem dX6_copyRow_5 : decode cX6_copyRow 5 = .ok (.ifnull 17, 3) := by decide +kernel
theorem dX6_copyRow_8 : decode cX6_copyRow 8 = .ok (.aload_n 0, 1) := by decide +kernel
theorem dX6_copyRow_9 : decode cX6_copyRow 9 = .ok (.iconst 0, 1) := by decide +kernel
theorem dX6_copyRow_10 : decode cX6_copyRow 10 = .ok (.aload_n 1, 1) := by decide +kernel
theorem dX6_copyRow_11 : decode cX6_copyRow 11 = .ok (.iconst 0, 1) := by decide +kernel
theorem dX6_copyRow_12 : decode cX6_copyRow 12 = .ok (.aload_n 0, 1) := by decide +kernel
theorem dX6_copyRow_13 : decode cX6_copyRow 13 = .ok (.arraylength, 1) := by decide +kernel
theorem dX6_copyRow_14 : decode cX6_copyRow 14 = .ok (.aload_n 1, 1) := by decide +kernel
theorem dX6_copyRow_15 : decode cX6_copyRow 15 = .ok (.arraylength, 1) := by decide +kernel
theorem dX6_copyRow_16 : decode cX6_copyRow 16 = .ok (.invokestatic 399, 3) := by decide +kernel
theorem dX6_copyRow_19 : decode cX6_copyRow 19 = .ok (.invokestatic 404, 3) := by decide +kernel
theorem dX6_copyRow_22 : decode cX6_copyRow 22 = .ok (.return_, 1) := by decide +kernel
theorem dX7_init_0 : decode cX7_init 0 = .ok (.aload_n 0, 1) := by decide +kernel
theorem dX7_init_1 : decode cX7_init 1 = .ok (.invokespecial 1, 3) := by decide +kernel
theorem dX7_init_4 : decode cX7_init 4 = .ok (.aload_n 0, 1) := by decide +kernel
theorem dX7_init_5 : decode cX7_init 5 = .ok (.sipush 173, 3) := by decide +kernel
theorem dX7_init_8 : decode cX7_init 8 = .ok (.newarray .int, 2) := by decide +kernel
theorem dX7_init_10 : decode cX7_init 10 = .ok (.putfield 7, 3) := by decide +kernel
theorem dX7_init_13 : decode cX7_init 13 = .ok (.aload_n 0, 1) := by decide +kernel
theorem dX7_init_14 : decode cX7_init 14 = .ok (.sipush 1038, 3) := by decide +kernel
theorem dX7_init_17 : decode cX7_init 17 = .ok (.newarray .int, 2) := by decide +kernel
theorem dX7_init_19 : decode cX7_init 19 = .ok (.putfield 13, 3) := by decide +kernel
theorem dX7_init_22 : decode cX7_init 22 = .ok (.aload_n 0, 1) := by decide +kernel
theorem dX7_init_23 : decode cX7_init 23 = .ok (.sipush 168, 3) := by decide +kernel
theorem dX7_init_26 : decode cX7_init 26 = .ok (.newarray .int, 2) := by decide +kernel
theorem dX7_init_28 : decode cX7_init 28 = .ok (.putfield 16, 3) := by decide +kernel
theorem dX7_init_31 : decode cX7_init 31 = .ok (.aload_n 0, 1) := by decide +kernel
theorem dX7_init_32 : decode cX7_init 32 = .ok (.iconst 2, 1) := by decide +kernel
theorem dX7_init_33 : decode cX7_init 33 = .ok (.newarray .int, 2) := by decide +kernel
theorem dX7_init_35 : decode cX7_init 35 = .ok (.putfield 19, 3) := by decide +kernel
theorem dX7_init_38 : decode cX7_init 38 = .ok (.aload_n 0, 1) := by decide +kernel
theorem dX7_init_39 : decode cX7_init 39 = .ok (.bipush 60, 2) := by decide +kernel
theorem dX7_init_41 : decode cX7_init 41 = .ok (.newarray .int, 2) := by decide +kernel
theorem dX7_init_43 : decode cX7_init 43 = .ok (.putfield 22, 3) := by decide +kernel
theorem dX7_init_46 : decode cX7_init 46 = .ok (.aload_n 0, 1) := by decide +kernel
theorem dX7_init_47 : decode cX7_init 47 = .ok (.bipush 84, 2) := by decide +kernel
theorem dX7_init_49 : decode cX7_init 49 = .ok (.newarray .int, 2) := by decide +kernel
theorem dX7_init_51 : decode cX7_init 51 = .ok (.putfield 25, 3) := by decide +kernel
theorem dX7_init_54 : decode cX7_init 54 = .ok (.aload_n 0, 1) := by decide +kernel
theorem dX7_init_55 : decode cX7_init 55 = .ok (.bipush 84, 2) := by decide +kernel
theorem dX7_init_57 : decode cX7_init 57 = .ok (.newarray .int, 2) := by decide +kernel
theorem dX7_init_59 : decode cX7_init 59 = .ok (.putfield 28, 3) := by decide +kernel
theorem dX7_init_62 : decode cX7_init 62 = .ok (.aload_n 0, 1) := by decide +kernel
theorem dX7_init_63 : decode cX7_init 63 = .ok (.bipush 28, 2) := by decide +kernel
theorem dX7_init_65 : decode cX7_init 65 = .ok (.newarray .int, 2) := by decide +kernel
theorem dX7_init_67 : decode cX7_init 67 = .ok (.putfield 31, 3) := by decide +kernel
theorem dX7_init_70 : decode cX7_init 70 = .ok (.aload_n 0, 1) := by decide +kernel
theorem dX7_init_71 : decode cX7_init 71 = .ok (.getfield 7, 3) := by decide +kernel
theorem dX7_init_74 : decode cX7_init 74 = .ok (.iconst 0, 1) := by decide +kernel
theorem dX7_init_75 : decode cX7_init 75 = .ok (.iconst 2, 1) := by decide +kernel
theorem dX7_init_76 : decode cX7_init 76 = .ok (.iastore, 1) := by decide +kernel
theorem dX7_init_77 : decode cX7_init 77 = .ok (.aload_n 0, 1) := by decide +kernel
theorem dX7_init_78 : decode cX7_init 78 = .ok (.getfield 7, 3) := by decide +kernel
theorem dX7_init_81 : decode cX7_init 81 = .ok (.iconst 1, 1) := by decide +kernel
theorem dX7_init_82 : decode cX7_init 82 = .ok (.iconst 3, 1) := by decide +kernel
theorem dX7_init_83 : decode cX7_init 83 = .ok (.iastore, 1) := by decide +kernel
theorem dX7_init_84 : decode cX7_init 84 = .ok (.aload_n 0, 1) := by decide +kernel
theorem dX7_init_85 : decode cX7_init 85 = .ok (.getfield 7, 3) := by decide +kernel
theorem dX7_init_88 : decode cX7_init 88 = .ok (.iconst 2, 1) := by decide +kernel
theorem dX7_init_89 : decode cX7_init 89 = .ok (.sipush 200, 3) := by decide +kernel
theorem dX7_init_92 : decode cX7_init 92 = .ok (.iastore, 1) := by decide +kernel
theorem dX7_init_93 : decode cX7_init 93 = .ok (.iconst 0, 1) := by decide +kernel
theorem dX7_init_94 : decode cX7_init 94 = .ok (.istore_n 1, 1) := by decide +kernel
theorem dX7_init_95 : decode cX7_init 95 = .ok (.iload_n 1, 1) := by decide +kernel
theorem dX7_init_96 : decode cX7_init 96 = .ok (.bipush 84, 2) := by decide +kernel
theorem dX7_init_98 : decode cX7_init 98 = .ok (.if_icmp .ge 19, 3) := by decide +kernel
theorem dX7_init_101 : decode cX7_init 101 = .ok (.aload_n 0, 1) := by decide +kernel
theorem dX7_init_102 : decode cX7_init 102 = .ok (.getfield 7, 3) := by decide +kernel
theorem dX7_init_105 : decode cX7_init 105 = .ok (.bipush 89, 2) := by decide +kernel
theorem dX7_init_107 : decode cX7_init 107 = .ok (.iload_n 1, 1) := by decide +kernel
theorem dX7_init_108 : decode cX7_init 108 = .ok (.iadd, 1) := by decide +kernel
theorem dX7_init_109 : decode cX7_init 109 = .ok (.iconst (-1), 1) := by decide +kernel
theorem dX7_init_110 : decode cX7_init 110 = .ok (.iastore, 1) := by decide +kernel
theorem dX7_init_111 : decode cX7_init 111 = .ok (.iinc 1 1, 3) := by decide +kernel
theorem dX7_init_114 : decode cX7_init 114 = .ok (.goto (-19), 3) := by decide +kernel
theorem dX7_init_117 : decode cX7_init 117 = .ok (.return_, 1) := by decide +kernel
theorem dX7_thrown_0 : decode cX7_thrown 0 = .ok (.aload_n 0, 1) := by decide +kernel
theorem dX7_thrown_1 : decode cX7_thrown 1 = .ok (.getfield 34, 3) := by decide +kernel
theorem dX7_thrown_4 : decode cX7_thrown 4 = .ok (.ireturn, 1) := by decide +kernel
theorem dX7_within_0 : decode cX7_within 0 = .ok (.iload_n 0, 1) := by decide +kernel
theorem dX7_within_1 : decode cX7_within 1 = .ok (.iload_n 1, 1) := by decide +kernel
theorem dX7_within_2 : decode cX7_within 2 = .ok (.if_icmp .lt 12, 3) := by decide +kernel
theorem dX7_within_5 : decode cX7_within 5 = .ok (.iload_n 0, 1) := by decide +kernel
theorem dX7_within_6 : decode cX7_within 6 = .ok (.iload_n 2, 1) := by decide +kernel
theorem dX7_within_7 : decode cX7_within 7 = .ok (.if_icmp .gt 7, 3) := by decide +kernel
theorem dX7_within_10 : decode cX7_within 10 = .ok (.iconst 1, 1) := by decide +kernel
theorem dX7_within_11 : decode cX7_within 11 = .ok (.goto 4, 3) := by decide +kernel
theorem dX7_within_14 : decode cX7_within 14 = .ok (.iconst 0, 1) := by decide +kernel
theorem dX7_within_15 : decode cX7_within 15 = .ok (.ireturn, 1) := by decide +kernel
theorem dX7_save_0 : decode cX7_save 0 = .ok (.aload_n 0, 1) := by decide +kernel
theorem dX7_save_1 : decode cX7_save 1 = .ok (.getfield 38, 3) := by decide +kernel
theorem dX7_save_4 : decode cX7_save 4 = .ok (.bipush 6, 2) := by decide +kernel
theorem dX7_save_6 : decode cX7_save 6 = .ok (.if_icmp .ne 46, 3) := by decide +kernel
theorem dX7_save_9 : decode cX7_save 9 = .ok (.sipush 173, 3) := by decide +kernel
theorem dX7_save_12 : decode cX7_save 12 = .ok (.istore_n 1, 1) := by decide +kernel
theorem dX7_save_13 : decode cX7_save 13 = .ok (.iload_n 1, 1) := by decide +kernel
theorem dX7_save_14 : decode cX7_save 14 = .ok (.sipush 1038, 3) := by decide +kernel
theorem dX7_save_17 : decode cX7_save 17 = .ok (.if_icmp .ge 25, 3) := by decide +kernel
theorem dX7_save_20 : decode cX7_save 20 = .ok (.aload_n 0, 1) := by decide +kernel
theorem dX7_save_21 : decode cX7_save 21 = .ok (.getfield 13, 3) := by decide +kernel
theorem dX7_save_24 : decode cX7_save 24 = .ok (.iload_n 1, 1) := by decide +kernel
theorem dX7_save_25 : decode cX7_save 25 = .ok (.sipush 173, 3) := by decide +kernel
theorem dX7_save_28 : decode cX7_save 28 = .ok (.isub, 1) := by decide +kernel
theorem dX7_save_29 : decode cX7_save 29 = .ok (.aload_n 0, 1) := by decide +kernel
theorem dX7_save_30 : decode cX7_save 30 = .ok (.getfield 13, 3) := by decide +kernel
theorem dX7_save_33 : decode cX7_save 33 = .ok (.iload_n 1, 1) := by decide +kernel
theorem dX7_save_34 : decode cX7_save 34 = .ok (.iaload, 1) := by decide +kernel
theorem dX7_save_35 : decode cX7_save 35 = .ok (.iastore, 1) := by decide +kernel
theorem dX7_save_36 : decode cX7_save 36 = .ok (.iinc 1 1, 3) := by decide +kernel
theorem dX7_save_39 : decode cX7_save 39 = .ok (.goto (-26), 3) := by decide +kernel
theorem dX7_save_42 : decode cX7_save 42 = .ok (.aload_n 0, 1) := by decide +kernel
theorem dX7_save_43 : decode cX7_save 43 = .ok (.dup, 1) := by decide +kernel
theorem dX7_save_44 : decode cX7_save 44 = .ok (.getfield 38, 3) := by decide +kernel
theorem dX7_save_47 : decode cX7_save 47 = .ok (.iconst 1, 1) := by decide +kernel
theorem dX7_save_48 : decode cX7_save 48 = .ok (.isub, 1) := by decide +kernel
theorem dX7_save_49 : decode cX7_save 49 = .ok (.putfield 38, 3) := by decide +kernel
theorem dX7_save_52 : decode cX7_save 52 = .ok (.iconst 0, 1) := by decide +kernel
theorem dX7_save_53 : decode cX7_save 53 = .ok (.istore_n 1, 1) := by decide +kernel
theorem dX7_save_54 : decode cX7_save 54 = .ok (.iload_n 1, 1) := by decide +kernel
theorem dX7_save_55 : decode cX7_save 55 = .ok (.sipush 173, 3) := by decide +kernel
theorem dX7_save_58 : decode cX7_save 58 = .ok (.if_icmp .ge 30, 3) := by decide +kernel
theorem dX7_save_61 : decode cX7_save 61 = .ok (.aload_n 0, 1) := by decide +kernel
theorem dX7_save_62 : decode cX7_save 62 = .ok (.getfield 13, 3) := by decide +kernel
theorem dX7_save_65 : decode cX7_save 65 = .ok (.sipush 173, 3) := by decide +kernel
theorem dX7_save_68 : decode cX7_save 68 = .ok (.aload_n 0, 1) := by decide +kernel
theorem dX7_save_69 : decode cX7_save 69 = .ok (.getfield 38, 3) := by decide +kernel
theorem dX7_save_72 : decode cX7_save 72 = .ok (.imul, 1) := by decide +kernel
theorem dX7_save_73 : decode cX7_save 73 = .ok (.iload_n 1, 1) := by decide +kernel
theorem dX7_save_74 : decode cX7_save 74 = .ok (.iadd, 1) := by decide +kernel
theorem dX7_save_75 : decode cX7_save 75 = .ok (.aload_n 0, 1) := by decide +kernel
theorem dX7_save_76 : decode cX7_save 76 = .ok (.getfield 7, 3) := by decide +kernel
theorem dX7_save_79 : decode cX7_save 79 = .ok (.iload_n 1, 1) := by decide +kernel
theorem dX7_save_80 : decode cX7_save 80 = .ok (.iaload, 1) := by decide +kernel
theorem dX7_save_81 : decode cX7_save 81 = .ok (.iastore, 1) := by decide +kernel
theorem dX7_save_82 : decode cX7_save 82 = .ok (.iinc 1 1, 3) := by decide +kernel
theorem dX7_save_85 : decode cX7_save 85 = .ok (.goto (-31), 3) := by decide +kernel
theorem dX7_save_88 : decode cX7_save 88 = .ok (.aload_n 0, 1) := by decide +kernel
theorem dX7_save_89 : decode cX7_save 89 = .ok (.dup, 1) := by decide +kernel
theorem dX7_save_90 : decode cX7_save 90 = .ok (.getfield 38, 3) := by decide +kernel
theorem dX7_save_93 : decode cX7_save 93 = .ok (.iconst 1, 1) := by decide +kernel
theorem dX7_save_94 : decode cX7_save 94 = .ok (.iadd, 1) := by decide +kernel
theorem dX7_save_95 : decode cX7_save 95 = .ok (.putfield 38, 3) := by decide +kernel
theorem dX7_save_98 : decode cX7_save 98 = .ok (.return_, 1) := by decide +kernel
theorem dX7_has_0 : decode cX7_has 0 = .ok (.iload_n 0, 1) := by decide +kernel
theorem dX7_has_1 : decode cX7_has 1 = .ok (.iload_n 1, 1) := by decide +kernel
theorem dX7_has_2 : decode cX7_has 2 = .ok (.ishr, 1) := by decide +kernel
theorem dX7_has_3 : decode cX7_has 3 = .ok (.iconst 1, 1) := by decide +kernel
theorem dX7_has_4 : decode cX7_has 4 = .ok (.iand, 1) := by decide +kernel
theorem dX7_has_5 : decode cX7_has 5 = .ok (.iconst 1, 1) := by decide +kernel
theorem dX7_has_6 : decode cX7_has 6 = .ok (.if_icmp .ne 7, 3) := by decide +kernel
theorem dX7_has_9 : decode cX7_has 9 = .ok (.iconst 1, 1) := by decide +kernel
theorem dX7_has_10 : decode cX7_has 10 = .ok (.goto 4, 3) := by decide +kernel
theorem dX7_has_13 : decode cX7_has 13 = .ok (.iconst 0, 1) := by decide +kernel
theorem dX7_has_14 : decode cX7_has 14 = .ok (.ireturn, 1) := by decide +kernel
theorem dX7_of_0 : decode cX7_of 0 = .ok (.aload_n 0, 1) := by decide +kernel
theorem dX7_of_1 : decode cX7_of 1 = .ok (.getfield 7, 3) := by decide +kernel
theorem dX7_of_4 : decode cX7_of 4 = .ok (.iconst 5, 1) := by decide +kernel
theorem dX7_of_5 : decode cX7_of 5 = .ok (.bipush 6, 2) := by decide +kernel
theorem dX7_of_7 : decode cX7_of 7 = .ok (.iload_n 1, 1) := by decide +kernel
theorem dX7_of_8 : decode cX7_of 8 = .ok (.imul, 1) := by decide +kernel
theorem dX7_of_9 : decode cX7_of 9 = .ok (.iadd, 1) := by decide +kernel
theorem dX7_of_10 : decode cX7_of 10 = .ok (.iload_n 2, 1) := by decide +kernel
theorem dX7_of_11 : decode cX7_of 11 = .ok (.iadd, 1) := by decide +kernel
theorem dX7_of_12 : decode cX7_of 12 = .ok (.iaload, 1) := by decide +kernel
theorem dX7_of_13 : decode cX7_of 13 = .ok (.ireturn, 1) := by decide +kernel
theorem dX7_ofGuest_0 : decode cX7_ofGuest 0 = .ok (.aload_n 0, 1) := by decide +kernel
theorem dX7_ofGuest_1 : decode cX7_ofGuest 1 = .ok (.getfield 7, 3) := by decide +kernel
theorem dX7_ofGuest_4 : decode cX7_ofGuest 4 = .ok (.bipush 77, 2) := by decide +kernel
theorem dX7_ofGuest_6 : decode cX7_ofGuest 6 = .ok (.iconst 2, 1) := by decide +kernel
theorem dX7_ofGuest_7 : decode cX7_ofGuest 7 = .ok (.iload_n 1, 1) := by decide +kernel
theorem dX7_ofGuest_8 : decode cX7_ofGuest 8 = .ok (.imul, 1) := by decide +kernel
theorem dX7_ofGuest_9 : decode cX7_ofGuest 9 = .ok (.iadd, 1) := by decide +kernel
theorem dX7_ofGuest_10 : decode cX7_ofGuest 10 = .ok (.iload_n 2, 1) := by decide +kernel
theorem dX7_ofGuest_11 : decode cX7_ofGuest 11 = .ok (.iadd, 1) := by decide +kernel
theorem dX7_ofGuest_12 : decode cX7_ofGuest 12 = .ok (.iaload, 1) := by decide +kernel
theorem dX7_ofGuest_13 : decode cX7_ofGuest 13 = .ok (.ireturn, 1) := by decide +kernel
theorem dX7_at_0 : decode cX7_at 0 = .ok (.aload_n 0, 1) := by decide +kernel
theorem dX7_at_1 : decode cX7_at 1 = .ok (.getfield 7, 3) := by decide +kernel
theorem dX7_at_4 : decode cX7_at 4 = .ok (.bipush 89, 2) := by decide +kernel
theorem dX7_at_6 : decode cX7_at 6 = .ok (.iconst 3, 1) := by decide +kernel
theorem dX7_at_7 : decode cX7_at 7 = .ok (.iload_n 1, 1) := by decide +kernel
theorem dX7_at_8 : decode cX7_at 8 = .ok (.imul, 1) := by decide +kernel
theorem dX7_at_9 : decode cX7_at 9 = .ok (.iadd, 1) := by decide +kernel
theorem dX7_at_10 : decode cX7_at 10 = .ok (.iload_n 2, 1) := by decide +kernel
theorem dX7_at_11 : decode cX7_at 11 = .ok (.iadd, 1) := by decide +kernel
theorem dX7_at_12 : decode cX7_at 12 = .ok (.iaload, 1) := by decide +kernel
theorem dX7_at_13 : decode cX7_at 13 = .ok (.ireturn, 1) := by decide +kernel
set_option maxRecDepth 20000 in
theorem ggX7_isDish_X7_within : GoodIn wsX7_isDish wsX7_within := goodIn_r _ [5] (by decide +kernel) (by decide +kernel)
set_option maxRecDepth 20000 in
theorem gX7_isDish_X7_within : GoodIn wsX7_isDish (va_wsS RX7 41 yX7_within wsX7_within) := goodIn_app (goodIn_of _ (by decide +kernel)) ggX7_isDish_X7_within
theorem dX7_isDish_0 : decode cX7_isDish 0 = .ok (.iload_n 1, 1) := by decide +kernel
theorem dX7_isDish_1 : decode cX7_isDish 1 = .ok (.iconst 0, 1) := by decide +kernel
theorem dX7_isDish_2 : decode cX7_isDish 2 = .ok (.aload_n 0, 1) := by decide +kernel
theorem dX7_isDish_3 : decode cX7_isDish 3 = .ok (.getfield 7, 3) := by decide +kernel
theorem dX7_isDish_6 : decode cX7_isDish 6 = .ok (.iconst 3, 1) := by decide +kernel
theorem dX7_isDish_7 : decode cX7_isDish 7 = .ok (.iaload, 1) := by decide +kernel
theorem dX7_isDish_8 : decode cX7_isDish 8 = .ok (.iconst 1, 1) := by decide +kernel
theorem dX7_isDish_9 : decode cX7_isDish 9 = .ok (.isub, 1) := by decide +kernel
theorem dX7_isDish_10 : decode cX7_isDish 10 = .ok (.invokestatic 41, 3) := by decide +kernel
theorem dX7_isDish_13 : decode cX7_isDish 13 = .ok (.ireturn, 1) := by decide +kernel
set_option maxRecDepth 20000 in
theorem ggX7_isGuest_X7_within : GoodIn wsX7_isGuest wsX7_within := goodIn_r _ [5] (by decide +kernel) (by decide +kernel)
set_option maxRecDepth 20000 in
theorem gX7_isGuest_X7_within : GoodIn wsX7_isGuest (va_wsS RX7 41 yX7_within wsX7_within) := goodIn_app (goodIn_of _ (by decide +kernel)) ggX7_isGuest_X7_within
theorem dX7_isGuest_0 : decode cX7_isGuest 0 = .ok (.iload_n 1, 1) := by decide +kernel
theorem dX7_isGuest_1 : decode cX7_isGuest 1 = .ok (.iconst 0, 1) := by decide +kernel
theorem dX7_isGuest_2 : decode cX7_isGuest 2 = .ok (.aload_n 0, 1) := by decide +kernel
theorem dX7_isGuest_3 : decode cX7_isGuest 3 = .ok (.getfield 7, 3) := by decide +kernel
theorem dX7_isGuest_6 : decode cX7_isGuest 6 = .ok (.iconst 4, 1) := by decide +kernel
theorem dX7_isGuest_7 : decode cX7_isGuest 7 = .ok (.iaload, 1) := by decide +kernel
theorem dX7_isGuest_8 : decode cX7_isGuest 8 = .ok (.iconst 1, 1) := by decide +kernel
theorem dX7_isGuest_9 : decode cX7_isGuest 9 = .ok (.isub, 1) := by decide +kernel
theorem dX7_isGuest_10 : decode cX7_isGuest 10 = .ok (.invokestatic 41, 3) := by decide +kernel
theorem dX7_isGuest_13 : decode cX7_isGuest 13 = .ok (.ireturn, 1) := by decide +kernel
set_option maxRecDepth 20000 in
theorem ggX7_isDay_X7_within : GoodIn wsX7_isDay wsX7_within := goodIn_r _ [4] (by decide +kernel) (by decide +kernel)
set_option maxRecDepth 20000 in
theorem gX7_isDay_X7_within : GoodIn wsX7_isDay (va_wsS RX7 41 yX7_within wsX7_within) := goodIn_app (goodIn_of _ (by decide +kernel)) ggX7_isDay_X7_within
theorem dX7_isDay_0 : decode cX7_isDay 0 = .ok (.iload_n 0, 1) := by decide +kernel
theorem dX7_isDay_1 : decode cX7_isDay 1 = .ok (.iconst 0, 1) := by decide +kernel
theorem dX7_isDay_2 : decode cX7_isDay 2 = .ok (.bipush 27, 2) := by decide +kernel
theorem dX7_isDay_4 : decode cX7_isDay 4 = .ok (.invokestatic 41, 3) := by decide +kernel
theorem dX7_isDay_7 : decode cX7_isDay 7 = .ok (.ireturn, 1) := by decide +kernel
set_option maxRecDepth 20000 in
theorem ggX7_isPart_X7_within : GoodIn wsX7_isPart wsX7_within := goodIn_r _ [4] (by decide +kernel) (by decide +kernel)
set_option maxRecDepth 20000 in
theorem gX7_isPart_X7_within : GoodIn wsX7_isPart (va_wsS RX7 41 yX7_within wsX7_within) := goodIn_app (goodIn_of _ (by decide +kernel)) ggX7_isPart_X7_within
theorem dX7_isPart_0 : decode cX7_isPart 0 = .ok (.iload_n 0, 1) := by decide +kernel
theorem dX7_isPart_1 : decode cX7_isPart 1 = .ok (.iconst 0, 1) := by decide +kernel
theorem dX7_isPart_2 : decode cX7_isPart 2 = .ok (.iconst 2, 1) := by decide +kernel
theorem dX7_isPart_3 : decode cX7_isPart 3 = .ok (.invokestatic 41, 3) := by decide +kernel
theorem dX7_isPart_6 : decode cX7_isPart 6 = .ok (.ireturn, 1) := by decide +kernel
set_option maxRecDepth 20000 in
theorem ggX7_isLeftover_X7_of : GoodIn wsX7_isLeftover wsX7_of := goodIn_r _ [6, 1, 7, 8, 9, 10, 11, 12, 13, 14, 15, 16, 17, 18, 19, 20, 21] (by decide +kernel) (by decide +kernel)
set_option maxRecDepth 20000 in
theorem gX7_isLeftover_X7_of : GoodIn wsX7_isLeftover (wsV RX7 45 RX7 yX7_of wsX7_of) := goodIn_app (goodIn_of _ (by decide +kernel)) ggX7_isLeftover_X7_of
theorem dX7_isLeftover_0 : decode cX7_isLeftover 0 = .ok (.iconst 0, 1) := by decide +kernel
theorem dX7_isLeftover_1 : decode cX7_isLeftover 1 = .ok (.istore_n 2, 1) := by decide +kernel
theorem dX7_isLeftover_2 : decode cX7_isLeftover 2 = .ok (.iconst 0, 1) := by decide +kernel
theorem dX7_isLeftover_3 : decode cX7_isLeftover 3 = .ok (.istore_n 3, 1) := by decide +kernel
theorem dX7_isLeftover_4 : decode cX7_isLeftover 4 = .ok (.iload_n 3, 1) := by decide +kernel
theorem dX7_isLeftover_5 : decode cX7_isLeftover 5 = .ok (.aload_n 0, 1) := by decide +kernel
theorem dX7_isLeftover_6 : decode cX7_isLeftover 6 = .ok (.getfield 7, 3) := by decide +kernel
theorem dX7_isLeftover_9 : decode cX7_isLeftover 9 = .ok (.iconst 3, 1) := by decide +kernel
theorem dX7_isLeftover_10 : decode cX7_isLeftover 10 = .ok (.iaload, 1) := by decide +kernel
theorem dX7_isLeftover_11 : decode cX7_isLeftover 11 = .ok (.if_icmp .ge 29, 3) := by decide +kernel
theorem dX7_isLeftover_14 : decode cX7_isLeftover 14 = .ok (.iload_n 2, 1) := by decide +kernel
theorem dX7_isLeftover_15 : decode cX7_isLeftover 15 = .ok (.ifCond .ne 13, 3) := by decide +kernel
theorem dX7_isLeftover_18 : decode cX7_isLeftover 18 = .ok (.aload_n 0, 1) := by decide +kernel
theorem dX7_isLeftover_19 : decode cX7_isLeftover 19 = .ok (.iload_n 3, 1) := by decide +kernel
theorem dX7_isLeftover_20 : decode cX7_isLeftover 20 = .ok (.iconst 4, 1) := by decide +kernel
theorem dX7_isLeftover_21 : decode cX7_isLeftover 21 = .ok (.invokevirtual 45, 3) := by decide +kernel
theorem dX7_isLeftover_24 : decode cX7_isLeftover 24 = .ok (.iload_n 1, 1) := by decide +kernel
theorem dX7_isLeftover_25 : decode cX7_isLeftover 25 = .ok (.if_icmp .ne 7, 3) := by decide +kernel
theorem dX7_isLeftover_28 : decode cX7_isLeftover 28 = .ok (.iconst 1, 1) := by decide +kernel
theorem dX7_isLeftover_29 : decode cX7_isLeftover 29 = .ok (.goto 4, 3) := by decide +kernel
theorem dX7_isLeftover_32 : decode cX7_isLeftover 32 = .ok (.iconst 0, 1) := by decide +kernel
theorem dX7_isLeftover_33 : decode cX7_isLeftover 33 = .ok (.istore_n 2, 1) := by decide +kernel
theorem dX7_isLeftover_34 : decode cX7_isLeftover 34 = .ok (.iinc 3 1, 3) := by decide +kernel
theorem dX7_isLeftover_37 : decode cX7_isLeftover 37 = .ok (.goto (-33), 3) := by decide +kernel
theorem dX7_isLeftover_40 : decode cX7_isLeftover 40 = .ok (.iload_n 2, 1) := by decide +kernel
theorem dX7_isLeftover_41 : decode cX7_isLeftover 41 = .ok (.ireturn, 1) := by decide +kernel
set_option maxRecDepth 20000 in
theorem ggX7_isSource_X7_of : GoodIn wsX7_isSource wsX7_of := goodIn_r _ [6, 1, 7, 8, 9, 10, 11, 12, 13, 14, 15, 16, 17, 18, 19, 20, 21] (by decide +kernel) (by decide +kernel)
set_option maxRecDepth 20000 in
theorem gX7_isSource_X7_of : GoodIn wsX7_isSource (wsV RX7 45 RX7 yX7_of wsX7_of) := goodIn_app (goodIn_of _ (by decide +kernel)) ggX7_isSource_X7_of
theorem dX7_isSource_0 : decode cX7_isSource 0 = .ok (.aload_n 0, 1) := by decide +kernel
theorem dX7_isSource_1 : decode cX7_isSource 1 = .ok (.getfield 7, 3) := by decide +kernel
theorem dX7_isSource_4 : decode cX7_isSource 4 = .ok (.bipush 89, 2) := by decide +kernel
theorem dX7_isSource_6 : decode cX7_isSource 6 = .ok (.iload_n 1, 1) := by decide +kernel
theorem dX7_isSource_7 : decode cX7_isSource 7 = .ok (.iadd, 1) := by decide +kernel
theorem dX7_isSource_8 : decode cX7_isSource 8 = .ok (.iaload, 1) := by decide +kernel
theorem dX7_isSource_9 : decode cX7_isSource 9 = .ok (.iconst (-1), 1) := by decide +kernel
theorem dX7_isSource_10 : decode cX7_isSource 10 = .ok (.if_icmp .eq 25, 3) := by decide +kernel
theorem dX7_isSource_13 : decode cX7_isSource 13 = .ok (.aload_n 0, 1) := by decide +kernel
theorem dX7_isSource_14 : decode cX7_isSource 14 = .ok (.aload_n 0, 1) := by decide +kernel
theorem dX7_isSource_15 : decode cX7_isSource 15 = .ok (.getfield 7, 3) := by decide +kernel
theorem dX7_isSource_18 : decode cX7_isSource 18 = .ok (.bipush 89, 2) := by decide +kernel
theorem dX7_isSource_20 : decode cX7_isSource 20 = .ok (.iload_n 1, 1) := by decide +kernel
theorem dX7_isSource_21 : decode cX7_isSource 21 = .ok (.iadd, 1) := by decide +kernel
theorem dX7_isSource_22 : decode cX7_isSource 22 = .ok (.iaload, 1) := by decide +kernel
theorem dX7_isSource_23 : decode cX7_isSource 23 = .ok (.iconst 4, 1) := by decide +kernel
theorem dX7_isSource_24 : decode cX7_isSource 24 = .ok (.invokevirtual 45, 3) := by decide +kernel
theorem dX7_isSource_27 : decode cX7_isSource 27 = .ok (.iconst (-1), 1) := by decide +kernel
theorem dX7_isSource_28 : decode cX7_isSource 28 = .ok (.if_icmp .eq 7, 3) := by decide +kernel
theorem dX7_isSource_31 : decode cX7_isSource 31 = .ok (.iconst 1, 1) := by decide +kernel
theorem dX7_isSource_32 : decode cX7_isSource 32 = .ok (.goto 4, 3) := by decide +kernel
theorem dX7_isSource_35 : decode cX7_isSource 35 = .ok (.iconst 0, 1) := by decide +kernel
theorem dX7_isSource_36 : decode cX7_isSource 36 = .ok (.ireturn, 1) := by decide +kernel
set_option maxRecDepth 20000 in
theorem ggX7_lastDay_X7_of : GoodIn wsX7_lastDay wsX7_of := goodIn_r _ [6, 1, 7, 8, 9, 10, 11, 12, 13, 14, 15, 16, 17, 18, 19, 20, 21] (by decide +kernel) (by decide +kernel)
set_option maxRecDepth 20000 in
theorem gX7_lastDay_X7_of : GoodIn wsX7_lastDay (wsV RX7 45 RX7 yX7_of wsX7_of) := goodIn_app (goodIn_of _ (by decide +kernel)) ggX7_lastDay_X7_of
theorem dX7_lastDay_0 : decode cX7_lastDay 0 = .ok (.iload_n 1, 1) := by decide +kernel
theorem dX7_lastDay_1 : decode cX7_lastDay 1 = .ok (.iconst 3, 1) := by decide +kernel
theorem dX7_lastDay_2 : decode cX7_lastDay 2 = .ok (.idiv, 1) := by decide +kernel
theorem dX7_lastDay_3 : decode cX7_lastDay 3 = .ok (.aload_n 0, 1) := by decide +kernel
theorem dX7_lastDay_4 : decode cX7_lastDay 4 = .ok (.aload_n 0, 1) := by decide +kernel
theorem dX7_lastDay_5 : decode cX7_lastDay 5 = .ok (.getfield 7, 3) := by decide +kernel
theorem dX7_lastDay_8 : decode cX7_lastDay 8 = .ok (.bipush 89, 2) := by decide +kernel
theorem dX7_lastDay_10 : decode cX7_lastDay 10 = .ok (.iload_n 1, 1) := by decide +kernel
theorem dX7_lastDay_11 : decode cX7_lastDay 11 = .ok (.iadd, 1) := by decide +kernel
theorem dX7_lastDay_12 : decode cX7_lastDay 12 = .ok (.iaload, 1) := by decide +kernel
theorem dX7_lastDay_13 : decode cX7_lastDay 13 = .ok (.iconst 5, 1) := by decide +kernel
theorem dX7_lastDay_14 : decode cX7_lastDay 14 = .ok (.invokevirtual 45, 3) := by decide +kernel
theorem dX7_lastDay_17 : decode cX7_lastDay 17 = .ok (.iadd, 1) := by decide +kernel
theorem dX7_lastDay_18 : decode cX7_lastDay 18 = .ok (.ireturn, 1) := by decide +kernel
set_option maxRecDepth 20000 in
theorem ggX7_isThere_X7_isSource : GoodIn wsX7_isThere wsX7_isSource := goodIn_r _ [7, 2, 8, 9, 10, 6, 11, 16, 17, 18, 19, 20, 21, 22, 23, 24, 25, 26, 27, 28, 29, 30] (by decide +kernel) (by decide +kernel)
set_option maxRecDepth 20000 in
theorem gX7_isThere_X7_isSource : GoodIn wsX7_isThere (wsV RX7 49 RX7 yX7_isSource wsX7_isSource) := goodIn_app (goodIn_of _ (by decide +kernel)) ggX7_isThere_X7_isSource
set_option maxRecDepth 20000 in
theorem ggX7_isThere_X7_of : GoodIn wsX7_isThere wsX7_of := goodIn_r _ [11, 2, 16, 17, 18, 19, 20, 21, 22, 23, 24, 25, 26, 27, 28, 29, 30] (by decide +kernel) (by decide +kernel)
set_option maxRecDepth 20000 in
theorem gX7_isThere_X7_of : GoodIn wsX7_isThere (wsV RX7 45 RX7 yX7_of wsX7_of) := goodIn_app (goodIn_of _ (by decide +kernel)) ggX7_isThere_X7_of
set_option maxRecDepth 20000 in
theorem ggX7_isThere_X7_lastDay : GoodIn wsX7_isThere wsX7_lastDay := goodIn_r _ [15, 2, 8, 9, 10, 6, 11, 16, 17, 18, 19, 20, 21, 22, 23, 24, 25, 26, 27, 28, 29, 30] (by decide +kernel) (by decide +kernel)
set_option maxRecDepth 20000 in
theorem gX7_isThere_X7_lastDay : GoodIn wsX7_isThere (wsV RX7 53 RX7 yX7_lastDay wsX7_lastDay) := goodIn_app (goodIn_of _ (by decide +kernel)) ggX7_isThere_X7_lastDay
theorem dX7_isThere_0 : decode cX7_isThere 0 = .ok (.aload_n 0, 1) := by decide +kernel
theorem dX7_isThere_1 : decode cX7_isThere 1 = .ok (.iload_n 1, 1) := by decide +kernel
theorem dX7_isThere_2 : decode cX7_isThere 2 = .ok (.invokevirtual 49, 3) := by decide +kernel
theorem dX7_isThere_5 : decode cX7_isThere 5 = .ok (.ifCond .eq 50, 3) := by decide +kernel
theorem dX7_isThere_8 : decode cX7_isThere 8 = .ok (.aload_n 0, 1) := by decide +kernel
theorem dX7_isThere_9 : decode cX7_isThere 9 = .ok (.getfield 28, 3) := by decide +kernel
theorem dX7_isThere_12 : decode cX7_isThere 12 = .ok (.iload_n 1, 1) := by decide +kernel
theorem dX7_isThere_13 : decode cX7_isThere 13 = .ok (.iaload, 1) := by decide +kernel
theorem dX7_isThere_14 : decode cX7_isThere 14 = .ok (.ifCond .ne 41, 3) := by decide +kernel
theorem dX7_isThere_17 : decode cX7_isThere 17 = .ok (.aload_n 0, 1) := by decide +kernel
theorem dX7_isThere_18 : decode cX7_isThere 18 = .ok (.aload_n 0, 1) := by decide +kernel
theorem dX7_isThere_19 : decode cX7_isThere 19 = .ok (.getfield 7, 3) := by decide +kernel
theorem dX7_isThere_22 : decode cX7_isThere 22 = .ok (.bipush 89, 2) := by decide +kernel
theorem dX7_isThere_24 : decode cX7_isThere 24 = .ok (.iload_n 1, 1) := by decide +kernel
theorem dX7_isThere_25 : decode cX7_isThere 25 = .ok (.iadd, 1) := by decide +kernel
theorem dX7_isThere_26 : decode cX7_isThere 26 = .ok (.iaload, 1) := by decide +kernel
theorem dX7_isThere_27 : decode cX7_isThere 27 = .ok (.iconst 4, 1) := by decide +kernel
theorem dX7_isThere_28 : decode cX7_isThere 28 = .ok (.invokevirtual 45, 3) := by decide +kernel
theorem dX7_isThere_31 : decode cX7_isThere 31 = .ok (.iload_n 2, 1) := by decide +kernel
theorem dX7_isThere_32 : decode cX7_isThere 32 = .ok (.if_icmp .ne 23, 3) := by decide +kernel
theorem dX7_isThere_35 : decode cX7_isThere 35 = .ok (.iload_n 1, 1) := by decide +kernel
theorem dX7_isThere_36 : decode cX7_isThere 36 = .ok (.iconst 3, 1) := by decide +kernel
theorem dX7_isThere_37 : decode cX7_isThere 37 = .ok (.idiv, 1) := by decide +kernel
theorem dX7_isThere_38 : decode cX7_isThere 38 = .ok (.iload_n 3, 1) := by decide +kernel
theorem dX7_isThere_39 : decode cX7_isThere 39 = .ok (.if_icmp .ge 16, 3) := by decide +kernel
theorem dX7_isThere_42 : decode cX7_isThere 42 = .ok (.aload_n 0, 1) := by decide +kernel
theorem dX7_isThere_43 : decode cX7_isThere 43 = .ok (.iload_n 1, 1) := by decide +kernel
theorem dX7_isThere_44 : decode cX7_isThere 44 = .ok (.invokevirtual 53, 3) := by decide +kernel
theorem dX7_isThere_47 : decode cX7_isThere 47 = .ok (.iload_n 3, 1) := by decide +kernel
theorem dX7_isThere_48 : decode cX7_isThere 48 = .ok (.if_icmp .lt 7, 3) := by decide +kernel
theorem dX7_isThere_51 : decode cX7_isThere 51 = .ok (.iconst 1, 1) := by decide +kernel
theorem dX7_isThere_52 : decode cX7_isThere 52 = .ok (.goto 4, 3) := by decide +kernel
theorem dX7_isThere_55 : decode cX7_isThere 55 = .ok (.iconst 0, 1) := by decide +kernel
theorem dX7_isThere_56 : decode cX7_isThere 56 = .ok (.ireturn, 1) := by decide +kernel
set_option maxRecDepth 20000 in
theorem ggX7_sourceFor_X7_isThere : GoodIn wsX7_sourceFor wsX7_isThere := goodIn_r _ [5, 6, 7, 8, 9, 10, 4, 11, 12, 13, 14, 15, 16, 17, 18, 19, 20, 21, 22, 23, 24, 25, 26, 27, 28, 29, 30, 31, 32, 33, 34] (by decide +kernel) (by decide +kernel)
set_option maxRecDepth 20000 in
theorem gX7_sourceFor_X7_isThere : GoodIn wsX7_sourceFor (wsV RX7 57 RX7 yX7_isThere wsX7_isThere) := goodIn_app (goodIn_of _ (by decide +kernel)) ggX7_sourceFor_X7_isThere
set_option maxRecDepth 20000 in
theorem ggX7_sourceFor_X7_lastDay : GoodIn wsX7_sourceFor wsX7_lastDay := goodIn_r _ [19, 7, 12, 13, 14, 4, 15, 20, 21, 22, 23, 24, 25, 26, 27, 28, 29, 30, 31, 32, 33, 34] (by decide +kernel) (by decide +kernel)
set_option maxRecDepth 20000 in
theorem gX7_sourceFor_X7_lastDay : GoodIn wsX7_sourceFor (wsV RX7 53 RX7 yX7_lastDay wsX7_lastDay) := goodIn_app (goodIn_of _ (by decide +kernel)) ggX7_sourceFor_X7_lastDay
theorem dX7_sourceFor_0 : decode cX7_sourceFor 0 = .ok (.iconst (-1), 1) := by decide +kernel
theorem dX7_sourceFor_1 : decode cX7_sourceFor 1 = .ok (.istore_n 3, 1) := by decide +kernel
theorem dX7_sourceFor_2 : decode cX7_sourceFor 2 = .ok (.iconst 0, 1) := by decide +kernel
theorem dX7_sourceFor_3 : decode cX7_sourceFor 3 = .ok (.istore 4, 2) := by decide +kernel
theorem dX7_sourceFor_5 : decode cX7_sourceFor 5 = .ok (.iload 4, 2) := by decide +kernel
theorem dX7_sourceFor_7 : decode cX7_sourceFor 7 = .ok (.iconst 3, 1) := by decide +kernel
theorem dX7_sourceFor_8 : decode cX7_sourceFor 8 = .ok (.iload_n 2, 1) := by decide +kernel
theorem dX7_sourceFor_9 : decode cX7_sourceFor 9 = .ok (.imul, 1) := by decide +kernel
theorem dX7_sourceFor_10 : decode cX7_sourceFor 10 = .ok (.if_icmp .ge 46, 3) := by decide +kernel
theorem dX7_sourceFor_13 : decode cX7_sourceFor 13 = .ok (.aload_n 0, 1) := by decide +kernel
theorem dX7_sourceFor_14 : decode cX7_sourceFor 14 = .ok (.iload 4, 2) := by decide +kernel
theorem dX7_sourceFor_16 : decode cX7_sourceFor 16 = .ok (.iload_n 1, 1) := by decide +kernel
theorem dX7_sourceFor_17 : decode cX7_sourceFor 17 = .ok (.iload_n 2, 1) := by decide +kernel
theorem dX7_sourceFor_18 : decode cX7_sourceFor 18 = .ok (.invokevirtual 57, 3) := by decide +kernel
theorem dX7_sourceFor_21 : decode cX7_sourceFor 21 = .ok (.ifCond .eq 27, 3) := by decide +kernel
theorem dX7_sourceFor_24 : decode cX7_sourceFor 24 = .ok (.iload_n 3, 1) := by decide +kernel
theorem dX7_sourceFor_25 : decode cX7_sourceFor 25 = .ok (.iconst (-1), 1) := by decide +kernel
theorem dX7_sourceFor_26 : decode cX7_sourceFor 26 = .ok (.if_icmp .eq 17, 3) := by decide +kernel
theorem dX7_sourceFor_29 : decode cX7_sourceFor 29 = .ok (.aload_n 0, 1) := by decide +kernel
theorem dX7_sourceFor_30 : decode cX7_sourceFor 30 = .ok (.iload 4, 2) := by decide +kernel
theorem dX7_sourceFor_32 : decode cX7_sourceFor 32 = .ok (.invokevirtual 53, 3) := by decide +kernel
theorem dX7_sourceFor_35 : decode cX7_sourceFor 35 = .ok (.aload_n 0, 1) := by decide +kernel
theorem dX7_sourceFor_36 : decode cX7_sourceFor 36 = .ok (.iload_n 3, 1) := by decide +kernel
theorem dX7_sourceFor_37 : decode cX7_sourceFor 37 = .ok (.invokevirtual 53, 3) := by decide +kernel
theorem dX7_sourceFor_40 : decode cX7_sourceFor 40 = .ok (.if_icmp .ge 8, 3) := by decide +kernel
theorem dX7_sourceFor_43 : decode cX7_sourceFor 43 = .ok (.iload 4, 2) := by decide +kernel
theorem dX7_sourceFor_45 : decode cX7_sourceFor 45 = .ok (.goto 4, 3) := by decide +kernel
theorem dX7_sourceFor_48 : decode cX7_sourceFor 48 = .ok (.iload_n 3, 1) := by decide +kernel
theorem dX7_sourceFor_49 : decode cX7_sourceFor 49 = .ok (.istore_n 3, 1) := by decide +kernel
theorem dX7_sourceFor_50 : decode cX7_sourceFor 50 = .ok (.iinc 4 1, 3) := by decide +kernel
theorem dX7_sourceFor_53 : decode cX7_sourceFor 53 = .ok (.goto (-48), 3) := by decide +kernel
theorem dX7_sourceFor_56 : decode cX7_sourceFor 56 = .ok (.iload_n 3, 1) := by decide +kernel
theorem dX7_sourceFor_57 : decode cX7_sourceFor 57 = .ok (.ireturn, 1) := by decide +kernel
set_option maxRecDepth 20000 in
theorem ggX7_match_X7_isLeftover : GoodIn wsX7_match wsX7_isLeftover := goodIn_r _ [8, 3, 9, 10, 11, 7, 12, 29, 30, 31, 32, 33, 34, 35, 36, 37, 38, 39, 40, 41, 42, 43] (by decide +kernel) (by decide +kernel)
set_option maxRecDepth 20000 in
theorem gX7_match_X7_isLeftover : GoodIn wsX7_match (wsV RX7 60 RX7 yX7_isLeftover wsX7_isLeftover) := goodIn_app (goodIn_of _ (by decide +kernel)) ggX7_match_X7_isLeftover
set_option maxRecDepth 20000 in
theorem ggX7_match_X7_sourceFor : GoodIn wsX7_match wsX7_sourceFor := goodIn_r _ [16, 17, 18, 19, 7, 20, 2, 3, 21, 22, 23, 24, 9, 10, 11, 12, 25, 26, 27, 28, 29, 30, 31, 32, 33, 34, 35, 36, 37, 38, 39, 40, 41, 42, 43] (by decide +kernel) (by decide +kernel)
set_option maxRecDepth 20000 in
theorem gX7_match_X7_sourceFor : GoodIn wsX7_match (wsV RX7 63 RX7 yX7_sourceFor wsX7_sourceFor) := goodIn_app (goodIn_of _ (by decide +kernel)) ggX7_match_X7_sourceFor
theorem dX7_match_0 : decode cX7_match 0 = .ok (.iconst 0, 1) := by decide +kernel
theorem dX7_match_1 : decode cX7_match 1 = .ok (.istore_n 1, 1) := by decide +kernel
theorem dX7_match_2 : decode cX7_match 2 = .ok (.iload_n 1, 1) := by decide +kernel
theorem dX7_match_3 : decode cX7_match 3 = .ok (.bipush 84, 2) := by decide +kernel
theorem dX7_match_5 : decode cX7_match 5 = .ok (.if_icmp .ge 23, 3) := by decide +kernel
theorem dX7_match_8 : decode cX7_match 8 = .ok (.aload_n 0, 1) := by decide +kernel
theorem dX7_match_9 : decode cX7_match 9 = .ok (.getfield 25, 3) := by decide +kernel
theorem dX7_match_12 : decode cX7_match 12 = .ok (.iload_n 1, 1) := by decide +kernel
theorem dX7_match_13 : decode cX7_match 13 = .ok (.iconst (-1), 1) := by decide +kernel
theorem dX7_match_14 : decode cX7_match 14 = .ok (.iastore, 1) := by decide +kernel
theorem dX7_match_15 : decode cX7_match 15 = .ok (.aload_n 0, 1) := by decide +kernel
theorem dX7_match_16 : decode cX7_match 16 = .ok (.getfield 28, 3) := by decide +kernel
theorem dX7_match_19 : decode cX7_match 19 = .ok (.iload_n 1, 1) := by decide +kernel
theorem dX7_match_20 : decode cX7_match 20 = .ok (.iconst 0, 1) := by decide +kernel
theorem dX7_match_21 : decode cX7_match 21 = .ok (.iastore, 1) := by decide +kernel
theorem dX7_match_22 : decode cX7_match 22 = .ok (.iinc 1 1, 3) := by decide +kernel
theorem dX7_match_25 : decode cX7_match 25 = .ok (.goto (-23), 3) := by decide +kernel
theorem dX7_match_28 : decode cX7_match 28 = .ok (.iconst 1, 1) := by decide +kernel
theorem dX7_match_29 : decode cX7_match 29 = .ok (.istore_n 1, 1) := by decide +kernel
theorem dX7_match_30 : decode cX7_match 30 = .ok (.iconst 0, 1) := by decide +kernel
theorem dX7_match_31 : decode cX7_match 31 = .ok (.istore_n 2, 1) := by decide +kernel
theorem dX7_match_32 : decode cX7_match 32 = .ok (.iload_n 2, 1) := by decide +kernel
theorem dX7_match_33 : decode cX7_match 33 = .ok (.bipush 84, 2) := by decide +kernel
theorem dX7_match_35 : decode cX7_match 35 = .ok (.if_icmp .ge 80, 3) := by decide +kernel
theorem dX7_match_38 : decode cX7_match 38 = .ok (.aload_n 0, 1) := by decide +kernel
theorem dX7_match_39 : decode cX7_match 39 = .ok (.getfield 7, 3) := by decide +kernel
theorem dX7_match_42 : decode cX7_match 42 = .ok (.bipush 89, 2) := by decide +kernel
theorem dX7_match_44 : decode cX7_match 44 = .ok (.iload_n 2, 1) := by decide +kernel
theorem dX7_match_45 : decode cX7_match 45 = .ok (.iadd, 1) := by decide +kernel
theorem dX7_match_46 : decode cX7_match 46 = .ok (.iaload, 1) := by decide +kernel
theorem dX7_match_47 : decode cX7_match 47 = .ok (.istore_n 3, 1) := by decide +kernel
theorem dX7_match_48 : decode cX7_match 48 = .ok (.iload_n 3, 1) := by decide +kernel
theorem dX7_match_49 : decode cX7_match 49 = .ok (.iconst (-1), 1) := by decide +kernel
theorem dX7_match_50 : decode cX7_match 50 = .ok (.if_icmp .eq 59, 3) := by decide +kernel
theorem dX7_match_53 : decode cX7_match 53 = .ok (.aload_n 0, 1) := by decide +kernel
theorem dX7_match_54 : decode cX7_match 54 = .ok (.iload_n 3, 1) := by decide +kernel
theorem dX7_match_55 : decode cX7_match 55 = .ok (.invokevirtual 60, 3) := by decide +kernel
theorem dX7_match_58 : decode cX7_match 58 = .ok (.ifCond .eq 51, 3) := by decide +kernel
theorem dX7_match_61 : decode cX7_match 61 = .ok (.aload_n 0, 1) := by decide +kernel
theorem dX7_match_62 : decode cX7_match 62 = .ok (.iload_n 3, 1) := by decide +kernel
theorem dX7_match_63 : decode cX7_match 63 = .ok (.iload_n 2, 1) := by decide +kernel
theorem dX7_match_64 : decode cX7_match 64 = .ok (.iconst 3, 1) := by decide +kernel
theorem dX7_match_65 : decode cX7_match 65 = .ok (.idiv, 1) := by decide +kernel
theorem dX7_match_66 : decode cX7_match 66 = .ok (.invokevirtual 63, 3) := by decide +kernel
theorem dX7_match_69 : decode cX7_match 69 = .ok (.istore 4, 2) := by decide +kernel
theorem dX7_match_71 : decode cX7_match 71 = .ok (.aload_n 0, 1) := by decide +kernel
theorem dX7_match_72 : decode cX7_match 72 = .ok (.getfield 25, 3) := by decide +kernel
theorem dX7_match_75 : decode cX7_match 75 = .ok (.iload_n 2, 1) := by decide +kernel
theorem dX7_match_76 : decode cX7_match 76 = .ok (.iload 4, 2) := by decide +kernel
theorem dX7_match_78 : decode cX7_match 78 = .ok (.iastore, 1) := by decide +kernel
theorem dX7_match_79 : decode cX7_match 79 = .ok (.iload_n 1, 1) := by decide +kernel
theorem dX7_match_80 : decode cX7_match 80 = .ok (.ifCond .eq 13, 3) := by decide +kernel
theorem dX7_match_83 : decode cX7_match 83 = .ok (.iload 4, 2) := by decide +kernel
theorem dX7_match_85 : decode cX7_match 85 = .ok (.iconst (-1), 1) := by decide +kernel
theorem dX7_match_86 : decode cX7_match 86 = .ok (.if_icmp .eq 7, 3) := by decide +kernel
theorem dX7_match_89 : decode cX7_match 89 = .ok (.iconst 1, 1) := by decide +kernel
theorem dX7_match_90 : decode cX7_match 90 = .ok (.goto 4, 3) := by decide +kernel
theorem dX7_match_93 : decode cX7_match 93 = .ok (.iconst 0, 1) := by decide +kernel
theorem dX7_match_94 : decode cX7_match 94 = .ok (.istore_n 1, 1) := by decide +kernel
theorem dX7_match_95 : decode cX7_match 95 = .ok (.iload 4, 2) := by decide +kernel
theorem dX7_match_97 : decode cX7_match 97 = .ok (.iconst (-1), 1) := by decide +kernel
theorem dX7_match_98 : decode cX7_match 98 = .ok (.if_icmp .eq 11, 3) := by decide +kernel
theorem dX7_match_101 : decode cX7_match 101 = .ok (.aload_n 0, 1) := by decide +kernel
theorem dX7_match_102 : decode cX7_match 102 = .ok (.getfield 28, 3) := by decide +kernel
theorem dX7_match_105 : decode cX7_match 105 = .ok (.iload 4, 2) := by decide +kernel
theorem dX7_match_107 : decode cX7_match 107 = .ok (.iconst 1, 1) := by decide +kernel
theorem dX7_match_108 : decode cX7_match 108 = .ok (.iastore, 1) := by decide +kernel
theorem dX7_match_109 : decode cX7_match 109 = .ok (.iinc 2 1, 3) := by decide +kernel
theorem dX7_match_112 : decode cX7_match 112 = .ok (.goto (-80), 3) := by decide +kernel
theorem dX7_match_115 : decode cX7_match 115 = .ok (.iload_n 1, 1) := by decide +kernel
theorem dX7_match_116 : decode cX7_match 116 = .ok (.ireturn, 1) := by decide +kernel
set_option maxRecDepth 20000 in
theorem ggX7_vetoed_X7_ofGuest : GoodIn wsX7_vetoed wsX7_ofGuest := goodIn_r _ [6, 1, 10, 11, 12, 13, 14, 15, 16, 17, 18, 19, 20, 21, 22, 23, 24] (by decide +kernel) (by decide +kernel)
set_option maxRecDepth 20000 in
theorem gX7_vetoed_X7_ofGuest : GoodIn wsX7_vetoed (wsV RX7 66 RX7 yX7_ofGuest wsX7_ofGuest) := goodIn_app (goodIn_of _ (by decide +kernel)) ggX7_vetoed_X7_ofGuest
set_option maxRecDepth 20000 in
theorem ggX7_vetoed_X7_has : GoodIn wsX7_vetoed wsX7_has := goodIn_r _ [9] (by decide +kernel) (by decide +kernel)
set_option maxRecDepth 20000 in
theorem gX7_vetoed_X7_has : GoodIn wsX7_vetoed (va_wsS RX7 69 yX7_has wsX7_has) := goodIn_app (goodIn_of _ (by decide +kernel)) ggX7_vetoed_X7_has
theorem dX7_vetoed_0 : decode cX7_vetoed 0 = .ok (.iconst 0, 1) := by decide +kernel
theorem dX7_vetoed_1 : decode cX7_vetoed 1 = .ok (.istore_n 2, 1) := by decide +kernel
theorem dX7_vetoed_2 : decode cX7_vetoed 2 = .ok (.iconst 0, 1) := by decide +kernel
theorem dX7_vetoed_3 : decode cX7_vetoed 3 = .ok (.istore_n 3, 1) := by decide +kernel
theorem dX7_vetoed_4 : decode cX7_vetoed 4 = .ok (.iload_n 3, 1) := by decide +kernel
theorem dX7_vetoed_5 : decode cX7_vetoed 5 = .ok (.aload_n 0, 1) := by decide +kernel
theorem dX7_vetoed_6 : decode cX7_vetoed 6 = .ok (.getfield 7, 3) := by decide +kernel
theorem dX7_vetoed_9 : decode cX7_vetoed 9 = .ok (.iconst 4, 1) := by decide +kernel
theorem dX7_vetoed_10 : decode cX7_vetoed 10 = .ok (.iaload, 1) := by decide +kernel
theorem dX7_vetoed_11 : decode cX7_vetoed 11 = .ok (.if_icmp .ge 38, 3) := by decide +kernel
theorem dX7_vetoed_14 : decode cX7_vetoed 14 = .ok (.iload_n 2, 1) := by decide +kernel
theorem dX7_vetoed_15 : decode cX7_vetoed 15 = .ok (.aload_n 0, 1) := by decide +kernel
theorem dX7_vetoed_16 : decode cX7_vetoed 16 = .ok (.iload_n 3, 1) := by decide +kernel
theorem dX7_vetoed_17 : decode cX7_vetoed 17 = .ok (.iconst 0, 1) := by decide +kernel
theorem dX7_vetoed_18 : decode cX7_vetoed 18 = .ok (.invokevirtual 66, 3) := by decide +kernel
theorem dX7_vetoed_21 : decode cX7_vetoed 21 = .ok (.iload_n 1, 1) := by decide +kernel
theorem dX7_vetoed_22 : decode cX7_vetoed 22 = .ok (.bipush 7, 2) := by decide +kernel
theorem dX7_vetoed_24 : decode cX7_vetoed 24 = .ok (.irem, 1) := by decide +kernel
theorem dX7_vetoed_25 : decode cX7_vetoed 25 = .ok (.invokestatic 69, 3) := by decide +kernel
theorem dX7_vetoed_28 : decode cX7_vetoed 28 = .ok (.ifCond .eq 12, 3) := by decide +kernel
theorem dX7_vetoed_31 : decode cX7_vetoed 31 = .ok (.aload_n 0, 1) := by decide +kernel
theorem dX7_vetoed_32 : decode cX7_vetoed 32 = .ok (.iload_n 3, 1) := by decide +kernel
theorem dX7_vetoed_33 : decode cX7_vetoed 33 = .ok (.iconst 1, 1) := by decide +kernel
theorem dX7_vetoed_34 : decode cX7_vetoed 34 = .ok (.invokevirtual 66, 3) := by decide +kernel
theorem dX7_vetoed_37 : decode cX7_vetoed 37 = .ok (.goto 4, 3) := by decide +kernel
theorem dX7_vetoed_40 : decode cX7_vetoed 40 = .ok (.iconst 0, 1) := by decide +kernel
theorem dX7_vetoed_41 : decode cX7_vetoed 41 = .ok (.ior, 1) := by decide +kernel
theorem dX7_vetoed_42 : decode cX7_vetoed 42 = .ok (.istore_n 2, 1) := by decide +kernel
theorem dX7_vetoed_43 : decode cX7_vetoed 43 = .ok (.iinc 3 1, 3) := by decide +kernel
theorem dX7_vetoed_46 : decode cX7_vetoed 46 = .ok (.goto (-42), 3) := by decide +kernel
theorem dX7_vetoed_49 : decode cX7_vetoed 49 = .ok (.iload_n 2, 1) := by decide +kernel
theorem dX7_vetoed_50 : decode cX7_vetoed 50 = .ok (.ireturn, 1) := by decide +kernel
set_option maxRecDepth 20000 in
theorem ggX7_isVetoed_X7_vetoed : GoodIn wsX7_isVetoed wsX7_vetoed := goodIn_r _ [5, 6, 7, 8, 9, 4, 10, 11, 12, 13, 18, 19, 20, 21, 22, 23, 24, 25, 26, 27, 28, 29, 30, 31, 32] (by decide +kernel) (by decide +kernel)
set_option maxRecDepth 20000 in
theorem gX7_isVetoed_X7_vetoed : GoodIn wsX7_isVetoed (wsV RX7 73 RX7 yX7_vetoed wsX7_vetoed) := goodIn_app (goodIn_of _ (by decide +kernel)) ggX7_isVetoed_X7_vetoed
set_option maxRecDepth 20000 in
theorem ggX7_isVetoed_X7_of : GoodIn wsX7_isVetoed wsX7_of := goodIn_r _ [17, 6, 18, 19, 20, 21, 22, 23, 24, 25, 26, 27, 28, 29, 30, 31, 32] (by decide +kernel) (by decide +kernel)
set_option maxRecDepth 20000 in
theorem gX7_isVetoed_X7_of : GoodIn wsX7_isVetoed (wsV RX7 45 RX7 yX7_of wsX7_of) := goodIn_app (goodIn_of _ (by decide +kernel)) ggX7_isVetoed_X7_of
set_option maxRecDepth 20000 in
theorem ggX7_isVetoed_X7_has : GoodIn wsX7_isVetoed wsX7_has := goodIn_r _ [13] (by decide +kernel) (by decide +kernel)
set_option maxRecDepth 20000 in
theorem gX7_isVetoed_X7_has : GoodIn wsX7_isVetoed (va_wsS RX7 69 yX7_has wsX7_has) := goodIn_app (goodIn_of _ (by decide +kernel)) ggX7_isVetoed_X7_has
theorem dX7_isVetoed_0 : decode cX7_isVetoed 0 = .ok (.aload_n 0, 1) := by decide +kernel
theorem dX7_isVetoed_1 : decode cX7_isVetoed 1 = .ok (.iload_n 1, 1) := by decide +kernel
theorem dX7_isVetoed_2 : decode cX7_isVetoed 2 = .ok (.invokevirtual 73, 3) := by decide +kernel
theorem dX7_isVetoed_5 : decode cX7_isVetoed 5 = .ok (.aload_n 0, 1) := by decide +kernel
theorem dX7_isVetoed_6 : decode cX7_isVetoed 6 = .ok (.iload_n 2, 1) := by decide +kernel
theorem dX7_isVetoed_7 : decode cX7_isVetoed 7 = .ok (.iconst 2, 1) := by decide +kernel
theorem dX7_isVetoed_8 : decode cX7_isVetoed 8 = .ok (.invokevirtual 45, 3) := by decide +kernel
theorem dX7_isVetoed_11 : decode cX7_isVetoed 11 = .ok (.invokestatic 69, 3) := by decide +kernel
theorem dX7_isVetoed_14 : decode cX7_isVetoed 14 = .ok (.ireturn, 1) := by decide +kernel
set_option maxRecDepth 20000 in
theorem ggX7_someVetoed_X7_isVetoed : GoodIn wsX7_someVetoed wsX7_isVetoed := goodIn_r _ [6, 7, 8, 9, 5, 10, 1, 11, 12, 13, 14, 15, 16, 17, 18, 19, 20, 21, 22, 23, 24, 25, 26, 27, 28, 29, 30, 31, 32, 33, 34, 35, 36] (by decide +kernel) (by decide +kernel)
set_option maxRecDepth 20000 in
theorem gX7_someVetoed_X7_isVetoed : GoodIn wsX7_someVetoed (wsV RX7 76 RX7 yX7_isVetoed wsX7_isVetoed) := goodIn_app (goodIn_of _ (by decide +kernel)) ggX7_someVetoed_X7_isVetoed
theorem dX7_someVetoed_0 : decode cX7_someVetoed 0 = .ok (.iconst 0, 1) := by decide +kernel
theorem dX7_someVetoed_1 : decode cX7_someVetoed 1 = .ok (.istore_n 1, 1) := by decide +kernel
theorem dX7_someVetoed_2 : decode cX7_someVetoed 2 = .ok (.iconst 0, 1) := by decide +kernel
theorem dX7_someVetoed_3 : decode cX7_someVetoed 3 = .ok (.istore_n 2, 1) := by decide +kernel
theorem dX7_someVetoed_4 : decode cX7_someVetoed 4 = .ok (.iload_n 2, 1) := by decide +kernel
theorem dX7_someVetoed_5 : decode cX7_someVetoed 5 = .ok (.bipush 84, 2) := by decide +kernel
theorem dX7_someVetoed_7 : decode cX7_someVetoed 7 = .ok (.if_icmp .ge 51, 3) := by decide +kernel
theorem dX7_someVetoed_10 : decode cX7_someVetoed 10 = .ok (.iload_n 1, 1) := by decide +kernel
theorem dX7_someVetoed_11 : decode cX7_someVetoed 11 = .ok (.ifCond .ne 35, 3) := by decide +kernel
theorem dX7_someVetoed_14 : decode cX7_someVetoed 14 = .ok (.aload_n 0, 1) := by decide +kernel
theorem dX7_someVetoed_15 : decode cX7_someVetoed 15 = .ok (.getfield 7, 3) := by decide +kernel
theorem dX7_someVetoed_18 : decode cX7_someVetoed 18 = .ok (.bipush 89, 2) := by decide +kernel
theorem dX7_someVetoed_20 : decode cX7_someVetoed 20 = .ok (.iload_n 2, 1) := by decide +kernel
theorem dX7_someVetoed_21 : decode cX7_someVetoed 21 = .ok (.iadd, 1) := by decide +kernel
theorem dX7_someVetoed_22 : decode cX7_someVetoed 22 = .ok (.iaload, 1) := by decide +kernel
theorem dX7_someVetoed_23 : decode cX7_someVetoed 23 = .ok (.iconst (-1), 1) := by decide +kernel
theorem dX7_someVetoed_24 : decode cX7_someVetoed 24 = .ok (.if_icmp .eq 26, 3) := by decide +kernel
theorem dX7_someVetoed_27 : decode cX7_someVetoed 27 = .ok (.aload_n 0, 1) := by decide +kernel
theorem dX7_someVetoed_28 : decode cX7_someVetoed 28 = .ok (.iload_n 2, 1) := by decide +kernel
theorem dX7_someVetoed_29 : decode cX7_someVetoed 29 = .ok (.iconst 3, 1) := by decide +kernel
theorem dX7_someVetoed_30 : decode cX7_someVetoed 30 = .ok (.idiv, 1) := by decide +kernel
theorem dX7_someVetoed_31 : decode cX7_someVetoed 31 = .ok (.aload_n 0, 1) := by decide +kernel
theorem dX7_someVetoed_32 : decode cX7_someVetoed 32 = .ok (.getfield 7, 3) := by decide +kernel
theorem dX7_someVetoed_35 : decode cX7_someVetoed 35 = .ok (.bipush 89, 2) := by decide +kernel
theorem dX7_someVetoed_37 : decode cX7_someVetoed 37 = .ok (.iload_n 2, 1) := by decide +kernel
theorem dX7_someVetoed_38 : decode cX7_someVetoed 38 = .ok (.iadd, 1) := by decide +kernel
theorem dX7_someVetoed_39 : decode cX7_someVetoed 39 = .ok (.iaload, 1) := by decide +kernel
theorem dX7_someVetoed_40 : decode cX7_someVetoed 40 = .ok (.invokevirtual 76, 3) := by decide +kernel
theorem dX7_someVetoed_43 : decode cX7_someVetoed 43 = .ok (.ifCond .eq 7, 3) := by decide +kernel
theorem dX7_someVetoed_46 : decode cX7_someVetoed 46 = .ok (.iconst 1, 1) := by decide +kernel
theorem dX7_someVetoed_47 : decode cX7_someVetoed 47 = .ok (.goto 4, 3) := by decide +kernel
theorem dX7_someVetoed_50 : decode cX7_someVetoed 50 = .ok (.iconst 0, 1) := by decide +kernel
theorem dX7_someVetoed_51 : decode cX7_someVetoed 51 = .ok (.istore_n 1, 1) := by decide +kernel
theorem dX7_someVetoed_52 : decode cX7_someVetoed 52 = .ok (.iinc 2 1, 3) := by decide +kernel
theorem dX7_someVetoed_55 : decode cX7_someVetoed 55 = .ok (.goto (-51), 3) := by decide +kernel
theorem dX7_someVetoed_58 : decode cX7_someVetoed 58 = .ok (.iload_n 1, 1) := by decide +kernel
theorem dX7_someVetoed_59 : decode cX7_someVetoed 59 = .ok (.ireturn, 1) := by decide +kernel
set_option maxRecDepth 20000 in
theorem ggX7_costOf_X7_at : GoodIn wsX7_costOf wsX7_at := goodIn_r _ [5, 6, 11, 12, 13, 14, 15, 16, 17, 18, 19, 20, 21, 22, 23, 24, 25] (by decide +kernel) (by decide +kernel)
set_option maxRecDepth 20000 in
theorem gX7_costOf_X7_at : GoodIn wsX7_costOf (wsV RX7 79 RX7 yX7_at wsX7_at) := goodIn_app (goodIn_of _ (by decide +kernel)) ggX7_costOf_X7_at
set_option maxRecDepth 20000 in
theorem ggX7_costOf_X7_of : GoodIn wsX7_costOf wsX7_of := goodIn_r _ [10, 6, 11, 12, 13, 14, 15, 16, 17, 18, 19, 20, 21, 22, 23, 24, 25] (by decide +kernel) (by decide +kernel)
set_option maxRecDepth 20000 in
theorem gX7_costOf_X7_of : GoodIn wsX7_costOf (wsV RX7 45 RX7 yX7_of wsX7_of) := goodIn_app (goodIn_of _ (by decide +kernel)) ggX7_costOf_X7_of
theorem dX7_costOf_0 : decode cX7_costOf 0 = .ok (.iconst 0, 1) := by decide +kernel
theorem dX7_costOf_1 : decode cX7_costOf 1 = .ok (.istore_n 2, 1) := by decide +kernel
theorem dX7_costOf_2 : decode cX7_costOf 2 = .ok (.iconst 0, 1) := by decide +kernel
theorem dX7_costOf_3 : decode cX7_costOf 3 = .ok (.istore_n 3, 1) := by decide +kernel
theorem dX7_costOf_4 : decode cX7_costOf 4 = .ok (.iload_n 3, 1) := by decide +kernel
theorem dX7_costOf_5 : decode cX7_costOf 5 = .ok (.iconst 3, 1) := by decide +kernel
theorem dX7_costOf_6 : decode cX7_costOf 6 = .ok (.if_icmp .ge 37, 3) := by decide +kernel
theorem dX7_costOf_9 : decode cX7_costOf 9 = .ok (.iload_n 2, 1) := by decide +kernel
theorem dX7_costOf_10 : decode cX7_costOf 10 = .ok (.aload_n 0, 1) := by decide +kernel
theorem dX7_costOf_11 : decode cX7_costOf 11 = .ok (.iload_n 1, 1) := by decide +kernel
theorem dX7_costOf_12 : decode cX7_costOf 12 = .ok (.iload_n 3, 1) := by decide +kernel
theorem dX7_costOf_13 : decode cX7_costOf 13 = .ok (.invokevirtual 79, 3) := by decide +kernel
theorem dX7_costOf_16 : decode cX7_costOf 16 = .ok (.iconst (-1), 1) := by decide +kernel
theorem dX7_costOf_17 : decode cX7_costOf 17 = .ok (.if_icmp .ne 7, 3) := by decide +kernel
theorem dX7_costOf_20 : decode cX7_costOf 20 = .ok (.iconst 0, 1) := by decide +kernel
theorem dX7_costOf_21 : decode cX7_costOf 21 = .ok (.goto 14, 3) := by decide +kernel
theorem dX7_costOf_24 : decode cX7_costOf 24 = .ok (.aload_n 0, 1) := by decide +kernel
theorem dX7_costOf_25 : decode cX7_costOf 25 = .ok (.aload_n 0, 1) := by decide +kernel
theorem dX7_costOf_26 : decode cX7_costOf 26 = .ok (.iload_n 1, 1) := by decide +kernel
theorem dX7_costOf_27 : decode cX7_costOf 27 = .ok (.iload_n 3, 1) := by decide +kernel
theorem dX7_costOf_28 : decode cX7_costOf 28 = .ok (.invokevirtual 79, 3) := by decide +kernel
theorem dX7_costOf_31 : decode cX7_costOf 31 = .ok (.iconst 1, 1) := by decide +kernel
theorem dX7_costOf_32 : decode cX7_costOf 32 = .ok (.invokevirtual 45, 3) := by decide +kernel
theorem dX7_costOf_35 : decode cX7_costOf 35 = .ok (.iadd, 1) := by decide +kernel
theorem dX7_costOf_36 : decode cX7_costOf 36 = .ok (.istore_n 2, 1) := by decide +kernel
theorem dX7_costOf_37 : decode cX7_costOf 37 = .ok (.iinc 3 1, 3) := by decide +kernel
theorem dX7_costOf_40 : decode cX7_costOf 40 = .ok (.goto (-36), 3) := by decide +kernel
theorem dX7_costOf_43 : decode cX7_costOf 43 = .ok (.iload_n 2, 1) := by decide +kernel
theorem dX7_costOf_44 : decode cX7_costOf 44 = .ok (.ireturn, 1) := by decide +kernel
set_option maxRecDepth 20000 in
theorem ggX7_weekCost_X7_costOf : GoodIn wsX7_weekCost wsX7_costOf := goodIn_r _ [5, 6, 7, 8, 4, 9, 10, 11, 12, 13, 14, 15, 16, 17, 18, 19, 20, 21, 22, 23, 24, 25, 26, 27, 28, 29] (by decide +kernel) (by decide +kernel)
set_option maxRecDepth 20000 in
theorem gX7_weekCost_X7_costOf : GoodIn wsX7_weekCost (wsV RX7 82 RX7 yX7_costOf wsX7_costOf) := goodIn_app (goodIn_of _ (by decide +kernel)) ggX7_weekCost_X7_costOf
theorem dX7_weekCost_0 : decode cX7_weekCost 0 = .ok (.iconst 0, 1) := by decide +kernel
theorem dX7_weekCost_1 : decode cX7_weekCost 1 = .ok (.istore_n 2, 1) := by decide +kernel
theorem dX7_weekCost_2 : decode cX7_weekCost 2 = .ok (.bipush 7, 2) := by decide +kernel
theorem dX7_weekCost_4 : decode cX7_weekCost 4 = .ok (.iload_n 1, 1) := by decide +kernel
theorem dX7_weekCost_5 : decode cX7_weekCost 5 = .ok (.imul, 1) := by decide +kernel
theorem dX7_weekCost_6 : decode cX7_weekCost 6 = .ok (.istore_n 3, 1) := by decide +kernel
theorem dX7_weekCost_7 : decode cX7_weekCost 7 = .ok (.iload_n 3, 1) := by decide +kernel
theorem dX7_weekCost_8 : decode cX7_weekCost 8 = .ok (.bipush 7, 2) := by decide +kernel
theorem dX7_weekCost_10 : decode cX7_weekCost 10 = .ok (.iload_n 1, 1) := by decide +kernel
theorem dX7_weekCost_11 : decode cX7_weekCost 11 = .ok (.imul, 1) := by decide +kernel
theorem dX7_weekCost_12 : decode cX7_weekCost 12 = .ok (.bipush 7, 2) := by decide +kernel
theorem dX7_weekCost_14 : decode cX7_weekCost 14 = .ok (.iadd, 1) := by decide +kernel
theorem dX7_weekCost_15 : decode cX7_weekCost 15 = .ok (.if_icmp .ge 17, 3) := by decide +kernel
theorem dX7_weekCost_18 : decode cX7_weekCost 18 = .ok (.iload_n 2, 1) := by decide +kernel
theorem dX7_weekCost_19 : decode cX7_weekCost 19 = .ok (.aload_n 0, 1) := by decide +kernel
theorem dX7_weekCost_20 : decode cX7_weekCost 20 = .ok (.iload_n 3, 1) := by decide +kernel
theorem dX7_weekCost_21 : decode cX7_weekCost 21 = .ok (.invokevirtual 82, 3) := by decide +kernel
theorem dX7_weekCost_24 : decode cX7_weekCost 24 = .ok (.iadd, 1) := by decide +kernel
theorem dX7_weekCost_25 : decode cX7_weekCost 25 = .ok (.istore_n 2, 1) := by decide +kernel
theorem dX7_weekCost_26 : decode cX7_weekCost 26 = .ok (.iinc 3 1, 3) := by decide +kernel
theorem dX7_weekCost_29 : decode cX7_weekCost 29 = .ok (.goto (-22), 3) := by decide +kernel
theorem dX7_weekCost_32 : decode cX7_weekCost 32 = .ok (.iload_n 2, 1) := by decide +kernel
theorem dX7_weekCost_33 : decode cX7_weekCost 33 = .ok (.ireturn, 1) := by decide +kernel
set_option maxRecDepth 20000 in
theorem ggX7_isDear_X7_weekCost : GoodIn wsX7_isDear wsX7_weekCost := goodIn_r _ [5, 6, 7, 8, 4, 9, 10, 11, 12, 13, 14, 15, 16, 17, 18, 19, 20, 21, 22, 23, 24, 25, 26, 27, 28, 29, 30, 31, 32, 33] (by decide +kernel) (by decide +kernel)
set_option maxRecDepth 20000 in
theorem gX7_isDear_X7_weekCost : GoodIn wsX7_isDear (wsV RX7 85 RX7 yX7_weekCost wsX7_weekCost) := goodIn_app (goodIn_of _ (by decide +kernel)) ggX7_isDear_X7_weekCost
theorem dX7_isDear_0 : decode cX7_isDear 0 = .ok (.iconst 0, 1) := by decide +kernel
theorem dX7_isDear_1 : decode cX7_isDear 1 = .ok (.istore_n 2, 1) := by decide +kernel
theorem dX7_isDear_2 : decode cX7_isDear 2 = .ok (.iconst 0, 1) := by decide +kernel
theorem dX7_isDear_3 : decode cX7_isDear 3 = .ok (.istore_n 3, 1) := by decide +kernel
theorem dX7_isDear_4 : decode cX7_isDear 4 = .ok (.iload_n 3, 1) := by decide +kernel
theorem dX7_isDear_5 : decode cX7_isDear 5 = .ok (.iconst 4, 1) := by decide +kernel
theorem dX7_isDear_6 : decode cX7_isDear 6 = .ok (.if_icmp .ge 28, 3) := by decide +kernel
theorem dX7_isDear_9 : decode cX7_isDear 9 = .ok (.iload_n 2, 1) := by decide +kernel
theorem dX7_isDear_10 : decode cX7_isDear 10 = .ok (.ifCond .ne 12, 3) := by decide +kernel
theorem dX7_isDear_13 : decode cX7_isDear 13 = .ok (.aload_n 0, 1) := by decide +kernel
theorem dX7_isDear_14 : decode cX7_isDear 14 = .ok (.iload_n 3, 1) := by decide +kernel
theorem dX7_isDear_15 : decode cX7_isDear 15 = .ok (.invokevirtual 85, 3) := by decide +kernel
theorem dX7_isDear_18 : decode cX7_isDear 18 = .ok (.iload_n 1, 1) := by decide +kernel
theorem dX7_isDear_19 : decode cX7_isDear 19 = .ok (.if_icmp .le 7, 3) := by decide +kernel
theorem dX7_isDear_22 : decode cX7_isDear 22 = .ok (.iconst 1, 1) := by decide +kernel
theorem dX7_isDear_23 : decode cX7_isDear 23 = .ok (.goto 4, 3) := by decide +kernel
theorem dX7_isDear_26 : decode cX7_isDear 26 = .ok (.iconst 0, 1) := by decide +kernel
theorem dX7_isDear_27 : decode cX7_isDear 27 = .ok (.istore_n 2, 1) := by decide +kernel
theorem dX7_isDear_28 : decode cX7_isDear 28 = .ok (.iinc 3 1, 3) := by decide +kernel
theorem dX7_isDear_31 : decode cX7_isDear 31 = .ok (.goto (-27), 3) := by decide +kernel
theorem dX7_isDear_34 : decode cX7_isDear 34 = .ok (.iload_n 2, 1) := by decide +kernel
theorem dX7_isDear_35 : decode cX7_isDear 35 = .ok (.ireturn, 1) := by decide +kernel
set_option maxRecDepth 20000 in
theorem ggX7_isGood_X7_someVetoed : GoodIn wsX7_isGood wsX7_someVetoed := goodIn_r _ [6, 1, 7, 8, 9, 5, 10, 11, 12, 13, 14, 15, 16, 17, 18, 19, 20, 21, 22, 23, 24, 25, 68, 69, 70, 71, 72, 73, 74, 75, 76, 77, 78, 79, 80, 81, 82] (by decide +kernel) (by decide +kernel)
set_option maxRecDepth 20000 in
theorem gX7_isGood_X7_someVetoed : GoodIn wsX7_isGood (wsV RX7 88 RX7 yX7_someVetoed wsX7_someVetoed) := goodIn_app (goodIn_of _ (by decide +kernel)) ggX7_isGood_X7_someVetoed
set_option maxRecDepth 20000 in
theorem ggX7_isGood_X7_isDear : GoodIn wsX7_isGood wsX7_isDear := goodIn_r _ [29, 30, 31, 32, 5, 33, 34, 35, 36, 37, 38, 39, 40, 41, 1, 22, 23, 24, 25, 68, 69, 70, 71, 72, 73, 74, 75, 76, 77, 78, 79, 80, 81, 82] (by decide +kernel) (by decide +kernel)
set_option maxRecDepth 20000 in
theorem gX7_isGood_X7_isDear : GoodIn wsX7_isGood (wsV RX7 92 RX7 yX7_isDear wsX7_isDear) := goodIn_app (goodIn_of _ (by decide +kernel)) ggX7_isGood_X7_isDear
set_option maxRecDepth 20000 in
theorem ggX7_isGood_X7_match : GoodIn wsX7_isGood wsX7_match := goodIn_r _ [45, 46, 47, 1, 48, 49, 50, 5, 51, 22, 23, 24, 25, 52, 53, 54, 55, 56, 57, 58, 59, 60, 61, 62, 63, 64, 65, 66, 67, 68, 69, 70, 71, 72, 73, 74, 75, 76, 77, 78, 79, 80, 81, 82] (by decide +kernel) (by decide +kernel)
set_option maxRecDepth 20000 in
theorem gX7_isGood_X7_match : GoodIn wsX7_isGood (wsV RX7 95 RX7 yX7_match wsX7_match) := goodIn_app (goodIn_of _ (by decide +kernel)) ggX7_isGood_X7_match
theorem dX7_isGood_0 : decode cX7_isGood 0 = .ok (.aload_n 0, 1) := by decide +kernel
theorem dX7_isGood_1 : decode cX7_isGood 1 = .ok (.invokevirtual 88, 3) := by decide +kernel
theorem dX7_isGood_4 : decode cX7_isGood 4 = .ok (.ifCond .ne 27, 3) := by decide +kernel
theorem dX7_isGood_7 : decode cX7_isGood 7 = .ok (.aload_n 0, 1) := by decide +kernel
theorem dX7_isGood_8 : decode cX7_isGood 8 = .ok (.aload_n 0, 1) := by decide +kernel
theorem dX7_isGood_9 : decode cX7_isGood 9 = .ok (.getfield 7, 3) := by decide +kernel
theorem dX7_isGood_12 : decode cX7_isGood 12 = .ok (.iconst 2, 1) := by decide +kernel
theorem dX7_isGood_13 : decode cX7_isGood 13 = .ok (.iaload, 1) := by decide +kernel
theorem dX7_isGood_14 : decode cX7_isGood 14 = .ok (.invokevirtual 92, 3) := by decide +kernel
theorem dX7_isGood_17 : decode cX7_isGood 17 = .ok (.ifCond .ne 14, 3) := by decide +kernel
theorem dX7_isGood_20 : decode cX7_isGood 20 = .ok (.aload_n 0, 1) := by decide +kernel
theorem dX7_isGood_21 : decode cX7_isGood 21 = .ok (.invokevirtual 95, 3) := by decide +kernel
theorem dX7_isGood_24 : decode cX7_isGood 24 = .ok (.ifCond .eq 7, 3) := by decide +kernel
theorem dX7_isGood_27 : decode cX7_isGood 27 = .ok (.iconst 1, 1) := by decide +kernel
theorem dX7_isGood_28 : decode cX7_isGood 28 = .ok (.goto 4, 3) := by decide +kernel
theorem dX7_isGood_31 : decode cX7_isGood 31 = .ok (.iconst 0, 1) := by decide +kernel
theorem dX7_isGood_32 : decode cX7_isGood 32 = .ok (.ireturn, 1) := by decide +kernel
set_option maxRecDepth 20000 in
theorem ggX7_joyNow_X7_of : GoodIn wsX7_joyNow wsX7_of := goodIn_r _ [6, 1, 7, 8, 9, 10, 11, 12, 13, 14, 15, 16, 17, 18, 19, 20, 21] (by decide +kernel) (by decide +kernel)
set_option maxRecDepth 20000 in
theorem gX7_joyNow_X7_of : GoodIn wsX7_joyNow (wsV RX7 45 RX7 yX7_of wsX7_of) := goodIn_app (goodIn_of _ (by decide +kernel)) ggX7_joyNow_X7_of
theorem dX7_joyNow_0 : decode cX7_joyNow 0 = .ok (.iconst 3, 1) := by decide +kernel
theorem dX7_joyNow_1 : decode cX7_joyNow 1 = .ok (.iload_n 1, 1) := by decide +kernel
theorem dX7_joyNow_2 : decode cX7_joyNow 2 = .ok (.aload_n 0, 1) := by decide +kernel
theorem dX7_joyNow_3 : decode cX7_joyNow 3 = .ok (.getfield 7, 3) := by decide +kernel
theorem dX7_joyNow_6 : decode cX7_joyNow 6 = .ok (.iconst 1, 1) := by decide +kernel
theorem dX7_joyNow_7 : decode cX7_joyNow 7 = .ok (.iaload, 1) := by decide +kernel
theorem dX7_joyNow_8 : decode cX7_joyNow 8 = .ok (.isub, 1) := by decide +kernel
theorem dX7_joyNow_9 : decode cX7_joyNow 9 = .ok (.imul, 1) := by decide +kernel
theorem dX7_joyNow_10 : decode cX7_joyNow 10 = .ok (.istore_n 3, 1) := by decide +kernel
theorem dX7_joyNow_11 : decode cX7_joyNow 11 = .ok (.iconst 0, 1) := by decide +kernel
theorem dX7_joyNow_12 : decode cX7_joyNow 12 = .ok (.istore 4, 2) := by decide +kernel
theorem dX7_joyNow_14 : decode cX7_joyNow 14 = .ok (.iload_n 3, 1) := by decide +kernel
theorem dX7_joyNow_15 : decode cX7_joyNow 15 = .ok (.ifCond .ge 7, 3) := by decide +kernel
theorem dX7_joyNow_18 : decode cX7_joyNow 18 = .ok (.iconst 0, 1) := by decide +kernel
theorem dX7_joyNow_19 : decode cX7_joyNow 19 = .ok (.goto 4, 3) := by decide +kernel
theorem dX7_joyNow_22 : decode cX7_joyNow 22 = .ok (.iload_n 3, 1) := by decide +kernel
theorem dX7_joyNow_23 : decode cX7_joyNow 23 = .ok (.istore 5, 2) := by decide +kernel
theorem dX7_joyNow_25 : decode cX7_joyNow 25 = .ok (.iload 5, 2) := by decide +kernel
theorem dX7_joyNow_27 : decode cX7_joyNow 27 = .ok (.iconst 3, 1) := by decide +kernel
theorem dX7_joyNow_28 : decode cX7_joyNow 28 = .ok (.iload_n 1, 1) := by decide +kernel
theorem dX7_joyNow_29 : decode cX7_joyNow 29 = .ok (.imul, 1) := by decide +kernel
theorem dX7_joyNow_30 : decode cX7_joyNow 30 = .ok (.if_icmp .ge 57, 3) := by decide +kernel
theorem dX7_joyNow_33 : decode cX7_joyNow 33 = .ok (.iload 4, 2) := by decide +kernel
theorem dX7_joyNow_35 : decode cX7_joyNow 35 = .ok (.aload_n 0, 1) := by decide +kernel
theorem dX7_joyNow_36 : decode cX7_joyNow 36 = .ok (.getfield 7, 3) := by decide +kernel
theorem dX7_joyNow_39 : decode cX7_joyNow 39 = .ok (.bipush 89, 2) := by decide +kernel
theorem dX7_joyNow_41 : decode cX7_joyNow 41 = .ok (.iload 5, 2) := by decide +kernel
theorem dX7_joyNow_43 : decode cX7_joyNow 43 = .ok (.iadd, 1) := by decide +kernel
theorem dX7_joyNow_44 : decode cX7_joyNow 44 = .ok (.iaload, 1) := by decide +kernel
theorem dX7_joyNow_45 : decode cX7_joyNow 45 = .ok (.iconst (-1), 1) := by decide +kernel
