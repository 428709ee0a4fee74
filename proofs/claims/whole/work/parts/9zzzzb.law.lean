/-! printed by wip/wlaw.py: the law -/
theorem dm_L_18 : mj_dec code 18 = some (.iload_n 3, 1) := by decide +kernel
theorem dm_L_19 : mj_dec code 19 = some (.aload_n 0, 1) := by decide +kernel
theorem dm_L_20 : mj_dec code 20 = some (.arraylength, 1) := by decide +kernel
theorem dm_L_21 : mj_dec code 21 = some (.bipush 6, 2) := by decide +kernel
theorem dm_L_23 : mj_dec code 23 = some (.isub, 1) := by decide +kernel
theorem dm_L_24 : mj_dec code 24 = some (.if_icmp .gt 432, 3) := by decide +kernel
theorem dm_L_27 : mj_dec code 27 = some (.aload_n 0, 1) := by decide +kernel
theorem dm_L_28 : mj_dec code 28 = some (.iload_n 3, 1) := by decide +kernel
theorem dm_L_29 : mj_dec code 29 = some (.iaload, 1) := by decide +kernel
theorem dm_L_30 : mj_dec code 30 = some (.bipush 15, 2) := by decide +kernel
theorem dm_L_32 : mj_dec code 32 = some (.iand, 1) := by decide +kernel
theorem dm_L_33 : mj_dec code 33 = some (.tableswitch 417 0 12 #[67, 130, 153, 176, 209, 222, 245, 269, 282, 305, 328, 351, 374], 67) := by decide +kernel
theorem dm_L_100 : mj_dec code 100 = some (.aload_n 1, 1) := by decide +kernel
theorem dm_L_101 : mj_dec code 101 = some (.aload_n 0, 1) := by decide +kernel
theorem dm_L_102 : mj_dec code 102 = some (.iload_n 3, 1) := by decide +kernel
theorem dm_L_103 : mj_dec code 103 = some (.iconst 1, 1) := by decide +kernel
theorem dm_L_104 : mj_dec code 104 = some (.iadd, 1) := by decide +kernel
theorem dm_L_105 : mj_dec code 105 = some (.iaload, 1) := by decide +kernel
theorem dm_L_106 : mj_dec code 106 = some (.aload_n 0, 1) := by decide +kernel
theorem dm_L_107 : mj_dec code 107 = some (.iload_n 3, 1) := by decide +kernel
theorem dm_L_108 : mj_dec code 108 = some (.iconst 2, 1) := by decide +kernel
theorem dm_L_109 : mj_dec code 109 = some (.iadd, 1) := by decide +kernel
theorem dm_L_110 : mj_dec code 110 = some (.iaload, 1) := by decide +kernel
theorem dm_L_111 : mj_dec code 111 = some (.aload_n 0, 1) := by decide +kernel
theorem dm_L_112 : mj_dec code 112 = some (.iload_n 3, 1) := by decide +kernel
theorem dm_L_113 : mj_dec code 113 = some (.iconst 3, 1) := by decide +kernel
theorem dm_L_114 : mj_dec code 114 = some (.iadd, 1) := by decide +kernel
theorem dm_L_115 : mj_dec code 115 = some (.iaload, 1) := by decide +kernel
theorem dm_L_116 : mj_dec code 116 = some (.aload_n 0, 1) := by decide +kernel
theorem dm_L_117 : mj_dec code 117 = some (.iload_n 3, 1) := by decide +kernel
theorem dm_L_118 : mj_dec code 118 = some (.iconst 4, 1) := by decide +kernel
theorem dm_L_119 : mj_dec code 119 = some (.iadd, 1) := by decide +kernel
theorem dm_L_120 : mj_dec code 120 = some (.iaload, 1) := by decide +kernel
theorem dm_L_121 : mj_dec code 121 = some (.aload_n 0, 1) := by decide +kernel
theorem dm_L_122 : mj_dec code 122 = some (.iload_n 3, 1) := by decide +kernel
theorem dm_L_123 : mj_dec code 123 = some (.iconst 5, 1) := by decide +kernel
theorem dm_L_124 : mj_dec code 124 = some (.iadd, 1) := by decide +kernel
theorem dm_L_125 : mj_dec code 125 = some (.iaload, 1) := by decide +kernel
theorem dm_L_126 : mj_dec code 126 = some (.invokevirtual 13, 3) := by decide +kernel
theorem dm_L_129 : mj_dec code 129 = some (.aload_n 2, 1) := by decide +kernel
theorem dm_L_130 : mj_dec code 130 = some (.aload_n 0, 1) := by decide +kernel
theorem dm_L_131 : mj_dec code 131 = some (.iload_n 3, 1) := by decide +kernel
theorem dm_L_132 : mj_dec code 132 = some (.iconst 1, 1) := by decide +kernel
theorem dm_L_133 : mj_dec code 133 = some (.iadd, 1) := by decide +kernel
theorem dm_L_134 : mj_dec code 134 = some (.iaload, 1) := by decide +kernel
theorem dm_L_135 : mj_dec code 135 = some (.aload_n 0, 1) := by decide +kernel
theorem dm_L_136 : mj_dec code 136 = some (.iload_n 3, 1) := by decide +kernel
theorem dm_L_137 : mj_dec code 137 = some (.iconst 2, 1) := by decide +kernel
theorem dm_L_138 : mj_dec code 138 = some (.iadd, 1) := by decide +kernel
theorem dm_L_139 : mj_dec code 139 = some (.iaload, 1) := by decide +kernel
theorem dm_L_140 : mj_dec code 140 = some (.aload_n 0, 1) := by decide +kernel
theorem dm_L_141 : mj_dec code 141 = some (.iload_n 3, 1) := by decide +kernel
theorem dm_L_142 : mj_dec code 142 = some (.iconst 3, 1) := by decide +kernel
theorem dm_L_143 : mj_dec code 143 = some (.iadd, 1) := by decide +kernel
theorem dm_L_144 : mj_dec code 144 = some (.iaload, 1) := by decide +kernel
theorem dm_L_145 : mj_dec code 145 = some (.aload_n 0, 1) := by decide +kernel
theorem dm_L_146 : mj_dec code 146 = some (.iload_n 3, 1) := by decide +kernel
theorem dm_L_147 : mj_dec code 147 = some (.iconst 4, 1) := by decide +kernel
theorem dm_L_148 : mj_dec code 148 = some (.iadd, 1) := by decide +kernel
theorem dm_L_149 : mj_dec code 149 = some (.iaload, 1) := by decide +kernel
theorem dm_L_150 : mj_dec code 150 = some (.aload_n 0, 1) := by decide +kernel
theorem dm_L_151 : mj_dec code 151 = some (.iload_n 3, 1) := by decide +kernel
theorem dm_L_152 : mj_dec code 152 = some (.iconst 5, 1) := by decide +kernel
theorem dm_L_153 : mj_dec code 153 = some (.iadd, 1) := by decide +kernel
theorem dm_L_154 : mj_dec code 154 = some (.iaload, 1) := by decide +kernel
theorem dm_L_155 : mj_dec code 155 = some (.invokevirtual 17, 3) := by decide +kernel
theorem dm_L_158 : mj_dec code 158 = some (.if_icmp .eq 292, 3) := by decide +kernel
theorem dm_L_163 : mj_dec code 163 = some (.aload_n 1, 1) := by decide +kernel
theorem dm_L_164 : mj_dec code 164 = some (.aload_n 0, 1) := by decide +kernel
theorem dm_L_165 : mj_dec code 165 = some (.iload_n 3, 1) := by decide +kernel
theorem dm_L_166 : mj_dec code 166 = some (.iconst 1, 1) := by decide +kernel
theorem dm_L_167 : mj_dec code 167 = some (.iadd, 1) := by decide +kernel
theorem dm_L_168 : mj_dec code 168 = some (.iaload, 1) := by decide +kernel
theorem dm_L_169 : mj_dec code 169 = some (.invokevirtual 18, 3) := by decide +kernel
theorem dm_L_172 : mj_dec code 172 = some (.aload_n 2, 1) := by decide +kernel
theorem dm_L_173 : mj_dec code 173 = some (.aload_n 0, 1) := by decide +kernel
theorem dm_L_174 : mj_dec code 174 = some (.iload_n 3, 1) := by decide +kernel
theorem dm_L_175 : mj_dec code 175 = some (.iconst 1, 1) := by decide +kernel
theorem dm_L_176 : mj_dec code 176 = some (.iadd, 1) := by decide +kernel
theorem dm_L_177 : mj_dec code 177 = some (.iaload, 1) := by decide +kernel
theorem dm_L_178 : mj_dec code 178 = some (.invokevirtual 22, 3) := by decide +kernel
theorem dm_L_181 : mj_dec code 181 = some (.if_icmp .eq 269, 3) := by decide +kernel
theorem dm_L_186 : mj_dec code 186 = some (.aload_n 1, 1) := by decide +kernel
theorem dm_L_187 : mj_dec code 187 = some (.aload_n 0, 1) := by decide +kernel
theorem dm_L_188 : mj_dec code 188 = some (.iload_n 3, 1) := by decide +kernel
theorem dm_L_189 : mj_dec code 189 = some (.iconst 1, 1) := by decide +kernel
theorem dm_L_190 : mj_dec code 190 = some (.iadd, 1) := by decide +kernel
theorem dm_L_191 : mj_dec code 191 = some (.iaload, 1) := by decide +kernel
theorem dm_L_192 : mj_dec code 192 = some (.invokevirtual 23, 3) := by decide +kernel
theorem dm_L_195 : mj_dec code 195 = some (.aload_n 2, 1) := by decide +kernel
theorem dm_L_196 : mj_dec code 196 = some (.aload_n 0, 1) := by decide +kernel
theorem dm_L_197 : mj_dec code 197 = some (.iload_n 3, 1) := by decide +kernel
theorem dm_L_198 : mj_dec code 198 = some (.iconst 1, 1) := by decide +kernel
theorem dm_L_199 : mj_dec code 199 = some (.iadd, 1) := by decide +kernel
theorem dm_L_200 : mj_dec code 200 = some (.iaload, 1) := by decide +kernel
theorem dm_L_201 : mj_dec code 201 = some (.invokevirtual 26, 3) := by decide +kernel
theorem dm_L_204 : mj_dec code 204 = some (.if_icmp .eq 246, 3) := by decide +kernel
theorem dm_L_209 : mj_dec code 209 = some (.aload_n 1, 1) := by decide +kernel
theorem dm_L_210 : mj_dec code 210 = some (.aload_n 0, 1) := by decide +kernel
theorem dm_L_211 : mj_dec code 211 = some (.iload_n 3, 1) := by decide +kernel
theorem dm_L_212 : mj_dec code 212 = some (.iconst 1, 1) := by decide +kernel
theorem dm_L_213 : mj_dec code 213 = some (.iadd, 1) := by decide +kernel
theorem dm_L_214 : mj_dec code 214 = some (.iaload, 1) := by decide +kernel
theorem dm_L_215 : mj_dec code 215 = some (.aload_n 0, 1) := by decide +kernel
theorem dm_L_216 : mj_dec code 216 = some (.iload_n 3, 1) := by decide +kernel
theorem dm_L_217 : mj_dec code 217 = some (.iconst 2, 1) := by decide +kernel
theorem dm_L_218 : mj_dec code 218 = some (.iadd, 1) := by decide +kernel
theorem dm_L_219 : mj_dec code 219 = some (.iaload, 1) := by decide +kernel
theorem dm_L_220 : mj_dec code 220 = some (.invokevirtual 27, 3) := by decide +kernel
theorem dm_L_223 : mj_dec code 223 = some (.aload_n 2, 1) := by decide +kernel
theorem dm_L_224 : mj_dec code 224 = some (.aload_n 0, 1) := by decide +kernel
theorem dm_L_225 : mj_dec code 225 = some (.iload_n 3, 1) := by decide +kernel
theorem dm_L_226 : mj_dec code 226 = some (.iconst 1, 1) := by decide +kernel
theorem dm_L_227 : mj_dec code 227 = some (.iadd, 1) := by decide +kernel
theorem dm_L_228 : mj_dec code 228 = some (.iaload, 1) := by decide +kernel
theorem dm_L_229 : mj_dec code 229 = some (.aload_n 0, 1) := by decide +kernel
theorem dm_L_230 : mj_dec code 230 = some (.iload_n 3, 1) := by decide +kernel
theorem dm_L_231 : mj_dec code 231 = some (.iconst 2, 1) := by decide +kernel
theorem dm_L_232 : mj_dec code 232 = some (.iadd, 1) := by decide +kernel
theorem dm_L_233 : mj_dec code 233 = some (.iaload, 1) := by decide +kernel
theorem dm_L_234 : mj_dec code 234 = some (.invokevirtual 31, 3) := by decide +kernel
theorem dm_L_237 : mj_dec code 237 = some (.if_icmp .eq 213, 3) := by decide +kernel
theorem dm_L_242 : mj_dec code 242 = some (.aload_n 1, 1) := by decide +kernel
theorem dm_L_243 : mj_dec code 243 = some (.invokevirtual 32, 3) := by decide +kernel
theorem dm_L_246 : mj_dec code 246 = some (.aload_n 2, 1) := by decide +kernel
theorem dm_L_247 : mj_dec code 247 = some (.invokevirtual 36, 3) := by decide +kernel
theorem dm_L_250 : mj_dec code 250 = some (.if_icmp .eq 200, 3) := by decide +kernel
theorem dm_L_255 : mj_dec code 255 = some (.aload_n 1, 1) := by decide +kernel
theorem dm_L_256 : mj_dec code 256 = some (.aload_n 0, 1) := by decide +kernel
theorem dm_L_257 : mj_dec code 257 = some (.iload_n 3, 1) := by decide +kernel
theorem dm_L_258 : mj_dec code 258 = some (.iconst 1, 1) := by decide +kernel
theorem dm_L_259 : mj_dec code 259 = some (.iadd, 1) := by decide +kernel
theorem dm_L_260 : mj_dec code 260 = some (.iaload, 1) := by decide +kernel
theorem dm_L_261 : mj_dec code 261 = some (.invokevirtual 37, 3) := by decide +kernel
theorem dm_L_264 : mj_dec code 264 = some (.aload_n 2, 1) := by decide +kernel
theorem dm_L_265 : mj_dec code 265 = some (.aload_n 0, 1) := by decide +kernel
theorem dm_L_266 : mj_dec code 266 = some (.iload_n 3, 1) := by decide +kernel
theorem dm_L_267 : mj_dec code 267 = some (.iconst 1, 1) := by decide +kernel
theorem dm_L_268 : mj_dec code 268 = some (.iadd, 1) := by decide +kernel
theorem dm_L_269 : mj_dec code 269 = some (.iaload, 1) := by decide +kernel
theorem dm_L_270 : mj_dec code 270 = some (.invokevirtual 40, 3) := by decide +kernel
theorem dm_L_273 : mj_dec code 273 = some (.if_icmp .eq 177, 3) := by decide +kernel
theorem dm_L_278 : mj_dec code 278 = some (.aload_n 1, 1) := by decide +kernel
theorem dm_L_279 : mj_dec code 279 = some (.aload_n 0, 1) := by decide +kernel
theorem dm_L_280 : mj_dec code 280 = some (.iload_n 3, 1) := by decide +kernel
theorem dm_L_281 : mj_dec code 281 = some (.iconst 1, 1) := by decide +kernel
theorem dm_L_282 : mj_dec code 282 = some (.iadd, 1) := by decide +kernel
theorem dm_L_283 : mj_dec code 283 = some (.iaload, 1) := by decide +kernel
theorem dm_L_284 : mj_dec code 284 = some (.invokevirtual 41, 3) := by decide +kernel
theorem dm_L_287 : mj_dec code 287 = some (.aload_n 2, 1) := by decide +kernel
theorem dm_L_288 : mj_dec code 288 = some (.aload_n 0, 1) := by decide +kernel
theorem dm_L_289 : mj_dec code 289 = some (.iload_n 3, 1) := by decide +kernel
theorem dm_L_290 : mj_dec code 290 = some (.iconst 1, 1) := by decide +kernel
theorem dm_L_291 : mj_dec code 291 = some (.iadd, 1) := by decide +kernel
theorem dm_L_292 : mj_dec code 292 = some (.iaload, 1) := by decide +kernel
theorem dm_L_293 : mj_dec code 293 = some (.invokevirtual 45, 3) := by decide +kernel
theorem dm_L_296 : mj_dec code 296 = some (.lcmp, 1) := by decide +kernel
theorem dm_L_297 : mj_dec code 297 = some (.ifCond .eq 153, 3) := by decide +kernel
theorem dm_L_302 : mj_dec code 302 = some (.aload_n 1, 1) := by decide +kernel
theorem dm_L_303 : mj_dec code 303 = some (.invokevirtual 46, 3) := by decide +kernel
theorem dm_L_306 : mj_dec code 306 = some (.aload_n 2, 1) := by decide +kernel
theorem dm_L_307 : mj_dec code 307 = some (.invokevirtual 49, 3) := by decide +kernel
theorem dm_L_310 : mj_dec code 310 = some (.if_icmp .eq 140, 3) := by decide +kernel
theorem dm_L_315 : mj_dec code 315 = some (.aload_n 1, 1) := by decide +kernel
theorem dm_L_316 : mj_dec code 316 = some (.aload_n 0, 1) := by decide +kernel
theorem dm_L_317 : mj_dec code 317 = some (.iload_n 3, 1) := by decide +kernel
theorem dm_L_318 : mj_dec code 318 = some (.iconst 1, 1) := by decide +kernel
theorem dm_L_319 : mj_dec code 319 = some (.iadd, 1) := by decide +kernel
theorem dm_L_320 : mj_dec code 320 = some (.iaload, 1) := by decide +kernel
theorem dm_L_321 : mj_dec code 321 = some (.invokevirtual 50, 3) := by decide +kernel
theorem dm_L_324 : mj_dec code 324 = some (.aload_n 2, 1) := by decide +kernel
theorem dm_L_325 : mj_dec code 325 = some (.aload_n 0, 1) := by decide +kernel
theorem dm_L_326 : mj_dec code 326 = some (.iload_n 3, 1) := by decide +kernel
theorem dm_L_327 : mj_dec code 327 = some (.iconst 1, 1) := by decide +kernel
theorem dm_L_328 : mj_dec code 328 = some (.iadd, 1) := by decide +kernel
theorem dm_L_329 : mj_dec code 329 = some (.iaload, 1) := by decide +kernel
theorem dm_L_330 : mj_dec code 330 = some (.invokevirtual 53, 3) := by decide +kernel
theorem dm_L_333 : mj_dec code 333 = some (.if_icmp .eq 117, 3) := by decide +kernel
theorem dm_L_338 : mj_dec code 338 = some (.aload_n 1, 1) := by decide +kernel
theorem dm_L_339 : mj_dec code 339 = some (.aload_n 0, 1) := by decide +kernel
theorem dm_L_340 : mj_dec code 340 = some (.iload_n 3, 1) := by decide +kernel
theorem dm_L_341 : mj_dec code 341 = some (.iconst 1, 1) := by decide +kernel
theorem dm_L_342 : mj_dec code 342 = some (.iadd, 1) := by decide +kernel
theorem dm_L_343 : mj_dec code 343 = some (.iaload, 1) := by decide +kernel
theorem dm_L_344 : mj_dec code 344 = some (.invokevirtual 54, 3) := by decide +kernel
theorem dm_L_347 : mj_dec code 347 = some (.aload_n 2, 1) := by decide +kernel
theorem dm_L_348 : mj_dec code 348 = some (.aload_n 0, 1) := by decide +kernel
theorem dm_L_349 : mj_dec code 349 = some (.iload_n 3, 1) := by decide +kernel
theorem dm_L_350 : mj_dec code 350 = some (.iconst 1, 1) := by decide +kernel
theorem dm_L_351 : mj_dec code 351 = some (.iadd, 1) := by decide +kernel
theorem dm_L_352 : mj_dec code 352 = some (.iaload, 1) := by decide +kernel
theorem dm_L_353 : mj_dec code 353 = some (.invokevirtual 58, 3) := by decide +kernel
theorem dm_L_356 : mj_dec code 356 = some (.if_icmp .eq 94, 3) := by decide +kernel
theorem dm_L_361 : mj_dec code 361 = some (.aload_n 1, 1) := by decide +kernel
theorem dm_L_362 : mj_dec code 362 = some (.aload_n 0, 1) := by decide +kernel
theorem dm_L_363 : mj_dec code 363 = some (.iload_n 3, 1) := by decide +kernel
theorem dm_L_364 : mj_dec code 364 = some (.iconst 1, 1) := by decide +kernel
theorem dm_L_365 : mj_dec code 365 = some (.iadd, 1) := by decide +kernel
theorem dm_L_366 : mj_dec code 366 = some (.iaload, 1) := by decide +kernel
theorem dm_L_367 : mj_dec code 367 = some (.invokevirtual 59, 3) := by decide +kernel
theorem dm_L_370 : mj_dec code 370 = some (.aload_n 2, 1) := by decide +kernel
theorem dm_L_371 : mj_dec code 371 = some (.aload_n 0, 1) := by decide +kernel
theorem dm_L_372 : mj_dec code 372 = some (.iload_n 3, 1) := by decide +kernel
theorem dm_L_373 : mj_dec code 373 = some (.iconst 1, 1) := by decide +kernel
theorem dm_L_374 : mj_dec code 374 = some (.iadd, 1) := by decide +kernel
theorem dm_L_375 : mj_dec code 375 = some (.iaload, 1) := by decide +kernel
theorem dm_L_376 : mj_dec code 376 = some (.invokevirtual 62, 3) := by decide +kernel
theorem dm_L_379 : mj_dec code 379 = some (.if_icmp .eq 71, 3) := by decide +kernel
theorem dm_L_384 : mj_dec code 384 = some (.aload_n 1, 1) := by decide +kernel
theorem dm_L_385 : mj_dec code 385 = some (.aload_n 0, 1) := by decide +kernel
theorem dm_L_386 : mj_dec code 386 = some (.iload_n 3, 1) := by decide +kernel
theorem dm_L_387 : mj_dec code 387 = some (.iconst 1, 1) := by decide +kernel
theorem dm_L_388 : mj_dec code 388 = some (.iadd, 1) := by decide +kernel
theorem dm_L_389 : mj_dec code 389 = some (.iaload, 1) := by decide +kernel
theorem dm_L_390 : mj_dec code 390 = some (.invokevirtual 63, 3) := by decide +kernel
theorem dm_L_393 : mj_dec code 393 = some (.aload_n 2, 1) := by decide +kernel
theorem dm_L_394 : mj_dec code 394 = some (.aload_n 0, 1) := by decide +kernel
theorem dm_L_395 : mj_dec code 395 = some (.iload_n 3, 1) := by decide +kernel
theorem dm_L_396 : mj_dec code 396 = some (.iconst 1, 1) := by decide +kernel
theorem dm_L_397 : mj_dec code 397 = some (.iadd, 1) := by decide +kernel
theorem dm_L_398 : mj_dec code 398 = some (.iaload, 1) := by decide +kernel
theorem dm_L_399 : mj_dec code 399 = some (.invokevirtual 66, 3) := by decide +kernel
theorem dm_L_402 : mj_dec code 402 = some (.if_icmp .eq 48, 3) := by decide +kernel
theorem dm_L_407 : mj_dec code 407 = some (.aload_n 1, 1) := by decide +kernel
theorem dm_L_408 : mj_dec code 408 = some (.aload_n 0, 1) := by decide +kernel
theorem dm_L_409 : mj_dec code 409 = some (.iload_n 3, 1) := by decide +kernel
theorem dm_L_410 : mj_dec code 410 = some (.iconst 1, 1) := by decide +kernel
theorem dm_L_411 : mj_dec code 411 = some (.iadd, 1) := by decide +kernel
theorem dm_L_412 : mj_dec code 412 = some (.iaload, 1) := by decide +kernel
theorem dm_L_413 : mj_dec code 413 = some (.aload_n 0, 1) := by decide +kernel
theorem dm_L_414 : mj_dec code 414 = some (.iload_n 3, 1) := by decide +kernel
theorem dm_L_415 : mj_dec code 415 = some (.iconst 2, 1) := by decide +kernel
theorem dm_L_416 : mj_dec code 416 = some (.iadd, 1) := by decide +kernel
theorem dm_L_417 : mj_dec code 417 = some (.iaload, 1) := by decide +kernel
theorem dm_L_418 : mj_dec code 418 = some (.aload_n 0, 1) := by decide +kernel
theorem dm_L_419 : mj_dec code 419 = some (.iload_n 3, 1) := by decide +kernel
theorem dm_L_420 : mj_dec code 420 = some (.iconst 3, 1) := by decide +kernel
theorem dm_L_421 : mj_dec code 421 = some (.iadd, 1) := by decide +kernel
theorem dm_L_422 : mj_dec code 422 = some (.iaload, 1) := by decide +kernel
theorem dm_L_423 : mj_dec code 423 = some (.invokevirtual 67, 3) := by decide +kernel
theorem dm_L_426 : mj_dec code 426 = some (.aload_n 2, 1) := by decide +kernel
theorem dm_L_427 : mj_dec code 427 = some (.aload_n 0, 1) := by decide +kernel
theorem dm_L_428 : mj_dec code 428 = some (.iload_n 3, 1) := by decide +kernel
theorem dm_L_429 : mj_dec code 429 = some (.iconst 1, 1) := by decide +kernel
theorem dm_L_430 : mj_dec code 430 = some (.iadd, 1) := by decide +kernel
theorem dm_L_431 : mj_dec code 431 = some (.iaload, 1) := by decide +kernel
theorem dm_L_432 : mj_dec code 432 = some (.aload_n 0, 1) := by decide +kernel
theorem dm_L_433 : mj_dec code 433 = some (.iload_n 3, 1) := by decide +kernel
theorem dm_L_434 : mj_dec code 434 = some (.iconst 2, 1) := by decide +kernel
theorem dm_L_435 : mj_dec code 435 = some (.iadd, 1) := by decide +kernel
theorem dm_L_436 : mj_dec code 436 = some (.iaload, 1) := by decide +kernel
theorem dm_L_437 : mj_dec code 437 = some (.aload_n 0, 1) := by decide +kernel
theorem dm_L_438 : mj_dec code 438 = some (.iload_n 3, 1) := by decide +kernel
theorem dm_L_439 : mj_dec code 439 = some (.iconst 3, 1) := by decide +kernel
theorem dm_L_440 : mj_dec code 440 = some (.iadd, 1) := by decide +kernel
theorem dm_L_441 : mj_dec code 441 = some (.iaload, 1) := by decide +kernel
theorem dm_L_442 : mj_dec code 442 = some (.invokevirtual 71, 3) := by decide +kernel
theorem dm_L_445 : mj_dec code 445 = some (.if_icmp .eq 5, 3) := by decide +kernel
theorem dm_L_450 : mj_dec code 450 = some (.iinc 3 6, 3) := by decide +kernel
theorem dm_L_453 : mj_dec code 453 = some (.goto (-435), 3) := by decide +kernel
theorem dm_L_456 : mj_dec code 456 = some (.iconst 1, 1) := by decide +kernel
theorem dm_L_457 : mj_dec code 457 = some (.ireturn, 1) := by decide +kernel
theorem n_and15g (a : Int) : Int32.ofInt a &&& 15 = Int32.ofInt (a % 16) := by
  apply Int32.toBitVec_inj.mp
  rw [Int32.toBitVec_and, Int32.toBitVec_ofInt, Int32.toBitVec_ofInt]
  apply BitVec.eq_of_toNat_eq
  rw [BitVec.toNat_and, show (Int32.toBitVec 15).toNat = 2 ^ 4 - 1 from rfl, Nat.and_two_pow_sub_one_eq_mod, BitVec.toNat_ofInt, BitVec.toNat_ofInt]
  have h1 : ((2 ^ 32 : Nat) : Int) = 4294967296 := rfl
  rw [h1]
  omega
theorem y_and15g {xt : mj_X} {d own nL : Nat} {ini : Bool} {ret : Option FieldType} {cf : Nat → Option (Instr × Nat)} {pc pc' : Nat} {L : mj_L} {S : List Value} {h : mj_H} {P : Option Value → mj_H → Prop} {a : Int} (hc : cf pc = some (.iand, 1)) (hp : pc + 1 = pc') (k : pgE xt d own nL ini ret cf pc' L (ii (a % 16) :: S) h P) : pgE xt d own nL ini ret cf pc L (ii 15 :: ii a :: S) h P :=
  me0 hc (show mj_alu .iand (ii 15 :: ii a :: S) = some (ii (a % 16) :: S) from congrArg (fun z => some (Value.int z :: S)) (n_and15g a)) rfl rfl hp k
theorem xr (x : Int32) : -2147483648 ≤ x.toInt ∧ x.toInt ≤ 2147483647 := by
  have h1 := Int32.le_toInt x
  have h2 := Int32.toInt_lt x
  have e : (2 : Int) ^ 31 = 2147483648 := by decide
  rw [e] at h1 h2
  omega
theorem sc_ld {L : Nat} {xs : Nat → Int32} {T : mj_T} {ini : Bool} {S : List Value} {H : mj_H} {j : Int} {k : Nat} (hL : L ≤ 3072) (hj : j = (k : Int)) (hk : k < L) : mj_hp T (pg_xt L xs) pg_tl 2 ini .iaload (ii j :: .ref 0 :: S) H = some (ii (xs k).toInt :: S, H) := by
  subst hj
  refine x_iald (n := L) (f := fun j => .int (xs j)) rfl (by decide) (g_ok (by omega) (by omega) (by omega)) ?_
  rw [n_cl (by omega) (by omega), Int.toNat_natCast]
  show Value.int (xs k) = Value.int (Int32.ofInt (xs k).toInt)
  rw [Int32.ofInt_toInt]
theorem INV_c2 {r : Nat} {h : mj_H} (hI : INV r h) : ∃ c, h[2]? = some (cO 11 c) := by
  obtain ⟨A, pre, post, s, fd, W, qr, qp, pr, pp, pm, n, m, le, lp, lw, bf, pf, v, w, g, vf, of, kf, jf, -, -, ⟨c1, -⟩, -⟩ := hI
  exact ⟨_, c1⟩
theorem INV_room {r : Nat} {h : mj_H} (hI : INV r h) : h.length ≤ 600002 ∧ mj_sl h ≤ 7302250 := by
  obtain ⟨A, pre, post, s, fd, W, qr, qp, pr, pp, pm, n, m, le, lp, lw, bf, pf, v, w, g, vf, of, kf, jf, -, -, -, -, -, -, -, r1, r2, -⟩ := hI
  omega
set_option maxHeartbeats 4000000 in
theorem w_loop {L : Nat} {xs : Nat → Int32} (hL : L ≤ 3072) (hRO : RMO) (hRT : RMT) (hRS : RSO) (hRT2 : RST2) : ∀ (r i : Nat) (h : mj_H), i + 6 * r = 3072 → INV r h → pgE (pg_xt L xs) 2000 13 4 false (some .boolean) (mj_dec code) 18 [(3, ii (i : Int)), (2, .ref 102), (1, .ref 2), (0, .ref 0)] [] h (fun r h' => r = some (.int 1) ∧ h'.length ≤ 600002 ∧ mj_sl h' ≤ 7302250) := by
  have hx1 : (pg_xt L xs) 1 = some (.long, 0, fun _ => .long 0) := rfl
  have hd : 1500 ≤ 2000 := by decide
  have ends : ∀ (r i : Nat) (h : mj_H), INV r h → pgE (pg_xt L xs) 2000 13 4 false (some .boolean) (mj_dec code) 456 [(3, ii (i : Int)), (2, .ref 102), (1, .ref 2), (0, .ref 0)] [] h (fun r h' => r = some (.int 1) ∧ h'.length ≤ 600002 ∧ mj_sl h' ≤ 7302250) := fun r i h hI => by
    refine me0 (pc' := 457) (S' := [.int (1 : Int32)]) dm_L_456 rfl rfl rfl rfl ?_
    refine me5 dm_L_457 rfl rfl rfl ?_
    exact ⟨rfl, INV_room hI⟩
  intro r
  induction r with
  | zero =>
    intro i h hi hI
    refine me1 (pc' := 19) (L' := [(3, ii (i : Int)), (2, .ref 102), (1, .ref 2), (0, .ref 0)]) (S' := [ii (i : Int)]) dm_L_18 rfl rfl rfl rfl ?_
    refine me1 (pc' := 20) (L' := [(3, ii (i : Int)), (2, .ref 102), (1, .ref 2), (0, .ref 0)]) (S' := [.ref 0, ii (i : Int)]) dm_L_19 rfl rfl rfl rfl ?_
    refine me3 (pc' := 21) (S' := [ii (L : Int), ii (i : Int)]) dm_L_20 (x_len (v := Int32.ofInt (L : Int)) rfl (by decide) (n_ofNat L)) rfl rfl rfl ?_
    refine me0 (pc' := 23) (S' := [ii 6, ii (L : Int), ii (i : Int)]) dm_L_21 rfl rfl rfl rfl ?_
    refine y_isub (a := (L : Int)) (b := 6) dm_L_23 (pc' := 24) rfl ?_
    refine y_2gt (a := (i : Int)) (b := (L : Int) - 6) (t := 456) (pc' := 27) dm_L_24 rfl rfl (by omega) (fun _ => ends _ _ _ hI) (fun hb => ?_)
    exfalso; omega
  | succ r ih =>
    intro i h hi hI
    refine me1 (pc' := 19) (L' := [(3, ii (i : Int)), (2, .ref 102), (1, .ref 2), (0, .ref 0)]) (S' := [ii (i : Int)]) dm_L_18 rfl rfl rfl rfl ?_
    refine me1 (pc' := 20) (L' := [(3, ii (i : Int)), (2, .ref 102), (1, .ref 2), (0, .ref 0)]) (S' := [.ref 0, ii (i : Int)]) dm_L_19 rfl rfl rfl rfl ?_
    refine me3 (pc' := 21) (S' := [ii (L : Int), ii (i : Int)]) dm_L_20 (x_len (v := Int32.ofInt (L : Int)) rfl (by decide) (n_ofNat L)) rfl rfl rfl ?_
    refine me0 (pc' := 23) (S' := [ii 6, ii (L : Int), ii (i : Int)]) dm_L_21 rfl rfl rfl rfl ?_
    refine y_isub (a := (L : Int)) (b := 6) dm_L_23 (pc' := 24) rfl ?_
    refine y_2gt (a := (i : Int)) (b := (L : Int) - 6) (t := 456) (pc' := 27) dm_L_24 rfl rfl (by omega) (fun _ => ends _ _ _ hI) (fun hb => ?_)
    obtain ⟨c2, hc2⟩ := INV_c2 hI
    have nxt : ∀ h2 : mj_H, INV r h2 → pgE (pg_xt L xs) 2000 13 4 false (some .boolean) (mj_dec code) 450 [(3, ii (i : Int)), (2, .ref 102), (1, .ref 2), (0, .ref 0)] [] h2 (fun r h' => r = some (.int 1) ∧ h'.length ≤ 600002 ∧ mj_sl h' ≤ 7302250) := fun h2 hI2 => by
      refine y_iinc (pc' := 453) (L' := [(3, ii ((i : Int) + 6)), (2, .ref 102), (1, .ref 2), (0, .ref 0)]) dm_L_450 (y_incp (a := (i : Int)) (c := 6) rfl rfl (by decide)) rfl ?_
      refine me2 (pc' := 18) (S' := []) dm_L_453 rfl rfl rfl ?_
      exact ih (i + 6) h2 (by omega) hI2
    refine me1 (pc' := 28) (L' := [(3, ii (i : Int)), (2, .ref 102), (1, .ref 2), (0, .ref 0)]) (S' := [.ref 0]) dm_L_27 rfl rfl rfl rfl ?_
    refine me1 (pc' := 29) (L' := [(3, ii (i : Int)), (2, .ref 102), (1, .ref 2), (0, .ref 0)]) (S' := [ii (i : Int), .ref 0]) dm_L_28 rfl rfl rfl rfl ?_
    refine me3 (pc' := 30) (S' := [ii (xs i).toInt]) dm_L_29 (sc_ld (k := i) hL rfl (by omega)) rfl rfl rfl ?_
    refine me0 (pc' := 32) (S' := [ii 15, ii (xs i).toInt]) dm_L_30 rfl rfl rfl rfl ?_
    refine y_and15g (a := (xs i).toInt) dm_L_32 (pc' := 33) rfl ?_
    obtain ⟨q, hq⟩ : ∃ q : Int, q = (xs i).toInt % 16 := ⟨_, rfl⟩
    rw [← hq]
    refine y_sw (a := q) (0) (t := 100) (i := .tableswitch 417 0 12 #[67, 130, 153, 176, 209, 222, 245, 269, 282, 305, 328, 351, 374]) (len := 67) dm_L_33 rfl rfl rfl (by omega) (by decide) (fun hb0 => ?_) (fun hb0 => ?_)
    · obtain ⟨z, hz⟩ := S_feed hd (xr _) (xr _) (xr _) (xr _) (xr _) hI
      refine me1 (pc' := 101) (L' := [(3, ii (i : Int)), (2, .ref 102), (1, .ref 2), (0, .ref 0)]) (S' := [.ref 2]) dm_L_100 rfl rfl rfl rfl ?_
      refine me1 (pc' := 102) (L' := [(3, ii (i : Int)), (2, .ref 102), (1, .ref 2), (0, .ref 0)]) (S' := [.ref 0, .ref 2]) dm_L_101 rfl rfl rfl rfl ?_
      refine me1 (pc' := 103) (L' := [(3, ii (i : Int)), (2, .ref 102), (1, .ref 2), (0, .ref 0)]) (S' := [ii (i : Int), .ref 0, .ref 2]) dm_L_102 rfl rfl rfl rfl ?_
      refine me0 (pc' := 104) (S' := [ii 1, ii (i : Int), .ref 0, .ref 2]) dm_L_103 rfl rfl rfl rfl ?_
      refine y_iadd (a := (i : Int)) (b := 1) dm_L_104 (pc' := 105) rfl ?_
      refine me3 (pc' := 106) (S' := [ii (xs (i + 1)).toInt, .ref 2]) dm_L_105 (sc_ld (k := i + 1) hL (by omega) (by omega)) rfl rfl rfl ?_
      refine me1 (pc' := 107) (L' := [(3, ii (i : Int)), (2, .ref 102), (1, .ref 2), (0, .ref 0)]) (S' := [.ref 0, ii (xs (i + 1)).toInt, .ref 2]) dm_L_106 rfl rfl rfl rfl ?_
      refine me1 (pc' := 108) (L' := [(3, ii (i : Int)), (2, .ref 102), (1, .ref 2), (0, .ref 0)]) (S' := [ii (i : Int), .ref 0, ii (xs (i + 1)).toInt, .ref 2]) dm_L_107 rfl rfl rfl rfl ?_
      refine me0 (pc' := 109) (S' := [ii 2, ii (i : Int), .ref 0, ii (xs (i + 1)).toInt, .ref 2]) dm_L_108 rfl rfl rfl rfl ?_
      refine y_iadd (a := (i : Int)) (b := 2) dm_L_109 (pc' := 110) rfl ?_
      refine me3 (pc' := 111) (S' := [ii (xs (i + 2)).toInt, ii (xs (i + 1)).toInt, .ref 2]) dm_L_110 (sc_ld (k := i + 2) hL (by omega) (by omega)) rfl rfl rfl ?_
      refine me1 (pc' := 112) (L' := [(3, ii (i : Int)), (2, .ref 102), (1, .ref 2), (0, .ref 0)]) (S' := [.ref 0, ii (xs (i + 2)).toInt, ii (xs (i + 1)).toInt, .ref 2]) dm_L_111 rfl rfl rfl rfl ?_
      refine me1 (pc' := 113) (L' := [(3, ii (i : Int)), (2, .ref 102), (1, .ref 2), (0, .ref 0)]) (S' := [ii (i : Int), .ref 0, ii (xs (i + 2)).toInt, ii (xs (i + 1)).toInt, .ref 2]) dm_L_112 rfl rfl rfl rfl ?_
      refine me0 (pc' := 114) (S' := [ii 3, ii (i : Int), .ref 0, ii (xs (i + 2)).toInt, ii (xs (i + 1)).toInt, .ref 2]) dm_L_113 rfl rfl rfl rfl ?_
      refine y_iadd (a := (i : Int)) (b := 3) dm_L_114 (pc' := 115) rfl ?_
      refine me3 (pc' := 116) (S' := [ii (xs (i + 3)).toInt, ii (xs (i + 2)).toInt, ii (xs (i + 1)).toInt, .ref 2]) dm_L_115 (sc_ld (k := i + 3) hL (by omega) (by omega)) rfl rfl rfl ?_
      refine me1 (pc' := 117) (L' := [(3, ii (i : Int)), (2, .ref 102), (1, .ref 2), (0, .ref 0)]) (S' := [.ref 0, ii (xs (i + 3)).toInt, ii (xs (i + 2)).toInt, ii (xs (i + 1)).toInt, .ref 2]) dm_L_116 rfl rfl rfl rfl ?_
      refine me1 (pc' := 118) (L' := [(3, ii (i : Int)), (2, .ref 102), (1, .ref 2), (0, .ref 0)]) (S' := [ii (i : Int), .ref 0, ii (xs (i + 3)).toInt, ii (xs (i + 2)).toInt, ii (xs (i + 1)).toInt, .ref 2]) dm_L_117 rfl rfl rfl rfl ?_
      refine me0 (pc' := 119) (S' := [ii 4, ii (i : Int), .ref 0, ii (xs (i + 3)).toInt, ii (xs (i + 2)).toInt, ii (xs (i + 1)).toInt, .ref 2]) dm_L_118 rfl rfl rfl rfl ?_
      refine y_iadd (a := (i : Int)) (b := 4) dm_L_119 (pc' := 120) rfl ?_
      refine me3 (pc' := 121) (S' := [ii (xs (i + 4)).toInt, ii (xs (i + 3)).toInt, ii (xs (i + 2)).toInt, ii (xs (i + 1)).toInt, .ref 2]) dm_L_120 (sc_ld (k := i + 4) hL (by omega) (by omega)) rfl rfl rfl ?_
      refine me1 (pc' := 122) (L' := [(3, ii (i : Int)), (2, .ref 102), (1, .ref 2), (0, .ref 0)]) (S' := [.ref 0, ii (xs (i + 4)).toInt, ii (xs (i + 3)).toInt, ii (xs (i + 2)).toInt, ii (xs (i + 1)).toInt, .ref 2]) dm_L_121 rfl rfl rfl rfl ?_
      refine me1 (pc' := 123) (L' := [(3, ii (i : Int)), (2, .ref 102), (1, .ref 2), (0, .ref 0)]) (S' := [ii (i : Int), .ref 0, ii (xs (i + 4)).toInt, ii (xs (i + 3)).toInt, ii (xs (i + 2)).toInt, ii (xs (i + 1)).toInt, .ref 2]) dm_L_122 rfl rfl rfl rfl ?_
      refine me0 (pc' := 124) (S' := [ii 5, ii (i : Int), .ref 0, ii (xs (i + 4)).toInt, ii (xs (i + 3)).toInt, ii (xs (i + 2)).toInt, ii (xs (i + 1)).toInt, .ref 2]) dm_L_123 rfl rfl rfl rfl ?_
      refine y_iadd (a := (i : Int)) (b := 5) dm_L_124 (pc' := 125) rfl ?_
      refine me3 (pc' := 126) (S' := [ii (xs (i + 5)).toInt, ii (xs (i + 4)).toInt, ii (xs (i + 3)).toInt, ii (xs (i + 2)).toInt, ii (xs (i + 1)).toInt, .ref 2]) dm_L_125 (sc_ld (k := i + 5) hL (by omega) (by omega)) rfl rfl rfl ?_
      refine x_cv (pc' := 129) (rest := []) dm_L_126 rfl (g_inv (As := [ii (xs (i + 1)).toInt, ii (xs (i + 2)).toInt, ii (xs (i + 3)).toInt, ii (xs (i + 4)).toInt, ii (xs (i + 5)).toInt]) (S := []) hc2 rfl rfl rfl (by decide)) rfl rfl rfl hz ?_
      rintro _ h1 ⟨rfl, hz2, c102, h102⟩
      refine me1 (pc' := 130) (L' := [(3, ii (i : Int)), (2, .ref 102), (1, .ref 2), (0, .ref 0)]) (S' := [.ref 102, ii z]) dm_L_129 rfl rfl rfl rfl ?_
      refine me1 (pc' := 131) (L' := [(3, ii (i : Int)), (2, .ref 102), (1, .ref 2), (0, .ref 0)]) (S' := [.ref 0, .ref 102, ii z]) dm_L_130 rfl rfl rfl rfl ?_
      refine me1 (pc' := 132) (L' := [(3, ii (i : Int)), (2, .ref 102), (1, .ref 2), (0, .ref 0)]) (S' := [ii (i : Int), .ref 0, .ref 102, ii z]) dm_L_131 rfl rfl rfl rfl ?_
      refine me0 (pc' := 133) (S' := [ii 1, ii (i : Int), .ref 0, .ref 102, ii z]) dm_L_132 rfl rfl rfl rfl ?_
      refine y_iadd (a := (i : Int)) (b := 1) dm_L_133 (pc' := 134) rfl ?_
      refine me3 (pc' := 135) (S' := [ii (xs (i + 1)).toInt, .ref 102, ii z]) dm_L_134 (sc_ld (k := i + 1) hL (by omega) (by omega)) rfl rfl rfl ?_
      refine me1 (pc' := 136) (L' := [(3, ii (i : Int)), (2, .ref 102), (1, .ref 2), (0, .ref 0)]) (S' := [.ref 0, ii (xs (i + 1)).toInt, .ref 102, ii z]) dm_L_135 rfl rfl rfl rfl ?_
      refine me1 (pc' := 137) (L' := [(3, ii (i : Int)), (2, .ref 102), (1, .ref 2), (0, .ref 0)]) (S' := [ii (i : Int), .ref 0, ii (xs (i + 1)).toInt, .ref 102, ii z]) dm_L_136 rfl rfl rfl rfl ?_
      refine me0 (pc' := 138) (S' := [ii 2, ii (i : Int), .ref 0, ii (xs (i + 1)).toInt, .ref 102, ii z]) dm_L_137 rfl rfl rfl rfl ?_
      refine y_iadd (a := (i : Int)) (b := 2) dm_L_138 (pc' := 139) rfl ?_
      refine me3 (pc' := 140) (S' := [ii (xs (i + 2)).toInt, ii (xs (i + 1)).toInt, .ref 102, ii z]) dm_L_139 (sc_ld (k := i + 2) hL (by omega) (by omega)) rfl rfl rfl ?_
      refine me1 (pc' := 141) (L' := [(3, ii (i : Int)), (2, .ref 102), (1, .ref 2), (0, .ref 0)]) (S' := [.ref 0, ii (xs (i + 2)).toInt, ii (xs (i + 1)).toInt, .ref 102, ii z]) dm_L_140 rfl rfl rfl rfl ?_
      refine me1 (pc' := 142) (L' := [(3, ii (i : Int)), (2, .ref 102), (1, .ref 2), (0, .ref 0)]) (S' := [ii (i : Int), .ref 0, ii (xs (i + 2)).toInt, ii (xs (i + 1)).toInt, .ref 102, ii z]) dm_L_141 rfl rfl rfl rfl ?_
      refine me0 (pc' := 143) (S' := [ii 3, ii (i : Int), .ref 0, ii (xs (i + 2)).toInt, ii (xs (i + 1)).toInt, .ref 102, ii z]) dm_L_142 rfl rfl rfl rfl ?_
      refine y_iadd (a := (i : Int)) (b := 3) dm_L_143 (pc' := 144) rfl ?_
      refine me3 (pc' := 145) (S' := [ii (xs (i + 3)).toInt, ii (xs (i + 2)).toInt, ii (xs (i + 1)).toInt, .ref 102, ii z]) dm_L_144 (sc_ld (k := i + 3) hL (by omega) (by omega)) rfl rfl rfl ?_
      refine me1 (pc' := 146) (L' := [(3, ii (i : Int)), (2, .ref 102), (1, .ref 2), (0, .ref 0)]) (S' := [.ref 0, ii (xs (i + 3)).toInt, ii (xs (i + 2)).toInt, ii (xs (i + 1)).toInt, .ref 102, ii z]) dm_L_145 rfl rfl rfl rfl ?_
      refine me1 (pc' := 147) (L' := [(3, ii (i : Int)), (2, .ref 102), (1, .ref 2), (0, .ref 0)]) (S' := [ii (i : Int), .ref 0, ii (xs (i + 3)).toInt, ii (xs (i + 2)).toInt, ii (xs (i + 1)).toInt, .ref 102, ii z]) dm_L_146 rfl rfl rfl rfl ?_
      refine me0 (pc' := 148) (S' := [ii 4, ii (i : Int), .ref 0, ii (xs (i + 3)).toInt, ii (xs (i + 2)).toInt, ii (xs (i + 1)).toInt, .ref 102, ii z]) dm_L_147 rfl rfl rfl rfl ?_
      refine y_iadd (a := (i : Int)) (b := 4) dm_L_148 (pc' := 149) rfl ?_
      refine me3 (pc' := 150) (S' := [ii (xs (i + 4)).toInt, ii (xs (i + 3)).toInt, ii (xs (i + 2)).toInt, ii (xs (i + 1)).toInt, .ref 102, ii z]) dm_L_149 (sc_ld (k := i + 4) hL (by omega) (by omega)) rfl rfl rfl ?_
      refine me1 (pc' := 151) (L' := [(3, ii (i : Int)), (2, .ref 102), (1, .ref 2), (0, .ref 0)]) (S' := [.ref 0, ii (xs (i + 4)).toInt, ii (xs (i + 3)).toInt, ii (xs (i + 2)).toInt, ii (xs (i + 1)).toInt, .ref 102, ii z]) dm_L_150 rfl rfl rfl rfl ?_
      refine me1 (pc' := 152) (L' := [(3, ii (i : Int)), (2, .ref 102), (1, .ref 2), (0, .ref 0)]) (S' := [ii (i : Int), .ref 0, ii (xs (i + 4)).toInt, ii (xs (i + 3)).toInt, ii (xs (i + 2)).toInt, ii (xs (i + 1)).toInt, .ref 102, ii z]) dm_L_151 rfl rfl rfl rfl ?_
      refine me0 (pc' := 153) (S' := [ii 5, ii (i : Int), .ref 0, ii (xs (i + 4)).toInt, ii (xs (i + 3)).toInt, ii (xs (i + 2)).toInt, ii (xs (i + 1)).toInt, .ref 102, ii z]) dm_L_152 rfl rfl rfl rfl ?_
      refine y_iadd (a := (i : Int)) (b := 5) dm_L_153 (pc' := 154) rfl ?_
      refine me3 (pc' := 155) (S' := [ii (xs (i + 5)).toInt, ii (xs (i + 4)).toInt, ii (xs (i + 3)).toInt, ii (xs (i + 2)).toInt, ii (xs (i + 1)).toInt, .ref 102, ii z]) dm_L_154 (sc_ld (k := i + 5) hL (by omega) (by omega)) rfl rfl rfl ?_
      refine x_cv (pc' := 158) (rest := [ii z]) dm_L_155 rfl (g_inv (As := [ii (xs (i + 1)).toInt, ii (xs (i + 2)).toInt, ii (xs (i + 3)).toInt, ii (xs (i + 4)).toInt, ii (xs (i + 5)).toInt]) (S := [ii z]) h102 rfl rfl rfl (by decide)) rfl rfl rfl hz2 ?_
      rintro _ h2 ⟨rfl, hI2⟩
      refine me_2t (pc' := 450) dm_L_158 rfl (mj_cnd_eq.mpr rfl) ?_
      exact nxt h2 hI2
    refine y_sw (a := q) (1) (t := 163) (i := .tableswitch 417 0 12 #[67, 130, 153, 176, 209, 222, 245, 269, 282, 305, 328, 351, 374]) (len := 67) dm_L_33 rfl rfl rfl (by omega) (by decide) (fun hb1 => ?_) (fun hb1 => ?_)
    · obtain ⟨z, hz⟩ := S_line hx1 hRO hRT hRS hRT2 hd (xr _) hI
      refine me1 (pc' := 164) (L' := [(3, ii (i : Int)), (2, .ref 102), (1, .ref 2), (0, .ref 0)]) (S' := [.ref 2]) dm_L_163 rfl rfl rfl rfl ?_
      refine me1 (pc' := 165) (L' := [(3, ii (i : Int)), (2, .ref 102), (1, .ref 2), (0, .ref 0)]) (S' := [.ref 0, .ref 2]) dm_L_164 rfl rfl rfl rfl ?_
      refine me1 (pc' := 166) (L' := [(3, ii (i : Int)), (2, .ref 102), (1, .ref 2), (0, .ref 0)]) (S' := [ii (i : Int), .ref 0, .ref 2]) dm_L_165 rfl rfl rfl rfl ?_
      refine me0 (pc' := 167) (S' := [ii 1, ii (i : Int), .ref 0, .ref 2]) dm_L_166 rfl rfl rfl rfl ?_
      refine y_iadd (a := (i : Int)) (b := 1) dm_L_167 (pc' := 168) rfl ?_
      refine me3 (pc' := 169) (S' := [ii (xs (i + 1)).toInt, .ref 2]) dm_L_168 (sc_ld (k := i + 1) hL (by omega) (by omega)) rfl rfl rfl ?_
      refine x_cv (pc' := 172) (rest := []) dm_L_169 rfl (g_inv (As := [ii (xs (i + 1)).toInt]) (S := []) hc2 rfl rfl rfl (by decide)) rfl rfl rfl hz ?_
      rintro _ h1 ⟨rfl, hz2, c102, h102⟩
      refine me1 (pc' := 173) (L' := [(3, ii (i : Int)), (2, .ref 102), (1, .ref 2), (0, .ref 0)]) (S' := [.ref 102, ii z]) dm_L_172 rfl rfl rfl rfl ?_
      refine me1 (pc' := 174) (L' := [(3, ii (i : Int)), (2, .ref 102), (1, .ref 2), (0, .ref 0)]) (S' := [.ref 0, .ref 102, ii z]) dm_L_173 rfl rfl rfl rfl ?_
      refine me1 (pc' := 175) (L' := [(3, ii (i : Int)), (2, .ref 102), (1, .ref 2), (0, .ref 0)]) (S' := [ii (i : Int), .ref 0, .ref 102, ii z]) dm_L_174 rfl rfl rfl rfl ?_
      refine me0 (pc' := 176) (S' := [ii 1, ii (i : Int), .ref 0, .ref 102, ii z]) dm_L_175 rfl rfl rfl rfl ?_
      refine y_iadd (a := (i : Int)) (b := 1) dm_L_176 (pc' := 177) rfl ?_
      refine me3 (pc' := 178) (S' := [ii (xs (i + 1)).toInt, .ref 102, ii z]) dm_L_177 (sc_ld (k := i + 1) hL (by omega) (by omega)) rfl rfl rfl ?_
      refine x_cv (pc' := 181) (rest := [ii z]) dm_L_178 rfl (g_inv (As := [ii (xs (i + 1)).toInt]) (S := [ii z]) h102 rfl rfl rfl (by decide)) rfl rfl rfl hz2 ?_
      rintro _ h2 ⟨rfl, hI2⟩
      refine me_2t (pc' := 450) dm_L_181 rfl (mj_cnd_eq.mpr rfl) ?_
      exact nxt h2 hI2
    refine y_sw (a := q) (2) (t := 186) (i := .tableswitch 417 0 12 #[67, 130, 153, 176, 209, 222, 245, 269, 282, 305, 328, 351, 374]) (len := 67) dm_L_33 rfl rfl rfl (by omega) (by decide) (fun hb2 => ?_) (fun hb2 => ?_)
    · obtain ⟨z, hz⟩ := S_told hd (xr _) hI
      refine me1 (pc' := 187) (L' := [(3, ii (i : Int)), (2, .ref 102), (1, .ref 2), (0, .ref 0)]) (S' := [.ref 2]) dm_L_186 rfl rfl rfl rfl ?_
      refine me1 (pc' := 188) (L' := [(3, ii (i : Int)), (2, .ref 102), (1, .ref 2), (0, .ref 0)]) (S' := [.ref 0, .ref 2]) dm_L_187 rfl rfl rfl rfl ?_
      refine me1 (pc' := 189) (L' := [(3, ii (i : Int)), (2, .ref 102), (1, .ref 2), (0, .ref 0)]) (S' := [ii (i : Int), .ref 0, .ref 2]) dm_L_188 rfl rfl rfl rfl ?_
      refine me0 (pc' := 190) (S' := [ii 1, ii (i : Int), .ref 0, .ref 2]) dm_L_189 rfl rfl rfl rfl ?_
      refine y_iadd (a := (i : Int)) (b := 1) dm_L_190 (pc' := 191) rfl ?_
      refine me3 (pc' := 192) (S' := [ii (xs (i + 1)).toInt, .ref 2]) dm_L_191 (sc_ld (k := i + 1) hL (by omega) (by omega)) rfl rfl rfl ?_
      refine x_cv (pc' := 195) (rest := []) dm_L_192 rfl (g_inv (As := [ii (xs (i + 1)).toInt]) (S := []) hc2 rfl rfl rfl (by decide)) rfl rfl rfl hz ?_
      rintro _ h1 ⟨rfl, hz2, c102, h102⟩
      refine me1 (pc' := 196) (L' := [(3, ii (i : Int)), (2, .ref 102), (1, .ref 2), (0, .ref 0)]) (S' := [.ref 102, ii z]) dm_L_195 rfl rfl rfl rfl ?_
      refine me1 (pc' := 197) (L' := [(3, ii (i : Int)), (2, .ref 102), (1, .ref 2), (0, .ref 0)]) (S' := [.ref 0, .ref 102, ii z]) dm_L_196 rfl rfl rfl rfl ?_
      refine me1 (pc' := 198) (L' := [(3, ii (i : Int)), (2, .ref 102), (1, .ref 2), (0, .ref 0)]) (S' := [ii (i : Int), .ref 0, .ref 102, ii z]) dm_L_197 rfl rfl rfl rfl ?_
      refine me0 (pc' := 199) (S' := [ii 1, ii (i : Int), .ref 0, .ref 102, ii z]) dm_L_198 rfl rfl rfl rfl ?_
      refine y_iadd (a := (i : Int)) (b := 1) dm_L_199 (pc' := 200) rfl ?_
      refine me3 (pc' := 201) (S' := [ii (xs (i + 1)).toInt, .ref 102, ii z]) dm_L_200 (sc_ld (k := i + 1) hL (by omega) (by omega)) rfl rfl rfl ?_
      refine x_cv (pc' := 204) (rest := [ii z]) dm_L_201 rfl (g_inv (As := [ii (xs (i + 1)).toInt]) (S := [ii z]) h102 rfl rfl rfl (by decide)) rfl rfl rfl hz2 ?_
      rintro _ h2 ⟨rfl, hI2⟩
      refine me_2t (pc' := 450) dm_L_204 rfl (mj_cnd_eq.mpr rfl) ?_
      exact nxt h2 hI2
    refine y_sw (a := q) (3) (t := 209) (i := .tableswitch 417 0 12 #[67, 130, 153, 176, 209, 222, 245, 269, 282, 305, 328, 351, 374]) (len := 67) dm_L_33 rfl rfl rfl (by omega) (by decide) (fun hb3 => ?_) (fun hb3 => ?_)
    · obtain ⟨z, hz⟩ := S_point hx1 hd (xr _) (xr _) hI
      refine me1 (pc' := 210) (L' := [(3, ii (i : Int)), (2, .ref 102), (1, .ref 2), (0, .ref 0)]) (S' := [.ref 2]) dm_L_209 rfl rfl rfl rfl ?_
      refine me1 (pc' := 211) (L' := [(3, ii (i : Int)), (2, .ref 102), (1, .ref 2), (0, .ref 0)]) (S' := [.ref 0, .ref 2]) dm_L_210 rfl rfl rfl rfl ?_
      refine me1 (pc' := 212) (L' := [(3, ii (i : Int)), (2, .ref 102), (1, .ref 2), (0, .ref 0)]) (S' := [ii (i : Int), .ref 0, .ref 2]) dm_L_211 rfl rfl rfl rfl ?_
      refine me0 (pc' := 213) (S' := [ii 1, ii (i : Int), .ref 0, .ref 2]) dm_L_212 rfl rfl rfl rfl ?_
      refine y_iadd (a := (i : Int)) (b := 1) dm_L_213 (pc' := 214) rfl ?_
      refine me3 (pc' := 215) (S' := [ii (xs (i + 1)).toInt, .ref 2]) dm_L_214 (sc_ld (k := i + 1) hL (by omega) (by omega)) rfl rfl rfl ?_
      refine me1 (pc' := 216) (L' := [(3, ii (i : Int)), (2, .ref 102), (1, .ref 2), (0, .ref 0)]) (S' := [.ref 0, ii (xs (i + 1)).toInt, .ref 2]) dm_L_215 rfl rfl rfl rfl ?_
      refine me1 (pc' := 217) (L' := [(3, ii (i : Int)), (2, .ref 102), (1, .ref 2), (0, .ref 0)]) (S' := [ii (i : Int), .ref 0, ii (xs (i + 1)).toInt, .ref 2]) dm_L_216 rfl rfl rfl rfl ?_
      refine me0 (pc' := 218) (S' := [ii 2, ii (i : Int), .ref 0, ii (xs (i + 1)).toInt, .ref 2]) dm_L_217 rfl rfl rfl rfl ?_
      refine y_iadd (a := (i : Int)) (b := 2) dm_L_218 (pc' := 219) rfl ?_
      refine me3 (pc' := 220) (S' := [ii (xs (i + 2)).toInt, ii (xs (i + 1)).toInt, .ref 2]) dm_L_219 (sc_ld (k := i + 2) hL (by omega) (by omega)) rfl rfl rfl ?_
      refine x_cv (pc' := 223) (rest := []) dm_L_220 rfl (g_inv (As := [ii (xs (i + 1)).toInt, ii (xs (i + 2)).toInt]) (S := []) hc2 rfl rfl rfl (by decide)) rfl rfl rfl hz ?_
      rintro _ h1 ⟨rfl, hz2, c102, h102⟩
      refine me1 (pc' := 224) (L' := [(3, ii (i : Int)), (2, .ref 102), (1, .ref 2), (0, .ref 0)]) (S' := [.ref 102, ii z]) dm_L_223 rfl rfl rfl rfl ?_
      refine me1 (pc' := 225) (L' := [(3, ii (i : Int)), (2, .ref 102), (1, .ref 2), (0, .ref 0)]) (S' := [.ref 0, .ref 102, ii z]) dm_L_224 rfl rfl rfl rfl ?_
      refine me1 (pc' := 226) (L' := [(3, ii (i : Int)), (2, .ref 102), (1, .ref 2), (0, .ref 0)]) (S' := [ii (i : Int), .ref 0, .ref 102, ii z]) dm_L_225 rfl rfl rfl rfl ?_
      refine me0 (pc' := 227) (S' := [ii 1, ii (i : Int), .ref 0, .ref 102, ii z]) dm_L_226 rfl rfl rfl rfl ?_
      refine y_iadd (a := (i : Int)) (b := 1) dm_L_227 (pc' := 228) rfl ?_
      refine me3 (pc' := 229) (S' := [ii (xs (i + 1)).toInt, .ref 102, ii z]) dm_L_228 (sc_ld (k := i + 1) hL (by omega) (by omega)) rfl rfl rfl ?_
      refine me1 (pc' := 230) (L' := [(3, ii (i : Int)), (2, .ref 102), (1, .ref 2), (0, .ref 0)]) (S' := [.ref 0, ii (xs (i + 1)).toInt, .ref 102, ii z]) dm_L_229 rfl rfl rfl rfl ?_
      refine me1 (pc' := 231) (L' := [(3, ii (i : Int)), (2, .ref 102), (1, .ref 2), (0, .ref 0)]) (S' := [ii (i : Int), .ref 0, ii (xs (i + 1)).toInt, .ref 102, ii z]) dm_L_230 rfl rfl rfl rfl ?_
      refine me0 (pc' := 232) (S' := [ii 2, ii (i : Int), .ref 0, ii (xs (i + 1)).toInt, .ref 102, ii z]) dm_L_231 rfl rfl rfl rfl ?_
      refine y_iadd (a := (i : Int)) (b := 2) dm_L_232 (pc' := 233) rfl ?_
      refine me3 (pc' := 234) (S' := [ii (xs (i + 2)).toInt, ii (xs (i + 1)).toInt, .ref 102, ii z]) dm_L_233 (sc_ld (k := i + 2) hL (by omega) (by omega)) rfl rfl rfl ?_
      refine x_cv (pc' := 237) (rest := [ii z]) dm_L_234 rfl (g_inv (As := [ii (xs (i + 1)).toInt, ii (xs (i + 2)).toInt]) (S := [ii z]) h102 rfl rfl rfl (by decide)) rfl rfl rfl hz2 ?_
      rintro _ h2 ⟨rfl, hI2⟩
      refine me_2t (pc' := 450) dm_L_237 rfl (mj_cnd_eq.mpr rfl) ?_
      exact nxt h2 hI2
    refine y_sw (a := q) (4) (t := 242) (i := .tableswitch 417 0 12 #[67, 130, 153, 176, 209, 222, 245, 269, 282, 305, 328, 351, 374]) (len := 67) dm_L_33 rfl rfl rfl (by omega) (by decide) (fun hb4 => ?_) (fun hb4 => ?_)
    · obtain ⟨z, hz⟩ := S_kind hd hI
      refine me1 (pc' := 243) (L' := [(3, ii (i : Int)), (2, .ref 102), (1, .ref 2), (0, .ref 0)]) (S' := [.ref 2]) dm_L_242 rfl rfl rfl rfl ?_
      refine x_cv (pc' := 246) (rest := []) dm_L_243 rfl (g_inv (As := []) (S := []) hc2 rfl rfl rfl (by decide)) rfl rfl rfl hz ?_
      rintro _ h1 ⟨rfl, hz2, c102, h102⟩
      refine me1 (pc' := 247) (L' := [(3, ii (i : Int)), (2, .ref 102), (1, .ref 2), (0, .ref 0)]) (S' := [.ref 102, ii z]) dm_L_246 rfl rfl rfl rfl ?_
      refine x_cv (pc' := 250) (rest := [ii z]) dm_L_247 rfl (g_inv (As := []) (S := [ii z]) h102 rfl rfl rfl (by decide)) rfl rfl rfl hz2 ?_
      rintro _ h2 ⟨rfl, hI2⟩
      refine me_2t (pc' := 450) dm_L_250 rfl (mj_cnd_eq.mpr rfl) ?_
      exact nxt h2 hI2
    refine y_sw (a := q) (5) (t := 255) (i := .tableswitch 417 0 12 #[67, 130, 153, 176, 209, 222, 245, 269, 282, 305, 328, 351, 374]) (len := 67) dm_L_33 rfl rfl rfl (by omega) (by decide) (fun hb5 => ?_) (fun hb5 => ?_)
    · obtain ⟨z, hz⟩ := S_count hd (xr _) hI
      refine me1 (pc' := 256) (L' := [(3, ii (i : Int)), (2, .ref 102), (1, .ref 2), (0, .ref 0)]) (S' := [.ref 2]) dm_L_255 rfl rfl rfl rfl ?_
      refine me1 (pc' := 257) (L' := [(3, ii (i : Int)), (2, .ref 102), (1, .ref 2), (0, .ref 0)]) (S' := [.ref 0, .ref 2]) dm_L_256 rfl rfl rfl rfl ?_
      refine me1 (pc' := 258) (L' := [(3, ii (i : Int)), (2, .ref 102), (1, .ref 2), (0, .ref 0)]) (S' := [ii (i : Int), .ref 0, .ref 2]) dm_L_257 rfl rfl rfl rfl ?_
      refine me0 (pc' := 259) (S' := [ii 1, ii (i : Int), .ref 0, .ref 2]) dm_L_258 rfl rfl rfl rfl ?_
      refine y_iadd (a := (i : Int)) (b := 1) dm_L_259 (pc' := 260) rfl ?_
      refine me3 (pc' := 261) (S' := [ii (xs (i + 1)).toInt, .ref 2]) dm_L_260 (sc_ld (k := i + 1) hL (by omega) (by omega)) rfl rfl rfl ?_
      refine x_cv (pc' := 264) (rest := []) dm_L_261 rfl (g_inv (As := [ii (xs (i + 1)).toInt]) (S := []) hc2 rfl rfl rfl (by decide)) rfl rfl rfl hz ?_
      rintro _ h1 ⟨rfl, hz2, c102, h102⟩
      refine me1 (pc' := 265) (L' := [(3, ii (i : Int)), (2, .ref 102), (1, .ref 2), (0, .ref 0)]) (S' := [.ref 102, ii z]) dm_L_264 rfl rfl rfl rfl ?_
      refine me1 (pc' := 266) (L' := [(3, ii (i : Int)), (2, .ref 102), (1, .ref 2), (0, .ref 0)]) (S' := [.ref 0, .ref 102, ii z]) dm_L_265 rfl rfl rfl rfl ?_
      refine me1 (pc' := 267) (L' := [(3, ii (i : Int)), (2, .ref 102), (1, .ref 2), (0, .ref 0)]) (S' := [ii (i : Int), .ref 0, .ref 102, ii z]) dm_L_266 rfl rfl rfl rfl ?_
      refine me0 (pc' := 268) (S' := [ii 1, ii (i : Int), .ref 0, .ref 102, ii z]) dm_L_267 rfl rfl rfl rfl ?_
      refine y_iadd (a := (i : Int)) (b := 1) dm_L_268 (pc' := 269) rfl ?_
      refine me3 (pc' := 270) (S' := [ii (xs (i + 1)).toInt, .ref 102, ii z]) dm_L_269 (sc_ld (k := i + 1) hL (by omega) (by omega)) rfl rfl rfl ?_
      refine x_cv (pc' := 273) (rest := [ii z]) dm_L_270 rfl (g_inv (As := [ii (xs (i + 1)).toInt]) (S := [ii z]) h102 rfl rfl rfl (by decide)) rfl rfl rfl hz2 ?_
      rintro _ h2 ⟨rfl, hI2⟩
      refine me_2t (pc' := 450) dm_L_273 rfl (mj_cnd_eq.mpr rfl) ?_
      exact nxt h2 hI2
    refine y_sw (a := q) (6) (t := 278) (i := .tableswitch 417 0 12 #[67, 130, 153, 176, 209, 222, 245, 269, 282, 305, 328, 351, 374]) (len := 67) dm_L_33 rfl rfl rfl (by omega) (by decide) (fun hb6 => ?_) (fun hb6 => ?_)
    · obtain ⟨z, hz⟩ := S_item hx1 hd (xr _) hI
      refine me1 (pc' := 279) (L' := [(3, ii (i : Int)), (2, .ref 102), (1, .ref 2), (0, .ref 0)]) (S' := [.ref 2]) dm_L_278 rfl rfl rfl rfl ?_
      refine me1 (pc' := 280) (L' := [(3, ii (i : Int)), (2, .ref 102), (1, .ref 2), (0, .ref 0)]) (S' := [.ref 0, .ref 2]) dm_L_279 rfl rfl rfl rfl ?_
      refine me1 (pc' := 281) (L' := [(3, ii (i : Int)), (2, .ref 102), (1, .ref 2), (0, .ref 0)]) (S' := [ii (i : Int), .ref 0, .ref 2]) dm_L_280 rfl rfl rfl rfl ?_
      refine me0 (pc' := 282) (S' := [ii 1, ii (i : Int), .ref 0, .ref 2]) dm_L_281 rfl rfl rfl rfl ?_
      refine y_iadd (a := (i : Int)) (b := 1) dm_L_282 (pc' := 283) rfl ?_
      refine me3 (pc' := 284) (S' := [ii (xs (i + 1)).toInt, .ref 2]) dm_L_283 (sc_ld (k := i + 1) hL (by omega) (by omega)) rfl rfl rfl ?_
      refine x_cv (pc' := 287) (rest := []) dm_L_284 rfl (g_inv (As := [ii (xs (i + 1)).toInt]) (S := []) hc2 rfl rfl rfl (by decide)) rfl rfl rfl hz ?_
      rintro _ h1 ⟨rfl, hz2, c102, h102⟩
      refine me1 (pc' := 288) (L' := [(3, ii (i : Int)), (2, .ref 102), (1, .ref 2), (0, .ref 0)]) (S' := [.ref 102, .long z]) dm_L_287 rfl rfl rfl rfl ?_
      refine me1 (pc' := 289) (L' := [(3, ii (i : Int)), (2, .ref 102), (1, .ref 2), (0, .ref 0)]) (S' := [.ref 0, .ref 102, .long z]) dm_L_288 rfl rfl rfl rfl ?_
      refine me1 (pc' := 290) (L' := [(3, ii (i : Int)), (2, .ref 102), (1, .ref 2), (0, .ref 0)]) (S' := [ii (i : Int), .ref 0, .ref 102, .long z]) dm_L_289 rfl rfl rfl rfl ?_
      refine me0 (pc' := 291) (S' := [ii 1, ii (i : Int), .ref 0, .ref 102, .long z]) dm_L_290 rfl rfl rfl rfl ?_
      refine y_iadd (a := (i : Int)) (b := 1) dm_L_291 (pc' := 292) rfl ?_
      refine me3 (pc' := 293) (S' := [ii (xs (i + 1)).toInt, .ref 102, .long z]) dm_L_292 (sc_ld (k := i + 1) hL (by omega) (by omega)) rfl rfl rfl ?_
      refine x_cv (pc' := 296) (rest := [.long z]) dm_L_293 rfl (g_inv (As := [ii (xs (i + 1)).toInt]) (S := [.long z]) h102 rfl rfl rfl (by decide)) rfl rfl rfl hz2 ?_
      rintro _ h2 ⟨rfl, hI2⟩
      refine y_leq (x := z) (y := z) (t := 450) (pc1 := 297) (pc' := 300) dm_L_296 rfl dm_L_297 rfl rfl (fun _ => ?_) (fun hb => absurd rfl hb)
      exact nxt h2 hI2
    refine y_sw (a := q) (7) (t := 302) (i := .tableswitch 417 0 12 #[67, 130, 153, 176, 209, 222, 245, 269, 282, 305, 328, 351, 374]) (len := 67) dm_L_33 rfl rfl rfl (by omega) (by decide) (fun hb7 => ?_) (fun hb7 => ?_)
    · obtain ⟨z, hz⟩ := S_print hx1 hd hI
      refine me1 (pc' := 303) (L' := [(3, ii (i : Int)), (2, .ref 102), (1, .ref 2), (0, .ref 0)]) (S' := [.ref 2]) dm_L_302 rfl rfl rfl rfl ?_
      refine x_cv (pc' := 306) (rest := []) dm_L_303 rfl (g_inv (As := []) (S := []) hc2 rfl rfl rfl (by decide)) rfl rfl rfl hz ?_
      rintro _ h1 ⟨rfl, hz2, c102, h102⟩
      refine me1 (pc' := 307) (L' := [(3, ii (i : Int)), (2, .ref 102), (1, .ref 2), (0, .ref 0)]) (S' := [.ref 102, ii z]) dm_L_306 rfl rfl rfl rfl ?_
      refine x_cv (pc' := 310) (rest := [ii z]) dm_L_307 rfl (g_inv (As := []) (S := [ii z]) h102 rfl rfl rfl (by decide)) rfl rfl rfl hz2 ?_
      rintro _ h2 ⟨rfl, hI2⟩
      refine me_2t (pc' := 450) dm_L_310 rfl (mj_cnd_eq.mpr rfl) ?_
      exact nxt h2 hI2
    refine y_sw (a := q) (8) (t := 315) (i := .tableswitch 417 0 12 #[67, 130, 153, 176, 209, 222, 245, 269, 282, 305, 328, 351, 374]) (len := 67) dm_L_33 rfl rfl rfl (by omega) (by decide) (fun hb8 => ?_) (fun hb8 => ?_)
    · obtain ⟨z, hz⟩ := S_octet hd (xr _) hI
      refine me1 (pc' := 316) (L' := [(3, ii (i : Int)), (2, .ref 102), (1, .ref 2), (0, .ref 0)]) (S' := [.ref 2]) dm_L_315 rfl rfl rfl rfl ?_
      refine me1 (pc' := 317) (L' := [(3, ii (i : Int)), (2, .ref 102), (1, .ref 2), (0, .ref 0)]) (S' := [.ref 0, .ref 2]) dm_L_316 rfl rfl rfl rfl ?_
      refine me1 (pc' := 318) (L' := [(3, ii (i : Int)), (2, .ref 102), (1, .ref 2), (0, .ref 0)]) (S' := [ii (i : Int), .ref 0, .ref 2]) dm_L_317 rfl rfl rfl rfl ?_
      refine me0 (pc' := 319) (S' := [ii 1, ii (i : Int), .ref 0, .ref 2]) dm_L_318 rfl rfl rfl rfl ?_
      refine y_iadd (a := (i : Int)) (b := 1) dm_L_319 (pc' := 320) rfl ?_
      refine me3 (pc' := 321) (S' := [ii (xs (i + 1)).toInt, .ref 2]) dm_L_320 (sc_ld (k := i + 1) hL (by omega) (by omega)) rfl rfl rfl ?_
      refine x_cv (pc' := 324) (rest := []) dm_L_321 rfl (g_inv (As := [ii (xs (i + 1)).toInt]) (S := []) hc2 rfl rfl rfl (by decide)) rfl rfl rfl hz ?_
      rintro _ h1 ⟨rfl, hz2, c102, h102⟩
      refine me1 (pc' := 325) (L' := [(3, ii (i : Int)), (2, .ref 102), (1, .ref 2), (0, .ref 0)]) (S' := [.ref 102, ii z]) dm_L_324 rfl rfl rfl rfl ?_
      refine me1 (pc' := 326) (L' := [(3, ii (i : Int)), (2, .ref 102), (1, .ref 2), (0, .ref 0)]) (S' := [.ref 0, .ref 102, ii z]) dm_L_325 rfl rfl rfl rfl ?_
      refine me1 (pc' := 327) (L' := [(3, ii (i : Int)), (2, .ref 102), (1, .ref 2), (0, .ref 0)]) (S' := [ii (i : Int), .ref 0, .ref 102, ii z]) dm_L_326 rfl rfl rfl rfl ?_
      refine me0 (pc' := 328) (S' := [ii 1, ii (i : Int), .ref 0, .ref 102, ii z]) dm_L_327 rfl rfl rfl rfl ?_
      refine y_iadd (a := (i : Int)) (b := 1) dm_L_328 (pc' := 329) rfl ?_
      refine me3 (pc' := 330) (S' := [ii (xs (i + 1)).toInt, .ref 102, ii z]) dm_L_329 (sc_ld (k := i + 1) hL (by omega) (by omega)) rfl rfl rfl ?_
      refine x_cv (pc' := 333) (rest := [ii z]) dm_L_330 rfl (g_inv (As := [ii (xs (i + 1)).toInt]) (S := [ii z]) h102 rfl rfl rfl (by decide)) rfl rfl rfl hz2 ?_
      rintro _ h2 ⟨rfl, hI2⟩
      refine me_2t (pc' := 450) dm_L_333 rfl (mj_cnd_eq.mpr rfl) ?_
      exact nxt h2 hI2
    refine y_sw (a := q) (9) (t := 338) (i := .tableswitch 417 0 12 #[67, 130, 153, 176, 209, 222, 245, 269, 282, 305, 328, 351, 374]) (len := 67) dm_L_33 rfl rfl rfl (by omega) (by decide) (fun hb9 => ?_) (fun hb9 => ?_)
    · obtain ⟨z, hz⟩ := S_keep hd (xr _) hI
      refine me1 (pc' := 339) (L' := [(3, ii (i : Int)), (2, .ref 102), (1, .ref 2), (0, .ref 0)]) (S' := [.ref 2]) dm_L_338 rfl rfl rfl rfl ?_
      refine me1 (pc' := 340) (L' := [(3, ii (i : Int)), (2, .ref 102), (1, .ref 2), (0, .ref 0)]) (S' := [.ref 0, .ref 2]) dm_L_339 rfl rfl rfl rfl ?_
      refine me1 (pc' := 341) (L' := [(3, ii (i : Int)), (2, .ref 102), (1, .ref 2), (0, .ref 0)]) (S' := [ii (i : Int), .ref 0, .ref 2]) dm_L_340 rfl rfl rfl rfl ?_
      refine me0 (pc' := 342) (S' := [ii 1, ii (i : Int), .ref 0, .ref 2]) dm_L_341 rfl rfl rfl rfl ?_
      refine y_iadd (a := (i : Int)) (b := 1) dm_L_342 (pc' := 343) rfl ?_
      refine me3 (pc' := 344) (S' := [ii (xs (i + 1)).toInt, .ref 2]) dm_L_343 (sc_ld (k := i + 1) hL (by omega) (by omega)) rfl rfl rfl ?_
      refine x_cv (pc' := 347) (rest := []) dm_L_344 rfl (g_inv (As := [ii (xs (i + 1)).toInt]) (S := []) hc2 rfl rfl rfl (by decide)) rfl rfl rfl hz ?_
      rintro _ h1 ⟨rfl, hz2, c102, h102⟩
      refine me1 (pc' := 348) (L' := [(3, ii (i : Int)), (2, .ref 102), (1, .ref 2), (0, .ref 0)]) (S' := [.ref 102, ii z]) dm_L_347 rfl rfl rfl rfl ?_
      refine me1 (pc' := 349) (L' := [(3, ii (i : Int)), (2, .ref 102), (1, .ref 2), (0, .ref 0)]) (S' := [.ref 0, .ref 102, ii z]) dm_L_348 rfl rfl rfl rfl ?_
      refine me1 (pc' := 350) (L' := [(3, ii (i : Int)), (2, .ref 102), (1, .ref 2), (0, .ref 0)]) (S' := [ii (i : Int), .ref 0, .ref 102, ii z]) dm_L_349 rfl rfl rfl rfl ?_
      refine me0 (pc' := 351) (S' := [ii 1, ii (i : Int), .ref 0, .ref 102, ii z]) dm_L_350 rfl rfl rfl rfl ?_
      refine y_iadd (a := (i : Int)) (b := 1) dm_L_351 (pc' := 352) rfl ?_
      refine me3 (pc' := 353) (S' := [ii (xs (i + 1)).toInt, .ref 102, ii z]) dm_L_352 (sc_ld (k := i + 1) hL (by omega) (by omega)) rfl rfl rfl ?_
      refine x_cv (pc' := 356) (rest := [ii z]) dm_L_353 rfl (g_inv (As := [ii (xs (i + 1)).toInt]) (S := [ii z]) h102 rfl rfl rfl (by decide)) rfl rfl rfl hz2 ?_
      rintro _ h2 ⟨rfl, hI2⟩
      refine me_2t (pc' := 450) dm_L_356 rfl (mj_cnd_eq.mpr rfl) ?_
      exact nxt h2 hI2
    refine y_sw (a := q) (10) (t := 361) (i := .tableswitch 417 0 12 #[67, 130, 153, 176, 209, 222, 245, 269, 282, 305, 328, 351, 374]) (len := 67) dm_L_33 rfl rfl rfl (by omega) (by decide) (fun hb10 => ?_) (fun hb10 => ?_)
    · obtain ⟨z, hz⟩ := S_back hd (xr _) hI
      refine me1 (pc' := 362) (L' := [(3, ii (i : Int)), (2, .ref 102), (1, .ref 2), (0, .ref 0)]) (S' := [.ref 2]) dm_L_361 rfl rfl rfl rfl ?_
      refine me1 (pc' := 363) (L' := [(3, ii (i : Int)), (2, .ref 102), (1, .ref 2), (0, .ref 0)]) (S' := [.ref 0, .ref 2]) dm_L_362 rfl rfl rfl rfl ?_
      refine me1 (pc' := 364) (L' := [(3, ii (i : Int)), (2, .ref 102), (1, .ref 2), (0, .ref 0)]) (S' := [ii (i : Int), .ref 0, .ref 2]) dm_L_363 rfl rfl rfl rfl ?_
      refine me0 (pc' := 365) (S' := [ii 1, ii (i : Int), .ref 0, .ref 2]) dm_L_364 rfl rfl rfl rfl ?_
      refine y_iadd (a := (i : Int)) (b := 1) dm_L_365 (pc' := 366) rfl ?_
      refine me3 (pc' := 367) (S' := [ii (xs (i + 1)).toInt, .ref 2]) dm_L_366 (sc_ld (k := i + 1) hL (by omega) (by omega)) rfl rfl rfl ?_
      refine x_cv (pc' := 370) (rest := []) dm_L_367 rfl (g_inv (As := [ii (xs (i + 1)).toInt]) (S := []) hc2 rfl rfl rfl (by decide)) rfl rfl rfl hz ?_
      rintro _ h1 ⟨rfl, hz2, c102, h102⟩
      refine me1 (pc' := 371) (L' := [(3, ii (i : Int)), (2, .ref 102), (1, .ref 2), (0, .ref 0)]) (S' := [.ref 102, ii z]) dm_L_370 rfl rfl rfl rfl ?_
      refine me1 (pc' := 372) (L' := [(3, ii (i : Int)), (2, .ref 102), (1, .ref 2), (0, .ref 0)]) (S' := [.ref 0, .ref 102, ii z]) dm_L_371 rfl rfl rfl rfl ?_
      refine me1 (pc' := 373) (L' := [(3, ii (i : Int)), (2, .ref 102), (1, .ref 2), (0, .ref 0)]) (S' := [ii (i : Int), .ref 0, .ref 102, ii z]) dm_L_372 rfl rfl rfl rfl ?_
      refine me0 (pc' := 374) (S' := [ii 1, ii (i : Int), .ref 0, .ref 102, ii z]) dm_L_373 rfl rfl rfl rfl ?_
      refine y_iadd (a := (i : Int)) (b := 1) dm_L_374 (pc' := 375) rfl ?_
      refine me3 (pc' := 376) (S' := [ii (xs (i + 1)).toInt, .ref 102, ii z]) dm_L_375 (sc_ld (k := i + 1) hL (by omega) (by omega)) rfl rfl rfl ?_
      refine x_cv (pc' := 379) (rest := [ii z]) dm_L_376 rfl (g_inv (As := [ii (xs (i + 1)).toInt]) (S := [ii z]) h102 rfl rfl rfl (by decide)) rfl rfl rfl hz2 ?_
      rintro _ h2 ⟨rfl, hI2⟩
      refine me_2t (pc' := 450) dm_L_379 rfl (mj_cnd_eq.mpr rfl) ?_
      exact nxt h2 hI2
    refine y_sw (a := q) (11) (t := 384) (i := .tableswitch 417 0 12 #[67, 130, 153, 176, 209, 222, 245, 269, 282, 305, 328, 351, 374]) (len := 67) dm_L_33 rfl rfl rfl (by omega) (by decide) (fun hb11 => ?_) (fun hb11 => ?_)
    · obtain ⟨z, hz⟩ := S_names hd (xr _) hI
      refine me1 (pc' := 385) (L' := [(3, ii (i : Int)), (2, .ref 102), (1, .ref 2), (0, .ref 0)]) (S' := [.ref 2]) dm_L_384 rfl rfl rfl rfl ?_
      refine me1 (pc' := 386) (L' := [(3, ii (i : Int)), (2, .ref 102), (1, .ref 2), (0, .ref 0)]) (S' := [.ref 0, .ref 2]) dm_L_385 rfl rfl rfl rfl ?_
      refine me1 (pc' := 387) (L' := [(3, ii (i : Int)), (2, .ref 102), (1, .ref 2), (0, .ref 0)]) (S' := [ii (i : Int), .ref 0, .ref 2]) dm_L_386 rfl rfl rfl rfl ?_
      refine me0 (pc' := 388) (S' := [ii 1, ii (i : Int), .ref 0, .ref 2]) dm_L_387 rfl rfl rfl rfl ?_
      refine y_iadd (a := (i : Int)) (b := 1) dm_L_388 (pc' := 389) rfl ?_
      refine me3 (pc' := 390) (S' := [ii (xs (i + 1)).toInt, .ref 2]) dm_L_389 (sc_ld (k := i + 1) hL (by omega) (by omega)) rfl rfl rfl ?_
      refine x_cv (pc' := 393) (rest := []) dm_L_390 rfl (g_inv (As := [ii (xs (i + 1)).toInt]) (S := []) hc2 rfl rfl rfl (by decide)) rfl rfl rfl hz ?_
      rintro _ h1 ⟨rfl, hz2, c102, h102⟩
      refine me1 (pc' := 394) (L' := [(3, ii (i : Int)), (2, .ref 102), (1, .ref 2), (0, .ref 0)]) (S' := [.ref 102, ii z]) dm_L_393 rfl rfl rfl rfl ?_
      refine me1 (pc' := 395) (L' := [(3, ii (i : Int)), (2, .ref 102), (1, .ref 2), (0, .ref 0)]) (S' := [.ref 0, .ref 102, ii z]) dm_L_394 rfl rfl rfl rfl ?_
      refine me1 (pc' := 396) (L' := [(3, ii (i : Int)), (2, .ref 102), (1, .ref 2), (0, .ref 0)]) (S' := [ii (i : Int), .ref 0, .ref 102, ii z]) dm_L_395 rfl rfl rfl rfl ?_
      refine me0 (pc' := 397) (S' := [ii 1, ii (i : Int), .ref 0, .ref 102, ii z]) dm_L_396 rfl rfl rfl rfl ?_
      refine y_iadd (a := (i : Int)) (b := 1) dm_L_397 (pc' := 398) rfl ?_
      refine me3 (pc' := 399) (S' := [ii (xs (i + 1)).toInt, .ref 102, ii z]) dm_L_398 (sc_ld (k := i + 1) hL (by omega) (by omega)) rfl rfl rfl ?_
      refine x_cv (pc' := 402) (rest := [ii z]) dm_L_399 rfl (g_inv (As := [ii (xs (i + 1)).toInt]) (S := [ii z]) h102 rfl rfl rfl (by decide)) rfl rfl rfl hz2 ?_
      rintro _ h2 ⟨rfl, hI2⟩
      refine me_2t (pc' := 450) dm_L_402 rfl (mj_cnd_eq.mpr rfl) ?_
      exact nxt h2 hI2
    refine y_sw (a := q) (12) (t := 407) (i := .tableswitch 417 0 12 #[67, 130, 153, 176, 209, 222, 245, 269, 282, 305, 328, 351, 374]) (len := 67) dm_L_33 rfl rfl rfl (by omega) (by decide) (fun hb12 => ?_) (fun hb12 => ?_)
    · obtain ⟨z, hz⟩ := S_letter hd (xr _) (xr _) (xr _) hI
      refine me1 (pc' := 408) (L' := [(3, ii (i : Int)), (2, .ref 102), (1, .ref 2), (0, .ref 0)]) (S' := [.ref 2]) dm_L_407 rfl rfl rfl rfl ?_
      refine me1 (pc' := 409) (L' := [(3, ii (i : Int)), (2, .ref 102), (1, .ref 2), (0, .ref 0)]) (S' := [.ref 0, .ref 2]) dm_L_408 rfl rfl rfl rfl ?_
      refine me1 (pc' := 410) (L' := [(3, ii (i : Int)), (2, .ref 102), (1, .ref 2), (0, .ref 0)]) (S' := [ii (i : Int), .ref 0, .ref 2]) dm_L_409 rfl rfl rfl rfl ?_
      refine me0 (pc' := 411) (S' := [ii 1, ii (i : Int), .ref 0, .ref 2]) dm_L_410 rfl rfl rfl rfl ?_
      refine y_iadd (a := (i : Int)) (b := 1) dm_L_411 (pc' := 412) rfl ?_
      refine me3 (pc' := 413) (S' := [ii (xs (i + 1)).toInt, .ref 2]) dm_L_412 (sc_ld (k := i + 1) hL (by omega) (by omega)) rfl rfl rfl ?_
      refine me1 (pc' := 414) (L' := [(3, ii (i : Int)), (2, .ref 102), (1, .ref 2), (0, .ref 0)]) (S' := [.ref 0, ii (xs (i + 1)).toInt, .ref 2]) dm_L_413 rfl rfl rfl rfl ?_
      refine me1 (pc' := 415) (L' := [(3, ii (i : Int)), (2, .ref 102), (1, .ref 2), (0, .ref 0)]) (S' := [ii (i : Int), .ref 0, ii (xs (i + 1)).toInt, .ref 2]) dm_L_414 rfl rfl rfl rfl ?_
      refine me0 (pc' := 416) (S' := [ii 2, ii (i : Int), .ref 0, ii (xs (i + 1)).toInt, .ref 2]) dm_L_415 rfl rfl rfl rfl ?_
      refine y_iadd (a := (i : Int)) (b := 2) dm_L_416 (pc' := 417) rfl ?_
      refine me3 (pc' := 418) (S' := [ii (xs (i + 2)).toInt, ii (xs (i + 1)).toInt, .ref 2]) dm_L_417 (sc_ld (k := i + 2) hL (by omega) (by omega)) rfl rfl rfl ?_
      refine me1 (pc' := 419) (L' := [(3, ii (i : Int)), (2, .ref 102), (1, .ref 2), (0, .ref 0)]) (S' := [.ref 0, ii (xs (i + 2)).toInt, ii (xs (i + 1)).toInt, .ref 2]) dm_L_418 rfl rfl rfl rfl ?_
      refine me1 (pc' := 420) (L' := [(3, ii (i : Int)), (2, .ref 102), (1, .ref 2), (0, .ref 0)]) (S' := [ii (i : Int), .ref 0, ii (xs (i + 2)).toInt, ii (xs (i + 1)).toInt, .ref 2]) dm_L_419 rfl rfl rfl rfl ?_
      refine me0 (pc' := 421) (S' := [ii 3, ii (i : Int), .ref 0, ii (xs (i + 2)).toInt, ii (xs (i + 1)).toInt, .ref 2]) dm_L_420 rfl rfl rfl rfl ?_
      refine y_iadd (a := (i : Int)) (b := 3) dm_L_421 (pc' := 422) rfl ?_
      refine me3 (pc' := 423) (S' := [ii (xs (i + 3)).toInt, ii (xs (i + 2)).toInt, ii (xs (i + 1)).toInt, .ref 2]) dm_L_422 (sc_ld (k := i + 3) hL (by omega) (by omega)) rfl rfl rfl ?_
      refine x_cv (pc' := 426) (rest := []) dm_L_423 rfl (g_inv (As := [ii (xs (i + 1)).toInt, ii (xs (i + 2)).toInt, ii (xs (i + 3)).toInt]) (S := []) hc2 rfl rfl rfl (by decide)) rfl rfl rfl hz ?_
      rintro _ h1 ⟨rfl, hz2, c102, h102⟩
      refine me1 (pc' := 427) (L' := [(3, ii (i : Int)), (2, .ref 102), (1, .ref 2), (0, .ref 0)]) (S' := [.ref 102, ii z]) dm_L_426 rfl rfl rfl rfl ?_
      refine me1 (pc' := 428) (L' := [(3, ii (i : Int)), (2, .ref 102), (1, .ref 2), (0, .ref 0)]) (S' := [.ref 0, .ref 102, ii z]) dm_L_427 rfl rfl rfl rfl ?_
      refine me1 (pc' := 429) (L' := [(3, ii (i : Int)), (2, .ref 102), (1, .ref 2), (0, .ref 0)]) (S' := [ii (i : Int), .ref 0, .ref 102, ii z]) dm_L_428 rfl rfl rfl rfl ?_
      refine me0 (pc' := 430) (S' := [ii 1, ii (i : Int), .ref 0, .ref 102, ii z]) dm_L_429 rfl rfl rfl rfl ?_
      refine y_iadd (a := (i : Int)) (b := 1) dm_L_430 (pc' := 431) rfl ?_
      refine me3 (pc' := 432) (S' := [ii (xs (i + 1)).toInt, .ref 102, ii z]) dm_L_431 (sc_ld (k := i + 1) hL (by omega) (by omega)) rfl rfl rfl ?_
      refine me1 (pc' := 433) (L' := [(3, ii (i : Int)), (2, .ref 102), (1, .ref 2), (0, .ref 0)]) (S' := [.ref 0, ii (xs (i + 1)).toInt, .ref 102, ii z]) dm_L_432 rfl rfl rfl rfl ?_
      refine me1 (pc' := 434) (L' := [(3, ii (i : Int)), (2, .ref 102), (1, .ref 2), (0, .ref 0)]) (S' := [ii (i : Int), .ref 0, ii (xs (i + 1)).toInt, .ref 102, ii z]) dm_L_433 rfl rfl rfl rfl ?_
      refine me0 (pc' := 435) (S' := [ii 2, ii (i : Int), .ref 0, ii (xs (i + 1)).toInt, .ref 102, ii z]) dm_L_434 rfl rfl rfl rfl ?_
      refine y_iadd (a := (i : Int)) (b := 2) dm_L_435 (pc' := 436) rfl ?_
      refine me3 (pc' := 437) (S' := [ii (xs (i + 2)).toInt, ii (xs (i + 1)).toInt, .ref 102, ii z]) dm_L_436 (sc_ld (k := i + 2) hL (by omega) (by omega)) rfl rfl rfl ?_
      refine me1 (pc' := 438) (L' := [(3, ii (i : Int)), (2, .ref 102), (1, .ref 2), (0, .ref 0)]) (S' := [.ref 0, ii (xs (i + 2)).toInt, ii (xs (i + 1)).toInt, .ref 102, ii z]) dm_L_437 rfl rfl rfl rfl ?_
      refine me1 (pc' := 439) (L' := [(3, ii (i : Int)), (2, .ref 102), (1, .ref 2), (0, .ref 0)]) (S' := [ii (i : Int), .ref 0, ii (xs (i + 2)).toInt, ii (xs (i + 1)).toInt, .ref 102, ii z]) dm_L_438 rfl rfl rfl rfl ?_
      refine me0 (pc' := 440) (S' := [ii 3, ii (i : Int), .ref 0, ii (xs (i + 2)).toInt, ii (xs (i + 1)).toInt, .ref 102, ii z]) dm_L_439 rfl rfl rfl rfl ?_
      refine y_iadd (a := (i : Int)) (b := 3) dm_L_440 (pc' := 441) rfl ?_
      refine me3 (pc' := 442) (S' := [ii (xs (i + 3)).toInt, ii (xs (i + 2)).toInt, ii (xs (i + 1)).toInt, .ref 102, ii z]) dm_L_441 (sc_ld (k := i + 3) hL (by omega) (by omega)) rfl rfl rfl ?_
      refine x_cv (pc' := 445) (rest := [ii z]) dm_L_442 rfl (g_inv (As := [ii (xs (i + 1)).toInt, ii (xs (i + 2)).toInt, ii (xs (i + 3)).toInt]) (S := [ii z]) h102 rfl rfl rfl (by decide)) rfl rfl rfl hz2 ?_
      rintro _ h2 ⟨rfl, hI2⟩
      refine me_2t (pc' := 450) dm_L_445 rfl (mj_cnd_eq.mpr rfl) ?_
      exact nxt h2 hI2
    refine me2 (pc' := 450) (S' := []) dm_L_33 (sw_tdef [Int32.ofInt 0, Int32.ofInt 1, Int32.ofInt 2, Int32.ofInt 3, Int32.ofInt 4, Int32.ofInt 5, Int32.ofInt 6, Int32.ofInt 7, Int32.ofInt 8, Int32.ofInt 9, Int32.ofInt 10, Int32.ofInt 11, Int32.ofInt 12] rfl rfl rfl ⟨y_no (by omega) (by decide) hb0, y_no (by omega) (by decide) hb1, y_no (by omega) (by decide) hb2, y_no (by omega) (by decide) hb3, y_no (by omega) (by decide) hb4, y_no (by omega) (by decide) hb5, y_no (by omega) (by decide) hb6, y_no (by omega) (by decide) hb7, y_no (by omega) (by decide) hb8, y_no (by omega) (by decide) hb9, y_no (by omega) (by decide) hb10, y_no (by omega) (by decide) hb11, y_no (by omega) (by decide) hb12, trivial⟩) rfl rfl ?_
    exact nxt h (INV_dn hI)
