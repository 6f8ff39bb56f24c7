/-! the law's own code; a step of its loop -/
theorem d_law_0 : decode code 0 = .ok (.new 8, 3) := by decide +kernel
theorem d_law_3 : decode code 3 = .ok (.dup, 1) := by decide +kernel
theorem d_law_4 : decode code 4 = .ok (.invokespecial 54, 3) := by decide +kernel
theorem d_law_7 : decode code 7 = .ok (.astore_n 1, 1) := by decide +kernel
theorem d_law_8 : decode code 8 = .ok (.new 55, 3) := by decide +kernel
theorem d_law_11 : decode code 11 = .ok (.dup, 1) := by decide +kernel
theorem d_law_12 : decode code 12 = .ok (.invokespecial 57, 3) := by decide +kernel
theorem d_law_15 : decode code 15 = .ok (.astore_n 2, 1) := by decide +kernel
theorem d_law_16 : decode code 16 = .ok (.iconst 1, 1) := by decide +kernel
theorem d_law_17 : decode code 17 = .ok (.newarray .long, 2) := by decide +kernel
theorem d_law_19 : decode code 19 = .ok (.astore_n 3, 1) := by decide +kernel
theorem d_law_20 : decode code 20 = .ok (.iconst 0, 1) := by decide +kernel
theorem d_law_21 : decode code 21 = .ok (.istore 4, 2) := by decide +kernel
theorem d_law_23 : decode code 23 = .ok (.iload 4, 2) := by decide +kernel
theorem d_law_25 : decode code 25 = .ok (.aload_n 0, 1) := by decide +kernel
theorem d_law_26 : decode code 26 = .ok (.arraylength, 1) := by decide +kernel
theorem d_law_27 : decode code 27 = .ok (.iconst 5, 1) := by decide +kernel
theorem d_law_28 : decode code 28 = .ok (.isub, 1) := by decide +kernel
theorem d_law_29 : decode code 29 = .ok (.if_icmp .gt 978, 3) := by decide +kernel
theorem d_law_32 : decode code 32 = .ok (.aload_n 0, 1) := by decide +kernel
theorem d_law_33 : decode code 33 = .ok (.iload 4, 2) := by decide +kernel
theorem d_law_35 : decode code 35 = .ok (.iaload, 1) := by decide +kernel
theorem d_law_36 : decode code 36 = .ok (.bipush 31, 2) := by decide +kernel
theorem d_law_38 : decode code 38 = .ok (.iand, 1) := by decide +kernel
theorem d_law_39 : decode code 39 = .ok (.tableswitch 962 0 18 #[89, 161, 241, 321, 365, 390, 458, 483, 496, 564, 620, 688, 701, 714, 739, 764, 832, 900, 937], 89) := by decide +kernel
theorem d_law_128 : decode code 128 = .ok (.aload_n 1, 1) := by decide +kernel
theorem d_law_129 : decode code 129 = .ok (.aload_n 0, 1) := by decide +kernel
theorem d_law_130 : decode code 130 = .ok (.iload 4, 2) := by decide +kernel
theorem d_law_132 : decode code 132 = .ok (.iconst 1, 1) := by decide +kernel
theorem d_law_133 : decode code 133 = .ok (.iadd, 1) := by decide +kernel
theorem d_law_134 : decode code 134 = .ok (.iaload, 1) := by decide +kernel
theorem d_law_135 : decode code 135 = .ok (.aload_n 0, 1) := by decide +kernel
theorem d_law_136 : decode code 136 = .ok (.iload 4, 2) := by decide +kernel
theorem d_law_138 : decode code 138 = .ok (.iconst 2, 1) := by decide +kernel
theorem d_law_139 : decode code 139 = .ok (.iadd, 1) := by decide +kernel
theorem d_law_140 : decode code 140 = .ok (.iaload, 1) := by decide +kernel
theorem d_law_141 : decode code 141 = .ok (.aload_n 0, 1) := by decide +kernel
theorem d_law_142 : decode code 142 = .ok (.iload 4, 2) := by decide +kernel
theorem d_law_144 : decode code 144 = .ok (.iconst 3, 1) := by decide +kernel
theorem d_law_145 : decode code 145 = .ok (.iadd, 1) := by decide +kernel
theorem d_law_146 : decode code 146 = .ok (.iaload, 1) := by decide +kernel
theorem d_law_147 : decode code 147 = .ok (.aload_n 0, 1) := by decide +kernel
theorem d_law_148 : decode code 148 = .ok (.iload 4, 2) := by decide +kernel
theorem d_law_150 : decode code 150 = .ok (.iconst 4, 1) := by decide +kernel
theorem d_law_151 : decode code 151 = .ok (.iadd, 1) := by decide +kernel
theorem d_law_152 : decode code 152 = .ok (.iaload, 1) := by decide +kernel
theorem d_law_153 : decode code 153 = .ok (.invokestatic 58, 3) := by decide +kernel
theorem d_law_156 : decode code 156 = .ok (.istore 5, 2) := by decide +kernel
theorem d_law_158 : decode code 158 = .ok (.aload_n 2, 1) := by decide +kernel
theorem d_law_159 : decode code 159 = .ok (.aload_n 0, 1) := by decide +kernel
theorem d_law_160 : decode code 160 = .ok (.iload 4, 2) := by decide +kernel
theorem d_law_162 : decode code 162 = .ok (.iconst 1, 1) := by decide +kernel
theorem d_law_163 : decode code 163 = .ok (.iadd, 1) := by decide +kernel
theorem d_law_164 : decode code 164 = .ok (.iaload, 1) := by decide +kernel
theorem d_law_165 : decode code 165 = .ok (.aload_n 0, 1) := by decide +kernel
theorem d_law_166 : decode code 166 = .ok (.iload 4, 2) := by decide +kernel
theorem d_law_168 : decode code 168 = .ok (.iconst 2, 1) := by decide +kernel
theorem d_law_169 : decode code 169 = .ok (.iadd, 1) := by decide +kernel
theorem d_law_170 : decode code 170 = .ok (.iaload, 1) := by decide +kernel
theorem d_law_171 : decode code 171 = .ok (.aload_n 0, 1) := by decide +kernel
theorem d_law_172 : decode code 172 = .ok (.iload 4, 2) := by decide +kernel
theorem d_law_174 : decode code 174 = .ok (.iconst 3, 1) := by decide +kernel
theorem d_law_175 : decode code 175 = .ok (.iadd, 1) := by decide +kernel
theorem d_law_176 : decode code 176 = .ok (.iaload, 1) := by decide +kernel
theorem d_law_177 : decode code 177 = .ok (.aload_n 0, 1) := by decide +kernel
theorem d_law_178 : decode code 178 = .ok (.iload 4, 2) := by decide +kernel
theorem d_law_180 : decode code 180 = .ok (.iconst 4, 1) := by decide +kernel
theorem d_law_181 : decode code 181 = .ok (.iadd, 1) := by decide +kernel
theorem d_law_182 : decode code 182 = .ok (.iaload, 1) := by decide +kernel
theorem d_law_183 : decode code 183 = .ok (.invokevirtual 63, 3) := by decide +kernel
theorem d_law_186 : decode code 186 = .ok (.aload_n 2, 1) := by decide +kernel
theorem d_law_187 : decode code 187 = .ok (.invokevirtual 64, 3) := by decide +kernel
theorem d_law_190 : decode code 190 = .ok (.iload 5, 2) := by decide +kernel
theorem d_law_192 : decode code 192 = .ok (.if_icmp .eq 5, 3) := by decide +kernel
theorem d_law_195 : decode code 195 = .ok (.iconst 0, 1) := by decide +kernel
theorem d_law_196 : decode code 196 = .ok (.ireturn, 1) := by decide +kernel
theorem d_law_197 : decode code 197 = .ok (.goto 804, 3) := by decide +kernel
theorem d_law_200 : decode code 200 = .ok (.aload_n 1, 1) := by decide +kernel
theorem d_law_201 : decode code 201 = .ok (.aload_n 0, 1) := by decide +kernel
theorem d_law_202 : decode code 202 = .ok (.iload 4, 2) := by decide +kernel
theorem d_law_204 : decode code 204 = .ok (.iconst 1, 1) := by decide +kernel
theorem d_law_205 : decode code 205 = .ok (.iadd, 1) := by decide +kernel
theorem d_law_206 : decode code 206 = .ok (.iaload, 1) := by decide +kernel
theorem d_law_207 : decode code 207 = .ok (.aload_n 0, 1) := by decide +kernel
theorem d_law_208 : decode code 208 = .ok (.iload 4, 2) := by decide +kernel
theorem d_law_210 : decode code 210 = .ok (.iconst 2, 1) := by decide +kernel
theorem d_law_211 : decode code 211 = .ok (.iadd, 1) := by decide +kernel
theorem d_law_212 : decode code 212 = .ok (.iaload, 1) := by decide +kernel
theorem d_law_213 : decode code 213 = .ok (.aload_n 0, 1) := by decide +kernel
theorem d_law_214 : decode code 214 = .ok (.iload 4, 2) := by decide +kernel
theorem d_law_216 : decode code 216 = .ok (.iconst 3, 1) := by decide +kernel
theorem d_law_217 : decode code 217 = .ok (.iadd, 1) := by decide +kernel
theorem d_law_218 : decode code 218 = .ok (.iaload, 1) := by decide +kernel
theorem d_law_219 : decode code 219 = .ok (.aload_n 3, 1) := by decide +kernel
theorem d_law_220 : decode code 220 = .ok (.invokestatic 67, 3) := by decide +kernel
theorem d_law_223 : decode code 223 = .ok (.istore 5, 2) := by decide +kernel
theorem d_law_225 : decode code 225 = .ok (.aload_n 2, 1) := by decide +kernel
theorem d_law_226 : decode code 226 = .ok (.aload_n 0, 1) := by decide +kernel
theorem d_law_227 : decode code 227 = .ok (.iload 4, 2) := by decide +kernel
theorem d_law_229 : decode code 229 = .ok (.iconst 1, 1) := by decide +kernel
theorem d_law_230 : decode code 230 = .ok (.iadd, 1) := by decide +kernel
theorem d_law_231 : decode code 231 = .ok (.iaload, 1) := by decide +kernel
theorem d_law_232 : decode code 232 = .ok (.aload_n 0, 1) := by decide +kernel
theorem d_law_233 : decode code 233 = .ok (.iload 4, 2) := by decide +kernel
theorem d_law_235 : decode code 235 = .ok (.iconst 2, 1) := by decide +kernel
theorem d_law_236 : decode code 236 = .ok (.iadd, 1) := by decide +kernel
theorem d_law_237 : decode code 237 = .ok (.iaload, 1) := by decide +kernel
theorem d_law_238 : decode code 238 = .ok (.aload_n 0, 1) := by decide +kernel
theorem d_law_239 : decode code 239 = .ok (.iload 4, 2) := by decide +kernel
theorem d_law_241 : decode code 241 = .ok (.iconst 3, 1) := by decide +kernel
theorem d_law_242 : decode code 242 = .ok (.iadd, 1) := by decide +kernel
theorem d_law_243 : decode code 243 = .ok (.iaload, 1) := by decide +kernel
theorem d_law_244 : decode code 244 = .ok (.invokevirtual 70, 3) := by decide +kernel
theorem d_law_247 : decode code 247 = .ok (.istore 6, 2) := by decide +kernel
theorem d_law_249 : decode code 249 = .ok (.aload_n 2, 1) := by decide +kernel
theorem d_law_250 : decode code 250 = .ok (.invokevirtual 64, 3) := by decide +kernel
theorem d_law_253 : decode code 253 = .ok (.iload 5, 2) := by decide +kernel
theorem d_law_255 : decode code 255 = .ok (.if_icmp .eq 5, 3) := by decide +kernel
theorem d_law_258 : decode code 258 = .ok (.iconst 0, 1) := by decide +kernel
theorem d_law_259 : decode code 259 = .ok (.ireturn, 1) := by decide +kernel
theorem d_law_260 : decode code 260 = .ok (.iload 5, 2) := by decide +kernel
theorem d_law_262 : decode code 262 = .ok (.ifCond .ne 15, 3) := by decide +kernel
theorem d_law_265 : decode code 265 = .ok (.aload_n 3, 1) := by decide +kernel
theorem d_law_266 : decode code 266 = .ok (.iconst 0, 1) := by decide +kernel
theorem d_law_267 : decode code 267 = .ok (.laload, 1) := by decide +kernel
theorem d_law_268 : decode code 268 = .ok (.iload 6, 2) := by decide +kernel
theorem d_law_270 : decode code 270 = .ok (.i2l, 1) := by decide +kernel
theorem d_law_271 : decode code 271 = .ok (.lcmp, 1) := by decide +kernel
theorem d_law_272 : decode code 272 = .ok (.ifCond .eq 5, 3) := by decide +kernel
theorem d_law_275 : decode code 275 = .ok (.iconst 0, 1) := by decide +kernel
theorem d_law_276 : decode code 276 = .ok (.ireturn, 1) := by decide +kernel
theorem d_law_277 : decode code 277 = .ok (.goto 724, 3) := by decide +kernel
theorem d_law_280 : decode code 280 = .ok (.aload_n 1, 1) := by decide +kernel
theorem d_law_281 : decode code 281 = .ok (.aload_n 0, 1) := by decide +kernel
theorem d_law_282 : decode code 282 = .ok (.iload 4, 2) := by decide +kernel
theorem d_law_284 : decode code 284 = .ok (.iconst 1, 1) := by decide +kernel
theorem d_law_285 : decode code 285 = .ok (.iadd, 1) := by decide +kernel
theorem d_law_286 : decode code 286 = .ok (.iaload, 1) := by decide +kernel
theorem d_law_287 : decode code 287 = .ok (.aload_n 0, 1) := by decide +kernel
theorem d_law_288 : decode code 288 = .ok (.iload 4, 2) := by decide +kernel
theorem d_law_290 : decode code 290 = .ok (.iconst 2, 1) := by decide +kernel
theorem d_law_291 : decode code 291 = .ok (.iadd, 1) := by decide +kernel
theorem d_law_292 : decode code 292 = .ok (.iaload, 1) := by decide +kernel
theorem d_law_293 : decode code 293 = .ok (.aload_n 0, 1) := by decide +kernel
theorem d_law_294 : decode code 294 = .ok (.iload 4, 2) := by decide +kernel
theorem d_law_296 : decode code 296 = .ok (.iconst 3, 1) := by decide +kernel
theorem d_law_297 : decode code 297 = .ok (.iadd, 1) := by decide +kernel
theorem d_law_298 : decode code 298 = .ok (.iaload, 1) := by decide +kernel
theorem d_law_299 : decode code 299 = .ok (.aload_n 3, 1) := by decide +kernel
theorem d_law_300 : decode code 300 = .ok (.invokestatic 71, 3) := by decide +kernel
theorem d_law_303 : decode code 303 = .ok (.istore 5, 2) := by decide +kernel
theorem d_law_305 : decode code 305 = .ok (.aload_n 2, 1) := by decide +kernel
theorem d_law_306 : decode code 306 = .ok (.aload_n 0, 1) := by decide +kernel
theorem d_law_307 : decode code 307 = .ok (.iload 4, 2) := by decide +kernel
theorem d_law_309 : decode code 309 = .ok (.iconst 1, 1) := by decide +kernel
theorem d_law_310 : decode code 310 = .ok (.iadd, 1) := by decide +kernel
theorem d_law_311 : decode code 311 = .ok (.iaload, 1) := by decide +kernel
theorem d_law_312 : decode code 312 = .ok (.aload_n 0, 1) := by decide +kernel
theorem d_law_313 : decode code 313 = .ok (.iload 4, 2) := by decide +kernel
theorem d_law_315 : decode code 315 = .ok (.iconst 2, 1) := by decide +kernel
theorem d_law_316 : decode code 316 = .ok (.iadd, 1) := by decide +kernel
theorem d_law_317 : decode code 317 = .ok (.iaload, 1) := by decide +kernel
theorem d_law_318 : decode code 318 = .ok (.aload_n 0, 1) := by decide +kernel
theorem d_law_319 : decode code 319 = .ok (.iload 4, 2) := by decide +kernel
theorem d_law_321 : decode code 321 = .ok (.iconst 3, 1) := by decide +kernel
theorem d_law_322 : decode code 322 = .ok (.iadd, 1) := by decide +kernel
theorem d_law_323 : decode code 323 = .ok (.iaload, 1) := by decide +kernel
theorem d_law_324 : decode code 324 = .ok (.invokevirtual 73, 3) := by decide +kernel
theorem d_law_327 : decode code 327 = .ok (.istore 6, 2) := by decide +kernel
theorem d_law_329 : decode code 329 = .ok (.aload_n 2, 1) := by decide +kernel
theorem d_law_330 : decode code 330 = .ok (.invokevirtual 64, 3) := by decide +kernel
theorem d_law_333 : decode code 333 = .ok (.iload 5, 2) := by decide +kernel
theorem d_law_335 : decode code 335 = .ok (.if_icmp .eq 5, 3) := by decide +kernel
theorem d_law_338 : decode code 338 = .ok (.iconst 0, 1) := by decide +kernel
theorem d_law_339 : decode code 339 = .ok (.ireturn, 1) := by decide +kernel
theorem d_law_340 : decode code 340 = .ok (.iload 5, 2) := by decide +kernel
theorem d_law_342 : decode code 342 = .ok (.ifCond .ne 15, 3) := by decide +kernel
theorem d_law_345 : decode code 345 = .ok (.aload_n 3, 1) := by decide +kernel
theorem d_law_346 : decode code 346 = .ok (.iconst 0, 1) := by decide +kernel
theorem d_law_347 : decode code 347 = .ok (.laload, 1) := by decide +kernel
theorem d_law_348 : decode code 348 = .ok (.iload 6, 2) := by decide +kernel
theorem d_law_350 : decode code 350 = .ok (.i2l, 1) := by decide +kernel
theorem d_law_351 : decode code 351 = .ok (.lcmp, 1) := by decide +kernel
theorem d_law_352 : decode code 352 = .ok (.ifCond .eq 5, 3) := by decide +kernel
theorem d_law_355 : decode code 355 = .ok (.iconst 0, 1) := by decide +kernel
theorem d_law_356 : decode code 356 = .ok (.ireturn, 1) := by decide +kernel
theorem d_law_357 : decode code 357 = .ok (.goto 644, 3) := by decide +kernel
theorem d_law_360 : decode code 360 = .ok (.aload_n 1, 1) := by decide +kernel
theorem d_law_361 : decode code 361 = .ok (.aload_n 3, 1) := by decide +kernel
theorem d_law_362 : decode code 362 = .ok (.invokestatic 74, 3) := by decide +kernel
theorem d_law_365 : decode code 365 = .ok (.istore 5, 2) := by decide +kernel
theorem d_law_367 : decode code 367 = .ok (.aload_n 2, 1) := by decide +kernel
theorem d_law_368 : decode code 368 = .ok (.invokevirtual 77, 3) := by decide +kernel
theorem d_law_371 : decode code 371 = .ok (.istore 6, 2) := by decide +kernel
theorem d_law_373 : decode code 373 = .ok (.aload_n 2, 1) := by decide +kernel
theorem d_law_374 : decode code 374 = .ok (.invokevirtual 64, 3) := by decide +kernel
theorem d_law_377 : decode code 377 = .ok (.iload 5, 2) := by decide +kernel
theorem d_law_379 : decode code 379 = .ok (.if_icmp .eq 5, 3) := by decide +kernel
theorem d_law_382 : decode code 382 = .ok (.iconst 0, 1) := by decide +kernel
theorem d_law_383 : decode code 383 = .ok (.ireturn, 1) := by decide +kernel
theorem d_law_384 : decode code 384 = .ok (.iload 5, 2) := by decide +kernel
theorem d_law_386 : decode code 386 = .ok (.ifCond .ne 15, 3) := by decide +kernel
theorem d_law_389 : decode code 389 = .ok (.aload_n 3, 1) := by decide +kernel
theorem d_law_390 : decode code 390 = .ok (.iconst 0, 1) := by decide +kernel
theorem d_law_391 : decode code 391 = .ok (.laload, 1) := by decide +kernel
theorem d_law_392 : decode code 392 = .ok (.iload 6, 2) := by decide +kernel
theorem d_law_394 : decode code 394 = .ok (.i2l, 1) := by decide +kernel
theorem d_law_395 : decode code 395 = .ok (.lcmp, 1) := by decide +kernel
theorem d_law_396 : decode code 396 = .ok (.ifCond .eq 5, 3) := by decide +kernel
theorem d_law_399 : decode code 399 = .ok (.iconst 0, 1) := by decide +kernel
theorem d_law_400 : decode code 400 = .ok (.ireturn, 1) := by decide +kernel
theorem d_law_401 : decode code 401 = .ok (.goto 600, 3) := by decide +kernel
theorem d_law_404 : decode code 404 = .ok (.aload_n 1, 1) := by decide +kernel
theorem d_law_405 : decode code 405 = .ok (.aload_n 0, 1) := by decide +kernel
theorem d_law_406 : decode code 406 = .ok (.iload 4, 2) := by decide +kernel
theorem d_law_408 : decode code 408 = .ok (.iconst 1, 1) := by decide +kernel
theorem d_law_409 : decode code 409 = .ok (.iadd, 1) := by decide +kernel
theorem d_law_410 : decode code 410 = .ok (.iaload, 1) := by decide +kernel
theorem d_law_411 : decode code 411 = .ok (.invokevirtual 78, 3) := by decide +kernel
theorem d_law_414 : decode code 414 = .ok (.aload_n 2, 1) := by decide +kernel
theorem d_law_415 : decode code 415 = .ok (.aload_n 0, 1) := by decide +kernel
theorem d_law_416 : decode code 416 = .ok (.iload 4, 2) := by decide +kernel
theorem d_law_418 : decode code 418 = .ok (.iconst 1, 1) := by decide +kernel
theorem d_law_419 : decode code 419 = .ok (.iadd, 1) := by decide +kernel
theorem d_law_420 : decode code 420 = .ok (.iaload, 1) := by decide +kernel
theorem d_law_421 : decode code 421 = .ok (.invokevirtual 81, 3) := by decide +kernel
theorem d_law_424 : decode code 424 = .ok (.if_icmp .eq 577, 3) := by decide +kernel
theorem d_law_427 : decode code 427 = .ok (.iconst 0, 1) := by decide +kernel
theorem d_law_428 : decode code 428 = .ok (.ireturn, 1) := by decide +kernel
theorem d_law_429 : decode code 429 = .ok (.aload_n 1, 1) := by decide +kernel
theorem d_law_430 : decode code 430 = .ok (.aload_n 0, 1) := by decide +kernel
theorem d_law_431 : decode code 431 = .ok (.iload 4, 2) := by decide +kernel
theorem d_law_433 : decode code 433 = .ok (.iconst 1, 1) := by decide +kernel
theorem d_law_434 : decode code 434 = .ok (.iadd, 1) := by decide +kernel
theorem d_law_435 : decode code 435 = .ok (.iaload, 1) := by decide +kernel
theorem d_law_436 : decode code 436 = .ok (.aload_n 0, 1) := by decide +kernel
theorem d_law_437 : decode code 437 = .ok (.iload 4, 2) := by decide +kernel
theorem d_law_439 : decode code 439 = .ok (.iconst 2, 1) := by decide +kernel
theorem d_law_440 : decode code 440 = .ok (.iadd, 1) := by decide +kernel
theorem d_law_441 : decode code 441 = .ok (.iaload, 1) := by decide +kernel
theorem d_law_442 : decode code 442 = .ok (.aload_n 3, 1) := by decide +kernel
theorem d_law_443 : decode code 443 = .ok (.invokestatic 82, 3) := by decide +kernel
theorem d_law_446 : decode code 446 = .ok (.istore 5, 2) := by decide +kernel
theorem d_law_448 : decode code 448 = .ok (.aload_n 2, 1) := by decide +kernel
theorem d_law_449 : decode code 449 = .ok (.aload_n 0, 1) := by decide +kernel
theorem d_law_450 : decode code 450 = .ok (.iload 4, 2) := by decide +kernel
theorem d_law_452 : decode code 452 = .ok (.iconst 1, 1) := by decide +kernel
theorem d_law_453 : decode code 453 = .ok (.iadd, 1) := by decide +kernel
theorem d_law_454 : decode code 454 = .ok (.iaload, 1) := by decide +kernel
theorem d_law_455 : decode code 455 = .ok (.aload_n 0, 1) := by decide +kernel
theorem d_law_456 : decode code 456 = .ok (.iload 4, 2) := by decide +kernel
theorem d_law_458 : decode code 458 = .ok (.iconst 2, 1) := by decide +kernel
theorem d_law_459 : decode code 459 = .ok (.iadd, 1) := by decide +kernel
theorem d_law_460 : decode code 460 = .ok (.iaload, 1) := by decide +kernel
theorem d_law_461 : decode code 461 = .ok (.invokevirtual 85, 3) := by decide +kernel
theorem d_law_464 : decode code 464 = .ok (.istore 6, 2) := by decide +kernel
theorem d_law_466 : decode code 466 = .ok (.aload_n 2, 1) := by decide +kernel
theorem d_law_467 : decode code 467 = .ok (.invokevirtual 64, 3) := by decide +kernel
theorem d_law_470 : decode code 470 = .ok (.iload 5, 2) := by decide +kernel
theorem d_law_472 : decode code 472 = .ok (.if_icmp .eq 5, 3) := by decide +kernel
theorem d_law_475 : decode code 475 = .ok (.iconst 0, 1) := by decide +kernel
theorem d_law_476 : decode code 476 = .ok (.ireturn, 1) := by decide +kernel
theorem d_law_477 : decode code 477 = .ok (.iload 5, 2) := by decide +kernel
theorem d_law_479 : decode code 479 = .ok (.ifCond .ne 15, 3) := by decide +kernel
theorem d_law_482 : decode code 482 = .ok (.aload_n 3, 1) := by decide +kernel
theorem d_law_483 : decode code 483 = .ok (.iconst 0, 1) := by decide +kernel
theorem d_law_484 : decode code 484 = .ok (.laload, 1) := by decide +kernel
theorem d_law_485 : decode code 485 = .ok (.iload 6, 2) := by decide +kernel
theorem d_law_487 : decode code 487 = .ok (.i2l, 1) := by decide +kernel
theorem d_law_488 : decode code 488 = .ok (.lcmp, 1) := by decide +kernel
theorem d_law_489 : decode code 489 = .ok (.ifCond .eq 5, 3) := by decide +kernel
theorem d_law_492 : decode code 492 = .ok (.iconst 0, 1) := by decide +kernel
theorem d_law_493 : decode code 493 = .ok (.ireturn, 1) := by decide +kernel
theorem d_law_494 : decode code 494 = .ok (.goto 507, 3) := by decide +kernel
theorem d_law_497 : decode code 497 = .ok (.aload_n 1, 1) := by decide +kernel
theorem d_law_498 : decode code 498 = .ok (.aload_n 0, 1) := by decide +kernel
theorem d_law_499 : decode code 499 = .ok (.iload 4, 2) := by decide +kernel
theorem d_law_501 : decode code 501 = .ok (.iconst 1, 1) := by decide +kernel
theorem d_law_502 : decode code 502 = .ok (.iadd, 1) := by decide +kernel
theorem d_law_503 : decode code 503 = .ok (.iaload, 1) := by decide +kernel
theorem d_law_504 : decode code 504 = .ok (.invokevirtual 86, 3) := by decide +kernel
theorem d_law_507 : decode code 507 = .ok (.aload_n 2, 1) := by decide +kernel
theorem d_law_508 : decode code 508 = .ok (.aload_n 0, 1) := by decide +kernel
theorem d_law_509 : decode code 509 = .ok (.iload 4, 2) := by decide +kernel
theorem d_law_511 : decode code 511 = .ok (.iconst 1, 1) := by decide +kernel
theorem d_law_512 : decode code 512 = .ok (.iadd, 1) := by decide +kernel
theorem d_law_513 : decode code 513 = .ok (.iaload, 1) := by decide +kernel
theorem d_law_514 : decode code 514 = .ok (.invokevirtual 89, 3) := by decide +kernel
theorem d_law_517 : decode code 517 = .ok (.if_icmp .eq 484, 3) := by decide +kernel
theorem d_law_520 : decode code 520 = .ok (.iconst 0, 1) := by decide +kernel
theorem d_law_521 : decode code 521 = .ok (.ireturn, 1) := by decide +kernel
theorem d_law_522 : decode code 522 = .ok (.aload_n 1, 1) := by decide +kernel
theorem d_law_523 : decode code 523 = .ok (.invokevirtual 90, 3) := by decide +kernel
theorem d_law_526 : decode code 526 = .ok (.aload_n 2, 1) := by decide +kernel
theorem d_law_527 : decode code 527 = .ok (.invokevirtual 93, 3) := by decide +kernel
theorem d_law_530 : decode code 530 = .ok (.if_icmp .eq 471, 3) := by decide +kernel
theorem d_law_533 : decode code 533 = .ok (.iconst 0, 1) := by decide +kernel
theorem d_law_534 : decode code 534 = .ok (.ireturn, 1) := by decide +kernel
theorem d_law_535 : decode code 535 = .ok (.aload_n 1, 1) := by decide +kernel
theorem d_law_536 : decode code 536 = .ok (.aload_n 0, 1) := by decide +kernel
theorem d_law_537 : decode code 537 = .ok (.iload 4, 2) := by decide +kernel
theorem d_law_539 : decode code 539 = .ok (.iconst 1, 1) := by decide +kernel
theorem d_law_540 : decode code 540 = .ok (.iadd, 1) := by decide +kernel
theorem d_law_541 : decode code 541 = .ok (.iaload, 1) := by decide +kernel
theorem d_law_542 : decode code 542 = .ok (.aload_n 0, 1) := by decide +kernel
theorem d_law_543 : decode code 543 = .ok (.iload 4, 2) := by decide +kernel
theorem d_law_545 : decode code 545 = .ok (.iconst 2, 1) := by decide +kernel
theorem d_law_546 : decode code 546 = .ok (.iadd, 1) := by decide +kernel
theorem d_law_547 : decode code 547 = .ok (.iaload, 1) := by decide +kernel
theorem d_law_548 : decode code 548 = .ok (.aload_n 3, 1) := by decide +kernel
theorem d_law_549 : decode code 549 = .ok (.invokestatic 94, 3) := by decide +kernel
theorem d_law_552 : decode code 552 = .ok (.istore 5, 2) := by decide +kernel
theorem d_law_554 : decode code 554 = .ok (.aload_n 2, 1) := by decide +kernel
theorem d_law_555 : decode code 555 = .ok (.aload_n 0, 1) := by decide +kernel
theorem d_law_556 : decode code 556 = .ok (.iload 4, 2) := by decide +kernel
theorem d_law_558 : decode code 558 = .ok (.iconst 1, 1) := by decide +kernel
theorem d_law_559 : decode code 559 = .ok (.iadd, 1) := by decide +kernel
theorem d_law_560 : decode code 560 = .ok (.iaload, 1) := by decide +kernel
theorem d_law_561 : decode code 561 = .ok (.aload_n 0, 1) := by decide +kernel
theorem d_law_562 : decode code 562 = .ok (.iload 4, 2) := by decide +kernel
theorem d_law_564 : decode code 564 = .ok (.iconst 2, 1) := by decide +kernel
theorem d_law_565 : decode code 565 = .ok (.iadd, 1) := by decide +kernel
theorem d_law_566 : decode code 566 = .ok (.iaload, 1) := by decide +kernel
theorem d_law_567 : decode code 567 = .ok (.invokevirtual 96, 3) := by decide +kernel
theorem d_law_570 : decode code 570 = .ok (.istore 6, 2) := by decide +kernel
theorem d_law_572 : decode code 572 = .ok (.aload_n 2, 1) := by decide +kernel
theorem d_law_573 : decode code 573 = .ok (.invokevirtual 64, 3) := by decide +kernel
theorem d_law_576 : decode code 576 = .ok (.iload 5, 2) := by decide +kernel
theorem d_law_578 : decode code 578 = .ok (.if_icmp .eq 5, 3) := by decide +kernel
theorem d_law_581 : decode code 581 = .ok (.iconst 0, 1) := by decide +kernel
theorem d_law_582 : decode code 582 = .ok (.ireturn, 1) := by decide +kernel
theorem d_law_583 : decode code 583 = .ok (.iload 5, 2) := by decide +kernel
theorem d_law_585 : decode code 585 = .ok (.ifCond .ne 15, 3) := by decide +kernel
theorem d_law_588 : decode code 588 = .ok (.aload_n 3, 1) := by decide +kernel
theorem d_law_589 : decode code 589 = .ok (.iconst 0, 1) := by decide +kernel
theorem d_law_590 : decode code 590 = .ok (.laload, 1) := by decide +kernel
theorem d_law_591 : decode code 591 = .ok (.iload 6, 2) := by decide +kernel
theorem d_law_593 : decode code 593 = .ok (.i2l, 1) := by decide +kernel
theorem d_law_594 : decode code 594 = .ok (.lcmp, 1) := by decide +kernel
theorem d_law_595 : decode code 595 = .ok (.ifCond .eq 5, 3) := by decide +kernel
theorem d_law_598 : decode code 598 = .ok (.iconst 0, 1) := by decide +kernel
theorem d_law_599 : decode code 599 = .ok (.ireturn, 1) := by decide +kernel
theorem d_law_600 : decode code 600 = .ok (.goto 401, 3) := by decide +kernel
theorem d_law_603 : decode code 603 = .ok (.aload_n 1, 1) := by decide +kernel
theorem d_law_604 : decode code 604 = .ok (.aload_n 0, 1) := by decide +kernel
theorem d_law_605 : decode code 605 = .ok (.iload 4, 2) := by decide +kernel
theorem d_law_607 : decode code 607 = .ok (.iconst 1, 1) := by decide +kernel
theorem d_law_608 : decode code 608 = .ok (.iadd, 1) := by decide +kernel
theorem d_law_609 : decode code 609 = .ok (.iaload, 1) := by decide +kernel
theorem d_law_610 : decode code 610 = .ok (.aload_n 3, 1) := by decide +kernel
theorem d_law_611 : decode code 611 = .ok (.invokestatic 97, 3) := by decide +kernel
theorem d_law_614 : decode code 614 = .ok (.istore 5, 2) := by decide +kernel
theorem d_law_616 : decode code 616 = .ok (.aload_n 2, 1) := by decide +kernel
theorem d_law_617 : decode code 617 = .ok (.aload_n 0, 1) := by decide +kernel
theorem d_law_618 : decode code 618 = .ok (.iload 4, 2) := by decide +kernel
theorem d_law_620 : decode code 620 = .ok (.iconst 1, 1) := by decide +kernel
theorem d_law_621 : decode code 621 = .ok (.iadd, 1) := by decide +kernel
theorem d_law_622 : decode code 622 = .ok (.iaload, 1) := by decide +kernel
theorem d_law_623 : decode code 623 = .ok (.invokevirtual 100, 3) := by decide +kernel
theorem d_law_626 : decode code 626 = .ok (.istore 6, 2) := by decide +kernel
theorem d_law_628 : decode code 628 = .ok (.aload_n 2, 1) := by decide +kernel
theorem d_law_629 : decode code 629 = .ok (.invokevirtual 64, 3) := by decide +kernel
theorem d_law_632 : decode code 632 = .ok (.iload 5, 2) := by decide +kernel
theorem d_law_634 : decode code 634 = .ok (.if_icmp .eq 5, 3) := by decide +kernel
theorem d_law_637 : decode code 637 = .ok (.iconst 0, 1) := by decide +kernel
theorem d_law_638 : decode code 638 = .ok (.ireturn, 1) := by decide +kernel
theorem d_law_639 : decode code 639 = .ok (.iload 5, 2) := by decide +kernel
theorem d_law_641 : decode code 641 = .ok (.ifCond .ne 15, 3) := by decide +kernel
theorem d_law_644 : decode code 644 = .ok (.aload_n 3, 1) := by decide +kernel
theorem d_law_645 : decode code 645 = .ok (.iconst 0, 1) := by decide +kernel
theorem d_law_646 : decode code 646 = .ok (.laload, 1) := by decide +kernel
theorem d_law_647 : decode code 647 = .ok (.iload 6, 2) := by decide +kernel
theorem d_law_649 : decode code 649 = .ok (.i2l, 1) := by decide +kernel
theorem d_law_650 : decode code 650 = .ok (.lcmp, 1) := by decide +kernel
theorem d_law_651 : decode code 651 = .ok (.ifCond .eq 5, 3) := by decide +kernel
theorem d_law_654 : decode code 654 = .ok (.iconst 0, 1) := by decide +kernel
theorem d_law_655 : decode code 655 = .ok (.ireturn, 1) := by decide +kernel
theorem d_law_656 : decode code 656 = .ok (.goto 345, 3) := by decide +kernel
theorem d_law_659 : decode code 659 = .ok (.aload_n 1, 1) := by decide +kernel
theorem d_law_660 : decode code 660 = .ok (.aload_n 0, 1) := by decide +kernel
theorem d_law_661 : decode code 661 = .ok (.iload 4, 2) := by decide +kernel
theorem d_law_663 : decode code 663 = .ok (.iconst 1, 1) := by decide +kernel
theorem d_law_664 : decode code 664 = .ok (.iadd, 1) := by decide +kernel
theorem d_law_665 : decode code 665 = .ok (.iaload, 1) := by decide +kernel
theorem d_law_666 : decode code 666 = .ok (.aload_n 0, 1) := by decide +kernel
theorem d_law_667 : decode code 667 = .ok (.iload 4, 2) := by decide +kernel
theorem d_law_669 : decode code 669 = .ok (.iconst 2, 1) := by decide +kernel
theorem d_law_670 : decode code 670 = .ok (.iadd, 1) := by decide +kernel
theorem d_law_671 : decode code 671 = .ok (.iaload, 1) := by decide +kernel
theorem d_law_672 : decode code 672 = .ok (.aload_n 3, 1) := by decide +kernel
theorem d_law_673 : decode code 673 = .ok (.invokestatic 101, 3) := by decide +kernel
theorem d_law_676 : decode code 676 = .ok (.istore 5, 2) := by decide +kernel
theorem d_law_678 : decode code 678 = .ok (.aload_n 2, 1) := by decide +kernel
theorem d_law_679 : decode code 679 = .ok (.aload_n 0, 1) := by decide +kernel
theorem d_law_680 : decode code 680 = .ok (.iload 4, 2) := by decide +kernel
theorem d_law_682 : decode code 682 = .ok (.iconst 1, 1) := by decide +kernel
theorem d_law_683 : decode code 683 = .ok (.iadd, 1) := by decide +kernel
theorem d_law_684 : decode code 684 = .ok (.iaload, 1) := by decide +kernel
theorem d_law_685 : decode code 685 = .ok (.aload_n 0, 1) := by decide +kernel
theorem d_law_686 : decode code 686 = .ok (.iload 4, 2) := by decide +kernel
theorem d_law_688 : decode code 688 = .ok (.iconst 2, 1) := by decide +kernel
theorem d_law_689 : decode code 689 = .ok (.iadd, 1) := by decide +kernel
theorem d_law_690 : decode code 690 = .ok (.iaload, 1) := by decide +kernel
theorem d_law_691 : decode code 691 = .ok (.invokevirtual 103, 3) := by decide +kernel
theorem d_law_694 : decode code 694 = .ok (.istore 6, 2) := by decide +kernel
theorem d_law_696 : decode code 696 = .ok (.aload_n 2, 1) := by decide +kernel
theorem d_law_697 : decode code 697 = .ok (.invokevirtual 64, 3) := by decide +kernel
theorem d_law_700 : decode code 700 = .ok (.iload 5, 2) := by decide +kernel
theorem d_law_702 : decode code 702 = .ok (.if_icmp .eq 5, 3) := by decide +kernel
theorem d_law_705 : decode code 705 = .ok (.iconst 0, 1) := by decide +kernel
theorem d_law_706 : decode code 706 = .ok (.ireturn, 1) := by decide +kernel
theorem d_law_707 : decode code 707 = .ok (.iload 5, 2) := by decide +kernel
theorem d_law_709 : decode code 709 = .ok (.ifCond .ne 15, 3) := by decide +kernel
theorem d_law_712 : decode code 712 = .ok (.aload_n 3, 1) := by decide +kernel
theorem d_law_713 : decode code 713 = .ok (.iconst 0, 1) := by decide +kernel
theorem d_law_714 : decode code 714 = .ok (.laload, 1) := by decide +kernel
theorem d_law_715 : decode code 715 = .ok (.iload 6, 2) := by decide +kernel
theorem d_law_717 : decode code 717 = .ok (.i2l, 1) := by decide +kernel
theorem d_law_718 : decode code 718 = .ok (.lcmp, 1) := by decide +kernel
theorem d_law_719 : decode code 719 = .ok (.ifCond .eq 5, 3) := by decide +kernel
theorem d_law_722 : decode code 722 = .ok (.iconst 0, 1) := by decide +kernel
theorem d_law_723 : decode code 723 = .ok (.ireturn, 1) := by decide +kernel
theorem d_law_724 : decode code 724 = .ok (.goto 277, 3) := by decide +kernel
theorem d_law_727 : decode code 727 = .ok (.aload_n 1, 1) := by decide +kernel
theorem d_law_728 : decode code 728 = .ok (.invokevirtual 104, 3) := by decide +kernel
theorem d_law_731 : decode code 731 = .ok (.aload_n 2, 1) := by decide +kernel
theorem d_law_732 : decode code 732 = .ok (.invokevirtual 107, 3) := by decide +kernel
theorem d_law_735 : decode code 735 = .ok (.if_icmp .eq 266, 3) := by decide +kernel
theorem d_law_738 : decode code 738 = .ok (.iconst 0, 1) := by decide +kernel
theorem d_law_739 : decode code 739 = .ok (.ireturn, 1) := by decide +kernel
theorem d_law_740 : decode code 740 = .ok (.aload_n 1, 1) := by decide +kernel
theorem d_law_741 : decode code 741 = .ok (.invokevirtual 108, 3) := by decide +kernel
theorem d_law_744 : decode code 744 = .ok (.aload_n 2, 1) := by decide +kernel
theorem d_law_745 : decode code 745 = .ok (.invokevirtual 111, 3) := by decide +kernel
theorem d_law_748 : decode code 748 = .ok (.if_icmp .eq 253, 3) := by decide +kernel
theorem d_law_751 : decode code 751 = .ok (.iconst 0, 1) := by decide +kernel
theorem d_law_752 : decode code 752 = .ok (.ireturn, 1) := by decide +kernel
theorem d_law_753 : decode code 753 = .ok (.aload_n 1, 1) := by decide +kernel
theorem d_law_754 : decode code 754 = .ok (.aload_n 0, 1) := by decide +kernel
theorem d_law_755 : decode code 755 = .ok (.iload 4, 2) := by decide +kernel
theorem d_law_757 : decode code 757 = .ok (.iconst 1, 1) := by decide +kernel
theorem d_law_758 : decode code 758 = .ok (.iadd, 1) := by decide +kernel
theorem d_law_759 : decode code 759 = .ok (.iaload, 1) := by decide +kernel
theorem d_law_760 : decode code 760 = .ok (.invokevirtual 112, 3) := by decide +kernel
theorem d_law_763 : decode code 763 = .ok (.aload_n 2, 1) := by decide +kernel
theorem d_law_764 : decode code 764 = .ok (.aload_n 0, 1) := by decide +kernel
theorem d_law_765 : decode code 765 = .ok (.iload 4, 2) := by decide +kernel
theorem d_law_767 : decode code 767 = .ok (.iconst 1, 1) := by decide +kernel
theorem d_law_768 : decode code 768 = .ok (.iadd, 1) := by decide +kernel
theorem d_law_769 : decode code 769 = .ok (.iaload, 1) := by decide +kernel
theorem d_law_770 : decode code 770 = .ok (.invokevirtual 115, 3) := by decide +kernel
theorem d_law_773 : decode code 773 = .ok (.if_icmp .eq 228, 3) := by decide +kernel
theorem d_law_776 : decode code 776 = .ok (.iconst 0, 1) := by decide +kernel
theorem d_law_777 : decode code 777 = .ok (.ireturn, 1) := by decide +kernel
theorem d_law_778 : decode code 778 = .ok (.aload_n 1, 1) := by decide +kernel
theorem d_law_779 : decode code 779 = .ok (.aload_n 0, 1) := by decide +kernel
theorem d_law_780 : decode code 780 = .ok (.iload 4, 2) := by decide +kernel
theorem d_law_782 : decode code 782 = .ok (.iconst 1, 1) := by decide +kernel
theorem d_law_783 : decode code 783 = .ok (.iadd, 1) := by decide +kernel
theorem d_law_784 : decode code 784 = .ok (.iaload, 1) := by decide +kernel
theorem d_law_785 : decode code 785 = .ok (.invokevirtual 116, 3) := by decide +kernel
theorem d_law_788 : decode code 788 = .ok (.aload_n 2, 1) := by decide +kernel
theorem d_law_789 : decode code 789 = .ok (.aload_n 0, 1) := by decide +kernel
theorem d_law_790 : decode code 790 = .ok (.iload 4, 2) := by decide +kernel
theorem d_law_792 : decode code 792 = .ok (.iconst 1, 1) := by decide +kernel
theorem d_law_793 : decode code 793 = .ok (.iadd, 1) := by decide +kernel
theorem d_law_794 : decode code 794 = .ok (.iaload, 1) := by decide +kernel
theorem d_law_795 : decode code 795 = .ok (.invokevirtual 119, 3) := by decide +kernel
theorem d_law_798 : decode code 798 = .ok (.if_icmp .eq 203, 3) := by decide +kernel
theorem d_law_801 : decode code 801 = .ok (.iconst 0, 1) := by decide +kernel
theorem d_law_802 : decode code 802 = .ok (.ireturn, 1) := by decide +kernel
theorem d_law_803 : decode code 803 = .ok (.aload_n 1, 1) := by decide +kernel
theorem d_law_804 : decode code 804 = .ok (.aload_n 0, 1) := by decide +kernel
theorem d_law_805 : decode code 805 = .ok (.iload 4, 2) := by decide +kernel
theorem d_law_807 : decode code 807 = .ok (.iconst 1, 1) := by decide +kernel
theorem d_law_808 : decode code 808 = .ok (.iadd, 1) := by decide +kernel
theorem d_law_809 : decode code 809 = .ok (.iaload, 1) := by decide +kernel
theorem d_law_810 : decode code 810 = .ok (.aload_n 0, 1) := by decide +kernel
theorem d_law_811 : decode code 811 = .ok (.iload 4, 2) := by decide +kernel
theorem d_law_813 : decode code 813 = .ok (.iconst 2, 1) := by decide +kernel
theorem d_law_814 : decode code 814 = .ok (.iadd, 1) := by decide +kernel
theorem d_law_815 : decode code 815 = .ok (.iaload, 1) := by decide +kernel
theorem d_law_816 : decode code 816 = .ok (.aload_n 3, 1) := by decide +kernel
theorem d_law_817 : decode code 817 = .ok (.invokestatic 120, 3) := by decide +kernel
theorem d_law_820 : decode code 820 = .ok (.istore 5, 2) := by decide +kernel
theorem d_law_822 : decode code 822 = .ok (.aload_n 2, 1) := by decide +kernel
theorem d_law_823 : decode code 823 = .ok (.aload_n 0, 1) := by decide +kernel
theorem d_law_824 : decode code 824 = .ok (.iload 4, 2) := by decide +kernel
theorem d_law_826 : decode code 826 = .ok (.iconst 1, 1) := by decide +kernel
theorem d_law_827 : decode code 827 = .ok (.iadd, 1) := by decide +kernel
theorem d_law_828 : decode code 828 = .ok (.iaload, 1) := by decide +kernel
theorem d_law_829 : decode code 829 = .ok (.aload_n 0, 1) := by decide +kernel
theorem d_law_830 : decode code 830 = .ok (.iload 4, 2) := by decide +kernel
theorem d_law_832 : decode code 832 = .ok (.iconst 2, 1) := by decide +kernel
theorem d_law_833 : decode code 833 = .ok (.iadd, 1) := by decide +kernel
theorem d_law_834 : decode code 834 = .ok (.iaload, 1) := by decide +kernel
theorem d_law_835 : decode code 835 = .ok (.invokevirtual 122, 3) := by decide +kernel
theorem d_law_838 : decode code 838 = .ok (.istore 6, 2) := by decide +kernel
theorem d_law_840 : decode code 840 = .ok (.aload_n 2, 1) := by decide +kernel
theorem d_law_841 : decode code 841 = .ok (.invokevirtual 64, 3) := by decide +kernel
theorem d_law_844 : decode code 844 = .ok (.iload 5, 2) := by decide +kernel
theorem d_law_846 : decode code 846 = .ok (.if_icmp .eq 5, 3) := by decide +kernel
theorem d_law_849 : decode code 849 = .ok (.iconst 0, 1) := by decide +kernel
theorem d_law_850 : decode code 850 = .ok (.ireturn, 1) := by decide +kernel
theorem d_law_851 : decode code 851 = .ok (.iload 5, 2) := by decide +kernel
theorem d_law_853 : decode code 853 = .ok (.ifCond .ne 15, 3) := by decide +kernel
theorem d_law_856 : decode code 856 = .ok (.aload_n 3, 1) := by decide +kernel
theorem d_law_857 : decode code 857 = .ok (.iconst 0, 1) := by decide +kernel
theorem d_law_858 : decode code 858 = .ok (.laload, 1) := by decide +kernel
theorem d_law_859 : decode code 859 = .ok (.iload 6, 2) := by decide +kernel
theorem d_law_861 : decode code 861 = .ok (.i2l, 1) := by decide +kernel
theorem d_law_862 : decode code 862 = .ok (.lcmp, 1) := by decide +kernel
theorem d_law_863 : decode code 863 = .ok (.ifCond .eq 5, 3) := by decide +kernel
theorem d_law_866 : decode code 866 = .ok (.iconst 0, 1) := by decide +kernel
theorem d_law_867 : decode code 867 = .ok (.ireturn, 1) := by decide +kernel
theorem d_law_868 : decode code 868 = .ok (.goto 133, 3) := by decide +kernel
theorem d_law_871 : decode code 871 = .ok (.aload_n 1, 1) := by decide +kernel
theorem d_law_872 : decode code 872 = .ok (.aload_n 0, 1) := by decide +kernel
theorem d_law_873 : decode code 873 = .ok (.iload 4, 2) := by decide +kernel
theorem d_law_875 : decode code 875 = .ok (.iconst 1, 1) := by decide +kernel
theorem d_law_876 : decode code 876 = .ok (.iadd, 1) := by decide +kernel
theorem d_law_877 : decode code 877 = .ok (.iaload, 1) := by decide +kernel
theorem d_law_878 : decode code 878 = .ok (.aload_n 0, 1) := by decide +kernel
theorem d_law_879 : decode code 879 = .ok (.iload 4, 2) := by decide +kernel
theorem d_law_881 : decode code 881 = .ok (.iconst 2, 1) := by decide +kernel
theorem d_law_882 : decode code 882 = .ok (.iadd, 1) := by decide +kernel
theorem d_law_883 : decode code 883 = .ok (.iaload, 1) := by decide +kernel
theorem d_law_884 : decode code 884 = .ok (.aload_n 3, 1) := by decide +kernel
theorem d_law_885 : decode code 885 = .ok (.invokestatic 123, 3) := by decide +kernel
theorem d_law_888 : decode code 888 = .ok (.istore 5, 2) := by decide +kernel
theorem d_law_890 : decode code 890 = .ok (.aload_n 2, 1) := by decide +kernel
theorem d_law_891 : decode code 891 = .ok (.aload_n 0, 1) := by decide +kernel
theorem d_law_892 : decode code 892 = .ok (.iload 4, 2) := by decide +kernel
theorem d_law_894 : decode code 894 = .ok (.iconst 1, 1) := by decide +kernel
theorem d_law_895 : decode code 895 = .ok (.iadd, 1) := by decide +kernel
theorem d_law_896 : decode code 896 = .ok (.iaload, 1) := by decide +kernel
theorem d_law_897 : decode code 897 = .ok (.aload_n 0, 1) := by decide +kernel
theorem d_law_898 : decode code 898 = .ok (.iload 4, 2) := by decide +kernel
theorem d_law_900 : decode code 900 = .ok (.iconst 2, 1) := by decide +kernel
theorem d_law_901 : decode code 901 = .ok (.iadd, 1) := by decide +kernel
theorem d_law_902 : decode code 902 = .ok (.iaload, 1) := by decide +kernel
theorem d_law_903 : decode code 903 = .ok (.invokevirtual 125, 3) := by decide +kernel
theorem d_law_906 : decode code 906 = .ok (.istore 6, 2) := by decide +kernel
theorem d_law_908 : decode code 908 = .ok (.aload_n 2, 1) := by decide +kernel
theorem d_law_909 : decode code 909 = .ok (.invokevirtual 64, 3) := by decide +kernel
theorem d_law_912 : decode code 912 = .ok (.iload 5, 2) := by decide +kernel
theorem d_law_914 : decode code 914 = .ok (.if_icmp .eq 5, 3) := by decide +kernel
theorem d_law_917 : decode code 917 = .ok (.iconst 0, 1) := by decide +kernel
theorem d_law_918 : decode code 918 = .ok (.ireturn, 1) := by decide +kernel
theorem d_law_919 : decode code 919 = .ok (.iload 5, 2) := by decide +kernel
theorem d_law_921 : decode code 921 = .ok (.ifCond .ne 15, 3) := by decide +kernel
theorem d_law_924 : decode code 924 = .ok (.aload_n 3, 1) := by decide +kernel
theorem d_law_925 : decode code 925 = .ok (.iconst 0, 1) := by decide +kernel
theorem d_law_926 : decode code 926 = .ok (.laload, 1) := by decide +kernel
theorem d_law_927 : decode code 927 = .ok (.iload 6, 2) := by decide +kernel
theorem d_law_929 : decode code 929 = .ok (.i2l, 1) := by decide +kernel
theorem d_law_930 : decode code 930 = .ok (.lcmp, 1) := by decide +kernel
theorem d_law_931 : decode code 931 = .ok (.ifCond .eq 5, 3) := by decide +kernel
theorem d_law_934 : decode code 934 = .ok (.iconst 0, 1) := by decide +kernel
theorem d_law_935 : decode code 935 = .ok (.ireturn, 1) := by decide +kernel
theorem d_law_936 : decode code 936 = .ok (.goto 65, 3) := by decide +kernel
theorem d_law_939 : decode code 939 = .ok (.aload_n 1, 1) := by decide +kernel
theorem d_law_940 : decode code 940 = .ok (.aload_n 0, 1) := by decide +kernel
theorem d_law_941 : decode code 941 = .ok (.iload 4, 2) := by decide +kernel
theorem d_law_943 : decode code 943 = .ok (.iconst 1, 1) := by decide +kernel
theorem d_law_944 : decode code 944 = .ok (.iadd, 1) := by decide +kernel
theorem d_law_945 : decode code 945 = .ok (.iaload, 1) := by decide +kernel
theorem d_law_946 : decode code 946 = .ok (.aload_n 0, 1) := by decide +kernel
theorem d_law_947 : decode code 947 = .ok (.iload 4, 2) := by decide +kernel
theorem d_law_949 : decode code 949 = .ok (.iconst 2, 1) := by decide +kernel
theorem d_law_950 : decode code 950 = .ok (.iadd, 1) := by decide +kernel
theorem d_law_951 : decode code 951 = .ok (.iaload, 1) := by decide +kernel
theorem d_law_952 : decode code 952 = .ok (.invokevirtual 126, 3) := by decide +kernel
theorem d_law_955 : decode code 955 = .ok (.aload_n 2, 1) := by decide +kernel
theorem d_law_956 : decode code 956 = .ok (.aload_n 0, 1) := by decide +kernel
theorem d_law_957 : decode code 957 = .ok (.iload 4, 2) := by decide +kernel
theorem d_law_959 : decode code 959 = .ok (.iconst 1, 1) := by decide +kernel
theorem d_law_960 : decode code 960 = .ok (.iadd, 1) := by decide +kernel
theorem d_law_961 : decode code 961 = .ok (.iaload, 1) := by decide +kernel
theorem d_law_962 : decode code 962 = .ok (.aload_n 0, 1) := by decide +kernel
theorem d_law_963 : decode code 963 = .ok (.iload 4, 2) := by decide +kernel
theorem d_law_965 : decode code 965 = .ok (.iconst 2, 1) := by decide +kernel
theorem d_law_966 : decode code 966 = .ok (.iadd, 1) := by decide +kernel
theorem d_law_967 : decode code 967 = .ok (.iaload, 1) := by decide +kernel
theorem d_law_968 : decode code 968 = .ok (.invokevirtual 130, 3) := by decide +kernel
theorem d_law_971 : decode code 971 = .ok (.if_icmp .eq 30, 3) := by decide +kernel
theorem d_law_974 : decode code 974 = .ok (.iconst 0, 1) := by decide +kernel
theorem d_law_975 : decode code 975 = .ok (.ireturn, 1) := by decide +kernel
theorem d_law_976 : decode code 976 = .ok (.aload_n 1, 1) := by decide +kernel
theorem d_law_977 : decode code 977 = .ok (.aload_n 0, 1) := by decide +kernel
theorem d_law_978 : decode code 978 = .ok (.iload 4, 2) := by decide +kernel
theorem d_law_980 : decode code 980 = .ok (.iconst 1, 1) := by decide +kernel
theorem d_law_981 : decode code 981 = .ok (.iadd, 1) := by decide +kernel
theorem d_law_982 : decode code 982 = .ok (.iaload, 1) := by decide +kernel
theorem d_law_983 : decode code 983 = .ok (.invokevirtual 131, 3) := by decide +kernel
theorem d_law_986 : decode code 986 = .ok (.aload_n 2, 1) := by decide +kernel
theorem d_law_987 : decode code 987 = .ok (.aload_n 0, 1) := by decide +kernel
theorem d_law_988 : decode code 988 = .ok (.iload 4, 2) := by decide +kernel
theorem d_law_990 : decode code 990 = .ok (.iconst 1, 1) := by decide +kernel
theorem d_law_991 : decode code 991 = .ok (.iadd, 1) := by decide +kernel
theorem d_law_992 : decode code 992 = .ok (.iaload, 1) := by decide +kernel
theorem d_law_993 : decode code 993 = .ok (.invokevirtual 134, 3) := by decide +kernel
theorem d_law_996 : decode code 996 = .ok (.if_icmp .eq 5, 3) := by decide +kernel
theorem d_law_999 : decode code 999 = .ok (.iconst 0, 1) := by decide +kernel
theorem d_law_1000 : decode code 1000 = .ok (.ireturn, 1) := by decide +kernel
theorem d_law_1001 : decode code 1001 = .ok (.iinc 4 5, 3) := by decide +kernel
theorem d_law_1004 : decode code 1004 = .ok (.goto (-981), 3) := by decide +kernel
theorem d_law_1007 : decode code 1007 = .ok (.iconst 1, 1) := by decide +kernel
theorem d_law_1008 : decode code 1008 = .ok (.ireturn, 1) := by decide +kernel
def R_law : String := "StitchDeskLaw"
section LS
variable {s0 : State} {a0 : Array Value} {D : va_G} {t : Nat → ClassId} {p : Program} {l : Launch} {e : Env} {R : Room} {s : State} {m : MethodId} {args : Array Value} {below : List Frame} {meth : Method} {c : Code} {Q : State → Prop} {Z : Heap → List Loc → Prop} {A : Nat → Prop} {own : String} {cc : ByteArray} {nL : Nat} {rt : Option FieldType} {mn : String} {fr lo mc ms : Nat} {cells slots : Nat} {ad : Nat → Nat} {n : Nat} {ce : Nat → va_E} {pc : Nat} {lv lv' : List (Nat × Value)} {st : List Value}
theorem g_sld (ok : gOk s0 a0 D t p R s m meth c A own cc nL rt mn fr lo mc ms) {b L : Nat} {xs : Nat → Int32} (hX : va_X b L xs s s.heap) (hbl : b < s.heap.size) (hbA : ¬ A b) {z v : Int} (hL : L < 2147483648) (hz : 0 ≤ z ∧ z < L) (hv : xs z.toNat = iI v) (hd : decode cc pc = .ok (.iaload, 1)) (kk : gW p l e R s m args below meth c Q D A nL Z cells slots ad n ce (pc + 1) lv (.int (iI v) :: st)) : gW p l e R s m args below meth c Q D A nL Z cells slots ad n ce pc lv (.int (iI z) :: .ref b :: st) := by
  intro H locs ls hZ hP hD hS hl
  refine va_sld ok.x ok.b hX hbl hbA hS (iI_in hL hz) hd ?_
  rw [iI_clamp (by omega), hv]
  exact kk H locs ls hZ hP hD hS hl
theorem g_slen (ok : gOk s0 a0 D t p R s m meth c A own cc nL rt mn fr lo mc ms) {b L : Nat} {xs : Nat → Int32} (hX : va_X b L xs s s.heap) (hbl : b < s.heap.size) (hbA : ¬ A b) (hd : decode cc pc = .ok (.arraylength, 1)) (kk : gW p l e R s m args below meth c Q D A nL Z cells slots ad n ce (pc + 1) lv (.int (iI (L : Int)) :: st)) : gW p l e R s m args below meth c Q D A nL Z cells slots ad n ce pc lv (.ref b :: st) := by
  intro H locs ls hZ hP hD hS hl
  refine va_slen ok.x ok.b hX hbl hbA hS hd ?_
  rw [iI_nat]
  exact kk H locs ls hZ hP hD hS hl
theorem g_cmpE (ok : gOk s0 a0 D t p R s m meth c A own cc nL rt mn fr lo mc ms) {x y : Int32} (hxy : x = y) {off : Int} (tgt : Nat) (hd : decode cc pc = .ok (.if_icmp .eq off, 3)) (ht : (pc : Int) + off = (tgt : Int)) (kk : gW p l e R s m args below meth c Q D A nL Z cells slots ad n ce tgt lv st) : gW p l e R s m args below meth c Q D A nL Z cells slots ad n ce pc lv (.int y :: .int x :: st) :=
  fun H locs ls hZ hP hD hS hl => lv_icmp_eq ok.x ok.b hd ht (fun _ => kk H locs ls hZ hP hD hS hl) (fun h => absurd hxy h)
end LS
section LT
variable {a0 : Array Value} {D : va_G} {t : Nat → ClassId} {p : Program} {l : Launch} {e : Env} {R : Room} {s : State} {m : MethodId} {args : Array Value} {below : List Frame} {meth : Method} {c : Code} {Q : State → Prop} {Z : Heap → List Loc → Prop} {A : Nat → Prop} {rt : Option FieldType} {mn : String} {cells slots : Nat} {ad : Nat → Nat}
/-- what a step by begin wants -/
def oq_begin (Inv : (Nat → Nat → Int) → (Nat → Int → Int) → Prop) (F : Nat → Nat → Int) (G : Nat → Int → Int) (p1 p2 p3 p4 : Int) : Prop := ∃ post1, cL y_Lw_begin b_Lw_begin 6 [(0, 9, 12, 13), (0, 9, 16, 15), (0, 9, 20, 17)] 7 107 F G (fun ad => [.ref (ad 0), .int (iI p1), .int (iI p2), .int (iI p3), .int (iI p4)]) post1 ∧ ∀ k F1 G1, post1 k F1 G1 → ∃ post2, cV y_Mo_begin b_Mo_begin 7 none 0 0 F1 G1 (fun ad => [.ref (ad 244), .int (iI p1), .int (iI p2), .int (iI p3), .int (iI p4)]) post2 ∧ ∀ F2 G2, post2 F2 G2 → F2 244 0 = k ∧ Inv F2 G2
set_option maxHeartbeats 1000000 in
set_option maxRecDepth 100000 in
theorem s_begin {Inv : (Nat → Nat → Int) → (Nat → Int → Int) → Prop} (ok : gOk s a0 D t p R s m meth c A R_law code 7 rt mn 11 440 601024 7293034) (hlt : l.stackTraces = false) {b L : Nat} {xs : Nat → Int32} (hX : va_X b L xs s s.heap) (hbl : b < s.heap.size) (hbA : ¬ A b) (hL : L ≤ 2560) {i : Int} (hi : 0 ≤ i ∧ i + 5 ≤ L) {F : Nat → Nat → Int} {G : Nat → Int → Int} {p1 p2 p3 p4 : Int} (hx1 : xs (i + 1).toNat = iI p1) (hx2 : xs (i + 2).toNat = iI p2) (hx3 : xs (i + 3).toNat = iI p3) (hx4 : xs (i + 4).toNat = iI p4) (hroom : cells + 1 ≤ 601024 ∧ slots + 6 ≤ 7293034) (hop : oq_begin Inv F G p1 p2 p3 p4) (kk : ∀ (F2 : Nat → Nat → Int) (G2 : Nat → Int → Int), Inv F2 G2 → gW p l e R s m args below meth c Q D A 7 gZ (cells + 1) (slots + 6) ad 265 (mem ad t F2 G2) 1001 [(4, .int (iI i)), (3, .ref (ad 264)), (2, .ref (ad 244)), (1, .ref (ad 0)), (0, .ref b)] []) : gW p l e R s m args below meth c Q D A 7 gZ cells slots ad 265 (mem ad t F G) 128 [(4, .int (iI i)), (3, .ref (ad 264)), (2, .ref (ad 244)), (1, .ref (ad 0)), (0, .ref b)] [] := by
  unfold oq_begin at hop
  obtain ⟨post1, hc1, hop⟩ := hop
  refine g_aload_n ok d_law_128 rfl 3 rfl ?_
  refine g_aload_n ok d_law_129 rfl 4 rfl ?_
  refine g_iload ok d_law_130 0 rfl ?_
  refine g_iconst ok d_law_132 ?_
  refine g_iadd ok d_law_133 ?_
  refine g_sld (v := p1) ok hX hbl hbA (by omega) (by omega) hx1 d_law_134 ?_
  refine g_aload_n ok d_law_135 rfl 4 rfl ?_
  refine g_iload ok d_law_136 0 rfl ?_
  refine g_iconst ok d_law_138 ?_
  refine g_iadd ok d_law_139 ?_
  refine g_sld (v := p2) ok hX hbl hbA (by omega) (by omega) hx2 d_law_140 ?_
  refine g_aload_n ok d_law_141 rfl 4 rfl ?_
  refine g_iload ok d_law_142 0 rfl ?_
  refine g_iconst ok d_law_144 ?_
  refine g_iadd ok d_law_145 ?_
  refine g_sld (v := p3) ok hX hbl hbA (by omega) (by omega) hx3 d_law_146 ?_
  refine g_aload_n ok d_law_147 rfl 4 rfl ?_
  refine g_iload ok d_law_148 0 rfl ?_
  refine g_iconst ok d_law_150 ?_
  refine g_iadd ok d_law_151 ?_
  refine g_sld (v := p4) ok hX hbl hbA (by omega) (by omega) hx4 d_law_152 ?_
  refine g_callYS (As := [.ref (ad 0), .int (iI p1), .int (iI p2), .int (iI p3), .int (iI p4)]) (st := []) ok hlt (hc1 s a0 D t ad) k_657 k_0 k_655 k_656 q_Lw_begin (by decide) (Nat.le_of_ble_eq_true rfl) (by omega) d_law_153 (fun k ce1 hq1 => ?_)
  obtain ⟨F1, G1, rfl, hq1⟩ := hq1
  obtain ⟨post2, hc2, hop⟩ := hop k F1 G1 hq1
  refine g_istore (lv' := [(5, .int (iI k)), (4, .int (iI i)), (3, .ref (ad 264)), (2, .ref (ad 244)), (1, .ref (ad 0)), (0, .ref b)]) ok d_law_156 (by decide) rfl ?_
  refine g_aload_n ok d_law_158 rfl 3 rfl ?_
  refine g_aload_n ok d_law_159 rfl 5 rfl ?_
  refine g_iload ok d_law_160 1 rfl ?_
  refine g_iconst ok d_law_162 ?_
  refine g_iadd ok d_law_163 ?_
  refine g_sld (v := p1) ok hX hbl hbA (by omega) (by omega) hx1 d_law_164 ?_
  refine g_aload_n ok d_law_165 rfl 5 rfl ?_
  refine g_iload ok d_law_166 1 rfl ?_
  refine g_iconst ok d_law_168 ?_
  refine g_iadd ok d_law_169 ?_
  refine g_sld (v := p2) ok hX hbl hbA (by omega) (by omega) hx2 d_law_170 ?_
  refine g_aload_n ok d_law_171 rfl 5 rfl ?_
  refine g_iload ok d_law_172 1 rfl ?_
  refine g_iconst ok d_law_174 ?_
  refine g_iadd ok d_law_175 ?_
  refine g_sld (v := p3) ok hX hbl hbA (by omega) (by omega) hx3 d_law_176 ?_
  refine g_aload_n ok d_law_177 rfl 5 rfl ?_
  refine g_iload ok d_law_178 1 rfl ?_
  refine g_iconst ok d_law_180 ?_
  refine g_iadd ok d_law_181 ?_
  refine g_sld (v := p4) ok hX hbl hbA (by omega) (by omega) hx4 d_law_182 ?_
  refine g_callVV (As := [.int (iI p1), .int (iI p2), .int (iI p3), .int (iI p4)]) (st := []) ok _ (hc2 s a0 D t ad) k_1100 k_11 k_1097 cl_Mo (m_Mo (ad := ad) (t := t) (F := F1) (G := G1) rfl).1 (m_Mo rfl).2 k_1098 k_1099 q_Mo_begin (by decide) (Nat.le_of_ble_eq_true rfl) (by omega) d_law_183 (fun ce1 h2 => ?_)
  obtain ⟨F2, G2, rfl, h2⟩ := h2
  obtain ⟨hk0, hI⟩ := hop F2 G2 h2
  refine g_aload_n ok d_law_186 rfl 3 rfl ?_
  refine g_callPV (As := []) (st := []) ok _ (c_Mo_thrown F2 G2 s a0 D t ad) k_1096 k_11 k_1093 cl_Mo (m_Mo (ad := ad) (t := t) (F := F2) (G := G2) rfl).1 (m_Mo rfl).2 k_1094 k_1095 q_Mo_thrown (by decide) (Nat.le_of_ble_eq_true rfl) (by omega) d_law_187 (fun zT hT => ?_)
  refine g_iload ok d_law_190 0 rfl ?_
  refine g_cmpE ok (by rw [hT, hk0]) 197 d_law_192 (by decide) ?_
  refine g_goto ok 1001 d_law_197 (by decide) ?_
  refine g_lv [1, 2, 3, 4, 5] rfl ?_
  exact kk F2 G2 hI
/-- what a step by corner wants -/
def oq_corner (Inv : (Nat → Nat → Int) → (Nat → Int → Int) → Prop) (F : Nat → Nat → Int) (G : Nat → Int → Int) (p1 p2 p3 : Int) : Prop := ∃ post1, cL y_Lw_corner b_Lw_corner 6 [(0, 12, 15, 13), (0, 12, 19, 17), (0, 12, 23, 15)] 7 106 F G (fun ad => [.ref (ad 0), .int (iI p1), .int (iI p2), .int (iI p3), .ref (ad 264)]) post1 ∧ ∀ k F1 G1, post1 k F1 G1 → ∃ post2, cI y_Mo_corner b_Mo_corner 4 (some .int) 1 24 F1 G1 (fun ad => [.ref (ad 244), .int (iI p1), .int (iI p2), .int (iI p3)]) post2 ∧ ∀ z F2 G2, post2 z F2 G2 → (0 ≤ k ∧ k ≤ 3) ∧ F2 244 0 = k ∧ (k = 0 → G2 264 0 = (iI z).toInt) ∧ Inv F2 G2
set_option maxHeartbeats 1000000 in
set_option maxRecDepth 100000 in
theorem s_corner {Inv : (Nat → Nat → Int) → (Nat → Int → Int) → Prop} (ok : gOk s a0 D t p R s m meth c A R_law code 7 rt mn 11 440 601024 7293034) (hlt : l.stackTraces = false) {b L : Nat} {xs : Nat → Int32} (hX : va_X b L xs s s.heap) (hbl : b < s.heap.size) (hbA : ¬ A b) (hL : L ≤ 2560) {i : Int} (hi : 0 ≤ i ∧ i + 5 ≤ L) {F : Nat → Nat → Int} {G : Nat → Int → Int} {p1 p2 p3 p4 : Int} (hx1 : xs (i + 1).toNat = iI p1) (hx2 : xs (i + 2).toNat = iI p2) (hx3 : xs (i + 3).toNat = iI p3) (hx4 : xs (i + 4).toNat = iI p4) (hroom : cells + 1 ≤ 601024 ∧ slots + 6 ≤ 7293034) (hop : oq_corner Inv F G p1 p2 p3) (kk : ∀ (F2 : Nat → Nat → Int) (G2 : Nat → Int → Int), Inv F2 G2 → gW p l e R s m args below meth c Q D A 7 gZ (cells + 1) (slots + 6) ad 265 (mem ad t F2 G2) 1001 [(4, .int (iI i)), (3, .ref (ad 264)), (2, .ref (ad 244)), (1, .ref (ad 0)), (0, .ref b)] []) : gW p l e R s m args below meth c Q D A 7 gZ cells slots ad 265 (mem ad t F G) 200 [(4, .int (iI i)), (3, .ref (ad 264)), (2, .ref (ad 244)), (1, .ref (ad 0)), (0, .ref b)] [] := by
  unfold oq_corner at hop
  obtain ⟨post1, hc1, hop⟩ := hop
  refine g_aload_n ok d_law_200 rfl 3 rfl ?_
  refine g_aload_n ok d_law_201 rfl 4 rfl ?_
  refine g_iload ok d_law_202 0 rfl ?_
  refine g_iconst ok d_law_204 ?_
  refine g_iadd ok d_law_205 ?_
  refine g_sld (v := p1) ok hX hbl hbA (by omega) (by omega) hx1 d_law_206 ?_
  refine g_aload_n ok d_law_207 rfl 4 rfl ?_
  refine g_iload ok d_law_208 0 rfl ?_
  refine g_iconst ok d_law_210 ?_
  refine g_iadd ok d_law_211 ?_
  refine g_sld (v := p2) ok hX hbl hbA (by omega) (by omega) hx2 d_law_212 ?_
  refine g_aload_n ok d_law_213 rfl 4 rfl ?_
  refine g_iload ok d_law_214 0 rfl ?_
  refine g_iconst ok d_law_216 ?_
  refine g_iadd ok d_law_217 ?_
  refine g_sld (v := p3) ok hX hbl hbA (by omega) (by omega) hx3 d_law_218 ?_
  refine g_aload_n ok d_law_219 rfl 1 rfl ?_
  refine g_callYS (As := [.ref (ad 0), .int (iI p1), .int (iI p2), .int (iI p3), .ref (ad 264)]) (st := []) ok hlt (hc1 s a0 D t ad) k_781 k_0 k_779 k_780 q_Lw_corner (by decide) (Nat.le_of_ble_eq_true rfl) (by omega) d_law_220 (fun k ce1 hq1 => ?_)
  obtain ⟨F1, G1, rfl, hq1⟩ := hq1
  obtain ⟨post2, hc2, hop⟩ := hop k F1 G1 hq1
  refine g_istore (lv' := [(5, .int (iI k)), (4, .int (iI i)), (3, .ref (ad 264)), (2, .ref (ad 244)), (1, .ref (ad 0)), (0, .ref b)]) ok d_law_223 (by decide) rfl ?_
  refine g_aload_n ok d_law_225 rfl 3 rfl ?_
  refine g_aload_n ok d_law_226 rfl 5 rfl ?_
  refine g_iload ok d_law_227 1 rfl ?_
  refine g_iconst ok d_law_229 ?_
  refine g_iadd ok d_law_230 ?_
  refine g_sld (v := p1) ok hX hbl hbA (by omega) (by omega) hx1 d_law_231 ?_
  refine g_aload_n ok d_law_232 rfl 5 rfl ?_
  refine g_iload ok d_law_233 1 rfl ?_
  refine g_iconst ok d_law_235 ?_
  refine g_iadd ok d_law_236 ?_
  refine g_sld (v := p2) ok hX hbl hbA (by omega) (by omega) hx2 d_law_237 ?_
  refine g_aload_n ok d_law_238 rfl 5 rfl ?_
  refine g_iload ok d_law_239 1 rfl ?_
  refine g_iconst ok d_law_241 ?_
  refine g_iadd ok d_law_242 ?_
  refine g_sld (v := p3) ok hX hbl hbA (by omega) (by omega) hx3 d_law_243 ?_
  refine g_callIV (As := [.int (iI p1), .int (iI p2), .int (iI p3)]) (st := []) ok _ (hc2 s a0 D t ad) k_1104 k_11 k_1101 cl_Mo (m_Mo (ad := ad) (t := t) (F := F1) (G := G1) rfl).1 (m_Mo rfl).2 k_1102 k_1103 q_Mo_corner (by decide) (Nat.le_of_ble_eq_true rfl) (by omega) d_law_244 (fun z2 ce1 h2 => ?_)
  obtain ⟨F2, G2, rfl, h2⟩ := h2
  obtain ⟨hkr, hk0, hz, hI⟩ := hop z2 F2 G2 h2
  refine g_istore (lv' := [(6, .int (iI z2)), (5, .int (iI k)), (4, .int (iI i)), (3, .ref (ad 264)), (2, .ref (ad 244)), (1, .ref (ad 0)), (0, .ref b)]) ok d_law_247 (by decide) rfl ?_
  refine g_aload_n ok d_law_249 rfl 4 rfl ?_
  refine g_callPV (As := []) (st := []) ok _ (c_Mo_thrown F2 G2 s a0 D t ad) k_1096 k_11 k_1093 cl_Mo (m_Mo (ad := ad) (t := t) (F := F2) (G := G2) rfl).1 (m_Mo rfl).2 k_1094 k_1095 q_Mo_thrown (by decide) (Nat.le_of_ble_eq_true rfl) (by omega) d_law_250 (fun zT hT => ?_)
  refine g_iload ok d_law_253 1 rfl ?_
  refine g_cmpE ok (by rw [hT, hk0]) 260 d_law_255 (by decide) ?_
  refine g_iload ok d_law_260 1 rfl ?_
  have jn : gW p l e R s m args below meth c Q D A 7 gZ (cells + 1) (slots + 6) ad 265 (mem ad t F2 G2) 277 [(6, .int (iI z2)), (5, .int (iI k)), (4, .int (iI i)), (3, .ref (ad 264)), (2, .ref (ad 244)), (1, .ref (ad 0)), (0, .ref b)] [] := by
    refine g_goto ok 1001 d_law_277 (by decide) ?_
    refine g_lv [2, 3, 4, 5, 6] rfl ?_
    exact kk F2 G2 hI
  refine g_if_ne ok 277 d_law_262 (by decide) (by omega) (fun _ => jn) (fun hk1 => ?_)
  have hz0 : G2 264 0 = (iI z2).toInt := hz (by omega)
  refine g_aload_n ok d_law_265 rfl 3 rfl ?_
  refine g_iconst ok d_law_266 ?_
  refine h_lald ok d_law_267 ?_
  rw [hz0]
  refine g_iload ok d_law_268 0 rfl ?_
  refine g_i2l ok d_law_270 ?_
  refine g_lcmpE ok d_law_271 ?_
  exact g_if_eq ok 277 d_law_272 (by decide) (by decide) (fun _ => jn) (fun h => absurd rfl h)
/-- what a step by rail wants -/
def oq_rail (Inv : (Nat → Nat → Int) → (Nat → Int → Int) → Prop) (F : Nat → Nat → Int) (G : Nat → Int → Int) (p1 p2 p3 : Int) : Prop := ∃ post1, cL y_Lw_rail b_Lw_rail 6 [(0, 12, 15, 13), (0, 12, 19, 17), (0, 12, 23, 15)] 7 106 F G (fun ad => [.ref (ad 0), .int (iI p1), .int (iI p2), .int (iI p3), .ref (ad 264)]) post1 ∧ ∀ k F1 G1, post1 k F1 G1 → ∃ post2, cI y_Mo_rail b_Mo_rail 4 (some .int) 1 24 F1 G1 (fun ad => [.ref (ad 244), .int (iI p1), .int (iI p2), .int (iI p3)]) post2 ∧ ∀ z F2 G2, post2 z F2 G2 → (0 ≤ k ∧ k ≤ 3) ∧ F2 244 0 = k ∧ (k = 0 → G2 264 0 = (iI z).toInt) ∧ Inv F2 G2
set_option maxHeartbeats 1000000 in
set_option maxRecDepth 100000 in
theorem s_rail {Inv : (Nat → Nat → Int) → (Nat → Int → Int) → Prop} (ok : gOk s a0 D t p R s m meth c A R_law code 7 rt mn 11 440 601024 7293034) (hlt : l.stackTraces = false) {b L : Nat} {xs : Nat → Int32} (hX : va_X b L xs s s.heap) (hbl : b < s.heap.size) (hbA : ¬ A b) (hL : L ≤ 2560) {i : Int} (hi : 0 ≤ i ∧ i + 5 ≤ L) {F : Nat → Nat → Int} {G : Nat → Int → Int} {p1 p2 p3 p4 : Int} (hx1 : xs (i + 1).toNat = iI p1) (hx2 : xs (i + 2).toNat = iI p2) (hx3 : xs (i + 3).toNat = iI p3) (hx4 : xs (i + 4).toNat = iI p4) (hroom : cells + 1 ≤ 601024 ∧ slots + 6 ≤ 7293034) (hop : oq_rail Inv F G p1 p2 p3) (kk : ∀ (F2 : Nat → Nat → Int) (G2 : Nat → Int → Int), Inv F2 G2 → gW p l e R s m args below meth c Q D A 7 gZ (cells + 1) (slots + 6) ad 265 (mem ad t F2 G2) 1001 [(4, .int (iI i)), (3, .ref (ad 264)), (2, .ref (ad 244)), (1, .ref (ad 0)), (0, .ref b)] []) : gW p l e R s m args below meth c Q D A 7 gZ cells slots ad 265 (mem ad t F G) 280 [(4, .int (iI i)), (3, .ref (ad 264)), (2, .ref (ad 244)), (1, .ref (ad 0)), (0, .ref b)] [] := by
  unfold oq_rail at hop
  obtain ⟨post1, hc1, hop⟩ := hop
  refine g_aload_n ok d_law_280 rfl 3 rfl ?_
  refine g_aload_n ok d_law_281 rfl 4 rfl ?_
  refine g_iload ok d_law_282 0 rfl ?_
  refine g_iconst ok d_law_284 ?_
  refine g_iadd ok d_law_285 ?_
  refine g_sld (v := p1) ok hX hbl hbA (by omega) (by omega) hx1 d_law_286 ?_
  refine g_aload_n ok d_law_287 rfl 4 rfl ?_
  refine g_iload ok d_law_288 0 rfl ?_
  refine g_iconst ok d_law_290 ?_
  refine g_iadd ok d_law_291 ?_
  refine g_sld (v := p2) ok hX hbl hbA (by omega) (by omega) hx2 d_law_292 ?_
  refine g_aload_n ok d_law_293 rfl 4 rfl ?_
  refine g_iload ok d_law_294 0 rfl ?_
  refine g_iconst ok d_law_296 ?_
  refine g_iadd ok d_law_297 ?_
  refine g_sld (v := p3) ok hX hbl hbA (by omega) (by omega) hx3 d_law_298 ?_
  refine g_aload_n ok d_law_299 rfl 1 rfl ?_
  refine g_callYS (As := [.ref (ad 0), .int (iI p1), .int (iI p2), .int (iI p3), .ref (ad 264)]) (st := []) ok hlt (hc1 s a0 D t ad) k_798 k_0 k_796 k_797 q_Lw_rail (by decide) (Nat.le_of_ble_eq_true rfl) (by omega) d_law_300 (fun k ce1 hq1 => ?_)
  obtain ⟨F1, G1, rfl, hq1⟩ := hq1
  obtain ⟨post2, hc2, hop⟩ := hop k F1 G1 hq1
  refine g_istore (lv' := [(5, .int (iI k)), (4, .int (iI i)), (3, .ref (ad 264)), (2, .ref (ad 244)), (1, .ref (ad 0)), (0, .ref b)]) ok d_law_303 (by decide) rfl ?_
  refine g_aload_n ok d_law_305 rfl 3 rfl ?_
  refine g_aload_n ok d_law_306 rfl 5 rfl ?_
  refine g_iload ok d_law_307 1 rfl ?_
  refine g_iconst ok d_law_309 ?_
  refine g_iadd ok d_law_310 ?_
  refine g_sld (v := p1) ok hX hbl hbA (by omega) (by omega) hx1 d_law_311 ?_
  refine g_aload_n ok d_law_312 rfl 5 rfl ?_
  refine g_iload ok d_law_313 1 rfl ?_
  refine g_iconst ok d_law_315 ?_
  refine g_iadd ok d_law_316 ?_
  refine g_sld (v := p2) ok hX hbl hbA (by omega) (by omega) hx2 d_law_317 ?_
  refine g_aload_n ok d_law_318 rfl 5 rfl ?_
  refine g_iload ok d_law_319 1 rfl ?_
  refine g_iconst ok d_law_321 ?_
  refine g_iadd ok d_law_322 ?_
  refine g_sld (v := p3) ok hX hbl hbA (by omega) (by omega) hx3 d_law_323 ?_
  refine g_callIV (As := [.int (iI p1), .int (iI p2), .int (iI p3)]) (st := []) ok _ (hc2 s a0 D t ad) k_1115 k_11 k_1112 cl_Mo (m_Mo (ad := ad) (t := t) (F := F1) (G := G1) rfl).1 (m_Mo rfl).2 k_1113 k_1114 q_Mo_rail (by decide) (Nat.le_of_ble_eq_true rfl) (by omega) d_law_324 (fun z2 ce1 h2 => ?_)
  obtain ⟨F2, G2, rfl, h2⟩ := h2
  obtain ⟨hkr, hk0, hz, hI⟩ := hop z2 F2 G2 h2
  refine g_istore (lv' := [(6, .int (iI z2)), (5, .int (iI k)), (4, .int (iI i)), (3, .ref (ad 264)), (2, .ref (ad 244)), (1, .ref (ad 0)), (0, .ref b)]) ok d_law_327 (by decide) rfl ?_
  refine g_aload_n ok d_law_329 rfl 4 rfl ?_
  refine g_callPV (As := []) (st := []) ok _ (c_Mo_thrown F2 G2 s a0 D t ad) k_1096 k_11 k_1093 cl_Mo (m_Mo (ad := ad) (t := t) (F := F2) (G := G2) rfl).1 (m_Mo rfl).2 k_1094 k_1095 q_Mo_thrown (by decide) (Nat.le_of_ble_eq_true rfl) (by omega) d_law_330 (fun zT hT => ?_)
  refine g_iload ok d_law_333 1 rfl ?_
  refine g_cmpE ok (by rw [hT, hk0]) 340 d_law_335 (by decide) ?_
  refine g_iload ok d_law_340 1 rfl ?_
  have jn : gW p l e R s m args below meth c Q D A 7 gZ (cells + 1) (slots + 6) ad 265 (mem ad t F2 G2) 357 [(6, .int (iI z2)), (5, .int (iI k)), (4, .int (iI i)), (3, .ref (ad 264)), (2, .ref (ad 244)), (1, .ref (ad 0)), (0, .ref b)] [] := by
    refine g_goto ok 1001 d_law_357 (by decide) ?_
    refine g_lv [2, 3, 4, 5, 6] rfl ?_
    exact kk F2 G2 hI
  refine g_if_ne ok 357 d_law_342 (by decide) (by omega) (fun _ => jn) (fun hk1 => ?_)
  have hz0 : G2 264 0 = (iI z2).toInt := hz (by omega)
  refine g_aload_n ok d_law_345 rfl 3 rfl ?_
  refine g_iconst ok d_law_346 ?_
  refine h_lald ok d_law_347 ?_
  rw [hz0]
  refine g_iload ok d_law_348 0 rfl ?_
  refine g_i2l ok d_law_350 ?_
  refine g_lcmpE ok d_law_351 ?_
  exact g_if_eq ok 357 d_law_352 (by decide) (by decide) (fun _ => jn) (fun h => absurd rfl h)
/-- what a step by end wants -/
def oq_end (Inv : (Nat → Nat → Int) → (Nat → Int → Int) → Prop) (F : Nat → Nat → Int) (G : Nat → Int → Int) : Prop := ∃ post1, cL y_Lw_end b_Lw_end 3 [(0, 8, 11, 13)] 8 192 F G (fun ad => [.ref (ad 0), .ref (ad 264)]) post1 ∧ ∀ k F1 G1, post1 k F1 G1 → ∃ post2, cI y_Mo_end b_Mo_end 6 (some .int) 5 119 F1 G1 (fun ad => [.ref (ad 244)]) post2 ∧ ∀ z F2 G2, post2 z F2 G2 → (0 ≤ k ∧ k ≤ 3) ∧ F2 244 0 = k ∧ (k = 0 → G2 264 0 = (iI z).toInt) ∧ Inv F2 G2
set_option maxHeartbeats 1000000 in
set_option maxRecDepth 100000 in
theorem s_end {Inv : (Nat → Nat → Int) → (Nat → Int → Int) → Prop} (ok : gOk s a0 D t p R s m meth c A R_law code 7 rt mn 11 440 601024 7293034) (hlt : l.stackTraces = false) {b L : Nat} {xs : Nat → Int32} (hX : va_X b L xs s s.heap) (hbl : b < s.heap.size) (hbA : ¬ A b) (hL : L ≤ 2560) {i : Int} (hi : 0 ≤ i ∧ i + 5 ≤ L) {F : Nat → Nat → Int} {G : Nat → Int → Int} {p1 p2 p3 p4 : Int} (hx1 : xs (i + 1).toNat = iI p1) (hx2 : xs (i + 2).toNat = iI p2) (hx3 : xs (i + 3).toNat = iI p3) (hx4 : xs (i + 4).toNat = iI p4) (hroom : cells + 1 ≤ 601024 ∧ slots + 6 ≤ 7293034) (hop : oq_end Inv F G) (kk : ∀ (F2 : Nat → Nat → Int) (G2 : Nat → Int → Int), Inv F2 G2 → gW p l e R s m args below meth c Q D A 7 gZ (cells + 1) (slots + 6) ad 265 (mem ad t F2 G2) 1001 [(4, .int (iI i)), (3, .ref (ad 264)), (2, .ref (ad 244)), (1, .ref (ad 0)), (0, .ref b)] []) : gW p l e R s m args below meth c Q D A 7 gZ cells slots ad 265 (mem ad t F G) 360 [(4, .int (iI i)), (3, .ref (ad 264)), (2, .ref (ad 244)), (1, .ref (ad 0)), (0, .ref b)] [] := by
  unfold oq_end at hop
  obtain ⟨post1, hc1, hop⟩ := hop
  refine g_aload_n ok d_law_360 rfl 3 rfl ?_
  refine g_aload_n ok d_law_361 rfl 1 rfl ?_
  refine g_callYS (As := [.ref (ad 0), .ref (ad 264)]) (st := []) ok hlt (hc1 s a0 D t ad) k_808 k_0 k_806 k_807 q_Lw_end (by decide) (Nat.le_of_ble_eq_true rfl) (by omega) d_law_362 (fun k ce1 hq1 => ?_)
  obtain ⟨F1, G1, rfl, hq1⟩ := hq1
  obtain ⟨post2, hc2, hop⟩ := hop k F1 G1 hq1
  refine g_istore (lv' := [(5, .int (iI k)), (4, .int (iI i)), (3, .ref (ad 264)), (2, .ref (ad 244)), (1, .ref (ad 0)), (0, .ref b)]) ok d_law_365 (by decide) rfl ?_
  refine g_aload_n ok d_law_367 rfl 3 rfl ?_
  refine g_callIV (As := []) (st := []) ok _ (hc2 s a0 D t ad) k_1119 k_11 k_1116 cl_Mo (m_Mo (ad := ad) (t := t) (F := F1) (G := G1) rfl).1 (m_Mo rfl).2 k_1117 k_1118 q_Mo_end (by decide) (Nat.le_of_ble_eq_true rfl) (by omega) d_law_368 (fun z2 ce1 h2 => ?_)
  obtain ⟨F2, G2, rfl, h2⟩ := h2
  obtain ⟨hkr, hk0, hz, hI⟩ := hop z2 F2 G2 h2
  refine g_istore (lv' := [(6, .int (iI z2)), (5, .int (iI k)), (4, .int (iI i)), (3, .ref (ad 264)), (2, .ref (ad 244)), (1, .ref (ad 0)), (0, .ref b)]) ok d_law_371 (by decide) rfl ?_
  refine g_aload_n ok d_law_373 rfl 4 rfl ?_
  refine g_callPV (As := []) (st := []) ok _ (c_Mo_thrown F2 G2 s a0 D t ad) k_1096 k_11 k_1093 cl_Mo (m_Mo (ad := ad) (t := t) (F := F2) (G := G2) rfl).1 (m_Mo rfl).2 k_1094 k_1095 q_Mo_thrown (by decide) (Nat.le_of_ble_eq_true rfl) (by omega) d_law_374 (fun zT hT => ?_)
  refine g_iload ok d_law_377 1 rfl ?_
  refine g_cmpE ok (by rw [hT, hk0]) 384 d_law_379 (by decide) ?_
  refine g_iload ok d_law_384 1 rfl ?_
  have jn : gW p l e R s m args below meth c Q D A 7 gZ (cells + 1) (slots + 6) ad 265 (mem ad t F2 G2) 401 [(6, .int (iI z2)), (5, .int (iI k)), (4, .int (iI i)), (3, .ref (ad 264)), (2, .ref (ad 244)), (1, .ref (ad 0)), (0, .ref b)] [] := by
    refine g_goto ok 1001 d_law_401 (by decide) ?_
    refine g_lv [2, 3, 4, 5, 6] rfl ?_
    exact kk F2 G2 hI
  refine g_if_ne ok 401 d_law_386 (by decide) (by omega) (fun _ => jn) (fun hk1 => ?_)
  have hz0 : G2 264 0 = (iI z2).toInt := hz (by omega)
  refine g_aload_n ok d_law_389 rfl 3 rfl ?_
  refine g_iconst ok d_law_390 ?_
  refine h_lald ok d_law_391 ?_
  rw [hz0]
  refine g_iload ok d_law_392 0 rfl ?_
  refine g_i2l ok d_law_394 ?_
  refine g_lcmpE ok d_law_395 ?_
  exact g_if_eq ok 401 d_law_396 (by decide) (by decide) (fun _ => jn) (fun h => absurd rfl h)
/-- what a step by fault wants -/
def oq_fault (Inv : (Nat → Nat → Int) → (Nat → Int → Int) → Prop) (F : Nat → Nat → Int) (G : Nat → Int → Int) (p1 : Int) : Prop := ∃ post1, cP y_Dk_fault b_Dk_fault 2 (some .int) 0 0 F G (fun ad => [.ref (ad 0), .int (iI p1)]) post1 ∧ ∀ z1, post1 z1 → ∃ post2, cI y_Mo_fault b_Mo_fault 2 (some .int) 0 0 F G (fun ad => [.ref (ad 244), .int (iI p1)]) post2 ∧ ∀ z F2 G2, post2 z F2 G2 → iI z1 = iI z ∧ Inv F2 G2
set_option maxHeartbeats 1000000 in
set_option maxRecDepth 100000 in
theorem s_fault {Inv : (Nat → Nat → Int) → (Nat → Int → Int) → Prop} (ok : gOk s a0 D t p R s m meth c A R_law code 7 rt mn 11 440 601024 7293034) (hlt : l.stackTraces = false) {b L : Nat} {xs : Nat → Int32} (hX : va_X b L xs s s.heap) (hbl : b < s.heap.size) (hbA : ¬ A b) (hL : L ≤ 2560) {i : Int} (hi : 0 ≤ i ∧ i + 5 ≤ L) {F : Nat → Nat → Int} {G : Nat → Int → Int} {p1 p2 p3 p4 : Int} (hx1 : xs (i + 1).toNat = iI p1) (hx2 : xs (i + 2).toNat = iI p2) (hx3 : xs (i + 3).toNat = iI p3) (hx4 : xs (i + 4).toNat = iI p4) (hroom : cells + 1 ≤ 601024 ∧ slots + 6 ≤ 7293034) (hop : oq_fault Inv F G p1) (kk : ∀ (F2 : Nat → Nat → Int) (G2 : Nat → Int → Int), Inv F2 G2 → gW p l e R s m args below meth c Q D A 7 gZ (cells + 1) (slots + 6) ad 265 (mem ad t F2 G2) 1001 [(4, .int (iI i)), (3, .ref (ad 264)), (2, .ref (ad 244)), (1, .ref (ad 0)), (0, .ref b)] []) : gW p l e R s m args below meth c Q D A 7 gZ cells slots ad 265 (mem ad t F G) 404 [(4, .int (iI i)), (3, .ref (ad 264)), (2, .ref (ad 244)), (1, .ref (ad 0)), (0, .ref b)] [] := by
  unfold oq_fault at hop
  obtain ⟨post1, hc1, hop⟩ := hop
  refine g_aload_n ok d_law_404 rfl 3 rfl ?_
  refine g_aload_n ok d_law_405 rfl 4 rfl ?_
  refine g_iload ok d_law_406 0 rfl ?_
  refine g_iconst ok d_law_408 ?_
  refine g_iadd ok d_law_409 ?_
  refine g_sld (v := p1) ok hX hbl hbA (by omega) (by omega) hx1 d_law_410 ?_
  refine g_callPV (As := [.int (iI p1)]) (st := []) ok _ (hc1 s a0 D t ad) k_354 k_1 k_351 cl_Dk (m_Dk (ad := ad) (t := t) (F := F) (G := G) rfl).1 (m_Dk rfl).2 k_352 k_353 q_Dk_fault (by decide) (Nat.le_of_ble_eq_true rfl) (by omega) d_law_411 (fun z1 h1 => ?_)
  obtain ⟨post2, hc2, hop⟩ := hop z1 h1
  refine g_aload_n ok d_law_414 rfl 2 rfl ?_
  refine g_aload_n ok d_law_415 rfl 4 rfl ?_
  refine g_iload ok d_law_416 0 rfl ?_
  refine g_iconst ok d_law_418 ?_
  refine g_iadd ok d_law_419 ?_
  refine g_sld (v := p1) ok hX hbl hbA (by omega) (by omega) hx1 d_law_420 ?_
  refine g_callIV (As := [.int (iI p1)]) (st := [.int (iI z1)]) ok _ (hc2 s a0 D t ad) k_1176 k_11 k_1173 cl_Mo (m_Mo (ad := ad) (t := t) (F := F) (G := G) rfl).1 (m_Mo rfl).2 k_1174 k_1175 q_Mo_fault (by decide) (Nat.le_of_ble_eq_true rfl) (by omega) d_law_421 (fun z2 ce1 h2 => ?_)
  obtain ⟨F2, G2, rfl, h2⟩ := h2
  obtain ⟨hz, hI⟩ := hop z2 F2 G2 h2
  refine g_cmpE ok (hz) 1001 d_law_424 (by decide) ?_
  refine g_widen (k := cells + 1) (j := slots + 6) (by omega) (by omega) ?_
  exact kk F2 G2 hI
/-- what a step by shape wants -/
def oq_shape (Inv : (Nat → Nat → Int) → (Nat → Int → Int) → Prop) (F : Nat → Nat → Int) (G : Nat → Int → Int) (p1 p2 : Int) : Prop := ∃ post1, cL y_Lw_shape b_Lw_shape 5 [(0, 10, 13, 34), (0, 10, 17, 17)] 7 105 F G (fun ad => [.ref (ad 0), .int (iI p1), .int (iI p2), .ref (ad 264)]) post1 ∧ ∀ k F1 G1, post1 k F1 G1 → ∃ post2, cI y_Mo_shape b_Mo_shape 3 (some .int) 8 198 F1 G1 (fun ad => [.ref (ad 244), .int (iI p1), .int (iI p2)]) post2 ∧ ∀ z F2 G2, post2 z F2 G2 → (0 ≤ k ∧ k ≤ 3) ∧ F2 244 0 = k ∧ (k = 0 → G2 264 0 = (iI z).toInt) ∧ Inv F2 G2
set_option maxHeartbeats 1000000 in
set_option maxRecDepth 100000 in
theorem s_shape {Inv : (Nat → Nat → Int) → (Nat → Int → Int) → Prop} (ok : gOk s a0 D t p R s m meth c A R_law code 7 rt mn 11 440 601024 7293034) (hlt : l.stackTraces = false) {b L : Nat} {xs : Nat → Int32} (hX : va_X b L xs s s.heap) (hbl : b < s.heap.size) (hbA : ¬ A b) (hL : L ≤ 2560) {i : Int} (hi : 0 ≤ i ∧ i + 5 ≤ L) {F : Nat → Nat → Int} {G : Nat → Int → Int} {p1 p2 p3 p4 : Int} (hx1 : xs (i + 1).toNat = iI p1) (hx2 : xs (i + 2).toNat = iI p2) (hx3 : xs (i + 3).toNat = iI p3) (hx4 : xs (i + 4).toNat = iI p4) (hroom : cells + 1 ≤ 601024 ∧ slots + 6 ≤ 7293034) (hop : oq_shape Inv F G p1 p2) (kk : ∀ (F2 : Nat → Nat → Int) (G2 : Nat → Int → Int), Inv F2 G2 → gW p l e R s m args below meth c Q D A 7 gZ (cells + 1) (slots + 6) ad 265 (mem ad t F2 G2) 1001 [(4, .int (iI i)), (3, .ref (ad 264)), (2, .ref (ad 244)), (1, .ref (ad 0)), (0, .ref b)] []) : gW p l e R s m args below meth c Q D A 7 gZ cells slots ad 265 (mem ad t F G) 429 [(4, .int (iI i)), (3, .ref (ad 264)), (2, .ref (ad 244)), (1, .ref (ad 0)), (0, .ref b)] [] := by
  unfold oq_shape at hop
  obtain ⟨post1, hc1, hop⟩ := hop
  refine g_aload_n ok d_law_429 rfl 3 rfl ?_
  refine g_aload_n ok d_law_430 rfl 4 rfl ?_
  refine g_iload ok d_law_431 0 rfl ?_
  refine g_iconst ok d_law_433 ?_
  refine g_iadd ok d_law_434 ?_
  refine g_sld (v := p1) ok hX hbl hbA (by omega) (by omega) hx1 d_law_435 ?_
  refine g_aload_n ok d_law_436 rfl 4 rfl ?_
  refine g_iload ok d_law_437 0 rfl ?_
  refine g_iconst ok d_law_439 ?_
  refine g_iadd ok d_law_440 ?_
  refine g_sld (v := p2) ok hX hbl hbA (by omega) (by omega) hx2 d_law_441 ?_
  refine g_aload_n ok d_law_442 rfl 1 rfl ?_
  refine g_callYS (As := [.ref (ad 0), .int (iI p1), .int (iI p2), .ref (ad 264)]) (st := []) ok hlt (hc1 s a0 D t ad) k_893 k_0 k_891 k_892 q_Lw_shape (by decide) (Nat.le_of_ble_eq_true rfl) (by omega) d_law_443 (fun k ce1 hq1 => ?_)
  obtain ⟨F1, G1, rfl, hq1⟩ := hq1
  obtain ⟨post2, hc2, hop⟩ := hop k F1 G1 hq1
  refine g_istore (lv' := [(5, .int (iI k)), (4, .int (iI i)), (3, .ref (ad 264)), (2, .ref (ad 244)), (1, .ref (ad 0)), (0, .ref b)]) ok d_law_446 (by decide) rfl ?_
  refine g_aload_n ok d_law_448 rfl 3 rfl ?_
  refine g_aload_n ok d_law_449 rfl 5 rfl ?_
  refine g_iload ok d_law_450 1 rfl ?_
  refine g_iconst ok d_law_452 ?_
  refine g_iadd ok d_law_453 ?_
  refine g_sld (v := p1) ok hX hbl hbA (by omega) (by omega) hx1 d_law_454 ?_
  refine g_aload_n ok d_law_455 rfl 5 rfl ?_
  refine g_iload ok d_law_456 1 rfl ?_
  refine g_iconst ok d_law_458 ?_
  refine g_iadd ok d_law_459 ?_
  refine g_sld (v := p2) ok hX hbl hbA (by omega) (by omega) hx2 d_law_460 ?_
  refine g_callIV (As := [.int (iI p1), .int (iI p2)]) (st := []) ok _ (hc2 s a0 D t ad) k_1180 k_11 k_1177 cl_Mo (m_Mo (ad := ad) (t := t) (F := F1) (G := G1) rfl).1 (m_Mo rfl).2 k_1178 k_1179 q_Mo_shape (by decide) (Nat.le_of_ble_eq_true rfl) (by omega) d_law_461 (fun z2 ce1 h2 => ?_)
  obtain ⟨F2, G2, rfl, h2⟩ := h2
  obtain ⟨hkr, hk0, hz, hI⟩ := hop z2 F2 G2 h2
  refine g_istore (lv' := [(6, .int (iI z2)), (5, .int (iI k)), (4, .int (iI i)), (3, .ref (ad 264)), (2, .ref (ad 244)), (1, .ref (ad 0)), (0, .ref b)]) ok d_law_464 (by decide) rfl ?_
  refine g_aload_n ok d_law_466 rfl 4 rfl ?_
  refine g_callPV (As := []) (st := []) ok _ (c_Mo_thrown F2 G2 s a0 D t ad) k_1096 k_11 k_1093 cl_Mo (m_Mo (ad := ad) (t := t) (F := F2) (G := G2) rfl).1 (m_Mo rfl).2 k_1094 k_1095 q_Mo_thrown (by decide) (Nat.le_of_ble_eq_true rfl) (by omega) d_law_467 (fun zT hT => ?_)
  refine g_iload ok d_law_470 1 rfl ?_
  refine g_cmpE ok (by rw [hT, hk0]) 477 d_law_472 (by decide) ?_
  refine g_iload ok d_law_477 1 rfl ?_
  have jn : gW p l e R s m args below meth c Q D A 7 gZ (cells + 1) (slots + 6) ad 265 (mem ad t F2 G2) 494 [(6, .int (iI z2)), (5, .int (iI k)), (4, .int (iI i)), (3, .ref (ad 264)), (2, .ref (ad 244)), (1, .ref (ad 0)), (0, .ref b)] [] := by
    refine g_goto ok 1001 d_law_494 (by decide) ?_
    refine g_lv [2, 3, 4, 5, 6] rfl ?_
    exact kk F2 G2 hI
  refine g_if_ne ok 494 d_law_479 (by decide) (by omega) (fun _ => jn) (fun hk1 => ?_)
  have hz0 : G2 264 0 = (iI z2).toInt := hz (by omega)
  refine g_aload_n ok d_law_482 rfl 3 rfl ?_
  refine g_iconst ok d_law_483 ?_
  refine h_lald ok d_law_484 ?_
  rw [hz0]
  refine g_iload ok d_law_485 0 rfl ?_
  refine g_i2l ok d_law_487 ?_
  refine g_lcmpE ok d_law_488 ?_
  exact g_if_eq ok 494 d_law_489 (by decide) (by decide) (fun _ => jn) (fun h => absurd rfl h)
/-- what a step by count wants -/
def oq_count (Inv : (Nat → Nat → Int) → (Nat → Int → Int) → Prop) (F : Nat → Nat → Int) (G : Nat → Int → Int) (p1 : Int) : Prop := ∃ post1, cP y_Dk_count b_Dk_count 2 (some .int) 0 0 F G (fun ad => [.ref (ad 0), .int (iI p1)]) post1 ∧ ∀ z1, post1 z1 → ∃ post2, cI y_Mo_count b_Mo_count 2 (some .int) 0 0 F G (fun ad => [.ref (ad 244), .int (iI p1)]) post2 ∧ ∀ z F2 G2, post2 z F2 G2 → iI z1 = iI z ∧ Inv F2 G2
set_option maxHeartbeats 1000000 in
set_option maxRecDepth 100000 in
theorem s_count {Inv : (Nat → Nat → Int) → (Nat → Int → Int) → Prop} (ok : gOk s a0 D t p R s m meth c A R_law code 7 rt mn 11 440 601024 7293034) (hlt : l.stackTraces = false) {b L : Nat} {xs : Nat → Int32} (hX : va_X b L xs s s.heap) (hbl : b < s.heap.size) (hbA : ¬ A b) (hL : L ≤ 2560) {i : Int} (hi : 0 ≤ i ∧ i + 5 ≤ L) {F : Nat → Nat → Int} {G : Nat → Int → Int} {p1 p2 p3 p4 : Int} (hx1 : xs (i + 1).toNat = iI p1) (hx2 : xs (i + 2).toNat = iI p2) (hx3 : xs (i + 3).toNat = iI p3) (hx4 : xs (i + 4).toNat = iI p4) (hroom : cells + 1 ≤ 601024 ∧ slots + 6 ≤ 7293034) (hop : oq_count Inv F G p1) (kk : ∀ (F2 : Nat → Nat → Int) (G2 : Nat → Int → Int), Inv F2 G2 → gW p l e R s m args below meth c Q D A 7 gZ (cells + 1) (slots + 6) ad 265 (mem ad t F2 G2) 1001 [(4, .int (iI i)), (3, .ref (ad 264)), (2, .ref (ad 244)), (1, .ref (ad 0)), (0, .ref b)] []) : gW p l e R s m args below meth c Q D A 7 gZ cells slots ad 265 (mem ad t F G) 497 [(4, .int (iI i)), (3, .ref (ad 264)), (2, .ref (ad 244)), (1, .ref (ad 0)), (0, .ref b)] [] := by
  unfold oq_count at hop
  obtain ⟨post1, hc1, hop⟩ := hop
  refine g_aload_n ok d_law_497 rfl 3 rfl ?_
  refine g_aload_n ok d_law_498 rfl 4 rfl ?_
  refine g_iload ok d_law_499 0 rfl ?_
  refine g_iconst ok d_law_501 ?_
  refine g_iadd ok d_law_502 ?_
  refine g_sld (v := p1) ok hX hbl hbA (by omega) (by omega) hx1 d_law_503 ?_
  refine g_callPV (As := [.int (iI p1)]) (st := []) ok _ (hc1 s a0 D t ad) k_358 k_1 k_355 cl_Dk (m_Dk (ad := ad) (t := t) (F := F) (G := G) rfl).1 (m_Dk rfl).2 k_356 k_357 q_Dk_count (by decide) (Nat.le_of_ble_eq_true rfl) (by omega) d_law_504 (fun z1 h1 => ?_)
  obtain ⟨post2, hc2, hop⟩ := hop z1 h1
  refine g_aload_n ok d_law_507 rfl 2 rfl ?_
  refine g_aload_n ok d_law_508 rfl 4 rfl ?_
  refine g_iload ok d_law_509 0 rfl ?_
  refine g_iconst ok d_law_511 ?_
  refine g_iadd ok d_law_512 ?_
  refine g_sld (v := p1) ok hX hbl hbA (by omega) (by omega) hx1 d_law_513 ?_
  refine g_callIV (As := [.int (iI p1)]) (st := [.int (iI z1)]) ok _ (hc2 s a0 D t ad) k_1244 k_11 k_1241 cl_Mo (m_Mo (ad := ad) (t := t) (F := F) (G := G) rfl).1 (m_Mo rfl).2 k_1242 k_1243 q_Mo_count (by decide) (Nat.le_of_ble_eq_true rfl) (by omega) d_law_514 (fun z2 ce1 h2 => ?_)
  obtain ⟨F2, G2, rfl, h2⟩ := h2
  obtain ⟨hz, hI⟩ := hop z2 F2 G2 h2
  refine g_cmpE ok (hz) 1001 d_law_517 (by decide) ?_
  refine g_widen (k := cells + 1) (j := slots + 6) (by omega) (by omega) ?_
  exact kk F2 G2 hI
/-- what a step by stitch wants -/
def oq_stitch (Inv : (Nat → Nat → Int) → (Nat → Int → Int) → Prop) (F : Nat → Nat → Int) (G : Nat → Int → Int) : Prop := ∃ post1, cI y_Dk_stitch b_Dk_stitch 3 (some .int) 7 170 F G (fun ad => [.ref (ad 0)]) post1 ∧ ∀ z1 F1 G1, post1 z1 F1 G1 → ∃ post2, cI y_Mo_stitch b_Mo_stitch 2 (some .int) 8 198 F1 G1 (fun ad => [.ref (ad 244)]) post2 ∧ ∀ z F2 G2, post2 z F2 G2 → iI z1 = iI z ∧ Inv F2 G2
set_option maxHeartbeats 1000000 in
set_option maxRecDepth 100000 in
theorem s_stitch {Inv : (Nat → Nat → Int) → (Nat → Int → Int) → Prop} (ok : gOk s a0 D t p R s m meth c A R_law code 7 rt mn 11 440 601024 7293034) (hlt : l.stackTraces = false) {b L : Nat} {xs : Nat → Int32} (hX : va_X b L xs s s.heap) (hbl : b < s.heap.size) (hbA : ¬ A b) (hL : L ≤ 2560) {i : Int} (hi : 0 ≤ i ∧ i + 5 ≤ L) {F : Nat → Nat → Int} {G : Nat → Int → Int} {p1 p2 p3 p4 : Int} (hx1 : xs (i + 1).toNat = iI p1) (hx2 : xs (i + 2).toNat = iI p2) (hx3 : xs (i + 3).toNat = iI p3) (hx4 : xs (i + 4).toNat = iI p4) (hroom : cells + 1 ≤ 601024 ∧ slots + 6 ≤ 7293034) (hop : oq_stitch Inv F G) (kk : ∀ (F2 : Nat → Nat → Int) (G2 : Nat → Int → Int), Inv F2 G2 → gW p l e R s m args below meth c Q D A 7 gZ (cells + 1) (slots + 6) ad 265 (mem ad t F2 G2) 1001 [(4, .int (iI i)), (3, .ref (ad 264)), (2, .ref (ad 244)), (1, .ref (ad 0)), (0, .ref b)] []) : gW p l e R s m args below meth c Q D A 7 gZ cells slots ad 265 (mem ad t F G) 522 [(4, .int (iI i)), (3, .ref (ad 264)), (2, .ref (ad 244)), (1, .ref (ad 0)), (0, .ref b)] [] := by
  unfold oq_stitch at hop
  obtain ⟨post1, hc1, hop⟩ := hop
  refine g_aload_n ok d_law_522 rfl 3 rfl ?_
  refine g_callIV (As := []) (st := []) ok _ (hc1 s a0 D t ad) k_362 k_1 k_359 cl_Dk (m_Dk (ad := ad) (t := t) (F := F) (G := G) rfl).1 (m_Dk rfl).2 k_360 k_361 q_Dk_stitch (by decide) (Nat.le_of_ble_eq_true rfl) (by omega) d_law_523 (fun z1 ce1 h1 => ?_)
  obtain ⟨F1, G1, rfl, h1⟩ := h1
  obtain ⟨post2, hc2, hop⟩ := hop z1 F1 G1 h1
  refine g_aload_n ok d_law_526 rfl 2 rfl ?_
  refine g_callIV (As := []) (st := [.int (iI z1)]) ok _ (hc2 s a0 D t ad) k_1248 k_11 k_1245 cl_Mo (m_Mo (ad := ad) (t := t) (F := F1) (G := G1) rfl).1 (m_Mo rfl).2 k_1246 k_1247 q_Mo_stitch (by decide) (Nat.le_of_ble_eq_true rfl) (by omega) d_law_527 (fun z2 ce1 h2 => ?_)
  obtain ⟨F2, G2, rfl, h2⟩ := h2
  obtain ⟨hz, hI⟩ := hop z2 F2 G2 h2
  refine g_cmpE ok (hz) 1001 d_law_530 (by decide) ?_
  refine g_widen (k := cells + 1) (j := slots + 6) (by omega) (by omega) ?_
  exact kk F2 G2 hI
/-- what a step by record wants -/
def oq_record (Inv : (Nat → Nat → Int) → (Nat → Int → Int) → Prop) (F : Nat → Nat → Int) (G : Nat → Int → Int) (p1 p2 : Int) : Prop := ∃ post1, cL y_Lw_record b_Lw_record 5 [(0, 10, 13, 39), (0, 10, 17, 17)] 7 104 F G (fun ad => [.ref (ad 0), .int (iI p1), .int (iI p2), .ref (ad 264)]) post1 ∧ ∀ k F1 G1, post1 k F1 G1 → ∃ post2, cI y_Mo_record b_Mo_record 3 (some .int) 0 0 F1 G1 (fun ad => [.ref (ad 244), .int (iI p1), .int (iI p2)]) post2 ∧ ∀ z F2 G2, post2 z F2 G2 → (0 ≤ k ∧ k ≤ 3) ∧ F2 244 0 = k ∧ (k = 0 → G2 264 0 = (iI z).toInt) ∧ Inv F2 G2
set_option maxHeartbeats 1000000 in
set_option maxRecDepth 100000 in
theorem s_record {Inv : (Nat → Nat → Int) → (Nat → Int → Int) → Prop} (ok : gOk s a0 D t p R s m meth c A R_law code 7 rt mn 11 440 601024 7293034) (hlt : l.stackTraces = false) {b L : Nat} {xs : Nat → Int32} (hX : va_X b L xs s s.heap) (hbl : b < s.heap.size) (hbA : ¬ A b) (hL : L ≤ 2560) {i : Int} (hi : 0 ≤ i ∧ i + 5 ≤ L) {F : Nat → Nat → Int} {G : Nat → Int → Int} {p1 p2 p3 p4 : Int} (hx1 : xs (i + 1).toNat = iI p1) (hx2 : xs (i + 2).toNat = iI p2) (hx3 : xs (i + 3).toNat = iI p3) (hx4 : xs (i + 4).toNat = iI p4) (hroom : cells + 1 ≤ 601024 ∧ slots + 6 ≤ 7293034) (hop : oq_record Inv F G p1 p2) (kk : ∀ (F2 : Nat → Nat → Int) (G2 : Nat → Int → Int), Inv F2 G2 → gW p l e R s m args below meth c Q D A 7 gZ (cells + 1) (slots + 6) ad 265 (mem ad t F2 G2) 1001 [(4, .int (iI i)), (3, .ref (ad 264)), (2, .ref (ad 244)), (1, .ref (ad 0)), (0, .ref b)] []) : gW p l e R s m args below meth c Q D A 7 gZ cells slots ad 265 (mem ad t F G) 535 [(4, .int (iI i)), (3, .ref (ad 264)), (2, .ref (ad 244)), (1, .ref (ad 0)), (0, .ref b)] [] := by
  unfold oq_record at hop
  obtain ⟨post1, hc1, hop⟩ := hop
  refine g_aload_n ok d_law_535 rfl 3 rfl ?_
  refine g_aload_n ok d_law_536 rfl 4 rfl ?_
  refine g_iload ok d_law_537 0 rfl ?_
  refine g_iconst ok d_law_539 ?_
  refine g_iadd ok d_law_540 ?_
  refine g_sld (v := p1) ok hX hbl hbA (by omega) (by omega) hx1 d_law_541 ?_
  refine g_aload_n ok d_law_542 rfl 4 rfl ?_
  refine g_iload ok d_law_543 0 rfl ?_
  refine g_iconst ok d_law_545 ?_
  refine g_iadd ok d_law_546 ?_
  refine g_sld (v := p2) ok hX hbl hbA (by omega) (by omega) hx2 d_law_547 ?_
  refine g_aload_n ok d_law_548 rfl 1 rfl ?_
  refine g_callYS (As := [.ref (ad 0), .int (iI p1), .int (iI p2), .ref (ad 264)]) (st := []) ok hlt (hc1 s a0 D t ad) k_917 k_0 k_915 k_916 q_Lw_record (by decide) (Nat.le_of_ble_eq_true rfl) (by omega) d_law_549 (fun k ce1 hq1 => ?_)
  obtain ⟨F1, G1, rfl, hq1⟩ := hq1
  obtain ⟨post2, hc2, hop⟩ := hop k F1 G1 hq1
  refine g_istore (lv' := [(5, .int (iI k)), (4, .int (iI i)), (3, .ref (ad 264)), (2, .ref (ad 244)), (1, .ref (ad 0)), (0, .ref b)]) ok d_law_552 (by decide) rfl ?_
  refine g_aload_n ok d_law_554 rfl 3 rfl ?_
  refine g_aload_n ok d_law_555 rfl 5 rfl ?_
  refine g_iload ok d_law_556 1 rfl ?_
  refine g_iconst ok d_law_558 ?_
  refine g_iadd ok d_law_559 ?_
  refine g_sld (v := p1) ok hX hbl hbA (by omega) (by omega) hx1 d_law_560 ?_
  refine g_aload_n ok d_law_561 rfl 5 rfl ?_
  refine g_iload ok d_law_562 1 rfl ?_
  refine g_iconst ok d_law_564 ?_
  refine g_iadd ok d_law_565 ?_
  refine g_sld (v := p2) ok hX hbl hbA (by omega) (by omega) hx2 d_law_566 ?_
  refine g_callIV (As := [.int (iI p1), .int (iI p2)]) (st := []) ok _ (hc2 s a0 D t ad) k_1252 k_11 k_1249 cl_Mo (m_Mo (ad := ad) (t := t) (F := F1) (G := G1) rfl).1 (m_Mo rfl).2 k_1250 k_1251 q_Mo_record (by decide) (Nat.le_of_ble_eq_true rfl) (by omega) d_law_567 (fun z2 ce1 h2 => ?_)
  obtain ⟨F2, G2, rfl, h2⟩ := h2
  obtain ⟨hkr, hk0, hz, hI⟩ := hop z2 F2 G2 h2
  refine g_istore (lv' := [(6, .int (iI z2)), (5, .int (iI k)), (4, .int (iI i)), (3, .ref (ad 264)), (2, .ref (ad 244)), (1, .ref (ad 0)), (0, .ref b)]) ok d_law_570 (by decide) rfl ?_
  refine g_aload_n ok d_law_572 rfl 4 rfl ?_
  refine g_callPV (As := []) (st := []) ok _ (c_Mo_thrown F2 G2 s a0 D t ad) k_1096 k_11 k_1093 cl_Mo (m_Mo (ad := ad) (t := t) (F := F2) (G := G2) rfl).1 (m_Mo rfl).2 k_1094 k_1095 q_Mo_thrown (by decide) (Nat.le_of_ble_eq_true rfl) (by omega) d_law_573 (fun zT hT => ?_)
  refine g_iload ok d_law_576 1 rfl ?_
  refine g_cmpE ok (by rw [hT, hk0]) 583 d_law_578 (by decide) ?_
  refine g_iload ok d_law_583 1 rfl ?_
  have jn : gW p l e R s m args below meth c Q D A 7 gZ (cells + 1) (slots + 6) ad 265 (mem ad t F2 G2) 600 [(6, .int (iI z2)), (5, .int (iI k)), (4, .int (iI i)), (3, .ref (ad 264)), (2, .ref (ad 244)), (1, .ref (ad 0)), (0, .ref b)] [] := by
    refine g_goto ok 1001 d_law_600 (by decide) ?_
    refine g_lv [2, 3, 4, 5, 6] rfl ?_
    exact kk F2 G2 hI
  refine g_if_ne ok 600 d_law_585 (by decide) (by omega) (fun _ => jn) (fun hk1 => ?_)
  have hz0 : G2 264 0 = (iI z2).toInt := hz (by omega)
  refine g_aload_n ok d_law_588 rfl 3 rfl ?_
  refine g_iconst ok d_law_589 ?_
  refine h_lald ok d_law_590 ?_
  rw [hz0]
  refine g_iload ok d_law_591 0 rfl ?_
  refine g_i2l ok d_law_593 ?_
  refine g_lcmpE ok d_law_594 ?_
  exact g_if_eq ok 600 d_law_595 (by decide) (by decide) (fun _ => jn) (fun h => absurd rfl h)
/-- what a step by byteAt wants -/
def oq_byteAt (Inv : (Nat → Nat → Int) → (Nat → Int → Int) → Prop) (F : Nat → Nat → Int) (G : Nat → Int → Int) (p1 : Int) : Prop := ∃ post1, cL y_Lw_byteAt b_Lw_byteAt 4 [(0, 9, 12, 39)] 7 104 F G (fun ad => [.ref (ad 0), .int (iI p1), .ref (ad 264)]) post1 ∧ ∀ k F1 G1, post1 k F1 G1 → ∃ post2, cI y_Mo_byteAt b_Mo_byteAt 4 (some .int) 1 24 F1 G1 (fun ad => [.ref (ad 244), .int (iI p1)]) post2 ∧ ∀ z F2 G2, post2 z F2 G2 → (0 ≤ k ∧ k ≤ 3) ∧ F2 244 0 = k ∧ (k = 0 → G2 264 0 = (iI z).toInt) ∧ Inv F2 G2
set_option maxHeartbeats 1000000 in
set_option maxRecDepth 100000 in
theorem s_byteAt {Inv : (Nat → Nat → Int) → (Nat → Int → Int) → Prop} (ok : gOk s a0 D t p R s m meth c A R_law code 7 rt mn 11 440 601024 7293034) (hlt : l.stackTraces = false) {b L : Nat} {xs : Nat → Int32} (hX : va_X b L xs s s.heap) (hbl : b < s.heap.size) (hbA : ¬ A b) (hL : L ≤ 2560) {i : Int} (hi : 0 ≤ i ∧ i + 5 ≤ L) {F : Nat → Nat → Int} {G : Nat → Int → Int} {p1 p2 p3 p4 : Int} (hx1 : xs (i + 1).toNat = iI p1) (hx2 : xs (i + 2).toNat = iI p2) (hx3 : xs (i + 3).toNat = iI p3) (hx4 : xs (i + 4).toNat = iI p4) (hroom : cells + 1 ≤ 601024 ∧ slots + 6 ≤ 7293034) (hop : oq_byteAt Inv F G p1) (kk : ∀ (F2 : Nat → Nat → Int) (G2 : Nat → Int → Int), Inv F2 G2 → gW p l e R s m args below meth c Q D A 7 gZ (cells + 1) (slots + 6) ad 265 (mem ad t F2 G2) 1001 [(4, .int (iI i)), (3, .ref (ad 264)), (2, .ref (ad 244)), (1, .ref (ad 0)), (0, .ref b)] []) : gW p l e R s m args below meth c Q D A 7 gZ cells slots ad 265 (mem ad t F G) 603 [(4, .int (iI i)), (3, .ref (ad 264)), (2, .ref (ad 244)), (1, .ref (ad 0)), (0, .ref b)] [] := by
  unfold oq_byteAt at hop
  obtain ⟨post1, hc1, hop⟩ := hop
  refine g_aload_n ok d_law_603 rfl 3 rfl ?_
  refine g_aload_n ok d_law_604 rfl 4 rfl ?_
  refine g_iload ok d_law_605 0 rfl ?_
  refine g_iconst ok d_law_607 ?_
  refine g_iadd ok d_law_608 ?_
  refine g_sld (v := p1) ok hX hbl hbA (by omega) (by omega) hx1 d_law_609 ?_
  refine g_aload_n ok d_law_610 rfl 1 rfl ?_
  refine g_callYS (As := [.ref (ad 0), .int (iI p1), .ref (ad 264)]) (st := []) ok hlt (hc1 s a0 D t ad) k_944 k_0 k_942 k_943 q_Lw_byteAt (by decide) (Nat.le_of_ble_eq_true rfl) (by omega) d_law_611 (fun k ce1 hq1 => ?_)
  obtain ⟨F1, G1, rfl, hq1⟩ := hq1
  obtain ⟨post2, hc2, hop⟩ := hop k F1 G1 hq1
  refine g_istore (lv' := [(5, .int (iI k)), (4, .int (iI i)), (3, .ref (ad 264)), (2, .ref (ad 244)), (1, .ref (ad 0)), (0, .ref b)]) ok d_law_614 (by decide) rfl ?_
  refine g_aload_n ok d_law_616 rfl 3 rfl ?_
  refine g_aload_n ok d_law_617 rfl 5 rfl ?_
  refine g_iload ok d_law_618 1 rfl ?_
  refine g_iconst ok d_law_620 ?_
  refine g_iadd ok d_law_621 ?_
  refine g_sld (v := p1) ok hX hbl hbA (by omega) (by omega) hx1 d_law_622 ?_
  refine g_callIV (As := [.int (iI p1)]) (st := []) ok _ (hc2 s a0 D t ad) k_1256 k_11 k_1253 cl_Mo (m_Mo (ad := ad) (t := t) (F := F1) (G := G1) rfl).1 (m_Mo rfl).2 k_1254 k_1255 q_Mo_byteAt (by decide) (Nat.le_of_ble_eq_true rfl) (by omega) d_law_623 (fun z2 ce1 h2 => ?_)
  obtain ⟨F2, G2, rfl, h2⟩ := h2
  obtain ⟨hkr, hk0, hz, hI⟩ := hop z2 F2 G2 h2
  refine g_istore (lv' := [(6, .int (iI z2)), (5, .int (iI k)), (4, .int (iI i)), (3, .ref (ad 264)), (2, .ref (ad 244)), (1, .ref (ad 0)), (0, .ref b)]) ok d_law_626 (by decide) rfl ?_
  refine g_aload_n ok d_law_628 rfl 4 rfl ?_
  refine g_callPV (As := []) (st := []) ok _ (c_Mo_thrown F2 G2 s a0 D t ad) k_1096 k_11 k_1093 cl_Mo (m_Mo (ad := ad) (t := t) (F := F2) (G := G2) rfl).1 (m_Mo rfl).2 k_1094 k_1095 q_Mo_thrown (by decide) (Nat.le_of_ble_eq_true rfl) (by omega) d_law_629 (fun zT hT => ?_)
  refine g_iload ok d_law_632 1 rfl ?_
  refine g_cmpE ok (by rw [hT, hk0]) 639 d_law_634 (by decide) ?_
  refine g_iload ok d_law_639 1 rfl ?_
  have jn : gW p l e R s m args below meth c Q D A 7 gZ (cells + 1) (slots + 6) ad 265 (mem ad t F2 G2) 656 [(6, .int (iI z2)), (5, .int (iI k)), (4, .int (iI i)), (3, .ref (ad 264)), (2, .ref (ad 244)), (1, .ref (ad 0)), (0, .ref b)] [] := by
    refine g_goto ok 1001 d_law_656 (by decide) ?_
    refine g_lv [2, 3, 4, 5, 6] rfl ?_
    exact kk F2 G2 hI
  refine g_if_ne ok 656 d_law_641 (by decide) (by omega) (fun _ => jn) (fun hk1 => ?_)
  have hz0 : G2 264 0 = (iI z2).toInt := hz (by omega)
  refine g_aload_n ok d_law_644 rfl 3 rfl ?_
  refine g_iconst ok d_law_645 ?_
  refine h_lald ok d_law_646 ?_
  rw [hz0]
  refine g_iload ok d_law_647 0 rfl ?_
  refine g_i2l ok d_law_649 ?_
  refine g_lcmpE ok d_law_650 ?_
  exact g_if_eq ok 656 d_law_651 (by decide) (by decide) (fun _ => jn) (fun h => absurd rfl h)
/-- what a step by load wants -/
def oq_load (Inv : (Nat → Nat → Int) → (Nat → Int → Int) → Prop) (F : Nat → Nat → Int) (G : Nat → Int → Int) (p1 p2 : Int) : Prop := ∃ post1, cL y_Lw_load b_Lw_load 5 [(0, 10, 13, 39), (0, 10, 17, 17)] 7 104 F G (fun ad => [.ref (ad 0), .int (iI p1), .int (iI p2), .ref (ad 264)]) post1 ∧ ∀ k F1 G1, post1 k F1 G1 → ∃ post2, cI y_Mo_load b_Mo_load 3 (some .int) 0 0 F1 G1 (fun ad => [.ref (ad 244), .int (iI p1), .int (iI p2)]) post2 ∧ ∀ z F2 G2, post2 z F2 G2 → (0 ≤ k ∧ k ≤ 3) ∧ F2 244 0 = k ∧ (k = 0 → G2 264 0 = (iI z).toInt) ∧ Inv F2 G2
set_option maxHeartbeats 1000000 in
set_option maxRecDepth 100000 in
theorem s_load {Inv : (Nat → Nat → Int) → (Nat → Int → Int) → Prop} (ok : gOk s a0 D t p R s m meth c A R_law code 7 rt mn 11 440 601024 7293034) (hlt : l.stackTraces = false) {b L : Nat} {xs : Nat → Int32} (hX : va_X b L xs s s.heap) (hbl : b < s.heap.size) (hbA : ¬ A b) (hL : L ≤ 2560) {i : Int} (hi : 0 ≤ i ∧ i + 5 ≤ L) {F : Nat → Nat → Int} {G : Nat → Int → Int} {p1 p2 p3 p4 : Int} (hx1 : xs (i + 1).toNat = iI p1) (hx2 : xs (i + 2).toNat = iI p2) (hx3 : xs (i + 3).toNat = iI p3) (hx4 : xs (i + 4).toNat = iI p4) (hroom : cells + 1 ≤ 601024 ∧ slots + 6 ≤ 7293034) (hop : oq_load Inv F G p1 p2) (kk : ∀ (F2 : Nat → Nat → Int) (G2 : Nat → Int → Int), Inv F2 G2 → gW p l e R s m args below meth c Q D A 7 gZ (cells + 1) (slots + 6) ad 265 (mem ad t F2 G2) 1001 [(4, .int (iI i)), (3, .ref (ad 264)), (2, .ref (ad 244)), (1, .ref (ad 0)), (0, .ref b)] []) : gW p l e R s m args below meth c Q D A 7 gZ cells slots ad 265 (mem ad t F G) 659 [(4, .int (iI i)), (3, .ref (ad 264)), (2, .ref (ad 244)), (1, .ref (ad 0)), (0, .ref b)] [] := by
  unfold oq_load at hop
  obtain ⟨post1, hc1, hop⟩ := hop
  refine g_aload_n ok d_law_659 rfl 3 rfl ?_
  refine g_aload_n ok d_law_660 rfl 4 rfl ?_
  refine g_iload ok d_law_661 0 rfl ?_
  refine g_iconst ok d_law_663 ?_
  refine g_iadd ok d_law_664 ?_
  refine g_sld (v := p1) ok hX hbl hbA (by omega) (by omega) hx1 d_law_665 ?_
  refine g_aload_n ok d_law_666 rfl 4 rfl ?_
  refine g_iload ok d_law_667 0 rfl ?_
  refine g_iconst ok d_law_669 ?_
  refine g_iadd ok d_law_670 ?_
  refine g_sld (v := p2) ok hX hbl hbA (by omega) (by omega) hx2 d_law_671 ?_
  refine g_aload_n ok d_law_672 rfl 1 rfl ?_
  refine g_callYS (As := [.ref (ad 0), .int (iI p1), .int (iI p2), .ref (ad 264)]) (st := []) ok hlt (hc1 s a0 D t ad) k_959 k_0 k_957 k_958 q_Lw_load (by decide) (Nat.le_of_ble_eq_true rfl) (by omega) d_law_673 (fun k ce1 hq1 => ?_)
  obtain ⟨F1, G1, rfl, hq1⟩ := hq1
  obtain ⟨post2, hc2, hop⟩ := hop k F1 G1 hq1
  refine g_istore (lv' := [(5, .int (iI k)), (4, .int (iI i)), (3, .ref (ad 264)), (2, .ref (ad 244)), (1, .ref (ad 0)), (0, .ref b)]) ok d_law_676 (by decide) rfl ?_
  refine g_aload_n ok d_law_678 rfl 3 rfl ?_
  refine g_aload_n ok d_law_679 rfl 5 rfl ?_
  refine g_iload ok d_law_680 1 rfl ?_
  refine g_iconst ok d_law_682 ?_
  refine g_iadd ok d_law_683 ?_
  refine g_sld (v := p1) ok hX hbl hbA (by omega) (by omega) hx1 d_law_684 ?_
  refine g_aload_n ok d_law_685 rfl 5 rfl ?_
  refine g_iload ok d_law_686 1 rfl ?_
  refine g_iconst ok d_law_688 ?_
  refine g_iadd ok d_law_689 ?_
  refine g_sld (v := p2) ok hX hbl hbA (by omega) (by omega) hx2 d_law_690 ?_
  refine g_callIV (As := [.int (iI p1), .int (iI p2)]) (st := []) ok _ (hc2 s a0 D t ad) k_1263 k_11 k_1260 cl_Mo (m_Mo (ad := ad) (t := t) (F := F1) (G := G1) rfl).1 (m_Mo rfl).2 k_1261 k_1262 q_Mo_load (by decide) (Nat.le_of_ble_eq_true rfl) (by omega) d_law_691 (fun z2 ce1 h2 => ?_)
  obtain ⟨F2, G2, rfl, h2⟩ := h2
  obtain ⟨hkr, hk0, hz, hI⟩ := hop z2 F2 G2 h2
  refine g_istore (lv' := [(6, .int (iI z2)), (5, .int (iI k)), (4, .int (iI i)), (3, .ref (ad 264)), (2, .ref (ad 244)), (1, .ref (ad 0)), (0, .ref b)]) ok d_law_694 (by decide) rfl ?_
  refine g_aload_n ok d_law_696 rfl 4 rfl ?_
  refine g_callPV (As := []) (st := []) ok _ (c_Mo_thrown F2 G2 s a0 D t ad) k_1096 k_11 k_1093 cl_Mo (m_Mo (ad := ad) (t := t) (F := F2) (G := G2) rfl).1 (m_Mo rfl).2 k_1094 k_1095 q_Mo_thrown (by decide) (Nat.le_of_ble_eq_true rfl) (by omega) d_law_697 (fun zT hT => ?_)
  refine g_iload ok d_law_700 1 rfl ?_
  refine g_cmpE ok (by rw [hT, hk0]) 707 d_law_702 (by decide) ?_
  refine g_iload ok d_law_707 1 rfl ?_
  have jn : gW p l e R s m args below meth c Q D A 7 gZ (cells + 1) (slots + 6) ad 265 (mem ad t F2 G2) 724 [(6, .int (iI z2)), (5, .int (iI k)), (4, .int (iI i)), (3, .ref (ad 264)), (2, .ref (ad 244)), (1, .ref (ad 0)), (0, .ref b)] [] := by
    refine g_goto ok 1001 d_law_724 (by decide) ?_
    refine g_lv [2, 3, 4, 5, 6] rfl ?_
    exact kk F2 G2 hI
  refine g_if_ne ok 724 d_law_709 (by decide) (by omega) (fun _ => jn) (fun hk1 => ?_)
  have hz0 : G2 264 0 = (iI z2).toInt := hz (by omega)
  refine g_aload_n ok d_law_712 rfl 3 rfl ?_
  refine g_iconst ok d_law_713 ?_
  refine h_lald ok d_law_714 ?_
  rw [hz0]
  refine g_iload ok d_law_715 0 rfl ?_
  refine g_i2l ok d_law_717 ?_
  refine g_lcmpE ok d_law_718 ?_
  exact g_if_eq ok 724 d_law_719 (by decide) (by decide) (fun _ => jn) (fun h => absurd rfl h)
/-- what a step by decode wants -/
def oq_decode (Inv : (Nat → Nat → Int) → (Nat → Int → Int) → Prop) (F : Nat → Nat → Int) (G : Nat → Int → Int) : Prop := ∃ post1, cI y_Dk_decode b_Dk_decode 3 (some .int) 2 44 F G (fun ad => [.ref (ad 0)]) post1 ∧ ∀ z1 F1 G1, post1 z1 F1 G1 → ∃ post2, cI y_Mo_decode b_Mo_decode 3 (some .int) 1 24 F1 G1 (fun ad => [.ref (ad 244)]) post2 ∧ ∀ z F2 G2, post2 z F2 G2 → iI z1 = iI z ∧ Inv F2 G2
set_option maxHeartbeats 1000000 in
set_option maxRecDepth 100000 in
theorem s_decode {Inv : (Nat → Nat → Int) → (Nat → Int → Int) → Prop} (ok : gOk s a0 D t p R s m meth c A R_law code 7 rt mn 11 440 601024 7293034) (hlt : l.stackTraces = false) {b L : Nat} {xs : Nat → Int32} (hX : va_X b L xs s s.heap) (hbl : b < s.heap.size) (hbA : ¬ A b) (hL : L ≤ 2560) {i : Int} (hi : 0 ≤ i ∧ i + 5 ≤ L) {F : Nat → Nat → Int} {G : Nat → Int → Int} {p1 p2 p3 p4 : Int} (hx1 : xs (i + 1).toNat = iI p1) (hx2 : xs (i + 2).toNat = iI p2) (hx3 : xs (i + 3).toNat = iI p3) (hx4 : xs (i + 4).toNat = iI p4) (hroom : cells + 1 ≤ 601024 ∧ slots + 6 ≤ 7293034) (hop : oq_decode Inv F G) (kk : ∀ (F2 : Nat → Nat → Int) (G2 : Nat → Int → Int), Inv F2 G2 → gW p l e R s m args below meth c Q D A 7 gZ (cells + 1) (slots + 6) ad 265 (mem ad t F2 G2) 1001 [(4, .int (iI i)), (3, .ref (ad 264)), (2, .ref (ad 244)), (1, .ref (ad 0)), (0, .ref b)] []) : gW p l e R s m args below meth c Q D A 7 gZ cells slots ad 265 (mem ad t F G) 727 [(4, .int (iI i)), (3, .ref (ad 264)), (2, .ref (ad 244)), (1, .ref (ad 0)), (0, .ref b)] [] := by
  unfold oq_decode at hop
  obtain ⟨post1, hc1, hop⟩ := hop
  refine g_aload_n ok d_law_727 rfl 3 rfl ?_
  refine g_callIV (As := []) (st := []) ok _ (hc1 s a0 D t ad) k_551 k_1 k_548 cl_Dk (m_Dk (ad := ad) (t := t) (F := F) (G := G) rfl).1 (m_Dk rfl).2 k_549 k_550 q_Dk_decode (by decide) (Nat.le_of_ble_eq_true rfl) (by omega) d_law_728 (fun z1 ce1 h1 => ?_)
  obtain ⟨F1, G1, rfl, h1⟩ := h1
  obtain ⟨post2, hc2, hop⟩ := hop z1 F1 G1 h1
  refine g_aload_n ok d_law_731 rfl 2 rfl ?_
  refine g_callIV (As := []) (st := [.int (iI z1)]) ok _ (hc2 s a0 D t ad) k_1267 k_11 k_1264 cl_Mo (m_Mo (ad := ad) (t := t) (F := F1) (G := G1) rfl).1 (m_Mo rfl).2 k_1265 k_1266 q_Mo_decode (by decide) (Nat.le_of_ble_eq_true rfl) (by omega) d_law_732 (fun z2 ce1 h2 => ?_)
  obtain ⟨F2, G2, rfl, h2⟩ := h2
  obtain ⟨hz, hI⟩ := hop z2 F2 G2 h2
  refine g_cmpE ok (hz) 1001 d_law_735 (by decide) ?_
  refine g_widen (k := cells + 1) (j := slots + 6) (by omega) (by omega) ?_
  exact kk F2 G2 hI
/-- what a step by reorder wants -/
def oq_reorder (Inv : (Nat → Nat → Int) → (Nat → Int → Int) → Prop) (F : Nat → Nat → Int) (G : Nat → Int → Int) : Prop := ∃ post1, cI y_Dk_reorder b_Dk_reorder 1 (some .int) 3 73 F G (fun ad => [.ref (ad 0)]) post1 ∧ ∀ z1 F1 G1, post1 z1 F1 G1 → ∃ post2, cI y_Mo_reorder b_Mo_reorder 6 (some .int) 3 70 F1 G1 (fun ad => [.ref (ad 244)]) post2 ∧ ∀ z F2 G2, post2 z F2 G2 → iI z1 = iI z ∧ Inv F2 G2
set_option maxHeartbeats 1000000 in
set_option maxRecDepth 100000 in
theorem s_reorder {Inv : (Nat → Nat → Int) → (Nat → Int → Int) → Prop} (ok : gOk s a0 D t p R s m meth c A R_law code 7 rt mn 11 440 601024 7293034) (hlt : l.stackTraces = false) {b L : Nat} {xs : Nat → Int32} (hX : va_X b L xs s s.heap) (hbl : b < s.heap.size) (hbA : ¬ A b) (hL : L ≤ 2560) {i : Int} (hi : 0 ≤ i ∧ i + 5 ≤ L) {F : Nat → Nat → Int} {G : Nat → Int → Int} {p1 p2 p3 p4 : Int} (hx1 : xs (i + 1).toNat = iI p1) (hx2 : xs (i + 2).toNat = iI p2) (hx3 : xs (i + 3).toNat = iI p3) (hx4 : xs (i + 4).toNat = iI p4) (hroom : cells + 1 ≤ 601024 ∧ slots + 6 ≤ 7293034) (hop : oq_reorder Inv F G) (kk : ∀ (F2 : Nat → Nat → Int) (G2 : Nat → Int → Int), Inv F2 G2 → gW p l e R s m args below meth c Q D A 7 gZ (cells + 1) (slots + 6) ad 265 (mem ad t F2 G2) 1001 [(4, .int (iI i)), (3, .ref (ad 264)), (2, .ref (ad 244)), (1, .ref (ad 0)), (0, .ref b)] []) : gW p l e R s m args below meth c Q D A 7 gZ cells slots ad 265 (mem ad t F G) 740 [(4, .int (iI i)), (3, .ref (ad 264)), (2, .ref (ad 244)), (1, .ref (ad 0)), (0, .ref b)] [] := by
  unfold oq_reorder at hop
  obtain ⟨post1, hc1, hop⟩ := hop
  refine g_aload_n ok d_law_740 rfl 3 rfl ?_
  refine g_callIV (As := []) (st := []) ok _ (hc1 s a0 D t ad) k_575 k_1 k_572 cl_Dk (m_Dk (ad := ad) (t := t) (F := F) (G := G) rfl).1 (m_Dk rfl).2 k_573 k_574 q_Dk_reorder (by decide) (Nat.le_of_ble_eq_true rfl) (by omega) d_law_741 (fun z1 ce1 h1 => ?_)
  obtain ⟨F1, G1, rfl, h1⟩ := h1
  obtain ⟨post2, hc2, hop⟩ := hop z1 F1 G1 h1
  refine g_aload_n ok d_law_744 rfl 2 rfl ?_
  refine g_callIV (As := []) (st := [.int (iI z1)]) ok _ (hc2 s a0 D t ad) k_1278 k_11 k_1275 cl_Mo (m_Mo (ad := ad) (t := t) (F := F1) (G := G1) rfl).1 (m_Mo rfl).2 k_1276 k_1277 q_Mo_reorder (by decide) (Nat.le_of_ble_eq_true rfl) (by omega) d_law_745 (fun z2 ce1 h2 => ?_)
  obtain ⟨F2, G2, rfl, h2⟩ := h2
  obtain ⟨hz, hI⟩ := hop z2 F2 G2 h2
  refine g_cmpE ok (hz) 1001 d_law_748 (by decide) ?_
  refine g_widen (k := cells + 1) (j := slots + 6) (by omega) (by omega) ?_
  exact kk F2 G2 hI
/-- what a step by order wants -/
def oq_order (Inv : (Nat → Nat → Int) → (Nat → Int → Int) → Prop) (F : Nat → Nat → Int) (G : Nat → Int → Int) (p1 : Int) : Prop := ∃ post1, cP y_Dk_order b_Dk_order 2 (some .int) 1 21 F G (fun ad => [.ref (ad 0), .int (iI p1)]) post1 ∧ ∀ z1, post1 z1 → ∃ post2, cI y_Mo_order b_Mo_order 2 (some .int) 0 0 F G (fun ad => [.ref (ad 244), .int (iI p1)]) post2 ∧ ∀ z F2 G2, post2 z F2 G2 → iI z1 = iI z ∧ Inv F2 G2
set_option maxHeartbeats 1000000 in
set_option maxRecDepth 100000 in
theorem s_order {Inv : (Nat → Nat → Int) → (Nat → Int → Int) → Prop} (ok : gOk s a0 D t p R s m meth c A R_law code 7 rt mn 11 440 601024 7293034) (hlt : l.stackTraces = false) {b L : Nat} {xs : Nat → Int32} (hX : va_X b L xs s s.heap) (hbl : b < s.heap.size) (hbA : ¬ A b) (hL : L ≤ 2560) {i : Int} (hi : 0 ≤ i ∧ i + 5 ≤ L) {F : Nat → Nat → Int} {G : Nat → Int → Int} {p1 p2 p3 p4 : Int} (hx1 : xs (i + 1).toNat = iI p1) (hx2 : xs (i + 2).toNat = iI p2) (hx3 : xs (i + 3).toNat = iI p3) (hx4 : xs (i + 4).toNat = iI p4) (hroom : cells + 1 ≤ 601024 ∧ slots + 6 ≤ 7293034) (hop : oq_order Inv F G p1) (kk : ∀ (F2 : Nat → Nat → Int) (G2 : Nat → Int → Int), Inv F2 G2 → gW p l e R s m args below meth c Q D A 7 gZ (cells + 1) (slots + 6) ad 265 (mem ad t F2 G2) 1001 [(4, .int (iI i)), (3, .ref (ad 264)), (2, .ref (ad 244)), (1, .ref (ad 0)), (0, .ref b)] []) : gW p l e R s m args below meth c Q D A 7 gZ cells slots ad 265 (mem ad t F G) 753 [(4, .int (iI i)), (3, .ref (ad 264)), (2, .ref (ad 244)), (1, .ref (ad 0)), (0, .ref b)] [] := by
  unfold oq_order at hop
  obtain ⟨post1, hc1, hop⟩ := hop
  refine g_aload_n ok d_law_753 rfl 3 rfl ?_
  refine g_aload_n ok d_law_754 rfl 4 rfl ?_
  refine g_iload ok d_law_755 0 rfl ?_
  refine g_iconst ok d_law_757 ?_
  refine g_iadd ok d_law_758 ?_
  refine g_sld (v := p1) ok hX hbl hbA (by omega) (by omega) hx1 d_law_759 ?_
  refine g_callPV (As := [.int (iI p1)]) (st := []) ok _ (hc1 s a0 D t ad) k_612 k_1 k_609 cl_Dk (m_Dk (ad := ad) (t := t) (F := F) (G := G) rfl).1 (m_Dk rfl).2 k_610 k_611 q_Dk_order (by decide) (Nat.le_of_ble_eq_true rfl) (by omega) d_law_760 (fun z1 h1 => ?_)
  obtain ⟨post2, hc2, hop⟩ := hop z1 h1
  refine g_aload_n ok d_law_763 rfl 2 rfl ?_
  refine g_aload_n ok d_law_764 rfl 4 rfl ?_
  refine g_iload ok d_law_765 0 rfl ?_
  refine g_iconst ok d_law_767 ?_
  refine g_iadd ok d_law_768 ?_
  refine g_sld (v := p1) ok hX hbl hbA (by omega) (by omega) hx1 d_law_769 ?_
  refine g_callIV (As := [.int (iI p1)]) (st := [.int (iI z1)]) ok _ (hc2 s a0 D t ad) k_1298 k_11 k_1295 cl_Mo (m_Mo (ad := ad) (t := t) (F := F) (G := G) rfl).1 (m_Mo rfl).2 k_1296 k_1297 q_Mo_order (by decide) (Nat.le_of_ble_eq_true rfl) (by omega) d_law_770 (fun z2 ce1 h2 => ?_)
  obtain ⟨F2, G2, rfl, h2⟩ := h2
  obtain ⟨hz, hI⟩ := hop z2 F2 G2 h2
  refine g_cmpE ok (hz) 1001 d_law_773 (by decide) ?_
  refine g_widen (k := cells + 1) (j := slots + 6) (by omega) (by omega) ?_
  exact kk F2 G2 hI
/-- what a step by thread wants -/
def oq_thread (Inv : (Nat → Nat → Int) → (Nat → Int → Int) → Prop) (F : Nat → Nat → Int) (G : Nat → Int → Int) (p1 : Int) : Prop := ∃ post1, cP y_Dk_thread b_Dk_thread 2 (some .int) 3 69 F G (fun ad => [.ref (ad 0), .int (iI p1)]) post1 ∧ ∀ z1, post1 z1 → ∃ post2, cI y_Mo_thread b_Mo_thread 5 (some .int) 1 21 F G (fun ad => [.ref (ad 244), .int (iI p1)]) post2 ∧ ∀ z F2 G2, post2 z F2 G2 → iI z1 = iI z ∧ Inv F2 G2
set_option maxHeartbeats 1000000 in
set_option maxRecDepth 100000 in
theorem s_thread {Inv : (Nat → Nat → Int) → (Nat → Int → Int) → Prop} (ok : gOk s a0 D t p R s m meth c A R_law code 7 rt mn 11 440 601024 7293034) (hlt : l.stackTraces = false) {b L : Nat} {xs : Nat → Int32} (hX : va_X b L xs s s.heap) (hbl : b < s.heap.size) (hbA : ¬ A b) (hL : L ≤ 2560) {i : Int} (hi : 0 ≤ i ∧ i + 5 ≤ L) {F : Nat → Nat → Int} {G : Nat → Int → Int} {p1 p2 p3 p4 : Int} (hx1 : xs (i + 1).toNat = iI p1) (hx2 : xs (i + 2).toNat = iI p2) (hx3 : xs (i + 3).toNat = iI p3) (hx4 : xs (i + 4).toNat = iI p4) (hroom : cells + 1 ≤ 601024 ∧ slots + 6 ≤ 7293034) (hop : oq_thread Inv F G p1) (kk : ∀ (F2 : Nat → Nat → Int) (G2 : Nat → Int → Int), Inv F2 G2 → gW p l e R s m args below meth c Q D A 7 gZ (cells + 1) (slots + 6) ad 265 (mem ad t F2 G2) 1001 [(4, .int (iI i)), (3, .ref (ad 264)), (2, .ref (ad 244)), (1, .ref (ad 0)), (0, .ref b)] []) : gW p l e R s m args below meth c Q D A 7 gZ cells slots ad 265 (mem ad t F G) 778 [(4, .int (iI i)), (3, .ref (ad 264)), (2, .ref (ad 244)), (1, .ref (ad 0)), (0, .ref b)] [] := by
  unfold oq_thread at hop
  obtain ⟨post1, hc1, hop⟩ := hop
  refine g_aload_n ok d_law_778 rfl 3 rfl ?_
  refine g_aload_n ok d_law_779 rfl 4 rfl ?_
  refine g_iload ok d_law_780 0 rfl ?_
  refine g_iconst ok d_law_782 ?_
  refine g_iadd ok d_law_783 ?_
  refine g_sld (v := p1) ok hX hbl hbA (by omega) (by omega) hx1 d_law_784 ?_
  refine g_callPV (As := [.int (iI p1)]) (st := []) ok _ (hc1 s a0 D t ad) k_619 k_1 k_616 cl_Dk (m_Dk (ad := ad) (t := t) (F := F) (G := G) rfl).1 (m_Dk rfl).2 k_617 k_618 q_Dk_thread (by decide) (Nat.le_of_ble_eq_true rfl) (by omega) d_law_785 (fun z1 h1 => ?_)
  obtain ⟨post2, hc2, hop⟩ := hop z1 h1
  refine g_aload_n ok d_law_788 rfl 2 rfl ?_
  refine g_aload_n ok d_law_789 rfl 4 rfl ?_
  refine g_iload ok d_law_790 0 rfl ?_
  refine g_iconst ok d_law_792 ?_
  refine g_iadd ok d_law_793 ?_
  refine g_sld (v := p1) ok hX hbl hbA (by omega) (by omega) hx1 d_law_794 ?_
  refine g_callIV (As := [.int (iI p1)]) (st := [.int (iI z1)]) ok _ (hc2 s a0 D t ad) k_1302 k_11 k_1299 cl_Mo (m_Mo (ad := ad) (t := t) (F := F) (G := G) rfl).1 (m_Mo rfl).2 k_1300 k_1301 q_Mo_thread (by decide) (Nat.le_of_ble_eq_true rfl) (by omega) d_law_795 (fun z2 ce1 h2 => ?_)
  obtain ⟨F2, G2, rfl, h2⟩ := h2
  obtain ⟨hz, hI⟩ := hop z2 F2 G2 h2
  refine g_cmpE ok (hz) 1001 d_law_798 (by decide) ?_
  refine g_widen (k := cells + 1) (j := slots + 6) (by omega) (by omega) ?_
  exact kk F2 G2 hI
/-- what a step by under wants -/
def oq_under (Inv : (Nat → Nat → Int) → (Nat → Int → Int) → Prop) (F : Nat → Nat → Int) (G : Nat → Int → Int) (p1 p2 : Int) : Prop := ∃ post1, cL y_Lw_under b_Lw_under 5 [(0, 10, 13, 17)] 7 105 F G (fun ad => [.ref (ad 0), .int (iI p1), .int (iI p2), .ref (ad 264)]) post1 ∧ ∀ k F1 G1, post1 k F1 G1 → ∃ post2, cI y_Mo_under b_Mo_under 4 (some .int) 3 71 F1 G1 (fun ad => [.ref (ad 244), .int (iI p1), .int (iI p2)]) post2 ∧ ∀ z F2 G2, post2 z F2 G2 → (0 ≤ k ∧ k ≤ 3) ∧ F2 244 0 = k ∧ (k = 0 → G2 264 0 = (iI z).toInt) ∧ Inv F2 G2
set_option maxHeartbeats 1000000 in
set_option maxRecDepth 100000 in
theorem s_under {Inv : (Nat → Nat → Int) → (Nat → Int → Int) → Prop} (ok : gOk s a0 D t p R s m meth c A R_law code 7 rt mn 11 440 601024 7293034) (hlt : l.stackTraces = false) {b L : Nat} {xs : Nat → Int32} (hX : va_X b L xs s s.heap) (hbl : b < s.heap.size) (hbA : ¬ A b) (hL : L ≤ 2560) {i : Int} (hi : 0 ≤ i ∧ i + 5 ≤ L) {F : Nat → Nat → Int} {G : Nat → Int → Int} {p1 p2 p3 p4 : Int} (hx1 : xs (i + 1).toNat = iI p1) (hx2 : xs (i + 2).toNat = iI p2) (hx3 : xs (i + 3).toNat = iI p3) (hx4 : xs (i + 4).toNat = iI p4) (hroom : cells + 1 ≤ 601024 ∧ slots + 6 ≤ 7293034) (hop : oq_under Inv F G p1 p2) (kk : ∀ (F2 : Nat → Nat → Int) (G2 : Nat → Int → Int), Inv F2 G2 → gW p l e R s m args below meth c Q D A 7 gZ (cells + 1) (slots + 6) ad 265 (mem ad t F2 G2) 1001 [(4, .int (iI i)), (3, .ref (ad 264)), (2, .ref (ad 244)), (1, .ref (ad 0)), (0, .ref b)] []) : gW p l e R s m args below meth c Q D A 7 gZ cells slots ad 265 (mem ad t F G) 803 [(4, .int (iI i)), (3, .ref (ad 264)), (2, .ref (ad 244)), (1, .ref (ad 0)), (0, .ref b)] [] := by
  unfold oq_under at hop
  obtain ⟨post1, hc1, hop⟩ := hop
  refine g_aload_n ok d_law_803 rfl 3 rfl ?_
  refine g_aload_n ok d_law_804 rfl 4 rfl ?_
  refine g_iload ok d_law_805 0 rfl ?_
  refine g_iconst ok d_law_807 ?_
  refine g_iadd ok d_law_808 ?_
  refine g_sld (v := p1) ok hX hbl hbA (by omega) (by omega) hx1 d_law_809 ?_
  refine g_aload_n ok d_law_810 rfl 4 rfl ?_
  refine g_iload ok d_law_811 0 rfl ?_
  refine g_iconst ok d_law_813 ?_
  refine g_iadd ok d_law_814 ?_
  refine g_sld (v := p2) ok hX hbl hbA (by omega) (by omega) hx2 d_law_815 ?_
  refine g_aload_n ok d_law_816 rfl 1 rfl ?_
  refine g_callYS (As := [.ref (ad 0), .int (iI p1), .int (iI p2), .ref (ad 264)]) (st := []) ok hlt (hc1 s a0 D t ad) k_967 k_0 k_965 k_966 q_Lw_under (by decide) (Nat.le_of_ble_eq_true rfl) (by omega) d_law_817 (fun k ce1 hq1 => ?_)
  obtain ⟨F1, G1, rfl, hq1⟩ := hq1
  obtain ⟨post2, hc2, hop⟩ := hop k F1 G1 hq1
  refine g_istore (lv' := [(5, .int (iI k)), (4, .int (iI i)), (3, .ref (ad 264)), (2, .ref (ad 244)), (1, .ref (ad 0)), (0, .ref b)]) ok d_law_820 (by decide) rfl ?_
  refine g_aload_n ok d_law_822 rfl 3 rfl ?_
  refine g_aload_n ok d_law_823 rfl 5 rfl ?_
  refine g_iload ok d_law_824 1 rfl ?_
  refine g_iconst ok d_law_826 ?_
  refine g_iadd ok d_law_827 ?_
  refine g_sld (v := p1) ok hX hbl hbA (by omega) (by omega) hx1 d_law_828 ?_
  refine g_aload_n ok d_law_829 rfl 5 rfl ?_
  refine g_iload ok d_law_830 1 rfl ?_
  refine g_iconst ok d_law_832 ?_
  refine g_iadd ok d_law_833 ?_
  refine g_sld (v := p2) ok hX hbl hbA (by omega) (by omega) hx2 d_law_834 ?_
  refine g_callIV (As := [.int (iI p1), .int (iI p2)]) (st := []) ok _ (hc2 s a0 D t ad) k_1309 k_11 k_1306 cl_Mo (m_Mo (ad := ad) (t := t) (F := F1) (G := G1) rfl).1 (m_Mo rfl).2 k_1307 k_1308 q_Mo_under (by decide) (Nat.le_of_ble_eq_true rfl) (by omega) d_law_835 (fun z2 ce1 h2 => ?_)
  obtain ⟨F2, G2, rfl, h2⟩ := h2
  obtain ⟨hkr, hk0, hz, hI⟩ := hop z2 F2 G2 h2
  refine g_istore (lv' := [(6, .int (iI z2)), (5, .int (iI k)), (4, .int (iI i)), (3, .ref (ad 264)), (2, .ref (ad 244)), (1, .ref (ad 0)), (0, .ref b)]) ok d_law_838 (by decide) rfl ?_
  refine g_aload_n ok d_law_840 rfl 4 rfl ?_
  refine g_callPV (As := []) (st := []) ok _ (c_Mo_thrown F2 G2 s a0 D t ad) k_1096 k_11 k_1093 cl_Mo (m_Mo (ad := ad) (t := t) (F := F2) (G := G2) rfl).1 (m_Mo rfl).2 k_1094 k_1095 q_Mo_thrown (by decide) (Nat.le_of_ble_eq_true rfl) (by omega) d_law_841 (fun zT hT => ?_)
  refine g_iload ok d_law_844 1 rfl ?_
  refine g_cmpE ok (by rw [hT, hk0]) 851 d_law_846 (by decide) ?_
  refine g_iload ok d_law_851 1 rfl ?_
  have jn : gW p l e R s m args below meth c Q D A 7 gZ (cells + 1) (slots + 6) ad 265 (mem ad t F2 G2) 868 [(6, .int (iI z2)), (5, .int (iI k)), (4, .int (iI i)), (3, .ref (ad 264)), (2, .ref (ad 244)), (1, .ref (ad 0)), (0, .ref b)] [] := by
    refine g_goto ok 1001 d_law_868 (by decide) ?_
    refine g_lv [2, 3, 4, 5, 6] rfl ?_
    exact kk F2 G2 hI
  refine g_if_ne ok 868 d_law_853 (by decide) (by omega) (fun _ => jn) (fun hk1 => ?_)
  have hz0 : G2 264 0 = (iI z2).toInt := hz (by omega)
  refine g_aload_n ok d_law_856 rfl 3 rfl ?_
  refine g_iconst ok d_law_857 ?_
  refine h_lald ok d_law_858 ?_
  rw [hz0]
  refine g_iload ok d_law_859 0 rfl ?_
  refine g_i2l ok d_law_861 ?_
  refine g_lcmpE ok d_law_862 ?_
  exact g_if_eq ok 868 d_law_863 (by decide) (by decide) (fun _ => jn) (fun h => absurd rfl h)
/-- what a step by needle wants -/
def oq_needle (Inv : (Nat → Nat → Int) → (Nat → Int → Int) → Prop) (F : Nat → Nat → Int) (G : Nat → Int → Int) (p1 p2 : Int) : Prop := ∃ post1, cL y_Lw_needle b_Lw_needle 5 [(0, 10, 13, 39), (0, 10, 17, 17)] 7 106 F G (fun ad => [.ref (ad 0), .int (iI p1), .int (iI p2), .ref (ad 264)]) post1 ∧ ∀ k F1 G1, post1 k F1 G1 → ∃ post2, cI y_Mo_needle b_Mo_needle 5 (some .int) 0 0 F1 G1 (fun ad => [.ref (ad 244), .int (iI p1), .int (iI p2)]) post2 ∧ ∀ z F2 G2, post2 z F2 G2 → (0 ≤ k ∧ k ≤ 3) ∧ F2 244 0 = k ∧ (k = 0 → G2 264 0 = (iI z).toInt) ∧ Inv F2 G2
set_option maxHeartbeats 1000000 in
set_option maxRecDepth 100000 in
theorem s_needle {Inv : (Nat → Nat → Int) → (Nat → Int → Int) → Prop} (ok : gOk s a0 D t p R s m meth c A R_law code 7 rt mn 11 440 601024 7293034) (hlt : l.stackTraces = false) {b L : Nat} {xs : Nat → Int32} (hX : va_X b L xs s s.heap) (hbl : b < s.heap.size) (hbA : ¬ A b) (hL : L ≤ 2560) {i : Int} (hi : 0 ≤ i ∧ i + 5 ≤ L) {F : Nat → Nat → Int} {G : Nat → Int → Int} {p1 p2 p3 p4 : Int} (hx1 : xs (i + 1).toNat = iI p1) (hx2 : xs (i + 2).toNat = iI p2) (hx3 : xs (i + 3).toNat = iI p3) (hx4 : xs (i + 4).toNat = iI p4) (hroom : cells + 1 ≤ 601024 ∧ slots + 6 ≤ 7293034) (hop : oq_needle Inv F G p1 p2) (kk : ∀ (F2 : Nat → Nat → Int) (G2 : Nat → Int → Int), Inv F2 G2 → gW p l e R s m args below meth c Q D A 7 gZ (cells + 1) (slots + 6) ad 265 (mem ad t F2 G2) 1001 [(4, .int (iI i)), (3, .ref (ad 264)), (2, .ref (ad 244)), (1, .ref (ad 0)), (0, .ref b)] []) : gW p l e R s m args below meth c Q D A 7 gZ cells slots ad 265 (mem ad t F G) 871 [(4, .int (iI i)), (3, .ref (ad 264)), (2, .ref (ad 244)), (1, .ref (ad 0)), (0, .ref b)] [] := by
  unfold oq_needle at hop
  obtain ⟨post1, hc1, hop⟩ := hop
  refine g_aload_n ok d_law_871 rfl 3 rfl ?_
  refine g_aload_n ok d_law_872 rfl 4 rfl ?_
  refine g_iload ok d_law_873 0 rfl ?_
  refine g_iconst ok d_law_875 ?_
  refine g_iadd ok d_law_876 ?_
  refine g_sld (v := p1) ok hX hbl hbA (by omega) (by omega) hx1 d_law_877 ?_
  refine g_aload_n ok d_law_878 rfl 4 rfl ?_
  refine g_iload ok d_law_879 0 rfl ?_
  refine g_iconst ok d_law_881 ?_
  refine g_iadd ok d_law_882 ?_
  refine g_sld (v := p2) ok hX hbl hbA (by omega) (by omega) hx2 d_law_883 ?_
  refine g_aload_n ok d_law_884 rfl 1 rfl ?_
  refine g_callYS (As := [.ref (ad 0), .int (iI p1), .int (iI p2), .ref (ad 264)]) (st := []) ok hlt (hc1 s a0 D t ad) k_976 k_0 k_974 k_975 q_Lw_needle (by decide) (Nat.le_of_ble_eq_true rfl) (by omega) d_law_885 (fun k ce1 hq1 => ?_)
  obtain ⟨F1, G1, rfl, hq1⟩ := hq1
  obtain ⟨post2, hc2, hop⟩ := hop k F1 G1 hq1
  refine g_istore (lv' := [(5, .int (iI k)), (4, .int (iI i)), (3, .ref (ad 264)), (2, .ref (ad 244)), (1, .ref (ad 0)), (0, .ref b)]) ok d_law_888 (by decide) rfl ?_
  refine g_aload_n ok d_law_890 rfl 3 rfl ?_
  refine g_aload_n ok d_law_891 rfl 5 rfl ?_
  refine g_iload ok d_law_892 1 rfl ?_
  refine g_iconst ok d_law_894 ?_
  refine g_iadd ok d_law_895 ?_
  refine g_sld (v := p1) ok hX hbl hbA (by omega) (by omega) hx1 d_law_896 ?_
  refine g_aload_n ok d_law_897 rfl 5 rfl ?_
  refine g_iload ok d_law_898 1 rfl ?_
  refine g_iconst ok d_law_900 ?_
  refine g_iadd ok d_law_901 ?_
  refine g_sld (v := p2) ok hX hbl hbA (by omega) (by omega) hx2 d_law_902 ?_
  refine g_callIV (As := [.int (iI p1), .int (iI p2)]) (st := []) ok _ (hc2 s a0 D t ad) k_1313 k_11 k_1310 cl_Mo (m_Mo (ad := ad) (t := t) (F := F1) (G := G1) rfl).1 (m_Mo rfl).2 k_1311 k_1312 q_Mo_needle (by decide) (Nat.le_of_ble_eq_true rfl) (by omega) d_law_903 (fun z2 ce1 h2 => ?_)
  obtain ⟨F2, G2, rfl, h2⟩ := h2
  obtain ⟨hkr, hk0, hz, hI⟩ := hop z2 F2 G2 h2
  refine g_istore (lv' := [(6, .int (iI z2)), (5, .int (iI k)), (4, .int (iI i)), (3, .ref (ad 264)), (2, .ref (ad 244)), (1, .ref (ad 0)), (0, .ref b)]) ok d_law_906 (by decide) rfl ?_
  refine g_aload_n ok d_law_908 rfl 4 rfl ?_
  refine g_callPV (As := []) (st := []) ok _ (c_Mo_thrown F2 G2 s a0 D t ad) k_1096 k_11 k_1093 cl_Mo (m_Mo (ad := ad) (t := t) (F := F2) (G := G2) rfl).1 (m_Mo rfl).2 k_1094 k_1095 q_Mo_thrown (by decide) (Nat.le_of_ble_eq_true rfl) (by omega) d_law_909 (fun zT hT => ?_)
  refine g_iload ok d_law_912 1 rfl ?_
  refine g_cmpE ok (by rw [hT, hk0]) 919 d_law_914 (by decide) ?_
  refine g_iload ok d_law_919 1 rfl ?_
  have jn : gW p l e R s m args below meth c Q D A 7 gZ (cells + 1) (slots + 6) ad 265 (mem ad t F2 G2) 936 [(6, .int (iI z2)), (5, .int (iI k)), (4, .int (iI i)), (3, .ref (ad 264)), (2, .ref (ad 244)), (1, .ref (ad 0)), (0, .ref b)] [] := by
    refine g_goto ok 1001 d_law_936 (by decide) ?_
    refine g_lv [2, 3, 4, 5, 6] rfl ?_
    exact kk F2 G2 hI
  refine g_if_ne ok 936 d_law_921 (by decide) (by omega) (fun _ => jn) (fun hk1 => ?_)
  have hz0 : G2 264 0 = (iI z2).toInt := hz (by omega)
  refine g_aload_n ok d_law_924 rfl 3 rfl ?_
  refine g_iconst ok d_law_925 ?_
  refine h_lald ok d_law_926 ?_
  rw [hz0]
  refine g_iload ok d_law_927 0 rfl ?_
  refine g_i2l ok d_law_929 ?_
  refine g_lcmpE ok d_law_930 ?_
  exact g_if_eq ok 936 d_law_931 (by decide) (by decide) (fun _ => jn) (fun h => absurd rfl h)
/-- what a step by hoop wants -/
def oq_hoop (Inv : (Nat → Nat → Int) → (Nat → Int → Int) → Prop) (F : Nat → Nat → Int) (G : Nat → Int → Int) (p1 p2 : Int) : Prop := ∃ post1, cP y_Dk_hoop b_Dk_hoop 3 (some .boolean) 2 50 F G (fun ad => [.ref (ad 0), .int (iI p1), .int (iI p2)]) post1 ∧ ∀ z1, post1 z1 → ∃ post2, cI y_Mo_hoop b_Mo_hoop 10 (some .boolean) 0 0 F G (fun ad => [.ref (ad 244), .int (iI p1), .int (iI p2)]) post2 ∧ ∀ z F2 G2, post2 z F2 G2 → iI z1 = iI z ∧ Inv F2 G2
set_option maxHeartbeats 1000000 in
set_option maxRecDepth 100000 in
theorem s_hoop {Inv : (Nat → Nat → Int) → (Nat → Int → Int) → Prop} (ok : gOk s a0 D t p R s m meth c A R_law code 7 rt mn 11 440 601024 7293034) (hlt : l.stackTraces = false) {b L : Nat} {xs : Nat → Int32} (hX : va_X b L xs s s.heap) (hbl : b < s.heap.size) (hbA : ¬ A b) (hL : L ≤ 2560) {i : Int} (hi : 0 ≤ i ∧ i + 5 ≤ L) {F : Nat → Nat → Int} {G : Nat → Int → Int} {p1 p2 p3 p4 : Int} (hx1 : xs (i + 1).toNat = iI p1) (hx2 : xs (i + 2).toNat = iI p2) (hx3 : xs (i + 3).toNat = iI p3) (hx4 : xs (i + 4).toNat = iI p4) (hroom : cells + 1 ≤ 601024 ∧ slots + 6 ≤ 7293034) (hop : oq_hoop Inv F G p1 p2) (kk : ∀ (F2 : Nat → Nat → Int) (G2 : Nat → Int → Int), Inv F2 G2 → gW p l e R s m args below meth c Q D A 7 gZ (cells + 1) (slots + 6) ad 265 (mem ad t F2 G2) 1001 [(4, .int (iI i)), (3, .ref (ad 264)), (2, .ref (ad 244)), (1, .ref (ad 0)), (0, .ref b)] []) : gW p l e R s m args below meth c Q D A 7 gZ cells slots ad 265 (mem ad t F G) 939 [(4, .int (iI i)), (3, .ref (ad 264)), (2, .ref (ad 244)), (1, .ref (ad 0)), (0, .ref b)] [] := by
  unfold oq_hoop at hop
  obtain ⟨post1, hc1, hop⟩ := hop
  refine g_aload_n ok d_law_939 rfl 3 rfl ?_
  refine g_aload_n ok d_law_940 rfl 4 rfl ?_
  refine g_iload ok d_law_941 0 rfl ?_
  refine g_iconst ok d_law_943 ?_
  refine g_iadd ok d_law_944 ?_
  refine g_sld (v := p1) ok hX hbl hbA (by omega) (by omega) hx1 d_law_945 ?_
  refine g_aload_n ok d_law_946 rfl 4 rfl ?_
  refine g_iload ok d_law_947 0 rfl ?_
  refine g_iconst ok d_law_949 ?_
  refine g_iadd ok d_law_950 ?_
  refine g_sld (v := p2) ok hX hbl hbA (by omega) (by omega) hx2 d_law_951 ?_
  refine g_callPV (As := [.int (iI p1), .int (iI p2)]) (st := []) ok _ (hc1 s a0 D t ad) k_644 k_1 k_641 cl_Dk (m_Dk (ad := ad) (t := t) (F := F) (G := G) rfl).1 (m_Dk rfl).2 k_642 k_643 q_Dk_hoop (by decide) (Nat.le_of_ble_eq_true rfl) (by omega) d_law_952 (fun z1 h1 => ?_)
  obtain ⟨post2, hc2, hop⟩ := hop z1 h1
  refine g_aload_n ok d_law_955 rfl 2 rfl ?_
  refine g_aload_n ok d_law_956 rfl 4 rfl ?_
  refine g_iload ok d_law_957 0 rfl ?_
  refine g_iconst ok d_law_959 ?_
  refine g_iadd ok d_law_960 ?_
  refine g_sld (v := p1) ok hX hbl hbA (by omega) (by omega) hx1 d_law_961 ?_
  refine g_aload_n ok d_law_962 rfl 4 rfl ?_
  refine g_iload ok d_law_963 0 rfl ?_
  refine g_iconst ok d_law_965 ?_
  refine g_iadd ok d_law_966 ?_
  refine g_sld (v := p2) ok hX hbl hbA (by omega) (by omega) hx2 d_law_967 ?_
  refine g_callIV (As := [.int (iI p1), .int (iI p2)]) (st := [.int (iI z1)]) ok _ (hc2 s a0 D t ad) k_1317 k_11 k_1314 cl_Mo (m_Mo (ad := ad) (t := t) (F := F) (G := G) rfl).1 (m_Mo rfl).2 k_1315 k_1316 q_Mo_hoop (by decide) (Nat.le_of_ble_eq_true rfl) (by omega) d_law_968 (fun z2 ce1 h2 => ?_)
  obtain ⟨F2, G2, rfl, h2⟩ := h2
  obtain ⟨hz, hI⟩ := hop z2 F2 G2 h2
  refine g_cmpE ok (hz) 1001 d_law_971 (by decide) ?_
  refine g_widen (k := cells + 1) (j := slots + 6) (by omega) (by omega) ?_
  exact kk F2 G2 hI
/-- what a step by stop wants -/
def oq_stop (Inv : (Nat → Nat → Int) → (Nat → Int → Int) → Prop) (F : Nat → Nat → Int) (G : Nat → Int → Int) (p1 : Int) : Prop := ∃ post1, cP y_Dk_stop b_Dk_stop 3 (some .int) 1 21 F G (fun ad => [.ref (ad 0), .int (iI p1)]) post1 ∧ ∀ z1, post1 z1 → ∃ post2, cI y_Mo_stop b_Mo_stop 3 (some .int) 0 0 F G (fun ad => [.ref (ad 244), .int (iI p1)]) post2 ∧ ∀ z F2 G2, post2 z F2 G2 → iI z1 = iI z ∧ Inv F2 G2
set_option maxHeartbeats 1000000 in
set_option maxRecDepth 100000 in
theorem s_stop {Inv : (Nat → Nat → Int) → (Nat → Int → Int) → Prop} (ok : gOk s a0 D t p R s m meth c A R_law code 7 rt mn 11 440 601024 7293034) (hlt : l.stackTraces = false) {b L : Nat} {xs : Nat → Int32} (hX : va_X b L xs s s.heap) (hbl : b < s.heap.size) (hbA : ¬ A b) (hL : L ≤ 2560) {i : Int} (hi : 0 ≤ i ∧ i + 5 ≤ L) {F : Nat → Nat → Int} {G : Nat → Int → Int} {p1 p2 p3 p4 : Int} (hx1 : xs (i + 1).toNat = iI p1) (hx2 : xs (i + 2).toNat = iI p2) (hx3 : xs (i + 3).toNat = iI p3) (hx4 : xs (i + 4).toNat = iI p4) (hroom : cells + 1 ≤ 601024 ∧ slots + 6 ≤ 7293034) (hop : oq_stop Inv F G p1) (kk : ∀ (F2 : Nat → Nat → Int) (G2 : Nat → Int → Int), Inv F2 G2 → gW p l e R s m args below meth c Q D A 7 gZ (cells + 1) (slots + 6) ad 265 (mem ad t F2 G2) 1001 [(4, .int (iI i)), (3, .ref (ad 264)), (2, .ref (ad 244)), (1, .ref (ad 0)), (0, .ref b)] []) : gW p l e R s m args below meth c Q D A 7 gZ cells slots ad 265 (mem ad t F G) 976 [(4, .int (iI i)), (3, .ref (ad 264)), (2, .ref (ad 244)), (1, .ref (ad 0)), (0, .ref b)] [] := by
  unfold oq_stop at hop
  obtain ⟨post1, hc1, hop⟩ := hop
  refine g_aload_n ok d_law_976 rfl 3 rfl ?_
  refine g_aload_n ok d_law_977 rfl 4 rfl ?_
  refine g_iload ok d_law_978 0 rfl ?_
  refine g_iconst ok d_law_980 ?_
  refine g_iadd ok d_law_981 ?_
  refine g_sld (v := p1) ok hX hbl hbA (by omega) (by omega) hx1 d_law_982 ?_
  refine g_callPV (As := [.int (iI p1)]) (st := []) ok _ (hc1 s a0 D t ad) k_653 k_1 k_650 cl_Dk (m_Dk (ad := ad) (t := t) (F := F) (G := G) rfl).1 (m_Dk rfl).2 k_651 k_652 q_Dk_stop (by decide) (Nat.le_of_ble_eq_true rfl) (by omega) d_law_983 (fun z1 h1 => ?_)
  obtain ⟨post2, hc2, hop⟩ := hop z1 h1
  refine g_aload_n ok d_law_986 rfl 2 rfl ?_
  refine g_aload_n ok d_law_987 rfl 4 rfl ?_
  refine g_iload ok d_law_988 0 rfl ?_
  refine g_iconst ok d_law_990 ?_
  refine g_iadd ok d_law_991 ?_
  refine g_sld (v := p1) ok hX hbl hbA (by omega) (by omega) hx1 d_law_992 ?_
  refine g_callIV (As := [.int (iI p1)]) (st := [.int (iI z1)]) ok _ (hc2 s a0 D t ad) k_1321 k_11 k_1318 cl_Mo (m_Mo (ad := ad) (t := t) (F := F) (G := G) rfl).1 (m_Mo rfl).2 k_1319 k_1320 q_Mo_stop (by decide) (Nat.le_of_ble_eq_true rfl) (by omega) d_law_993 (fun z2 ce1 h2 => ?_)
  obtain ⟨F2, G2, rfl, h2⟩ := h2
  obtain ⟨hz, hI⟩ := hop z2 F2 G2 h2
  refine g_cmpE ok (hz) 1001 d_law_996 (by decide) ?_
  refine g_widen (k := cells + 1) (j := slots + 6) (by omega) (by omega) ?_
  exact kk F2 G2 hI
end LT
