section S
variable {d o o2 p0 p1 p2 p3 p4 q0 q1 q2 q3 q4 q5 : Nat} {L S : List Value} {h : abH} {Q : Option Value → abH → Prop} {l0 l1 l2 l3 l4 l5 l6 l7 l8 l9 l10 l11 l12 l13 l14 l15 l16 l17 l18 l19 : Value} {a b x0 x1 x2 x3 x4 x5 y0 y1 y2 y3 y4 y5 : Int32} {u w u0 w0 w1 w2 w3 w4 : Int64}
-- method 220: BufferRoomLaw.law([I)Z
theorem dL_law_0 : decode code 0 = .ok (.new 7, 3) := by decide +kernel
theorem dL_law_3 : decode code 3 = .ok (.dup, 1) := by decide +kernel
theorem dL_law_4 : decode code 4 = .ok (.invokespecial 9, 3) := by decide +kernel
theorem dL_law_7 : decode code 7 = .ok (.astore_n 1, 1) := by decide +kernel
theorem dL_law_8 : decode code 8 = .ok (.new 10, 3) := by decide +kernel
theorem dL_law_11 : decode code 11 = .ok (.dup, 1) := by decide +kernel
theorem dL_law_12 : decode code 12 = .ok (.invokespecial 12, 3) := by decide +kernel
theorem dL_law_15 : decode code 15 = .ok (.astore_n 2, 1) := by decide +kernel
theorem dL_law_16 : decode code 16 = .ok (.iconst 0, 1) := by decide +kernel
theorem dL_law_17 : decode code 17 = .ok (.istore_n 3, 1) := by decide +kernel
theorem dL_law_18 : decode code 18 = .ok (.iload_n 3, 1) := by decide +kernel
theorem dL_law_19 : decode code 19 = .ok (.aload_n 0, 1) := by decide +kernel
theorem dL_law_20 : decode code 20 = .ok (.arraylength, 1) := by decide +kernel
theorem dL_law_21 : decode code 21 = .ok (.bipush 6, 2) := by decide +kernel
theorem dL_law_23 : decode code 23 = .ok (.isub, 1) := by decide +kernel
theorem dL_law_24 : decode code 24 = .ok (.if_icmp .gt 1148, 3) := by decide +kernel
theorem dL_law_27 : decode code 27 = .ok (.aload_n 0, 1) := by decide +kernel
theorem dL_law_28 : decode code 28 = .ok (.iload_n 3, 1) := by decide +kernel
theorem dL_law_29 : decode code 29 = .ok (.iaload, 1) := by decide +kernel
theorem dL_law_30 : decode code 30 = .ok (.bipush 63, 2) := by decide +kernel
theorem dL_law_32 : decode code 32 = .ok (.iand, 1) := by decide +kernel
theorem dL_law_33 : decode code 33 = .ok (.tableswitch 1133 0 33 #[151, 214, 227, 260, 283, 306, 329, 352, 375, 408, 441, 464, 487, 510, 543, 556, 599, 612, 635, 658, 681, 704, 717, 750, 773, 786, 799, 812, 865, 888, 931, 974, 1037, 1090], 151) := by decide +kernel
theorem dL_law_184 : decode code 184 = .ok (.aload_n 1, 1) := by decide +kernel
theorem dL_law_185 : decode code 185 = .ok (.aload_n 0, 1) := by decide +kernel
theorem dL_law_186 : decode code 186 = .ok (.iload_n 3, 1) := by decide +kernel
theorem dL_law_187 : decode code 187 = .ok (.iconst 1, 1) := by decide +kernel
theorem dL_law_188 : decode code 188 = .ok (.iadd, 1) := by decide +kernel
theorem dL_law_189 : decode code 189 = .ok (.iaload, 1) := by decide +kernel
theorem dL_law_190 : decode code 190 = .ok (.i2l, 1) := by decide +kernel
theorem dL_law_191 : decode code 191 = .ok (.bipush 32, 2) := by decide +kernel
theorem dL_law_193 : decode code 193 = .ok (.lshl, 1) := by decide +kernel
theorem dL_law_194 : decode code 194 = .ok (.aload_n 0, 1) := by decide +kernel
theorem dL_law_195 : decode code 195 = .ok (.iload_n 3, 1) := by decide +kernel
theorem dL_law_196 : decode code 196 = .ok (.iconst 2, 1) := by decide +kernel
theorem dL_law_197 : decode code 197 = .ok (.iadd, 1) := by decide +kernel
theorem dL_law_198 : decode code 198 = .ok (.iaload, 1) := by decide +kernel
theorem dL_law_199 : decode code 199 = .ok (.i2l, 1) := by decide +kernel
theorem dL_law_200 : decode code 200 = .ok (.ldc2_w 13, 3) := by decide +kernel
theorem dL_law_203 : decode code 203 = .ok (.land, 1) := by decide +kernel
theorem dL_law_204 : decode code 204 = .ok (.lor, 1) := by decide +kernel
theorem dL_law_205 : decode code 205 = .ok (.aload_n 0, 1) := by decide +kernel
theorem dL_law_206 : decode code 206 = .ok (.iload_n 3, 1) := by decide +kernel
theorem dL_law_207 : decode code 207 = .ok (.iconst 3, 1) := by decide +kernel
theorem dL_law_208 : decode code 208 = .ok (.iadd, 1) := by decide +kernel
theorem dL_law_209 : decode code 209 = .ok (.iaload, 1) := by decide +kernel
theorem dL_law_210 : decode code 210 = .ok (.invokevirtual 15, 3) := by decide +kernel
theorem dL_law_213 : decode code 213 = .ok (.aload_n 2, 1) := by decide +kernel
theorem dL_law_214 : decode code 214 = .ok (.aload_n 0, 1) := by decide +kernel
theorem dL_law_215 : decode code 215 = .ok (.iload_n 3, 1) := by decide +kernel
theorem dL_law_216 : decode code 216 = .ok (.iconst 1, 1) := by decide +kernel
theorem dL_law_217 : decode code 217 = .ok (.iadd, 1) := by decide +kernel
theorem dL_law_218 : decode code 218 = .ok (.iaload, 1) := by decide +kernel
theorem dL_law_219 : decode code 219 = .ok (.i2l, 1) := by decide +kernel
theorem dL_law_220 : decode code 220 = .ok (.bipush 32, 2) := by decide +kernel
theorem dL_law_222 : decode code 222 = .ok (.lshl, 1) := by decide +kernel
theorem dL_law_223 : decode code 223 = .ok (.aload_n 0, 1) := by decide +kernel
theorem dL_law_224 : decode code 224 = .ok (.iload_n 3, 1) := by decide +kernel
theorem dL_law_225 : decode code 225 = .ok (.iconst 2, 1) := by decide +kernel
theorem dL_law_226 : decode code 226 = .ok (.iadd, 1) := by decide +kernel
theorem dL_law_227 : decode code 227 = .ok (.iaload, 1) := by decide +kernel
theorem dL_law_228 : decode code 228 = .ok (.i2l, 1) := by decide +kernel
theorem dL_law_229 : decode code 229 = .ok (.ldc2_w 13, 3) := by decide +kernel
theorem dL_law_232 : decode code 232 = .ok (.land, 1) := by decide +kernel
theorem dL_law_233 : decode code 233 = .ok (.lor, 1) := by decide +kernel
theorem dL_law_234 : decode code 234 = .ok (.aload_n 0, 1) := by decide +kernel
theorem dL_law_235 : decode code 235 = .ok (.iload_n 3, 1) := by decide +kernel
theorem dL_law_236 : decode code 236 = .ok (.iconst 3, 1) := by decide +kernel
theorem dL_law_237 : decode code 237 = .ok (.iadd, 1) := by decide +kernel
theorem dL_law_238 : decode code 238 = .ok (.iaload, 1) := by decide +kernel
theorem dL_law_239 : decode code 239 = .ok (.invokevirtual 19, 3) := by decide +kernel
theorem dL_law_242 : decode code 242 = .ok (.if_icmp .eq 924, 3) := by decide +kernel
theorem dL_law_245 : decode code 245 = .ok (.iconst 0, 1) := by decide +kernel
theorem dL_law_246 : decode code 246 = .ok (.ireturn, 1) := by decide +kernel
theorem dL_law_247 : decode code 247 = .ok (.aload_n 1, 1) := by decide +kernel
theorem dL_law_248 : decode code 248 = .ok (.invokevirtual 20, 3) := by decide +kernel
theorem dL_law_251 : decode code 251 = .ok (.aload_n 2, 1) := by decide +kernel
theorem dL_law_252 : decode code 252 = .ok (.invokevirtual 24, 3) := by decide +kernel
theorem dL_law_255 : decode code 255 = .ok (.if_icmp .eq 911, 3) := by decide +kernel
theorem dL_law_258 : decode code 258 = .ok (.iconst 0, 1) := by decide +kernel
theorem dL_law_259 : decode code 259 = .ok (.ireturn, 1) := by decide +kernel
theorem dL_law_260 : decode code 260 = .ok (.aload_n 1, 1) := by decide +kernel
theorem dL_law_261 : decode code 261 = .ok (.aload_n 0, 1) := by decide +kernel
theorem dL_law_262 : decode code 262 = .ok (.iload_n 3, 1) := by decide +kernel
theorem dL_law_263 : decode code 263 = .ok (.iconst 1, 1) := by decide +kernel
theorem dL_law_264 : decode code 264 = .ok (.iadd, 1) := by decide +kernel
theorem dL_law_265 : decode code 265 = .ok (.iaload, 1) := by decide +kernel
theorem dL_law_266 : decode code 266 = .ok (.aload_n 0, 1) := by decide +kernel
theorem dL_law_267 : decode code 267 = .ok (.iload_n 3, 1) := by decide +kernel
theorem dL_law_268 : decode code 268 = .ok (.iconst 2, 1) := by decide +kernel
theorem dL_law_269 : decode code 269 = .ok (.iadd, 1) := by decide +kernel
theorem dL_law_270 : decode code 270 = .ok (.iaload, 1) := by decide +kernel
theorem dL_law_271 : decode code 271 = .ok (.invokevirtual 25, 3) := by decide +kernel
theorem dL_law_274 : decode code 274 = .ok (.aload_n 2, 1) := by decide +kernel
theorem dL_law_275 : decode code 275 = .ok (.aload_n 0, 1) := by decide +kernel
theorem dL_law_276 : decode code 276 = .ok (.iload_n 3, 1) := by decide +kernel
theorem dL_law_277 : decode code 277 = .ok (.iconst 1, 1) := by decide +kernel
theorem dL_law_278 : decode code 278 = .ok (.iadd, 1) := by decide +kernel
theorem dL_law_279 : decode code 279 = .ok (.iaload, 1) := by decide +kernel
theorem dL_law_280 : decode code 280 = .ok (.aload_n 0, 1) := by decide +kernel
theorem dL_law_281 : decode code 281 = .ok (.iload_n 3, 1) := by decide +kernel
theorem dL_law_282 : decode code 282 = .ok (.iconst 2, 1) := by decide +kernel
theorem dL_law_283 : decode code 283 = .ok (.iadd, 1) := by decide +kernel
theorem dL_law_284 : decode code 284 = .ok (.iaload, 1) := by decide +kernel
theorem dL_law_285 : decode code 285 = .ok (.invokevirtual 29, 3) := by decide +kernel
theorem dL_law_288 : decode code 288 = .ok (.if_icmp .eq 878, 3) := by decide +kernel
theorem dL_law_291 : decode code 291 = .ok (.iconst 0, 1) := by decide +kernel
theorem dL_law_292 : decode code 292 = .ok (.ireturn, 1) := by decide +kernel
theorem dL_law_293 : decode code 293 = .ok (.aload_n 1, 1) := by decide +kernel
theorem dL_law_294 : decode code 294 = .ok (.aload_n 0, 1) := by decide +kernel
theorem dL_law_295 : decode code 295 = .ok (.iload_n 3, 1) := by decide +kernel
theorem dL_law_296 : decode code 296 = .ok (.iconst 1, 1) := by decide +kernel
theorem dL_law_297 : decode code 297 = .ok (.iadd, 1) := by decide +kernel
theorem dL_law_298 : decode code 298 = .ok (.iaload, 1) := by decide +kernel
theorem dL_law_299 : decode code 299 = .ok (.invokevirtual 30, 3) := by decide +kernel
theorem dL_law_302 : decode code 302 = .ok (.aload_n 2, 1) := by decide +kernel
theorem dL_law_303 : decode code 303 = .ok (.aload_n 0, 1) := by decide +kernel
theorem dL_law_304 : decode code 304 = .ok (.iload_n 3, 1) := by decide +kernel
theorem dL_law_305 : decode code 305 = .ok (.iconst 1, 1) := by decide +kernel
theorem dL_law_306 : decode code 306 = .ok (.iadd, 1) := by decide +kernel
theorem dL_law_307 : decode code 307 = .ok (.iaload, 1) := by decide +kernel
theorem dL_law_308 : decode code 308 = .ok (.invokevirtual 34, 3) := by decide +kernel
theorem dL_law_311 : decode code 311 = .ok (.if_icmp .eq 855, 3) := by decide +kernel
theorem dL_law_314 : decode code 314 = .ok (.iconst 0, 1) := by decide +kernel
theorem dL_law_315 : decode code 315 = .ok (.ireturn, 1) := by decide +kernel
theorem dL_law_316 : decode code 316 = .ok (.aload_n 1, 1) := by decide +kernel
theorem dL_law_317 : decode code 317 = .ok (.aload_n 0, 1) := by decide +kernel
theorem dL_law_318 : decode code 318 = .ok (.iload_n 3, 1) := by decide +kernel
theorem dL_law_319 : decode code 319 = .ok (.iconst 1, 1) := by decide +kernel
theorem dL_law_320 : decode code 320 = .ok (.iadd, 1) := by decide +kernel
theorem dL_law_321 : decode code 321 = .ok (.iaload, 1) := by decide +kernel
theorem dL_law_322 : decode code 322 = .ok (.invokevirtual 35, 3) := by decide +kernel
theorem dL_law_325 : decode code 325 = .ok (.aload_n 2, 1) := by decide +kernel
theorem dL_law_326 : decode code 326 = .ok (.aload_n 0, 1) := by decide +kernel
theorem dL_law_327 : decode code 327 = .ok (.iload_n 3, 1) := by decide +kernel
theorem dL_law_328 : decode code 328 = .ok (.iconst 1, 1) := by decide +kernel
theorem dL_law_329 : decode code 329 = .ok (.iadd, 1) := by decide +kernel
theorem dL_law_330 : decode code 330 = .ok (.iaload, 1) := by decide +kernel
theorem dL_law_331 : decode code 331 = .ok (.invokevirtual 38, 3) := by decide +kernel
theorem dL_law_334 : decode code 334 = .ok (.if_icmp .eq 832, 3) := by decide +kernel
theorem dL_law_337 : decode code 337 = .ok (.iconst 0, 1) := by decide +kernel
theorem dL_law_338 : decode code 338 = .ok (.ireturn, 1) := by decide +kernel
theorem dL_law_339 : decode code 339 = .ok (.aload_n 1, 1) := by decide +kernel
theorem dL_law_340 : decode code 340 = .ok (.aload_n 0, 1) := by decide +kernel
theorem dL_law_341 : decode code 341 = .ok (.iload_n 3, 1) := by decide +kernel
theorem dL_law_342 : decode code 342 = .ok (.iconst 1, 1) := by decide +kernel
theorem dL_law_343 : decode code 343 = .ok (.iadd, 1) := by decide +kernel
theorem dL_law_344 : decode code 344 = .ok (.iaload, 1) := by decide +kernel
theorem dL_law_345 : decode code 345 = .ok (.invokevirtual 39, 3) := by decide +kernel
theorem dL_law_348 : decode code 348 = .ok (.aload_n 2, 1) := by decide +kernel
theorem dL_law_349 : decode code 349 = .ok (.aload_n 0, 1) := by decide +kernel
theorem dL_law_350 : decode code 350 = .ok (.iload_n 3, 1) := by decide +kernel
theorem dL_law_351 : decode code 351 = .ok (.iconst 1, 1) := by decide +kernel
theorem dL_law_352 : decode code 352 = .ok (.iadd, 1) := by decide +kernel
theorem dL_law_353 : decode code 353 = .ok (.iaload, 1) := by decide +kernel
theorem dL_law_354 : decode code 354 = .ok (.invokevirtual 42, 3) := by decide +kernel
theorem dL_law_357 : decode code 357 = .ok (.if_icmp .eq 809, 3) := by decide +kernel
theorem dL_law_360 : decode code 360 = .ok (.iconst 0, 1) := by decide +kernel
theorem dL_law_361 : decode code 361 = .ok (.ireturn, 1) := by decide +kernel
theorem dL_law_362 : decode code 362 = .ok (.aload_n 1, 1) := by decide +kernel
theorem dL_law_363 : decode code 363 = .ok (.aload_n 0, 1) := by decide +kernel
theorem dL_law_364 : decode code 364 = .ok (.iload_n 3, 1) := by decide +kernel
theorem dL_law_365 : decode code 365 = .ok (.iconst 1, 1) := by decide +kernel
theorem dL_law_366 : decode code 366 = .ok (.iadd, 1) := by decide +kernel
theorem dL_law_367 : decode code 367 = .ok (.iaload, 1) := by decide +kernel
theorem dL_law_368 : decode code 368 = .ok (.invokevirtual 43, 3) := by decide +kernel
theorem dL_law_371 : decode code 371 = .ok (.aload_n 2, 1) := by decide +kernel
theorem dL_law_372 : decode code 372 = .ok (.aload_n 0, 1) := by decide +kernel
theorem dL_law_373 : decode code 373 = .ok (.iload_n 3, 1) := by decide +kernel
theorem dL_law_374 : decode code 374 = .ok (.iconst 1, 1) := by decide +kernel
theorem dL_law_375 : decode code 375 = .ok (.iadd, 1) := by decide +kernel
theorem dL_law_376 : decode code 376 = .ok (.iaload, 1) := by decide +kernel
theorem dL_law_377 : decode code 377 = .ok (.invokevirtual 46, 3) := by decide +kernel
theorem dL_law_380 : decode code 380 = .ok (.if_icmp .eq 786, 3) := by decide +kernel
theorem dL_law_383 : decode code 383 = .ok (.iconst 0, 1) := by decide +kernel
theorem dL_law_384 : decode code 384 = .ok (.ireturn, 1) := by decide +kernel
theorem dL_law_385 : decode code 385 = .ok (.aload_n 1, 1) := by decide +kernel
theorem dL_law_386 : decode code 386 = .ok (.aload_n 0, 1) := by decide +kernel
theorem dL_law_387 : decode code 387 = .ok (.iload_n 3, 1) := by decide +kernel
theorem dL_law_388 : decode code 388 = .ok (.iconst 1, 1) := by decide +kernel
theorem dL_law_389 : decode code 389 = .ok (.iadd, 1) := by decide +kernel
theorem dL_law_390 : decode code 390 = .ok (.iaload, 1) := by decide +kernel
theorem dL_law_391 : decode code 391 = .ok (.invokevirtual 47, 3) := by decide +kernel
theorem dL_law_394 : decode code 394 = .ok (.aload_n 2, 1) := by decide +kernel
theorem dL_law_395 : decode code 395 = .ok (.aload_n 0, 1) := by decide +kernel
theorem dL_law_396 : decode code 396 = .ok (.iload_n 3, 1) := by decide +kernel
theorem dL_law_397 : decode code 397 = .ok (.iconst 1, 1) := by decide +kernel
theorem dL_law_398 : decode code 398 = .ok (.iadd, 1) := by decide +kernel
theorem dL_law_399 : decode code 399 = .ok (.iaload, 1) := by decide +kernel
theorem dL_law_400 : decode code 400 = .ok (.invokevirtual 50, 3) := by decide +kernel
theorem dL_law_403 : decode code 403 = .ok (.if_icmp .eq 763, 3) := by decide +kernel
theorem dL_law_406 : decode code 406 = .ok (.iconst 0, 1) := by decide +kernel
theorem dL_law_407 : decode code 407 = .ok (.ireturn, 1) := by decide +kernel
theorem dL_law_408 : decode code 408 = .ok (.aload_n 1, 1) := by decide +kernel
theorem dL_law_409 : decode code 409 = .ok (.aload_n 0, 1) := by decide +kernel
theorem dL_law_410 : decode code 410 = .ok (.iload_n 3, 1) := by decide +kernel
theorem dL_law_411 : decode code 411 = .ok (.iconst 1, 1) := by decide +kernel
theorem dL_law_412 : decode code 412 = .ok (.iadd, 1) := by decide +kernel
theorem dL_law_413 : decode code 413 = .ok (.iaload, 1) := by decide +kernel
theorem dL_law_414 : decode code 414 = .ok (.aload_n 0, 1) := by decide +kernel
theorem dL_law_415 : decode code 415 = .ok (.iload_n 3, 1) := by decide +kernel
theorem dL_law_416 : decode code 416 = .ok (.iconst 2, 1) := by decide +kernel
theorem dL_law_417 : decode code 417 = .ok (.iadd, 1) := by decide +kernel
theorem dL_law_418 : decode code 418 = .ok (.iaload, 1) := by decide +kernel
theorem dL_law_419 : decode code 419 = .ok (.invokevirtual 51, 3) := by decide +kernel
theorem dL_law_422 : decode code 422 = .ok (.aload_n 2, 1) := by decide +kernel
theorem dL_law_423 : decode code 423 = .ok (.aload_n 0, 1) := by decide +kernel
theorem dL_law_424 : decode code 424 = .ok (.iload_n 3, 1) := by decide +kernel
theorem dL_law_425 : decode code 425 = .ok (.iconst 1, 1) := by decide +kernel
theorem dL_law_426 : decode code 426 = .ok (.iadd, 1) := by decide +kernel
theorem dL_law_427 : decode code 427 = .ok (.iaload, 1) := by decide +kernel
theorem dL_law_428 : decode code 428 = .ok (.aload_n 0, 1) := by decide +kernel
theorem dL_law_429 : decode code 429 = .ok (.iload_n 3, 1) := by decide +kernel
theorem dL_law_430 : decode code 430 = .ok (.iconst 2, 1) := by decide +kernel
theorem dL_law_431 : decode code 431 = .ok (.iadd, 1) := by decide +kernel
theorem dL_law_432 : decode code 432 = .ok (.iaload, 1) := by decide +kernel
theorem dL_law_433 : decode code 433 = .ok (.invokevirtual 54, 3) := by decide +kernel
theorem dL_law_436 : decode code 436 = .ok (.if_icmp .eq 730, 3) := by decide +kernel
theorem dL_law_439 : decode code 439 = .ok (.iconst 0, 1) := by decide +kernel
theorem dL_law_440 : decode code 440 = .ok (.ireturn, 1) := by decide +kernel
theorem dL_law_441 : decode code 441 = .ok (.aload_n 1, 1) := by decide +kernel
theorem dL_law_442 : decode code 442 = .ok (.aload_n 0, 1) := by decide +kernel
theorem dL_law_443 : decode code 443 = .ok (.iload_n 3, 1) := by decide +kernel
theorem dL_law_444 : decode code 444 = .ok (.iconst 1, 1) := by decide +kernel
theorem dL_law_445 : decode code 445 = .ok (.iadd, 1) := by decide +kernel
theorem dL_law_446 : decode code 446 = .ok (.iaload, 1) := by decide +kernel
theorem dL_law_447 : decode code 447 = .ok (.aload_n 0, 1) := by decide +kernel
theorem dL_law_448 : decode code 448 = .ok (.iload_n 3, 1) := by decide +kernel
theorem dL_law_449 : decode code 449 = .ok (.iconst 2, 1) := by decide +kernel
theorem dL_law_450 : decode code 450 = .ok (.iadd, 1) := by decide +kernel
theorem dL_law_451 : decode code 451 = .ok (.iaload, 1) := by decide +kernel
theorem dL_law_452 : decode code 452 = .ok (.invokevirtual 55, 3) := by decide +kernel
theorem dL_law_455 : decode code 455 = .ok (.aload_n 2, 1) := by decide +kernel
theorem dL_law_456 : decode code 456 = .ok (.aload_n 0, 1) := by decide +kernel
theorem dL_law_457 : decode code 457 = .ok (.iload_n 3, 1) := by decide +kernel
theorem dL_law_458 : decode code 458 = .ok (.iconst 1, 1) := by decide +kernel
theorem dL_law_459 : decode code 459 = .ok (.iadd, 1) := by decide +kernel
theorem dL_law_460 : decode code 460 = .ok (.iaload, 1) := by decide +kernel
theorem dL_law_461 : decode code 461 = .ok (.aload_n 0, 1) := by decide +kernel
theorem dL_law_462 : decode code 462 = .ok (.iload_n 3, 1) := by decide +kernel
theorem dL_law_463 : decode code 463 = .ok (.iconst 2, 1) := by decide +kernel
theorem dL_law_464 : decode code 464 = .ok (.iadd, 1) := by decide +kernel
theorem dL_law_465 : decode code 465 = .ok (.iaload, 1) := by decide +kernel
theorem dL_law_466 : decode code 466 = .ok (.invokevirtual 58, 3) := by decide +kernel
theorem dL_law_469 : decode code 469 = .ok (.if_icmp .eq 697, 3) := by decide +kernel
theorem dL_law_472 : decode code 472 = .ok (.iconst 0, 1) := by decide +kernel
theorem dL_law_473 : decode code 473 = .ok (.ireturn, 1) := by decide +kernel
theorem dL_law_474 : decode code 474 = .ok (.aload_n 1, 1) := by decide +kernel
theorem dL_law_475 : decode code 475 = .ok (.aload_n 0, 1) := by decide +kernel
theorem dL_law_476 : decode code 476 = .ok (.iload_n 3, 1) := by decide +kernel
theorem dL_law_477 : decode code 477 = .ok (.iconst 1, 1) := by decide +kernel
theorem dL_law_478 : decode code 478 = .ok (.iadd, 1) := by decide +kernel
theorem dL_law_479 : decode code 479 = .ok (.iaload, 1) := by decide +kernel
theorem dL_law_480 : decode code 480 = .ok (.invokevirtual 59, 3) := by decide +kernel
theorem dL_law_483 : decode code 483 = .ok (.aload_n 2, 1) := by decide +kernel
theorem dL_law_484 : decode code 484 = .ok (.aload_n 0, 1) := by decide +kernel
theorem dL_law_485 : decode code 485 = .ok (.iload_n 3, 1) := by decide +kernel
theorem dL_law_486 : decode code 486 = .ok (.iconst 1, 1) := by decide +kernel
theorem dL_law_487 : decode code 487 = .ok (.iadd, 1) := by decide +kernel
theorem dL_law_488 : decode code 488 = .ok (.iaload, 1) := by decide +kernel
theorem dL_law_489 : decode code 489 = .ok (.invokevirtual 62, 3) := by decide +kernel
theorem dL_law_492 : decode code 492 = .ok (.if_icmp .eq 674, 3) := by decide +kernel
theorem dL_law_495 : decode code 495 = .ok (.iconst 0, 1) := by decide +kernel
theorem dL_law_496 : decode code 496 = .ok (.ireturn, 1) := by decide +kernel
theorem dL_law_497 : decode code 497 = .ok (.aload_n 1, 1) := by decide +kernel
theorem dL_law_498 : decode code 498 = .ok (.aload_n 0, 1) := by decide +kernel
theorem dL_law_499 : decode code 499 = .ok (.iload_n 3, 1) := by decide +kernel
theorem dL_law_500 : decode code 500 = .ok (.iconst 1, 1) := by decide +kernel
theorem dL_law_501 : decode code 501 = .ok (.iadd, 1) := by decide +kernel
theorem dL_law_502 : decode code 502 = .ok (.iaload, 1) := by decide +kernel
theorem dL_law_503 : decode code 503 = .ok (.invokevirtual 63, 3) := by decide +kernel
theorem dL_law_506 : decode code 506 = .ok (.aload_n 2, 1) := by decide +kernel
theorem dL_law_507 : decode code 507 = .ok (.aload_n 0, 1) := by decide +kernel
theorem dL_law_508 : decode code 508 = .ok (.iload_n 3, 1) := by decide +kernel
theorem dL_law_509 : decode code 509 = .ok (.iconst 1, 1) := by decide +kernel
theorem dL_law_510 : decode code 510 = .ok (.iadd, 1) := by decide +kernel
theorem dL_law_511 : decode code 511 = .ok (.iaload, 1) := by decide +kernel
theorem dL_law_512 : decode code 512 = .ok (.invokevirtual 66, 3) := by decide +kernel
theorem dL_law_515 : decode code 515 = .ok (.if_icmp .eq 651, 3) := by decide +kernel
theorem dL_law_518 : decode code 518 = .ok (.iconst 0, 1) := by decide +kernel
theorem dL_law_519 : decode code 519 = .ok (.ireturn, 1) := by decide +kernel
theorem dL_law_520 : decode code 520 = .ok (.aload_n 1, 1) := by decide +kernel
theorem dL_law_521 : decode code 521 = .ok (.aload_n 0, 1) := by decide +kernel
theorem dL_law_522 : decode code 522 = .ok (.iload_n 3, 1) := by decide +kernel
theorem dL_law_523 : decode code 523 = .ok (.iconst 1, 1) := by decide +kernel
theorem dL_law_524 : decode code 524 = .ok (.iadd, 1) := by decide +kernel
theorem dL_law_525 : decode code 525 = .ok (.iaload, 1) := by decide +kernel
theorem dL_law_526 : decode code 526 = .ok (.invokevirtual 67, 3) := by decide +kernel
theorem dL_law_529 : decode code 529 = .ok (.aload_n 2, 1) := by decide +kernel
theorem dL_law_530 : decode code 530 = .ok (.aload_n 0, 1) := by decide +kernel
theorem dL_law_531 : decode code 531 = .ok (.iload_n 3, 1) := by decide +kernel
theorem dL_law_532 : decode code 532 = .ok (.iconst 1, 1) := by decide +kernel
theorem dL_law_533 : decode code 533 = .ok (.iadd, 1) := by decide +kernel
theorem dL_law_534 : decode code 534 = .ok (.iaload, 1) := by decide +kernel
theorem dL_law_535 : decode code 535 = .ok (.invokevirtual 70, 3) := by decide +kernel
theorem dL_law_538 : decode code 538 = .ok (.if_icmp .eq 628, 3) := by decide +kernel
theorem dL_law_541 : decode code 541 = .ok (.iconst 0, 1) := by decide +kernel
theorem dL_law_542 : decode code 542 = .ok (.ireturn, 1) := by decide +kernel
theorem dL_law_543 : decode code 543 = .ok (.aload_n 1, 1) := by decide +kernel
theorem dL_law_544 : decode code 544 = .ok (.aload_n 0, 1) := by decide +kernel
theorem dL_law_545 : decode code 545 = .ok (.iload_n 3, 1) := by decide +kernel
theorem dL_law_546 : decode code 546 = .ok (.iconst 1, 1) := by decide +kernel
theorem dL_law_547 : decode code 547 = .ok (.iadd, 1) := by decide +kernel
theorem dL_law_548 : decode code 548 = .ok (.iaload, 1) := by decide +kernel
theorem dL_law_549 : decode code 549 = .ok (.aload_n 0, 1) := by decide +kernel
theorem dL_law_550 : decode code 550 = .ok (.iload_n 3, 1) := by decide +kernel
theorem dL_law_551 : decode code 551 = .ok (.iconst 2, 1) := by decide +kernel
theorem dL_law_552 : decode code 552 = .ok (.iadd, 1) := by decide +kernel
theorem dL_law_553 : decode code 553 = .ok (.iaload, 1) := by decide +kernel
theorem dL_law_554 : decode code 554 = .ok (.invokevirtual 71, 3) := by decide +kernel
theorem dL_law_557 : decode code 557 = .ok (.aload_n 2, 1) := by decide +kernel
theorem dL_law_558 : decode code 558 = .ok (.aload_n 0, 1) := by decide +kernel
theorem dL_law_559 : decode code 559 = .ok (.iload_n 3, 1) := by decide +kernel
theorem dL_law_560 : decode code 560 = .ok (.iconst 1, 1) := by decide +kernel
theorem dL_law_561 : decode code 561 = .ok (.iadd, 1) := by decide +kernel
theorem dL_law_562 : decode code 562 = .ok (.iaload, 1) := by decide +kernel
theorem dL_law_563 : decode code 563 = .ok (.aload_n 0, 1) := by decide +kernel
theorem dL_law_564 : decode code 564 = .ok (.iload_n 3, 1) := by decide +kernel
theorem dL_law_565 : decode code 565 = .ok (.iconst 2, 1) := by decide +kernel
theorem dL_law_566 : decode code 566 = .ok (.iadd, 1) := by decide +kernel
theorem dL_law_567 : decode code 567 = .ok (.iaload, 1) := by decide +kernel
theorem dL_law_568 : decode code 568 = .ok (.invokevirtual 74, 3) := by decide +kernel
theorem dL_law_571 : decode code 571 = .ok (.if_icmp .eq 595, 3) := by decide +kernel
theorem dL_law_574 : decode code 574 = .ok (.iconst 0, 1) := by decide +kernel
theorem dL_law_575 : decode code 575 = .ok (.ireturn, 1) := by decide +kernel
theorem dL_law_576 : decode code 576 = .ok (.aload_n 1, 1) := by decide +kernel
theorem dL_law_577 : decode code 577 = .ok (.invokevirtual 75, 3) := by decide +kernel
theorem dL_law_580 : decode code 580 = .ok (.aload_n 2, 1) := by decide +kernel
theorem dL_law_581 : decode code 581 = .ok (.invokevirtual 78, 3) := by decide +kernel
theorem dL_law_584 : decode code 584 = .ok (.if_icmp .eq 582, 3) := by decide +kernel
theorem dL_law_587 : decode code 587 = .ok (.iconst 0, 1) := by decide +kernel
theorem dL_law_588 : decode code 588 = .ok (.ireturn, 1) := by decide +kernel
theorem dL_law_589 : decode code 589 = .ok (.aload_n 1, 1) := by decide +kernel
theorem dL_law_590 : decode code 590 = .ok (.aload_n 0, 1) := by decide +kernel
theorem dL_law_591 : decode code 591 = .ok (.iload_n 3, 1) := by decide +kernel
theorem dL_law_592 : decode code 592 = .ok (.iconst 1, 1) := by decide +kernel
theorem dL_law_593 : decode code 593 = .ok (.iadd, 1) := by decide +kernel
theorem dL_law_594 : decode code 594 = .ok (.iaload, 1) := by decide +kernel
theorem dL_law_595 : decode code 595 = .ok (.aload_n 0, 1) := by decide +kernel
theorem dL_law_596 : decode code 596 = .ok (.iload_n 3, 1) := by decide +kernel
theorem dL_law_597 : decode code 597 = .ok (.iconst 2, 1) := by decide +kernel
theorem dL_law_598 : decode code 598 = .ok (.iadd, 1) := by decide +kernel
theorem dL_law_599 : decode code 599 = .ok (.iaload, 1) := by decide +kernel
theorem dL_law_600 : decode code 600 = .ok (.aload_n 0, 1) := by decide +kernel
theorem dL_law_601 : decode code 601 = .ok (.iload_n 3, 1) := by decide +kernel
theorem dL_law_602 : decode code 602 = .ok (.iconst 3, 1) := by decide +kernel
theorem dL_law_603 : decode code 603 = .ok (.iadd, 1) := by decide +kernel
theorem dL_law_604 : decode code 604 = .ok (.iaload, 1) := by decide +kernel
theorem dL_law_605 : decode code 605 = .ok (.invokevirtual 79, 3) := by decide +kernel
theorem dL_law_608 : decode code 608 = .ok (.aload_n 2, 1) := by decide +kernel
theorem dL_law_609 : decode code 609 = .ok (.aload_n 0, 1) := by decide +kernel
theorem dL_law_610 : decode code 610 = .ok (.iload_n 3, 1) := by decide +kernel
theorem dL_law_611 : decode code 611 = .ok (.iconst 1, 1) := by decide +kernel
theorem dL_law_612 : decode code 612 = .ok (.iadd, 1) := by decide +kernel
theorem dL_law_613 : decode code 613 = .ok (.iaload, 1) := by decide +kernel
theorem dL_law_614 : decode code 614 = .ok (.aload_n 0, 1) := by decide +kernel
theorem dL_law_615 : decode code 615 = .ok (.iload_n 3, 1) := by decide +kernel
theorem dL_law_616 : decode code 616 = .ok (.iconst 2, 1) := by decide +kernel
theorem dL_law_617 : decode code 617 = .ok (.iadd, 1) := by decide +kernel
theorem dL_law_618 : decode code 618 = .ok (.iaload, 1) := by decide +kernel
theorem dL_law_619 : decode code 619 = .ok (.aload_n 0, 1) := by decide +kernel
theorem dL_law_620 : decode code 620 = .ok (.iload_n 3, 1) := by decide +kernel
theorem dL_law_621 : decode code 621 = .ok (.iconst 3, 1) := by decide +kernel
theorem dL_law_622 : decode code 622 = .ok (.iadd, 1) := by decide +kernel
theorem dL_law_623 : decode code 623 = .ok (.iaload, 1) := by decide +kernel
theorem dL_law_624 : decode code 624 = .ok (.invokevirtual 83, 3) := by decide +kernel
theorem dL_law_627 : decode code 627 = .ok (.if_icmp .eq 539, 3) := by decide +kernel
theorem dL_law_630 : decode code 630 = .ok (.iconst 0, 1) := by decide +kernel
theorem dL_law_631 : decode code 631 = .ok (.ireturn, 1) := by decide +kernel
theorem dL_law_632 : decode code 632 = .ok (.aload_n 1, 1) := by decide +kernel
theorem dL_law_633 : decode code 633 = .ok (.invokevirtual 84, 3) := by decide +kernel
theorem dL_law_636 : decode code 636 = .ok (.aload_n 2, 1) := by decide +kernel
theorem dL_law_637 : decode code 637 = .ok (.invokevirtual 87, 3) := by decide +kernel
theorem dL_law_640 : decode code 640 = .ok (.if_icmp .eq 526, 3) := by decide +kernel
theorem dL_law_643 : decode code 643 = .ok (.iconst 0, 1) := by decide +kernel
theorem dL_law_644 : decode code 644 = .ok (.ireturn, 1) := by decide +kernel
theorem dL_law_645 : decode code 645 = .ok (.aload_n 1, 1) := by decide +kernel
theorem dL_law_646 : decode code 646 = .ok (.aload_n 0, 1) := by decide +kernel
theorem dL_law_647 : decode code 647 = .ok (.iload_n 3, 1) := by decide +kernel
theorem dL_law_648 : decode code 648 = .ok (.iconst 1, 1) := by decide +kernel
theorem dL_law_649 : decode code 649 = .ok (.iadd, 1) := by decide +kernel
theorem dL_law_650 : decode code 650 = .ok (.iaload, 1) := by decide +kernel
theorem dL_law_651 : decode code 651 = .ok (.invokevirtual 88, 3) := by decide +kernel
theorem dL_law_654 : decode code 654 = .ok (.aload_n 2, 1) := by decide +kernel
theorem dL_law_655 : decode code 655 = .ok (.aload_n 0, 1) := by decide +kernel
theorem dL_law_656 : decode code 656 = .ok (.iload_n 3, 1) := by decide +kernel
theorem dL_law_657 : decode code 657 = .ok (.iconst 1, 1) := by decide +kernel
theorem dL_law_658 : decode code 658 = .ok (.iadd, 1) := by decide +kernel
theorem dL_law_659 : decode code 659 = .ok (.iaload, 1) := by decide +kernel
theorem dL_law_660 : decode code 660 = .ok (.invokevirtual 91, 3) := by decide +kernel
theorem dL_law_663 : decode code 663 = .ok (.if_icmp .eq 503, 3) := by decide +kernel
theorem dL_law_666 : decode code 666 = .ok (.iconst 0, 1) := by decide +kernel
theorem dL_law_667 : decode code 667 = .ok (.ireturn, 1) := by decide +kernel
theorem dL_law_668 : decode code 668 = .ok (.aload_n 1, 1) := by decide +kernel
theorem dL_law_669 : decode code 669 = .ok (.aload_n 0, 1) := by decide +kernel
theorem dL_law_670 : decode code 670 = .ok (.iload_n 3, 1) := by decide +kernel
theorem dL_law_671 : decode code 671 = .ok (.iconst 1, 1) := by decide +kernel
theorem dL_law_672 : decode code 672 = .ok (.iadd, 1) := by decide +kernel
theorem dL_law_673 : decode code 673 = .ok (.iaload, 1) := by decide +kernel
theorem dL_law_674 : decode code 674 = .ok (.invokevirtual 92, 3) := by decide +kernel
theorem dL_law_677 : decode code 677 = .ok (.aload_n 2, 1) := by decide +kernel
theorem dL_law_678 : decode code 678 = .ok (.aload_n 0, 1) := by decide +kernel
theorem dL_law_679 : decode code 679 = .ok (.iload_n 3, 1) := by decide +kernel
theorem dL_law_680 : decode code 680 = .ok (.iconst 1, 1) := by decide +kernel
theorem dL_law_681 : decode code 681 = .ok (.iadd, 1) := by decide +kernel
theorem dL_law_682 : decode code 682 = .ok (.iaload, 1) := by decide +kernel
theorem dL_law_683 : decode code 683 = .ok (.invokevirtual 95, 3) := by decide +kernel
theorem dL_law_686 : decode code 686 = .ok (.if_icmp .eq 480, 3) := by decide +kernel
theorem dL_law_689 : decode code 689 = .ok (.iconst 0, 1) := by decide +kernel
theorem dL_law_690 : decode code 690 = .ok (.ireturn, 1) := by decide +kernel
theorem dL_law_691 : decode code 691 = .ok (.aload_n 1, 1) := by decide +kernel
theorem dL_law_692 : decode code 692 = .ok (.aload_n 0, 1) := by decide +kernel
theorem dL_law_693 : decode code 693 = .ok (.iload_n 3, 1) := by decide +kernel
theorem dL_law_694 : decode code 694 = .ok (.iconst 1, 1) := by decide +kernel
theorem dL_law_695 : decode code 695 = .ok (.iadd, 1) := by decide +kernel
theorem dL_law_696 : decode code 696 = .ok (.iaload, 1) := by decide +kernel
theorem dL_law_697 : decode code 697 = .ok (.invokevirtual 96, 3) := by decide +kernel
theorem dL_law_700 : decode code 700 = .ok (.aload_n 2, 1) := by decide +kernel
theorem dL_law_701 : decode code 701 = .ok (.aload_n 0, 1) := by decide +kernel
theorem dL_law_702 : decode code 702 = .ok (.iload_n 3, 1) := by decide +kernel
theorem dL_law_703 : decode code 703 = .ok (.iconst 1, 1) := by decide +kernel
theorem dL_law_704 : decode code 704 = .ok (.iadd, 1) := by decide +kernel
theorem dL_law_705 : decode code 705 = .ok (.iaload, 1) := by decide +kernel
theorem dL_law_706 : decode code 706 = .ok (.invokevirtual 99, 3) := by decide +kernel
theorem dL_law_709 : decode code 709 = .ok (.if_icmp .eq 457, 3) := by decide +kernel
theorem dL_law_712 : decode code 712 = .ok (.iconst 0, 1) := by decide +kernel
theorem dL_law_713 : decode code 713 = .ok (.ireturn, 1) := by decide +kernel
theorem dL_law_714 : decode code 714 = .ok (.aload_n 1, 1) := by decide +kernel
theorem dL_law_715 : decode code 715 = .ok (.aload_n 0, 1) := by decide +kernel
theorem dL_law_716 : decode code 716 = .ok (.iload_n 3, 1) := by decide +kernel
theorem dL_law_717 : decode code 717 = .ok (.iconst 1, 1) := by decide +kernel
theorem dL_law_718 : decode code 718 = .ok (.iadd, 1) := by decide +kernel
theorem dL_law_719 : decode code 719 = .ok (.iaload, 1) := by decide +kernel
theorem dL_law_720 : decode code 720 = .ok (.invokevirtual 100, 3) := by decide +kernel
theorem dL_law_723 : decode code 723 = .ok (.aload_n 2, 1) := by decide +kernel
theorem dL_law_724 : decode code 724 = .ok (.aload_n 0, 1) := by decide +kernel
theorem dL_law_725 : decode code 725 = .ok (.iload_n 3, 1) := by decide +kernel
theorem dL_law_726 : decode code 726 = .ok (.iconst 1, 1) := by decide +kernel
theorem dL_law_727 : decode code 727 = .ok (.iadd, 1) := by decide +kernel
theorem dL_law_728 : decode code 728 = .ok (.iaload, 1) := by decide +kernel
theorem dL_law_729 : decode code 729 = .ok (.invokevirtual 103, 3) := by decide +kernel
theorem dL_law_732 : decode code 732 = .ok (.if_icmp .eq 434, 3) := by decide +kernel
theorem dL_law_735 : decode code 735 = .ok (.iconst 0, 1) := by decide +kernel
theorem dL_law_736 : decode code 736 = .ok (.ireturn, 1) := by decide +kernel
theorem dL_law_737 : decode code 737 = .ok (.aload_n 1, 1) := by decide +kernel
theorem dL_law_738 : decode code 738 = .ok (.invokevirtual 104, 3) := by decide +kernel
theorem dL_law_741 : decode code 741 = .ok (.aload_n 2, 1) := by decide +kernel
theorem dL_law_742 : decode code 742 = .ok (.invokevirtual 107, 3) := by decide +kernel
theorem dL_law_745 : decode code 745 = .ok (.if_icmp .eq 421, 3) := by decide +kernel
theorem dL_law_748 : decode code 748 = .ok (.iconst 0, 1) := by decide +kernel
theorem dL_law_749 : decode code 749 = .ok (.ireturn, 1) := by decide +kernel
theorem dL_law_750 : decode code 750 = .ok (.aload_n 1, 1) := by decide +kernel
theorem dL_law_751 : decode code 751 = .ok (.aload_n 0, 1) := by decide +kernel
theorem dL_law_752 : decode code 752 = .ok (.iload_n 3, 1) := by decide +kernel
theorem dL_law_753 : decode code 753 = .ok (.iconst 1, 1) := by decide +kernel
theorem dL_law_754 : decode code 754 = .ok (.iadd, 1) := by decide +kernel
theorem dL_law_755 : decode code 755 = .ok (.iaload, 1) := by decide +kernel
theorem dL_law_756 : decode code 756 = .ok (.aload_n 0, 1) := by decide +kernel
theorem dL_law_757 : decode code 757 = .ok (.iload_n 3, 1) := by decide +kernel
theorem dL_law_758 : decode code 758 = .ok (.iconst 2, 1) := by decide +kernel
theorem dL_law_759 : decode code 759 = .ok (.iadd, 1) := by decide +kernel
theorem dL_law_760 : decode code 760 = .ok (.iaload, 1) := by decide +kernel
theorem dL_law_761 : decode code 761 = .ok (.invokevirtual 108, 3) := by decide +kernel
theorem dL_law_764 : decode code 764 = .ok (.aload_n 2, 1) := by decide +kernel
theorem dL_law_765 : decode code 765 = .ok (.aload_n 0, 1) := by decide +kernel
theorem dL_law_766 : decode code 766 = .ok (.iload_n 3, 1) := by decide +kernel
theorem dL_law_767 : decode code 767 = .ok (.iconst 1, 1) := by decide +kernel
theorem dL_law_768 : decode code 768 = .ok (.iadd, 1) := by decide +kernel
theorem dL_law_769 : decode code 769 = .ok (.iaload, 1) := by decide +kernel
theorem dL_law_770 : decode code 770 = .ok (.aload_n 0, 1) := by decide +kernel
theorem dL_law_771 : decode code 771 = .ok (.iload_n 3, 1) := by decide +kernel
theorem dL_law_772 : decode code 772 = .ok (.iconst 2, 1) := by decide +kernel
theorem dL_law_773 : decode code 773 = .ok (.iadd, 1) := by decide +kernel
theorem dL_law_774 : decode code 774 = .ok (.iaload, 1) := by decide +kernel
theorem dL_law_775 : decode code 775 = .ok (.invokevirtual 111, 3) := by decide +kernel
theorem dL_law_778 : decode code 778 = .ok (.if_icmp .eq 388, 3) := by decide +kernel
theorem dL_law_781 : decode code 781 = .ok (.iconst 0, 1) := by decide +kernel
theorem dL_law_782 : decode code 782 = .ok (.ireturn, 1) := by decide +kernel
theorem dL_law_783 : decode code 783 = .ok (.aload_n 1, 1) := by decide +kernel
theorem dL_law_784 : decode code 784 = .ok (.aload_n 0, 1) := by decide +kernel
theorem dL_law_785 : decode code 785 = .ok (.iload_n 3, 1) := by decide +kernel
theorem dL_law_786 : decode code 786 = .ok (.iconst 1, 1) := by decide +kernel
theorem dL_law_787 : decode code 787 = .ok (.iadd, 1) := by decide +kernel
theorem dL_law_788 : decode code 788 = .ok (.iaload, 1) := by decide +kernel
theorem dL_law_789 : decode code 789 = .ok (.invokevirtual 112, 3) := by decide +kernel
theorem dL_law_792 : decode code 792 = .ok (.aload_n 2, 1) := by decide +kernel
theorem dL_law_793 : decode code 793 = .ok (.aload_n 0, 1) := by decide +kernel
theorem dL_law_794 : decode code 794 = .ok (.iload_n 3, 1) := by decide +kernel
theorem dL_law_795 : decode code 795 = .ok (.iconst 1, 1) := by decide +kernel
theorem dL_law_796 : decode code 796 = .ok (.iadd, 1) := by decide +kernel
theorem dL_law_797 : decode code 797 = .ok (.iaload, 1) := by decide +kernel
theorem dL_law_798 : decode code 798 = .ok (.invokevirtual 115, 3) := by decide +kernel
theorem dL_law_801 : decode code 801 = .ok (.if_icmp .eq 365, 3) := by decide +kernel
theorem dL_law_804 : decode code 804 = .ok (.iconst 0, 1) := by decide +kernel
theorem dL_law_805 : decode code 805 = .ok (.ireturn, 1) := by decide +kernel
theorem dL_law_806 : decode code 806 = .ok (.aload_n 1, 1) := by decide +kernel
theorem dL_law_807 : decode code 807 = .ok (.invokevirtual 116, 3) := by decide +kernel
theorem dL_law_810 : decode code 810 = .ok (.aload_n 2, 1) := by decide +kernel
theorem dL_law_811 : decode code 811 = .ok (.invokevirtual 119, 3) := by decide +kernel
theorem dL_law_814 : decode code 814 = .ok (.if_icmp .eq 352, 3) := by decide +kernel
theorem dL_law_817 : decode code 817 = .ok (.iconst 0, 1) := by decide +kernel
theorem dL_law_818 : decode code 818 = .ok (.ireturn, 1) := by decide +kernel
theorem dL_law_819 : decode code 819 = .ok (.aload_n 1, 1) := by decide +kernel
theorem dL_law_820 : decode code 820 = .ok (.invokevirtual 120, 3) := by decide +kernel
theorem dL_law_823 : decode code 823 = .ok (.aload_n 2, 1) := by decide +kernel
theorem dL_law_824 : decode code 824 = .ok (.invokevirtual 123, 3) := by decide +kernel
theorem dL_law_827 : decode code 827 = .ok (.if_icmp .eq 339, 3) := by decide +kernel
theorem dL_law_830 : decode code 830 = .ok (.iconst 0, 1) := by decide +kernel
theorem dL_law_831 : decode code 831 = .ok (.ireturn, 1) := by decide +kernel
theorem dL_law_832 : decode code 832 = .ok (.aload_n 1, 1) := by decide +kernel
theorem dL_law_833 : decode code 833 = .ok (.invokevirtual 124, 3) := by decide +kernel
theorem dL_law_836 : decode code 836 = .ok (.aload_n 2, 1) := by decide +kernel
theorem dL_law_837 : decode code 837 = .ok (.invokevirtual 127, 3) := by decide +kernel
theorem dL_law_840 : decode code 840 = .ok (.if_icmp .eq 326, 3) := by decide +kernel
theorem dL_law_843 : decode code 843 = .ok (.iconst 0, 1) := by decide +kernel
theorem dL_law_844 : decode code 844 = .ok (.ireturn, 1) := by decide +kernel
theorem dL_law_845 : decode code 845 = .ok (.aload_n 1, 1) := by decide +kernel
theorem dL_law_846 : decode code 846 = .ok (.aload_n 0, 1) := by decide +kernel
theorem dL_law_847 : decode code 847 = .ok (.iload_n 3, 1) := by decide +kernel
theorem dL_law_848 : decode code 848 = .ok (.iconst 1, 1) := by decide +kernel
theorem dL_law_849 : decode code 849 = .ok (.iadd, 1) := by decide +kernel
theorem dL_law_850 : decode code 850 = .ok (.iaload, 1) := by decide +kernel
theorem dL_law_851 : decode code 851 = .ok (.aload_n 0, 1) := by decide +kernel
theorem dL_law_852 : decode code 852 = .ok (.iload_n 3, 1) := by decide +kernel
theorem dL_law_853 : decode code 853 = .ok (.iconst 2, 1) := by decide +kernel
theorem dL_law_854 : decode code 854 = .ok (.iadd, 1) := by decide +kernel
theorem dL_law_855 : decode code 855 = .ok (.iaload, 1) := by decide +kernel
theorem dL_law_856 : decode code 856 = .ok (.aload_n 0, 1) := by decide +kernel
theorem dL_law_857 : decode code 857 = .ok (.iload_n 3, 1) := by decide +kernel
theorem dL_law_858 : decode code 858 = .ok (.iconst 3, 1) := by decide +kernel
theorem dL_law_859 : decode code 859 = .ok (.iadd, 1) := by decide +kernel
theorem dL_law_860 : decode code 860 = .ok (.iaload, 1) := by decide +kernel
theorem dL_law_861 : decode code 861 = .ok (.aload_n 0, 1) := by decide +kernel
theorem dL_law_862 : decode code 862 = .ok (.iload_n 3, 1) := by decide +kernel
theorem dL_law_863 : decode code 863 = .ok (.iconst 4, 1) := by decide +kernel
theorem dL_law_864 : decode code 864 = .ok (.iadd, 1) := by decide +kernel
theorem dL_law_865 : decode code 865 = .ok (.iaload, 1) := by decide +kernel
theorem dL_law_866 : decode code 866 = .ok (.invokevirtual 128, 3) := by decide +kernel
theorem dL_law_869 : decode code 869 = .ok (.aload_n 2, 1) := by decide +kernel
theorem dL_law_870 : decode code 870 = .ok (.aload_n 0, 1) := by decide +kernel
theorem dL_law_871 : decode code 871 = .ok (.iload_n 3, 1) := by decide +kernel
theorem dL_law_872 : decode code 872 = .ok (.iconst 1, 1) := by decide +kernel
theorem dL_law_873 : decode code 873 = .ok (.iadd, 1) := by decide +kernel
theorem dL_law_874 : decode code 874 = .ok (.iaload, 1) := by decide +kernel
theorem dL_law_875 : decode code 875 = .ok (.aload_n 0, 1) := by decide +kernel
theorem dL_law_876 : decode code 876 = .ok (.iload_n 3, 1) := by decide +kernel
theorem dL_law_877 : decode code 877 = .ok (.iconst 2, 1) := by decide +kernel
theorem dL_law_878 : decode code 878 = .ok (.iadd, 1) := by decide +kernel
theorem dL_law_879 : decode code 879 = .ok (.iaload, 1) := by decide +kernel
theorem dL_law_880 : decode code 880 = .ok (.aload_n 0, 1) := by decide +kernel
theorem dL_law_881 : decode code 881 = .ok (.iload_n 3, 1) := by decide +kernel
theorem dL_law_882 : decode code 882 = .ok (.iconst 3, 1) := by decide +kernel
theorem dL_law_883 : decode code 883 = .ok (.iadd, 1) := by decide +kernel
theorem dL_law_884 : decode code 884 = .ok (.iaload, 1) := by decide +kernel
theorem dL_law_885 : decode code 885 = .ok (.aload_n 0, 1) := by decide +kernel
theorem dL_law_886 : decode code 886 = .ok (.iload_n 3, 1) := by decide +kernel
theorem dL_law_887 : decode code 887 = .ok (.iconst 4, 1) := by decide +kernel
theorem dL_law_888 : decode code 888 = .ok (.iadd, 1) := by decide +kernel
theorem dL_law_889 : decode code 889 = .ok (.iaload, 1) := by decide +kernel
theorem dL_law_890 : decode code 890 = .ok (.invokevirtual 132, 3) := by decide +kernel
theorem dL_law_893 : decode code 893 = .ok (.if_icmp .eq 273, 3) := by decide +kernel
theorem dL_law_896 : decode code 896 = .ok (.iconst 0, 1) := by decide +kernel
theorem dL_law_897 : decode code 897 = .ok (.ireturn, 1) := by decide +kernel
theorem dL_law_898 : decode code 898 = .ok (.aload_n 1, 1) := by decide +kernel
theorem dL_law_899 : decode code 899 = .ok (.aload_n 0, 1) := by decide +kernel
theorem dL_law_900 : decode code 900 = .ok (.iload_n 3, 1) := by decide +kernel
theorem dL_law_901 : decode code 901 = .ok (.iconst 1, 1) := by decide +kernel
theorem dL_law_902 : decode code 902 = .ok (.iadd, 1) := by decide +kernel
theorem dL_law_903 : decode code 903 = .ok (.iaload, 1) := by decide +kernel
theorem dL_law_904 : decode code 904 = .ok (.invokevirtual 133, 3) := by decide +kernel
theorem dL_law_907 : decode code 907 = .ok (.aload_n 2, 1) := by decide +kernel
theorem dL_law_908 : decode code 908 = .ok (.aload_n 0, 1) := by decide +kernel
theorem dL_law_909 : decode code 909 = .ok (.iload_n 3, 1) := by decide +kernel
theorem dL_law_910 : decode code 910 = .ok (.iconst 1, 1) := by decide +kernel
theorem dL_law_911 : decode code 911 = .ok (.iadd, 1) := by decide +kernel
theorem dL_law_912 : decode code 912 = .ok (.iaload, 1) := by decide +kernel
theorem dL_law_913 : decode code 913 = .ok (.invokevirtual 136, 3) := by decide +kernel
theorem dL_law_916 : decode code 916 = .ok (.if_icmp .eq 250, 3) := by decide +kernel
theorem dL_law_919 : decode code 919 = .ok (.iconst 0, 1) := by decide +kernel
theorem dL_law_920 : decode code 920 = .ok (.ireturn, 1) := by decide +kernel
theorem dL_law_921 : decode code 921 = .ok (.aload_n 1, 1) := by decide +kernel
theorem dL_law_922 : decode code 922 = .ok (.aload_n 0, 1) := by decide +kernel
theorem dL_law_923 : decode code 923 = .ok (.iload_n 3, 1) := by decide +kernel
theorem dL_law_924 : decode code 924 = .ok (.iconst 1, 1) := by decide +kernel
theorem dL_law_925 : decode code 925 = .ok (.iadd, 1) := by decide +kernel
theorem dL_law_926 : decode code 926 = .ok (.iaload, 1) := by decide +kernel
theorem dL_law_927 : decode code 927 = .ok (.aload_n 0, 1) := by decide +kernel
theorem dL_law_928 : decode code 928 = .ok (.iload_n 3, 1) := by decide +kernel
theorem dL_law_929 : decode code 929 = .ok (.iconst 2, 1) := by decide +kernel
theorem dL_law_930 : decode code 930 = .ok (.iadd, 1) := by decide +kernel
theorem dL_law_931 : decode code 931 = .ok (.iaload, 1) := by decide +kernel
theorem dL_law_932 : decode code 932 = .ok (.aload_n 0, 1) := by decide +kernel
theorem dL_law_933 : decode code 933 = .ok (.iload_n 3, 1) := by decide +kernel
theorem dL_law_934 : decode code 934 = .ok (.iconst 3, 1) := by decide +kernel
theorem dL_law_935 : decode code 935 = .ok (.iadd, 1) := by decide +kernel
theorem dL_law_936 : decode code 936 = .ok (.iaload, 1) := by decide +kernel
theorem dL_law_937 : decode code 937 = .ok (.invokevirtual 137, 3) := by decide +kernel
theorem dL_law_940 : decode code 940 = .ok (.aload_n 2, 1) := by decide +kernel
theorem dL_law_941 : decode code 941 = .ok (.aload_n 0, 1) := by decide +kernel
theorem dL_law_942 : decode code 942 = .ok (.iload_n 3, 1) := by decide +kernel
theorem dL_law_943 : decode code 943 = .ok (.iconst 1, 1) := by decide +kernel
theorem dL_law_944 : decode code 944 = .ok (.iadd, 1) := by decide +kernel
theorem dL_law_945 : decode code 945 = .ok (.iaload, 1) := by decide +kernel
theorem dL_law_946 : decode code 946 = .ok (.aload_n 0, 1) := by decide +kernel
theorem dL_law_947 : decode code 947 = .ok (.iload_n 3, 1) := by decide +kernel
theorem dL_law_948 : decode code 948 = .ok (.iconst 2, 1) := by decide +kernel
theorem dL_law_949 : decode code 949 = .ok (.iadd, 1) := by decide +kernel
theorem dL_law_950 : decode code 950 = .ok (.iaload, 1) := by decide +kernel
theorem dL_law_951 : decode code 951 = .ok (.aload_n 0, 1) := by decide +kernel
theorem dL_law_952 : decode code 952 = .ok (.iload_n 3, 1) := by decide +kernel
theorem dL_law_953 : decode code 953 = .ok (.iconst 3, 1) := by decide +kernel
theorem dL_law_954 : decode code 954 = .ok (.iadd, 1) := by decide +kernel
theorem dL_law_955 : decode code 955 = .ok (.iaload, 1) := by decide +kernel
theorem dL_law_956 : decode code 956 = .ok (.invokevirtual 140, 3) := by decide +kernel
theorem dL_law_959 : decode code 959 = .ok (.if_icmp .eq 207, 3) := by decide +kernel
theorem dL_law_962 : decode code 962 = .ok (.iconst 0, 1) := by decide +kernel
theorem dL_law_963 : decode code 963 = .ok (.ireturn, 1) := by decide +kernel
theorem dL_law_964 : decode code 964 = .ok (.aload_n 1, 1) := by decide +kernel
theorem dL_law_965 : decode code 965 = .ok (.aload_n 0, 1) := by decide +kernel
theorem dL_law_966 : decode code 966 = .ok (.iload_n 3, 1) := by decide +kernel
theorem dL_law_967 : decode code 967 = .ok (.iconst 1, 1) := by decide +kernel
theorem dL_law_968 : decode code 968 = .ok (.iadd, 1) := by decide +kernel
theorem dL_law_969 : decode code 969 = .ok (.iaload, 1) := by decide +kernel
theorem dL_law_970 : decode code 970 = .ok (.aload_n 0, 1) := by decide +kernel
theorem dL_law_971 : decode code 971 = .ok (.iload_n 3, 1) := by decide +kernel
theorem dL_law_972 : decode code 972 = .ok (.iconst 2, 1) := by decide +kernel
theorem dL_law_973 : decode code 973 = .ok (.iadd, 1) := by decide +kernel
theorem dL_law_974 : decode code 974 = .ok (.iaload, 1) := by decide +kernel
theorem dL_law_975 : decode code 975 = .ok (.aload_n 0, 1) := by decide +kernel
theorem dL_law_976 : decode code 976 = .ok (.iload_n 3, 1) := by decide +kernel
theorem dL_law_977 : decode code 977 = .ok (.iconst 3, 1) := by decide +kernel
theorem dL_law_978 : decode code 978 = .ok (.iadd, 1) := by decide +kernel
theorem dL_law_979 : decode code 979 = .ok (.iaload, 1) := by decide +kernel
theorem dL_law_980 : decode code 980 = .ok (.invokevirtual 141, 3) := by decide +kernel
theorem dL_law_983 : decode code 983 = .ok (.aload_n 2, 1) := by decide +kernel
theorem dL_law_984 : decode code 984 = .ok (.aload_n 0, 1) := by decide +kernel
theorem dL_law_985 : decode code 985 = .ok (.iload_n 3, 1) := by decide +kernel
theorem dL_law_986 : decode code 986 = .ok (.iconst 1, 1) := by decide +kernel
theorem dL_law_987 : decode code 987 = .ok (.iadd, 1) := by decide +kernel
theorem dL_law_988 : decode code 988 = .ok (.iaload, 1) := by decide +kernel
theorem dL_law_989 : decode code 989 = .ok (.aload_n 0, 1) := by decide +kernel
theorem dL_law_990 : decode code 990 = .ok (.iload_n 3, 1) := by decide +kernel
theorem dL_law_991 : decode code 991 = .ok (.iconst 2, 1) := by decide +kernel
theorem dL_law_992 : decode code 992 = .ok (.iadd, 1) := by decide +kernel
theorem dL_law_993 : decode code 993 = .ok (.iaload, 1) := by decide +kernel
theorem dL_law_994 : decode code 994 = .ok (.aload_n 0, 1) := by decide +kernel
theorem dL_law_995 : decode code 995 = .ok (.iload_n 3, 1) := by decide +kernel
theorem dL_law_996 : decode code 996 = .ok (.iconst 3, 1) := by decide +kernel
theorem dL_law_997 : decode code 997 = .ok (.iadd, 1) := by decide +kernel
theorem dL_law_998 : decode code 998 = .ok (.iaload, 1) := by decide +kernel
theorem dL_law_999 : decode code 999 = .ok (.invokevirtual 144, 3) := by decide +kernel
theorem dL_law_1002 : decode code 1002 = .ok (.if_icmp .eq 164, 3) := by decide +kernel
theorem dL_law_1005 : decode code 1005 = .ok (.iconst 0, 1) := by decide +kernel
theorem dL_law_1006 : decode code 1006 = .ok (.ireturn, 1) := by decide +kernel
theorem dL_law_1007 : decode code 1007 = .ok (.aload_n 1, 1) := by decide +kernel
theorem dL_law_1008 : decode code 1008 = .ok (.aload_n 0, 1) := by decide +kernel
theorem dL_law_1009 : decode code 1009 = .ok (.iload_n 3, 1) := by decide +kernel
theorem dL_law_1010 : decode code 1010 = .ok (.iconst 1, 1) := by decide +kernel
theorem dL_law_1011 : decode code 1011 = .ok (.iadd, 1) := by decide +kernel
theorem dL_law_1012 : decode code 1012 = .ok (.iaload, 1) := by decide +kernel
theorem dL_law_1013 : decode code 1013 = .ok (.aload_n 0, 1) := by decide +kernel
theorem dL_law_1014 : decode code 1014 = .ok (.iload_n 3, 1) := by decide +kernel
theorem dL_law_1015 : decode code 1015 = .ok (.iconst 2, 1) := by decide +kernel
theorem dL_law_1016 : decode code 1016 = .ok (.iadd, 1) := by decide +kernel
theorem dL_law_1017 : decode code 1017 = .ok (.iaload, 1) := by decide +kernel
theorem dL_law_1018 : decode code 1018 = .ok (.aload_n 0, 1) := by decide +kernel
theorem dL_law_1019 : decode code 1019 = .ok (.iload_n 3, 1) := by decide +kernel
theorem dL_law_1020 : decode code 1020 = .ok (.iconst 3, 1) := by decide +kernel
theorem dL_law_1021 : decode code 1021 = .ok (.iadd, 1) := by decide +kernel
theorem dL_law_1022 : decode code 1022 = .ok (.iaload, 1) := by decide +kernel
theorem dL_law_1023 : decode code 1023 = .ok (.aload_n 0, 1) := by decide +kernel
theorem dL_law_1024 : decode code 1024 = .ok (.iload_n 3, 1) := by decide +kernel
theorem dL_law_1025 : decode code 1025 = .ok (.iconst 4, 1) := by decide +kernel
theorem dL_law_1026 : decode code 1026 = .ok (.iadd, 1) := by decide +kernel
theorem dL_law_1027 : decode code 1027 = .ok (.iaload, 1) := by decide +kernel
theorem dL_law_1028 : decode code 1028 = .ok (.aload_n 0, 1) := by decide +kernel
theorem dL_law_1029 : decode code 1029 = .ok (.iload_n 3, 1) := by decide +kernel
theorem dL_law_1030 : decode code 1030 = .ok (.iconst 5, 1) := by decide +kernel
theorem dL_law_1031 : decode code 1031 = .ok (.iadd, 1) := by decide +kernel
theorem dL_law_1032 : decode code 1032 = .ok (.iaload, 1) := by decide +kernel
theorem dL_law_1033 : decode code 1033 = .ok (.invokevirtual 145, 3) := by decide +kernel
theorem dL_law_1036 : decode code 1036 = .ok (.aload_n 2, 1) := by decide +kernel
theorem dL_law_1037 : decode code 1037 = .ok (.aload_n 0, 1) := by decide +kernel
theorem dL_law_1038 : decode code 1038 = .ok (.iload_n 3, 1) := by decide +kernel
theorem dL_law_1039 : decode code 1039 = .ok (.iconst 1, 1) := by decide +kernel
theorem dL_law_1040 : decode code 1040 = .ok (.iadd, 1) := by decide +kernel
theorem dL_law_1041 : decode code 1041 = .ok (.iaload, 1) := by decide +kernel
theorem dL_law_1042 : decode code 1042 = .ok (.aload_n 0, 1) := by decide +kernel
theorem dL_law_1043 : decode code 1043 = .ok (.iload_n 3, 1) := by decide +kernel
theorem dL_law_1044 : decode code 1044 = .ok (.iconst 2, 1) := by decide +kernel
theorem dL_law_1045 : decode code 1045 = .ok (.iadd, 1) := by decide +kernel
theorem dL_law_1046 : decode code 1046 = .ok (.iaload, 1) := by decide +kernel
theorem dL_law_1047 : decode code 1047 = .ok (.aload_n 0, 1) := by decide +kernel
theorem dL_law_1048 : decode code 1048 = .ok (.iload_n 3, 1) := by decide +kernel
theorem dL_law_1049 : decode code 1049 = .ok (.iconst 3, 1) := by decide +kernel
theorem dL_law_1050 : decode code 1050 = .ok (.iadd, 1) := by decide +kernel
theorem dL_law_1051 : decode code 1051 = .ok (.iaload, 1) := by decide +kernel
theorem dL_law_1052 : decode code 1052 = .ok (.aload_n 0, 1) := by decide +kernel
theorem dL_law_1053 : decode code 1053 = .ok (.iload_n 3, 1) := by decide +kernel
theorem dL_law_1054 : decode code 1054 = .ok (.iconst 4, 1) := by decide +kernel
theorem dL_law_1055 : decode code 1055 = .ok (.iadd, 1) := by decide +kernel
theorem dL_law_1056 : decode code 1056 = .ok (.iaload, 1) := by decide +kernel
theorem dL_law_1057 : decode code 1057 = .ok (.aload_n 0, 1) := by decide +kernel
theorem dL_law_1058 : decode code 1058 = .ok (.iload_n 3, 1) := by decide +kernel
theorem dL_law_1059 : decode code 1059 = .ok (.iconst 5, 1) := by decide +kernel
theorem dL_law_1060 : decode code 1060 = .ok (.iadd, 1) := by decide +kernel
theorem dL_law_1061 : decode code 1061 = .ok (.iaload, 1) := by decide +kernel
theorem dL_law_1062 : decode code 1062 = .ok (.invokevirtual 149, 3) := by decide +kernel
theorem dL_law_1065 : decode code 1065 = .ok (.if_icmp .eq 101, 3) := by decide +kernel
theorem dL_law_1068 : decode code 1068 = .ok (.iconst 0, 1) := by decide +kernel
theorem dL_law_1069 : decode code 1069 = .ok (.ireturn, 1) := by decide +kernel
theorem dL_law_1070 : decode code 1070 = .ok (.aload_n 1, 1) := by decide +kernel
theorem dL_law_1071 : decode code 1071 = .ok (.aload_n 0, 1) := by decide +kernel
theorem dL_law_1072 : decode code 1072 = .ok (.iload_n 3, 1) := by decide +kernel
theorem dL_law_1073 : decode code 1073 = .ok (.iconst 1, 1) := by decide +kernel
theorem dL_law_1074 : decode code 1074 = .ok (.iadd, 1) := by decide +kernel
theorem dL_law_1075 : decode code 1075 = .ok (.iaload, 1) := by decide +kernel
theorem dL_law_1076 : decode code 1076 = .ok (.aload_n 0, 1) := by decide +kernel
theorem dL_law_1077 : decode code 1077 = .ok (.iload_n 3, 1) := by decide +kernel
theorem dL_law_1078 : decode code 1078 = .ok (.iconst 2, 1) := by decide +kernel
theorem dL_law_1079 : decode code 1079 = .ok (.iadd, 1) := by decide +kernel
theorem dL_law_1080 : decode code 1080 = .ok (.iaload, 1) := by decide +kernel
theorem dL_law_1081 : decode code 1081 = .ok (.aload_n 0, 1) := by decide +kernel
theorem dL_law_1082 : decode code 1082 = .ok (.iload_n 3, 1) := by decide +kernel
theorem dL_law_1083 : decode code 1083 = .ok (.iconst 3, 1) := by decide +kernel
theorem dL_law_1084 : decode code 1084 = .ok (.iadd, 1) := by decide +kernel
theorem dL_law_1085 : decode code 1085 = .ok (.iaload, 1) := by decide +kernel
theorem dL_law_1086 : decode code 1086 = .ok (.aload_n 0, 1) := by decide +kernel
theorem dL_law_1087 : decode code 1087 = .ok (.iload_n 3, 1) := by decide +kernel
theorem dL_law_1088 : decode code 1088 = .ok (.iconst 4, 1) := by decide +kernel
theorem dL_law_1089 : decode code 1089 = .ok (.iadd, 1) := by decide +kernel
theorem dL_law_1090 : decode code 1090 = .ok (.iaload, 1) := by decide +kernel
theorem dL_law_1091 : decode code 1091 = .ok (.invokevirtual 150, 3) := by decide +kernel
theorem dL_law_1094 : decode code 1094 = .ok (.aload_n 2, 1) := by decide +kernel
theorem dL_law_1095 : decode code 1095 = .ok (.aload_n 0, 1) := by decide +kernel
theorem dL_law_1096 : decode code 1096 = .ok (.iload_n 3, 1) := by decide +kernel
theorem dL_law_1097 : decode code 1097 = .ok (.iconst 1, 1) := by decide +kernel
theorem dL_law_1098 : decode code 1098 = .ok (.iadd, 1) := by decide +kernel
theorem dL_law_1099 : decode code 1099 = .ok (.iaload, 1) := by decide +kernel
theorem dL_law_1100 : decode code 1100 = .ok (.aload_n 0, 1) := by decide +kernel
theorem dL_law_1101 : decode code 1101 = .ok (.iload_n 3, 1) := by decide +kernel
theorem dL_law_1102 : decode code 1102 = .ok (.iconst 2, 1) := by decide +kernel
theorem dL_law_1103 : decode code 1103 = .ok (.iadd, 1) := by decide +kernel
theorem dL_law_1104 : decode code 1104 = .ok (.iaload, 1) := by decide +kernel
theorem dL_law_1105 : decode code 1105 = .ok (.aload_n 0, 1) := by decide +kernel
theorem dL_law_1106 : decode code 1106 = .ok (.iload_n 3, 1) := by decide +kernel
theorem dL_law_1107 : decode code 1107 = .ok (.iconst 3, 1) := by decide +kernel
theorem dL_law_1108 : decode code 1108 = .ok (.iadd, 1) := by decide +kernel
theorem dL_law_1109 : decode code 1109 = .ok (.iaload, 1) := by decide +kernel
theorem dL_law_1110 : decode code 1110 = .ok (.aload_n 0, 1) := by decide +kernel
theorem dL_law_1111 : decode code 1111 = .ok (.iload_n 3, 1) := by decide +kernel
theorem dL_law_1112 : decode code 1112 = .ok (.iconst 4, 1) := by decide +kernel
theorem dL_law_1113 : decode code 1113 = .ok (.iadd, 1) := by decide +kernel
theorem dL_law_1114 : decode code 1114 = .ok (.iaload, 1) := by decide +kernel
theorem dL_law_1115 : decode code 1115 = .ok (.invokevirtual 153, 3) := by decide +kernel
theorem dL_law_1118 : decode code 1118 = .ok (.if_icmp .eq 48, 3) := by decide +kernel
theorem dL_law_1121 : decode code 1121 = .ok (.iconst 0, 1) := by decide +kernel
theorem dL_law_1122 : decode code 1122 = .ok (.ireturn, 1) := by decide +kernel
theorem dL_law_1123 : decode code 1123 = .ok (.aload_n 1, 1) := by decide +kernel
theorem dL_law_1124 : decode code 1124 = .ok (.aload_n 0, 1) := by decide +kernel
theorem dL_law_1125 : decode code 1125 = .ok (.iload_n 3, 1) := by decide +kernel
theorem dL_law_1126 : decode code 1126 = .ok (.iconst 1, 1) := by decide +kernel
theorem dL_law_1127 : decode code 1127 = .ok (.iadd, 1) := by decide +kernel
theorem dL_law_1128 : decode code 1128 = .ok (.iaload, 1) := by decide +kernel
theorem dL_law_1129 : decode code 1129 = .ok (.aload_n 0, 1) := by decide +kernel
theorem dL_law_1130 : decode code 1130 = .ok (.iload_n 3, 1) := by decide +kernel
theorem dL_law_1131 : decode code 1131 = .ok (.iconst 2, 1) := by decide +kernel
theorem dL_law_1132 : decode code 1132 = .ok (.iadd, 1) := by decide +kernel
theorem dL_law_1133 : decode code 1133 = .ok (.iaload, 1) := by decide +kernel
theorem dL_law_1134 : decode code 1134 = .ok (.aload_n 0, 1) := by decide +kernel
theorem dL_law_1135 : decode code 1135 = .ok (.iload_n 3, 1) := by decide +kernel
theorem dL_law_1136 : decode code 1136 = .ok (.iconst 3, 1) := by decide +kernel
theorem dL_law_1137 : decode code 1137 = .ok (.iadd, 1) := by decide +kernel
theorem dL_law_1138 : decode code 1138 = .ok (.iaload, 1) := by decide +kernel
theorem dL_law_1139 : decode code 1139 = .ok (.invokevirtual 154, 3) := by decide +kernel
theorem dL_law_1142 : decode code 1142 = .ok (.aload_n 2, 1) := by decide +kernel
theorem dL_law_1143 : decode code 1143 = .ok (.aload_n 0, 1) := by decide +kernel
theorem dL_law_1144 : decode code 1144 = .ok (.iload_n 3, 1) := by decide +kernel
theorem dL_law_1145 : decode code 1145 = .ok (.iconst 1, 1) := by decide +kernel
theorem dL_law_1146 : decode code 1146 = .ok (.iadd, 1) := by decide +kernel
theorem dL_law_1147 : decode code 1147 = .ok (.iaload, 1) := by decide +kernel
theorem dL_law_1148 : decode code 1148 = .ok (.aload_n 0, 1) := by decide +kernel
theorem dL_law_1149 : decode code 1149 = .ok (.iload_n 3, 1) := by decide +kernel
theorem dL_law_1150 : decode code 1150 = .ok (.iconst 2, 1) := by decide +kernel
theorem dL_law_1151 : decode code 1151 = .ok (.iadd, 1) := by decide +kernel
theorem dL_law_1152 : decode code 1152 = .ok (.iaload, 1) := by decide +kernel
theorem dL_law_1153 : decode code 1153 = .ok (.aload_n 0, 1) := by decide +kernel
theorem dL_law_1154 : decode code 1154 = .ok (.iload_n 3, 1) := by decide +kernel
theorem dL_law_1155 : decode code 1155 = .ok (.iconst 3, 1) := by decide +kernel
theorem dL_law_1156 : decode code 1156 = .ok (.iadd, 1) := by decide +kernel
theorem dL_law_1157 : decode code 1157 = .ok (.iaload, 1) := by decide +kernel
theorem dL_law_1158 : decode code 1158 = .ok (.invokevirtual 157, 3) := by decide +kernel
theorem dL_law_1161 : decode code 1161 = .ok (.if_icmp .eq 5, 3) := by decide +kernel
theorem dL_law_1164 : decode code 1164 = .ok (.iconst 0, 1) := by decide +kernel
theorem dL_law_1165 : decode code 1165 = .ok (.ireturn, 1) := by decide +kernel
theorem dL_law_1166 : decode code 1166 = .ok (.iinc 3 6, 3) := by decide +kernel
theorem dL_law_1169 : decode code 1169 = .ok (.goto (-1151), 3) := by decide +kernel
theorem dL_law_1172 : decode code 1172 = .ok (.iconst 1, 1) := by decide +kernel
theorem dL_law_1173 : decode code 1173 = .ok (.ireturn, 1) := by decide +kernel
theorem s220_0 : aW d 220 0 L S h Q = aW d 220 3 L (.ref h.1.length :: S) (nO h 13 14) Q := ax_new mt220 dL_law_0 (by decide) nt_53255 (by decide)
theorem s220_3 : aW d 220 3 L (.ref o :: S) h Q = aW d 220 4 L (.ref o :: .ref o :: S) h Q := ax_dupa mt220 dL_law_3
theorem s220_4 : aW (d + 1) 220 4 L (.ref o :: [.ref q0]) h Q = aM d 94 (.ref o :: []) h (fun v h1 => aW (d + 1) 220 7 L (ab_ps v [.ref q0]) h1 Q) := ax_invi mt220 dL_law_4 (by decide) ct_53257 (.inl rfl) mt94 ⟨⟨Nat.le_of_ble_eq_true rfl, Nat.le_of_ble_eq_true rfl, Nat.le_of_ble_eq_true rfl⟩, rfl, rfl⟩
theorem s220_7 : aW d 220 7 [l0, l1, l2, l3] (.ref o :: S) h Q = aW d 220 8 [l0, .ref o, l2, l3] S h Q := ax_astore_n mt220 dL_law_7 (Nat.le_of_ble_eq_true rfl) rfl
theorem s220_8 : aW d 220 8 L S h Q = aW d 220 11 L (.ref h.1.length :: S) (nO h 14 54) Q := ax_new mt220 dL_law_8 (by decide) nt_53258 (by decide)
theorem s220_11 : aW d 220 11 L (.ref o :: S) h Q = aW d 220 12 L (.ref o :: .ref o :: S) h Q := ax_dupa mt220 dL_law_11
theorem s220_12 : aW (d + 1) 220 12 L (.ref o :: [.ref q0]) h Q = aM d 138 (.ref o :: []) h (fun v h1 => aW (d + 1) 220 15 L (ab_ps v [.ref q0]) h1 Q) := ax_invi mt220 dL_law_12 (by decide) ct_53260 (.inl rfl) mt138 ⟨⟨Nat.le_of_ble_eq_true rfl, Nat.le_of_ble_eq_true rfl, Nat.le_of_ble_eq_true rfl⟩, rfl, rfl⟩
theorem s220_15 : aW d 220 15 [l0, l1, l2, l3] (.ref o :: S) h Q = aW d 220 16 [l0, l1, .ref o, l3] S h Q := ax_astore_n mt220 dL_law_15 (Nat.le_of_ble_eq_true rfl) rfl
theorem s220_16 : aW d 220 16 L S h Q = aW d 220 17 L (.int (nI 0) :: S) h Q := ax_iconst mt220 dL_law_16 ic_0
theorem s220_17 : aW d 220 17 [l0, l1, l2, l3] (.int a :: S) h Q = aW d 220 18 [l0, l1, l2, .int a] S h Q := ax_istore_n mt220 dL_law_17 (Nat.le_of_ble_eq_true rfl) rfl
theorem s220_18 : aW d 220 18 [l0, l1, l2, .int a] S h Q = aW d 220 19 [l0, l1, l2, .int a] (.int a :: S) h Q := ax_iload_n mt220 dL_law_18 rfl
theorem s220_19 : aW d 220 19 [.ref o, l1, l2, l3] S h Q = aW d 220 20 [.ref o, l1, l2, l3] (.ref o :: S) h Q := ax_aload_n mt220 dL_law_19 rfl
theorem s220_20 {n : Nat} (hT : gT h o = some (100, n) ∧ o = 0 ∨ gT h o = some (101, n) ∧ o = 1) : aW d 220 20 L (.ref o :: S) h Q = aW d 220 21 L (.int (nI n) :: S) h Q := ax_alen mt220 dL_law_20 hT
theorem s220_21 : aW d 220 21 L S h Q = aW d 220 23 L (.int (nI 6) :: S) h Q := ax_bipush mt220 dL_law_21 bp_6
theorem s220_23 : aW d 220 23 L (.int b :: .int a :: S) h Q = aW d 220 24 L (.int (a - b) :: S) h Q := ax_isub mt220 dL_law_23
theorem s220_24 : aW d 220 24 L (.int b :: .int a :: S) h Q = (if b < a then aW d 220 1172 L S h Q else aW d 220 27 L S h Q) := ax_icmp_gt mt220 dL_law_24 (by decide)
theorem s220_27 : aW d 220 27 [.ref o, l1, l2, l3] S h Q = aW d 220 28 [.ref o, l1, l2, l3] (.ref o :: S) h Q := ax_aload_n mt220 dL_law_27 rfl
theorem s220_28 : aW d 220 28 [l0, l1, l2, .int a] S h Q = aW d 220 29 [l0, l1, l2, .int a] (.int a :: S) h Q := ax_iload_n mt220 dL_law_28 rfl
theorem s220_29 : aW d 220 29 L (.int a :: .ref o :: S) h Q = (inb a (aI h o) ∧ aW d 220 30 L (.int (gI h o a.toNatClampNeg) :: S) h Q) := ax_iald mt220 dL_law_29
theorem s220_30 : aW d 220 30 L S h Q = aW d 220 32 L (.int (nI 63) :: S) h Q := ax_bipush mt220 dL_law_30 bp_63
theorem s220_32 : aW d 220 32 L (.int b :: .int a :: S) h Q = aW d 220 33 L (.int (a &&& b) :: S) h Q := ax_iand mt220 dL_law_32
set_option maxRecDepth 100000 in
theorem s220_33 : aW d 220 33 L (.int a :: S) h Q = (if a = nI 0 then aW d 220 184 L S h Q else (if a = nI 1 then aW d 220 247 L S h Q else (if a = nI 2 then aW d 220 260 L S h Q else (if a = nI 3 then aW d 220 293 L S h Q else (if a = nI 4 then aW d 220 316 L S h Q else (if a = nI 5 then aW d 220 339 L S h Q else (if a = nI 6 then aW d 220 362 L S h Q else (if a = nI 7 then aW d 220 385 L S h Q else (if a = nI 8 then aW d 220 408 L S h Q else (if a = nI 9 then aW d 220 441 L S h Q else (if a = nI 10 then aW d 220 474 L S h Q else (if a = nI 11 then aW d 220 497 L S h Q else (if a = nI 12 then aW d 220 520 L S h Q else (if a = nI 13 then aW d 220 543 L S h Q else (if a = nI 14 then aW d 220 576 L S h Q else (if a = nI 15 then aW d 220 589 L S h Q else (if a = nI 16 then aW d 220 632 L S h Q else (if a = nI 17 then aW d 220 645 L S h Q else (if a = nI 18 then aW d 220 668 L S h Q else (if a = nI 19 then aW d 220 691 L S h Q else (if a = nI 20 then aW d 220 714 L S h Q else (if a = nI 21 then aW d 220 737 L S h Q else (if a = nI 22 then aW d 220 750 L S h Q else (if a = nI 23 then aW d 220 783 L S h Q else (if a = nI 24 then aW d 220 806 L S h Q else (if a = nI 25 then aW d 220 819 L S h Q else (if a = nI 26 then aW d 220 832 L S h Q else (if a = nI 27 then aW d 220 845 L S h Q else (if a = nI 28 then aW d 220 898 L S h Q else (if a = nI 29 then aW d 220 921 L S h Q else (if a = nI 30 then aW d 220 964 L S h Q else (if a = nI 31 then aW d 220 1007 L S h Q else (if a = nI 32 then aW d 220 1070 L S h Q else (if a = nI 33 then aW d 220 1123 L S h Q else aW d 220 1166 L S h Q)))))))))))))))))))))))))))))))))) := by
  by_cases e0 : a = nI 0
  · rw [if_pos e0]
    subst e0
    exact ax_tabI (off := 151) mt220 dL_law_33 (by decide +kernel) (by decide +kernel) (by decide)
  rw [if_neg e0]
  have k0 := lv_neT e0 (show (nI 0 : Int32).toInt = 0 by decide +kernel)
  by_cases e1 : a = nI 1
  · rw [if_pos e1]
    subst e1
    exact ax_tabI (off := 214) mt220 dL_law_33 (by decide +kernel) (by decide +kernel) (by decide)
  rw [if_neg e1]
  have k1 := lv_neT e1 (show (nI 1 : Int32).toInt = 1 by decide +kernel)
  by_cases e2 : a = nI 2
  · rw [if_pos e2]
    subst e2
    exact ax_tabI (off := 227) mt220 dL_law_33 (by decide +kernel) (by decide +kernel) (by decide)
  rw [if_neg e2]
  have k2 := lv_neT e2 (show (nI 2 : Int32).toInt = 2 by decide +kernel)
  by_cases e3 : a = nI 3
  · rw [if_pos e3]
    subst e3
    exact ax_tabI (off := 260) mt220 dL_law_33 (by decide +kernel) (by decide +kernel) (by decide)
  rw [if_neg e3]
  have k3 := lv_neT e3 (show (nI 3 : Int32).toInt = 3 by decide +kernel)
  by_cases e4 : a = nI 4
  · rw [if_pos e4]
    subst e4
    exact ax_tabI (off := 283) mt220 dL_law_33 (by decide +kernel) (by decide +kernel) (by decide)
  rw [if_neg e4]
  have k4 := lv_neT e4 (show (nI 4 : Int32).toInt = 4 by decide +kernel)
  by_cases e5 : a = nI 5
  · rw [if_pos e5]
    subst e5
    exact ax_tabI (off := 306) mt220 dL_law_33 (by decide +kernel) (by decide +kernel) (by decide)
  rw [if_neg e5]
  have k5 := lv_neT e5 (show (nI 5 : Int32).toInt = 5 by decide +kernel)
  by_cases e6 : a = nI 6
  · rw [if_pos e6]
    subst e6
    exact ax_tabI (off := 329) mt220 dL_law_33 (by decide +kernel) (by decide +kernel) (by decide)
  rw [if_neg e6]
  have k6 := lv_neT e6 (show (nI 6 : Int32).toInt = 6 by decide +kernel)
  by_cases e7 : a = nI 7
  · rw [if_pos e7]
    subst e7
    exact ax_tabI (off := 352) mt220 dL_law_33 (by decide +kernel) (by decide +kernel) (by decide)
  rw [if_neg e7]
  have k7 := lv_neT e7 (show (nI 7 : Int32).toInt = 7 by decide +kernel)
  by_cases e8 : a = nI 8
  · rw [if_pos e8]
    subst e8
    exact ax_tabI (off := 375) mt220 dL_law_33 (by decide +kernel) (by decide +kernel) (by decide)
  rw [if_neg e8]
  have k8 := lv_neT e8 (show (nI 8 : Int32).toInt = 8 by decide +kernel)
  by_cases e9 : a = nI 9
  · rw [if_pos e9]
    subst e9
    exact ax_tabI (off := 408) mt220 dL_law_33 (by decide +kernel) (by decide +kernel) (by decide)
  rw [if_neg e9]
  have k9 := lv_neT e9 (show (nI 9 : Int32).toInt = 9 by decide +kernel)
  by_cases e10 : a = nI 10
  · rw [if_pos e10]
    subst e10
    exact ax_tabI (off := 441) mt220 dL_law_33 (by decide +kernel) (by decide +kernel) (by decide)
  rw [if_neg e10]
  have k10 := lv_neT e10 (show (nI 10 : Int32).toInt = 10 by decide +kernel)
  by_cases e11 : a = nI 11
  · rw [if_pos e11]
    subst e11
    exact ax_tabI (off := 464) mt220 dL_law_33 (by decide +kernel) (by decide +kernel) (by decide)
  rw [if_neg e11]
  have k11 := lv_neT e11 (show (nI 11 : Int32).toInt = 11 by decide +kernel)
  by_cases e12 : a = nI 12
  · rw [if_pos e12]
    subst e12
    exact ax_tabI (off := 487) mt220 dL_law_33 (by decide +kernel) (by decide +kernel) (by decide)
  rw [if_neg e12]
  have k12 := lv_neT e12 (show (nI 12 : Int32).toInt = 12 by decide +kernel)
  by_cases e13 : a = nI 13
  · rw [if_pos e13]
    subst e13
    exact ax_tabI (off := 510) mt220 dL_law_33 (by decide +kernel) (by decide +kernel) (by decide)
  rw [if_neg e13]
  have k13 := lv_neT e13 (show (nI 13 : Int32).toInt = 13 by decide +kernel)
  by_cases e14 : a = nI 14
  · rw [if_pos e14]
    subst e14
    exact ax_tabI (off := 543) mt220 dL_law_33 (by decide +kernel) (by decide +kernel) (by decide)
  rw [if_neg e14]
  have k14 := lv_neT e14 (show (nI 14 : Int32).toInt = 14 by decide +kernel)
  by_cases e15 : a = nI 15
  · rw [if_pos e15]
    subst e15
    exact ax_tabI (off := 556) mt220 dL_law_33 (by decide +kernel) (by decide +kernel) (by decide)
  rw [if_neg e15]
  have k15 := lv_neT e15 (show (nI 15 : Int32).toInt = 15 by decide +kernel)
  by_cases e16 : a = nI 16
  · rw [if_pos e16]
    subst e16
    exact ax_tabI (off := 599) mt220 dL_law_33 (by decide +kernel) (by decide +kernel) (by decide)
  rw [if_neg e16]
  have k16 := lv_neT e16 (show (nI 16 : Int32).toInt = 16 by decide +kernel)
  by_cases e17 : a = nI 17
  · rw [if_pos e17]
    subst e17
    exact ax_tabI (off := 612) mt220 dL_law_33 (by decide +kernel) (by decide +kernel) (by decide)
  rw [if_neg e17]
  have k17 := lv_neT e17 (show (nI 17 : Int32).toInt = 17 by decide +kernel)
  by_cases e18 : a = nI 18
  · rw [if_pos e18]
    subst e18
    exact ax_tabI (off := 635) mt220 dL_law_33 (by decide +kernel) (by decide +kernel) (by decide)
  rw [if_neg e18]
  have k18 := lv_neT e18 (show (nI 18 : Int32).toInt = 18 by decide +kernel)
  by_cases e19 : a = nI 19
  · rw [if_pos e19]
    subst e19
    exact ax_tabI (off := 658) mt220 dL_law_33 (by decide +kernel) (by decide +kernel) (by decide)
  rw [if_neg e19]
  have k19 := lv_neT e19 (show (nI 19 : Int32).toInt = 19 by decide +kernel)
  by_cases e20 : a = nI 20
  · rw [if_pos e20]
    subst e20
    exact ax_tabI (off := 681) mt220 dL_law_33 (by decide +kernel) (by decide +kernel) (by decide)
  rw [if_neg e20]
  have k20 := lv_neT e20 (show (nI 20 : Int32).toInt = 20 by decide +kernel)
  by_cases e21 : a = nI 21
  · rw [if_pos e21]
    subst e21
    exact ax_tabI (off := 704) mt220 dL_law_33 (by decide +kernel) (by decide +kernel) (by decide)
  rw [if_neg e21]
  have k21 := lv_neT e21 (show (nI 21 : Int32).toInt = 21 by decide +kernel)
  by_cases e22 : a = nI 22
  · rw [if_pos e22]
    subst e22
    exact ax_tabI (off := 717) mt220 dL_law_33 (by decide +kernel) (by decide +kernel) (by decide)
  rw [if_neg e22]
  have k22 := lv_neT e22 (show (nI 22 : Int32).toInt = 22 by decide +kernel)
  by_cases e23 : a = nI 23
  · rw [if_pos e23]
    subst e23
    exact ax_tabI (off := 750) mt220 dL_law_33 (by decide +kernel) (by decide +kernel) (by decide)
  rw [if_neg e23]
  have k23 := lv_neT e23 (show (nI 23 : Int32).toInt = 23 by decide +kernel)
  by_cases e24 : a = nI 24
  · rw [if_pos e24]
    subst e24
    exact ax_tabI (off := 773) mt220 dL_law_33 (by decide +kernel) (by decide +kernel) (by decide)
  rw [if_neg e24]
  have k24 := lv_neT e24 (show (nI 24 : Int32).toInt = 24 by decide +kernel)
  by_cases e25 : a = nI 25
  · rw [if_pos e25]
    subst e25
    exact ax_tabI (off := 786) mt220 dL_law_33 (by decide +kernel) (by decide +kernel) (by decide)
  rw [if_neg e25]
  have k25 := lv_neT e25 (show (nI 25 : Int32).toInt = 25 by decide +kernel)
  by_cases e26 : a = nI 26
  · rw [if_pos e26]
    subst e26
    exact ax_tabI (off := 799) mt220 dL_law_33 (by decide +kernel) (by decide +kernel) (by decide)
  rw [if_neg e26]
  have k26 := lv_neT e26 (show (nI 26 : Int32).toInt = 26 by decide +kernel)
  by_cases e27 : a = nI 27
  · rw [if_pos e27]
    subst e27
    exact ax_tabI (off := 812) mt220 dL_law_33 (by decide +kernel) (by decide +kernel) (by decide)
  rw [if_neg e27]
  have k27 := lv_neT e27 (show (nI 27 : Int32).toInt = 27 by decide +kernel)
  by_cases e28 : a = nI 28
  · rw [if_pos e28]
    subst e28
    exact ax_tabI (off := 865) mt220 dL_law_33 (by decide +kernel) (by decide +kernel) (by decide)
  rw [if_neg e28]
  have k28 := lv_neT e28 (show (nI 28 : Int32).toInt = 28 by decide +kernel)
  by_cases e29 : a = nI 29
  · rw [if_pos e29]
    subst e29
    exact ax_tabI (off := 888) mt220 dL_law_33 (by decide +kernel) (by decide +kernel) (by decide)
  rw [if_neg e29]
  have k29 := lv_neT e29 (show (nI 29 : Int32).toInt = 29 by decide +kernel)
  by_cases e30 : a = nI 30
  · rw [if_pos e30]
    subst e30
    exact ax_tabI (off := 931) mt220 dL_law_33 (by decide +kernel) (by decide +kernel) (by decide)
  rw [if_neg e30]
  have k30 := lv_neT e30 (show (nI 30 : Int32).toInt = 30 by decide +kernel)
  by_cases e31 : a = nI 31
  · rw [if_pos e31]
    subst e31
    exact ax_tabI (off := 974) mt220 dL_law_33 (by decide +kernel) (by decide +kernel) (by decide)
  rw [if_neg e31]
  have k31 := lv_neT e31 (show (nI 31 : Int32).toInt = 31 by decide +kernel)
  by_cases e32 : a = nI 32
  · rw [if_pos e32]
    subst e32
    exact ax_tabI (off := 1037) mt220 dL_law_33 (by decide +kernel) (by decide +kernel) (by decide)
  rw [if_neg e32]
  have k32 := lv_neT e32 (show (nI 32 : Int32).toInt = 32 by decide +kernel)
  by_cases e33 : a = nI 33
  · rw [if_pos e33]
    subst e33
    exact ax_tabI (off := 1090) mt220 dL_law_33 (by decide +kernel) (by decide +kernel) (by decide)
  rw [if_neg e33]
  have k33 := lv_neT e33 (show (nI 33 : Int32).toInt = 33 by decide +kernel)
  exact ax_tabO mt220 dL_law_33 (by omega) (by decide)
theorem s220_1123 : aW d 220 1123 [l0, .ref o, l2, l3] S h Q = aW d 220 1124 [l0, .ref o, l2, l3] (.ref o :: S) h Q := ax_aload_n mt220 dL_law_1123 rfl
theorem s220_1124 : aW d 220 1124 [.ref o, l1, l2, l3] S h Q = aW d 220 1125 [.ref o, l1, l2, l3] (.ref o :: S) h Q := ax_aload_n mt220 dL_law_1124 rfl
theorem s220_1125 : aW d 220 1125 [l0, l1, l2, .int a] S h Q = aW d 220 1126 [l0, l1, l2, .int a] (.int a :: S) h Q := ax_iload_n mt220 dL_law_1125 rfl
theorem s220_1126 : aW d 220 1126 L S h Q = aW d 220 1127 L (.int (nI 1) :: S) h Q := ax_iconst mt220 dL_law_1126 ic_1
theorem s220_1127 : aW d 220 1127 L (.int b :: .int a :: S) h Q = aW d 220 1128 L (.int (a + b) :: S) h Q := ax_iadd mt220 dL_law_1127
theorem s220_1128 : aW d 220 1128 L (.int a :: .ref o :: S) h Q = (inb a (aI h o) ∧ aW d 220 1129 L (.int (gI h o a.toNatClampNeg) :: S) h Q) := ax_iald mt220 dL_law_1128
theorem s220_1129 : aW d 220 1129 [.ref o, l1, l2, l3] S h Q = aW d 220 1130 [.ref o, l1, l2, l3] (.ref o :: S) h Q := ax_aload_n mt220 dL_law_1129 rfl
theorem s220_1130 : aW d 220 1130 [l0, l1, l2, .int a] S h Q = aW d 220 1131 [l0, l1, l2, .int a] (.int a :: S) h Q := ax_iload_n mt220 dL_law_1130 rfl
theorem s220_1131 : aW d 220 1131 L S h Q = aW d 220 1132 L (.int (nI 2) :: S) h Q := ax_iconst mt220 dL_law_1131 ic_2
theorem s220_1132 : aW d 220 1132 L (.int b :: .int a :: S) h Q = aW d 220 1133 L (.int (a + b) :: S) h Q := ax_iadd mt220 dL_law_1132
theorem s220_1133 : aW d 220 1133 L (.int a :: .ref o :: S) h Q = (inb a (aI h o) ∧ aW d 220 1134 L (.int (gI h o a.toNatClampNeg) :: S) h Q) := ax_iald mt220 dL_law_1133
theorem s220_1134 : aW d 220 1134 [.ref o, l1, l2, l3] S h Q = aW d 220 1135 [.ref o, l1, l2, l3] (.ref o :: S) h Q := ax_aload_n mt220 dL_law_1134 rfl
theorem s220_1135 : aW d 220 1135 [l0, l1, l2, .int a] S h Q = aW d 220 1136 [l0, l1, l2, .int a] (.int a :: S) h Q := ax_iload_n mt220 dL_law_1135 rfl
theorem s220_1136 : aW d 220 1136 L S h Q = aW d 220 1137 L (.int (nI 3) :: S) h Q := ax_iconst mt220 dL_law_1136 ic_3
theorem s220_1137 : aW d 220 1137 L (.int b :: .int a :: S) h Q = aW d 220 1138 L (.int (a + b) :: S) h Q := ax_iadd mt220 dL_law_1137
theorem s220_1138 : aW d 220 1138 L (.int a :: .ref o :: S) h Q = (inb a (aI h o) ∧ aW d 220 1139 L (.int (gI h o a.toNatClampNeg) :: S) h Q) := ax_iald mt220 dL_law_1138
theorem s220_1139 (hT : gT h o = some (13, 14)) : aW (d + 1) 220 1139 L (.int x2 :: .int x1 :: .int x0 :: .ref o :: []) h Q = aM d 128 (.ref o :: [.int x0, .int x1, .int x2]) h (fun v h1 => aW (d + 1) 220 1142 L (ab_ps v []) h1 Q) := ax_invv mt220 dL_law_1139 (by decide) ct_53402 (.inl rfl) mt128 ⟨⟨Nat.le_of_ble_eq_true rfl, Nat.le_of_ble_eq_true rfl, Nat.le_of_ble_eq_true rfl⟩, rfl, rfl, rfl⟩ hT
theorem s220_1142 : aW d 220 1142 [l0, l1, .ref o, l3] S h Q = aW d 220 1143 [l0, l1, .ref o, l3] (.ref o :: S) h Q := ax_aload_n mt220 dL_law_1142 rfl
theorem s220_1143 : aW d 220 1143 [.ref o, l1, l2, l3] S h Q = aW d 220 1144 [.ref o, l1, l2, l3] (.ref o :: S) h Q := ax_aload_n mt220 dL_law_1143 rfl
theorem s220_1144 : aW d 220 1144 [l0, l1, l2, .int a] S h Q = aW d 220 1145 [l0, l1, l2, .int a] (.int a :: S) h Q := ax_iload_n mt220 dL_law_1144 rfl
theorem s220_1145 : aW d 220 1145 L S h Q = aW d 220 1146 L (.int (nI 1) :: S) h Q := ax_iconst mt220 dL_law_1145 ic_1
theorem s220_1146 : aW d 220 1146 L (.int b :: .int a :: S) h Q = aW d 220 1147 L (.int (a + b) :: S) h Q := ax_iadd mt220 dL_law_1146
theorem s220_1147 : aW d 220 1147 L (.int a :: .ref o :: S) h Q = (inb a (aI h o) ∧ aW d 220 1148 L (.int (gI h o a.toNatClampNeg) :: S) h Q) := ax_iald mt220 dL_law_1147
theorem s220_1148 : aW d 220 1148 [.ref o, l1, l2, l3] S h Q = aW d 220 1149 [.ref o, l1, l2, l3] (.ref o :: S) h Q := ax_aload_n mt220 dL_law_1148 rfl
theorem s220_1149 : aW d 220 1149 [l0, l1, l2, .int a] S h Q = aW d 220 1150 [l0, l1, l2, .int a] (.int a :: S) h Q := ax_iload_n mt220 dL_law_1149 rfl
theorem s220_1150 : aW d 220 1150 L S h Q = aW d 220 1151 L (.int (nI 2) :: S) h Q := ax_iconst mt220 dL_law_1150 ic_2
theorem s220_1151 : aW d 220 1151 L (.int b :: .int a :: S) h Q = aW d 220 1152 L (.int (a + b) :: S) h Q := ax_iadd mt220 dL_law_1151
theorem s220_1152 : aW d 220 1152 L (.int a :: .ref o :: S) h Q = (inb a (aI h o) ∧ aW d 220 1153 L (.int (gI h o a.toNatClampNeg) :: S) h Q) := ax_iald mt220 dL_law_1152
theorem s220_1153 : aW d 220 1153 [.ref o, l1, l2, l3] S h Q = aW d 220 1154 [.ref o, l1, l2, l3] (.ref o :: S) h Q := ax_aload_n mt220 dL_law_1153 rfl
theorem s220_1154 : aW d 220 1154 [l0, l1, l2, .int a] S h Q = aW d 220 1155 [l0, l1, l2, .int a] (.int a :: S) h Q := ax_iload_n mt220 dL_law_1154 rfl
theorem s220_1155 : aW d 220 1155 L S h Q = aW d 220 1156 L (.int (nI 3) :: S) h Q := ax_iconst mt220 dL_law_1155 ic_3
theorem s220_1156 : aW d 220 1156 L (.int b :: .int a :: S) h Q = aW d 220 1157 L (.int (a + b) :: S) h Q := ax_iadd mt220 dL_law_1156
theorem s220_1157 : aW d 220 1157 L (.int a :: .ref o :: S) h Q = (inb a (aI h o) ∧ aW d 220 1158 L (.int (gI h o a.toNatClampNeg) :: S) h Q) := ax_iald mt220 dL_law_1157
theorem s220_1158 (hT : gT h o = some (14, 54)) : aW (d + 1) 220 1158 L (.int x2 :: .int x1 :: .int x0 :: .ref o :: [.int y0]) h Q = aM d 218 (.ref o :: [.int x0, .int x1, .int x2]) h (fun v h1 => aW (d + 1) 220 1161 L (ab_ps v [.int y0]) h1 Q) := ax_invv mt220 dL_law_1158 (by decide) ct_53405 (.inl rfl) mt218 ⟨⟨Nat.le_of_ble_eq_true rfl, Nat.le_of_ble_eq_true rfl, Nat.le_of_ble_eq_true rfl⟩, rfl, rfl, rfl⟩ hT
theorem s220_1161 : aW d 220 1161 L (.int b :: .int a :: S) h Q = (if a = b then aW d 220 1166 L S h Q else aW d 220 1164 L S h Q) := ax_icmp_eq mt220 dL_law_1161 (by decide)
theorem s220_1164 : aW d 220 1164 L S h Q = aW d 220 1165 L (.int (nI 0) :: S) h Q := ax_iconst mt220 dL_law_1164 ic_0
theorem s220_1165 : aW d 220 1165 L [.int a] h Q = (b01 a ∧ Q (some (.int a)) h) := ax_retz mt220 dL_law_1165 rfl
theorem s220_1070 : aW d 220 1070 [l0, .ref o, l2, l3] S h Q = aW d 220 1071 [l0, .ref o, l2, l3] (.ref o :: S) h Q := ax_aload_n mt220 dL_law_1070 rfl
theorem s220_1071 : aW d 220 1071 [.ref o, l1, l2, l3] S h Q = aW d 220 1072 [.ref o, l1, l2, l3] (.ref o :: S) h Q := ax_aload_n mt220 dL_law_1071 rfl
theorem s220_1072 : aW d 220 1072 [l0, l1, l2, .int a] S h Q = aW d 220 1073 [l0, l1, l2, .int a] (.int a :: S) h Q := ax_iload_n mt220 dL_law_1072 rfl
theorem s220_1073 : aW d 220 1073 L S h Q = aW d 220 1074 L (.int (nI 1) :: S) h Q := ax_iconst mt220 dL_law_1073 ic_1
theorem s220_1074 : aW d 220 1074 L (.int b :: .int a :: S) h Q = aW d 220 1075 L (.int (a + b) :: S) h Q := ax_iadd mt220 dL_law_1074
theorem s220_1075 : aW d 220 1075 L (.int a :: .ref o :: S) h Q = (inb a (aI h o) ∧ aW d 220 1076 L (.int (gI h o a.toNatClampNeg) :: S) h Q) := ax_iald mt220 dL_law_1075
theorem s220_1076 : aW d 220 1076 [.ref o, l1, l2, l3] S h Q = aW d 220 1077 [.ref o, l1, l2, l3] (.ref o :: S) h Q := ax_aload_n mt220 dL_law_1076 rfl
theorem s220_1077 : aW d 220 1077 [l0, l1, l2, .int a] S h Q = aW d 220 1078 [l0, l1, l2, .int a] (.int a :: S) h Q := ax_iload_n mt220 dL_law_1077 rfl
theorem s220_1078 : aW d 220 1078 L S h Q = aW d 220 1079 L (.int (nI 2) :: S) h Q := ax_iconst mt220 dL_law_1078 ic_2
theorem s220_1079 : aW d 220 1079 L (.int b :: .int a :: S) h Q = aW d 220 1080 L (.int (a + b) :: S) h Q := ax_iadd mt220 dL_law_1079
theorem s220_1080 : aW d 220 1080 L (.int a :: .ref o :: S) h Q = (inb a (aI h o) ∧ aW d 220 1081 L (.int (gI h o a.toNatClampNeg) :: S) h Q) := ax_iald mt220 dL_law_1080
theorem s220_1081 : aW d 220 1081 [.ref o, l1, l2, l3] S h Q = aW d 220 1082 [.ref o, l1, l2, l3] (.ref o :: S) h Q := ax_aload_n mt220 dL_law_1081 rfl
theorem s220_1082 : aW d 220 1082 [l0, l1, l2, .int a] S h Q = aW d 220 1083 [l0, l1, l2, .int a] (.int a :: S) h Q := ax_iload_n mt220 dL_law_1082 rfl
theorem s220_1083 : aW d 220 1083 L S h Q = aW d 220 1084 L (.int (nI 3) :: S) h Q := ax_iconst mt220 dL_law_1083 ic_3
theorem s220_1084 : aW d 220 1084 L (.int b :: .int a :: S) h Q = aW d 220 1085 L (.int (a + b) :: S) h Q := ax_iadd mt220 dL_law_1084
theorem s220_1085 : aW d 220 1085 L (.int a :: .ref o :: S) h Q = (inb a (aI h o) ∧ aW d 220 1086 L (.int (gI h o a.toNatClampNeg) :: S) h Q) := ax_iald mt220 dL_law_1085
theorem s220_1086 : aW d 220 1086 [.ref o, l1, l2, l3] S h Q = aW d 220 1087 [.ref o, l1, l2, l3] (.ref o :: S) h Q := ax_aload_n mt220 dL_law_1086 rfl
theorem s220_1087 : aW d 220 1087 [l0, l1, l2, .int a] S h Q = aW d 220 1088 [l0, l1, l2, .int a] (.int a :: S) h Q := ax_iload_n mt220 dL_law_1087 rfl
theorem s220_1088 : aW d 220 1088 L S h Q = aW d 220 1089 L (.int (nI 4) :: S) h Q := ax_iconst mt220 dL_law_1088 ic_4
theorem s220_1089 : aW d 220 1089 L (.int b :: .int a :: S) h Q = aW d 220 1090 L (.int (a + b) :: S) h Q := ax_iadd mt220 dL_law_1089
theorem s220_1090 : aW d 220 1090 L (.int a :: .ref o :: S) h Q = (inb a (aI h o) ∧ aW d 220 1091 L (.int (gI h o a.toNatClampNeg) :: S) h Q) := ax_iald mt220 dL_law_1090
theorem s220_1091 (hT : gT h o = some (13, 14)) : aW (d + 1) 220 1091 L (.int x3 :: .int x2 :: .int x1 :: .int x0 :: .ref o :: []) h Q = aM d 127 (.ref o :: [.int x0, .int x1, .int x2, .int x3]) h (fun v h1 => aW (d + 1) 220 1094 L (ab_ps v []) h1 Q) := ax_invv mt220 dL_law_1091 (by decide) ct_53398 (.inl rfl) mt127 ⟨⟨Nat.le_of_ble_eq_true rfl, Nat.le_of_ble_eq_true rfl, Nat.le_of_ble_eq_true rfl⟩, rfl, rfl, rfl⟩ hT
theorem s220_1094 : aW d 220 1094 [l0, l1, .ref o, l3] S h Q = aW d 220 1095 [l0, l1, .ref o, l3] (.ref o :: S) h Q := ax_aload_n mt220 dL_law_1094 rfl
theorem s220_1095 : aW d 220 1095 [.ref o, l1, l2, l3] S h Q = aW d 220 1096 [.ref o, l1, l2, l3] (.ref o :: S) h Q := ax_aload_n mt220 dL_law_1095 rfl
theorem s220_1096 : aW d 220 1096 [l0, l1, l2, .int a] S h Q = aW d 220 1097 [l0, l1, l2, .int a] (.int a :: S) h Q := ax_iload_n mt220 dL_law_1096 rfl
theorem s220_1097 : aW d 220 1097 L S h Q = aW d 220 1098 L (.int (nI 1) :: S) h Q := ax_iconst mt220 dL_law_1097 ic_1
theorem s220_1098 : aW d 220 1098 L (.int b :: .int a :: S) h Q = aW d 220 1099 L (.int (a + b) :: S) h Q := ax_iadd mt220 dL_law_1098
theorem s220_1099 : aW d 220 1099 L (.int a :: .ref o :: S) h Q = (inb a (aI h o) ∧ aW d 220 1100 L (.int (gI h o a.toNatClampNeg) :: S) h Q) := ax_iald mt220 dL_law_1099
theorem s220_1100 : aW d 220 1100 [.ref o, l1, l2, l3] S h Q = aW d 220 1101 [.ref o, l1, l2, l3] (.ref o :: S) h Q := ax_aload_n mt220 dL_law_1100 rfl
theorem s220_1101 : aW d 220 1101 [l0, l1, l2, .int a] S h Q = aW d 220 1102 [l0, l1, l2, .int a] (.int a :: S) h Q := ax_iload_n mt220 dL_law_1101 rfl
theorem s220_1102 : aW d 220 1102 L S h Q = aW d 220 1103 L (.int (nI 2) :: S) h Q := ax_iconst mt220 dL_law_1102 ic_2
theorem s220_1103 : aW d 220 1103 L (.int b :: .int a :: S) h Q = aW d 220 1104 L (.int (a + b) :: S) h Q := ax_iadd mt220 dL_law_1103
theorem s220_1104 : aW d 220 1104 L (.int a :: .ref o :: S) h Q = (inb a (aI h o) ∧ aW d 220 1105 L (.int (gI h o a.toNatClampNeg) :: S) h Q) := ax_iald mt220 dL_law_1104
theorem s220_1105 : aW d 220 1105 [.ref o, l1, l2, l3] S h Q = aW d 220 1106 [.ref o, l1, l2, l3] (.ref o :: S) h Q := ax_aload_n mt220 dL_law_1105 rfl
theorem s220_1106 : aW d 220 1106 [l0, l1, l2, .int a] S h Q = aW d 220 1107 [l0, l1, l2, .int a] (.int a :: S) h Q := ax_iload_n mt220 dL_law_1106 rfl
theorem s220_1107 : aW d 220 1107 L S h Q = aW d 220 1108 L (.int (nI 3) :: S) h Q := ax_iconst mt220 dL_law_1107 ic_3
theorem s220_1108 : aW d 220 1108 L (.int b :: .int a :: S) h Q = aW d 220 1109 L (.int (a + b) :: S) h Q := ax_iadd mt220 dL_law_1108
theorem s220_1109 : aW d 220 1109 L (.int a :: .ref o :: S) h Q = (inb a (aI h o) ∧ aW d 220 1110 L (.int (gI h o a.toNatClampNeg) :: S) h Q) := ax_iald mt220 dL_law_1109
theorem s220_1110 : aW d 220 1110 [.ref o, l1, l2, l3] S h Q = aW d 220 1111 [.ref o, l1, l2, l3] (.ref o :: S) h Q := ax_aload_n mt220 dL_law_1110 rfl
theorem s220_1111 : aW d 220 1111 [l0, l1, l2, .int a] S h Q = aW d 220 1112 [l0, l1, l2, .int a] (.int a :: S) h Q := ax_iload_n mt220 dL_law_1111 rfl
theorem s220_1112 : aW d 220 1112 L S h Q = aW d 220 1113 L (.int (nI 4) :: S) h Q := ax_iconst mt220 dL_law_1112 ic_4
theorem s220_1113 : aW d 220 1113 L (.int b :: .int a :: S) h Q = aW d 220 1114 L (.int (a + b) :: S) h Q := ax_iadd mt220 dL_law_1113
theorem s220_1114 : aW d 220 1114 L (.int a :: .ref o :: S) h Q = (inb a (aI h o) ∧ aW d 220 1115 L (.int (gI h o a.toNatClampNeg) :: S) h Q) := ax_iald mt220 dL_law_1114
theorem s220_1115 (hT : gT h o = some (14, 54)) : aW (d + 1) 220 1115 L (.int x3 :: .int x2 :: .int x1 :: .int x0 :: .ref o :: [.int y0]) h Q = aM d 216 (.ref o :: [.int x0, .int x1, .int x2, .int x3]) h (fun v h1 => aW (d + 1) 220 1118 L (ab_ps v [.int y0]) h1 Q) := ax_invv mt220 dL_law_1115 (by decide) ct_53401 (.inl rfl) mt216 ⟨⟨Nat.le_of_ble_eq_true rfl, Nat.le_of_ble_eq_true rfl, Nat.le_of_ble_eq_true rfl⟩, rfl, rfl, rfl⟩ hT
theorem s220_1118 : aW d 220 1118 L (.int b :: .int a :: S) h Q = (if a = b then aW d 220 1166 L S h Q else aW d 220 1121 L S h Q) := ax_icmp_eq mt220 dL_law_1118 (by decide)
theorem s220_1121 : aW d 220 1121 L S h Q = aW d 220 1122 L (.int (nI 0) :: S) h Q := ax_iconst mt220 dL_law_1121 ic_0
theorem s220_1122 : aW d 220 1122 L [.int a] h Q = (b01 a ∧ Q (some (.int a)) h) := ax_retz mt220 dL_law_1122 rfl
theorem s220_1007 : aW d 220 1007 [l0, .ref o, l2, l3] S h Q = aW d 220 1008 [l0, .ref o, l2, l3] (.ref o :: S) h Q := ax_aload_n mt220 dL_law_1007 rfl
theorem s220_1008 : aW d 220 1008 [.ref o, l1, l2, l3] S h Q = aW d 220 1009 [.ref o, l1, l2, l3] (.ref o :: S) h Q := ax_aload_n mt220 dL_law_1008 rfl
theorem s220_1009 : aW d 220 1009 [l0, l1, l2, .int a] S h Q = aW d 220 1010 [l0, l1, l2, .int a] (.int a :: S) h Q := ax_iload_n mt220 dL_law_1009 rfl
theorem s220_1010 : aW d 220 1010 L S h Q = aW d 220 1011 L (.int (nI 1) :: S) h Q := ax_iconst mt220 dL_law_1010 ic_1
theorem s220_1011 : aW d 220 1011 L (.int b :: .int a :: S) h Q = aW d 220 1012 L (.int (a + b) :: S) h Q := ax_iadd mt220 dL_law_1011
theorem s220_1012 : aW d 220 1012 L (.int a :: .ref o :: S) h Q = (inb a (aI h o) ∧ aW d 220 1013 L (.int (gI h o a.toNatClampNeg) :: S) h Q) := ax_iald mt220 dL_law_1012
theorem s220_1013 : aW d 220 1013 [.ref o, l1, l2, l3] S h Q = aW d 220 1014 [.ref o, l1, l2, l3] (.ref o :: S) h Q := ax_aload_n mt220 dL_law_1013 rfl
theorem s220_1014 : aW d 220 1014 [l0, l1, l2, .int a] S h Q = aW d 220 1015 [l0, l1, l2, .int a] (.int a :: S) h Q := ax_iload_n mt220 dL_law_1014 rfl
theorem s220_1015 : aW d 220 1015 L S h Q = aW d 220 1016 L (.int (nI 2) :: S) h Q := ax_iconst mt220 dL_law_1015 ic_2
theorem s220_1016 : aW d 220 1016 L (.int b :: .int a :: S) h Q = aW d 220 1017 L (.int (a + b) :: S) h Q := ax_iadd mt220 dL_law_1016
theorem s220_1017 : aW d 220 1017 L (.int a :: .ref o :: S) h Q = (inb a (aI h o) ∧ aW d 220 1018 L (.int (gI h o a.toNatClampNeg) :: S) h Q) := ax_iald mt220 dL_law_1017
theorem s220_1018 : aW d 220 1018 [.ref o, l1, l2, l3] S h Q = aW d 220 1019 [.ref o, l1, l2, l3] (.ref o :: S) h Q := ax_aload_n mt220 dL_law_1018 rfl
theorem s220_1019 : aW d 220 1019 [l0, l1, l2, .int a] S h Q = aW d 220 1020 [l0, l1, l2, .int a] (.int a :: S) h Q := ax_iload_n mt220 dL_law_1019 rfl
theorem s220_1020 : aW d 220 1020 L S h Q = aW d 220 1021 L (.int (nI 3) :: S) h Q := ax_iconst mt220 dL_law_1020 ic_3
theorem s220_1021 : aW d 220 1021 L (.int b :: .int a :: S) h Q = aW d 220 1022 L (.int (a + b) :: S) h Q := ax_iadd mt220 dL_law_1021
theorem s220_1022 : aW d 220 1022 L (.int a :: .ref o :: S) h Q = (inb a (aI h o) ∧ aW d 220 1023 L (.int (gI h o a.toNatClampNeg) :: S) h Q) := ax_iald mt220 dL_law_1022
theorem s220_1023 : aW d 220 1023 [.ref o, l1, l2, l3] S h Q = aW d 220 1024 [.ref o, l1, l2, l3] (.ref o :: S) h Q := ax_aload_n mt220 dL_law_1023 rfl
theorem s220_1024 : aW d 220 1024 [l0, l1, l2, .int a] S h Q = aW d 220 1025 [l0, l1, l2, .int a] (.int a :: S) h Q := ax_iload_n mt220 dL_law_1024 rfl
theorem s220_1025 : aW d 220 1025 L S h Q = aW d 220 1026 L (.int (nI 4) :: S) h Q := ax_iconst mt220 dL_law_1025 ic_4
theorem s220_1026 : aW d 220 1026 L (.int b :: .int a :: S) h Q = aW d 220 1027 L (.int (a + b) :: S) h Q := ax_iadd mt220 dL_law_1026
theorem s220_1027 : aW d 220 1027 L (.int a :: .ref o :: S) h Q = (inb a (aI h o) ∧ aW d 220 1028 L (.int (gI h o a.toNatClampNeg) :: S) h Q) := ax_iald mt220 dL_law_1027
theorem s220_1028 : aW d 220 1028 [.ref o, l1, l2, l3] S h Q = aW d 220 1029 [.ref o, l1, l2, l3] (.ref o :: S) h Q := ax_aload_n mt220 dL_law_1028 rfl
theorem s220_1029 : aW d 220 1029 [l0, l1, l2, .int a] S h Q = aW d 220 1030 [l0, l1, l2, .int a] (.int a :: S) h Q := ax_iload_n mt220 dL_law_1029 rfl
theorem s220_1030 : aW d 220 1030 L S h Q = aW d 220 1031 L (.int (nI 5) :: S) h Q := ax_iconst mt220 dL_law_1030 ic_5
theorem s220_1031 : aW d 220 1031 L (.int b :: .int a :: S) h Q = aW d 220 1032 L (.int (a + b) :: S) h Q := ax_iadd mt220 dL_law_1031
theorem s220_1032 : aW d 220 1032 L (.int a :: .ref o :: S) h Q = (inb a (aI h o) ∧ aW d 220 1033 L (.int (gI h o a.toNatClampNeg) :: S) h Q) := ax_iald mt220 dL_law_1032
theorem s220_1033 (hT : gT h o = some (13, 14)) : aW (d + 1) 220 1033 L (.int x4 :: .int x3 :: .int x2 :: .int x1 :: .int x0 :: .ref o :: []) h Q = aM d 126 (.ref o :: [.int x0, .int x1, .int x2, .int x3, .int x4]) h (fun v h1 => aW (d + 1) 220 1036 L (ab_ps v []) h1 Q) := ax_invv mt220 dL_law_1033 (by decide) ct_53393 (.inl rfl) mt126 ⟨⟨Nat.le_of_ble_eq_true rfl, Nat.le_of_ble_eq_true rfl, Nat.le_of_ble_eq_true rfl⟩, rfl, rfl, rfl⟩ hT
theorem s220_1036 : aW d 220 1036 [l0, l1, .ref o, l3] S h Q = aW d 220 1037 [l0, l1, .ref o, l3] (.ref o :: S) h Q := ax_aload_n mt220 dL_law_1036 rfl
theorem s220_1037 : aW d 220 1037 [.ref o, l1, l2, l3] S h Q = aW d 220 1038 [.ref o, l1, l2, l3] (.ref o :: S) h Q := ax_aload_n mt220 dL_law_1037 rfl
theorem s220_1038 : aW d 220 1038 [l0, l1, l2, .int a] S h Q = aW d 220 1039 [l0, l1, l2, .int a] (.int a :: S) h Q := ax_iload_n mt220 dL_law_1038 rfl
theorem s220_1039 : aW d 220 1039 L S h Q = aW d 220 1040 L (.int (nI 1) :: S) h Q := ax_iconst mt220 dL_law_1039 ic_1
theorem s220_1040 : aW d 220 1040 L (.int b :: .int a :: S) h Q = aW d 220 1041 L (.int (a + b) :: S) h Q := ax_iadd mt220 dL_law_1040
theorem s220_1041 : aW d 220 1041 L (.int a :: .ref o :: S) h Q = (inb a (aI h o) ∧ aW d 220 1042 L (.int (gI h o a.toNatClampNeg) :: S) h Q) := ax_iald mt220 dL_law_1041
theorem s220_1042 : aW d 220 1042 [.ref o, l1, l2, l3] S h Q = aW d 220 1043 [.ref o, l1, l2, l3] (.ref o :: S) h Q := ax_aload_n mt220 dL_law_1042 rfl
theorem s220_1043 : aW d 220 1043 [l0, l1, l2, .int a] S h Q = aW d 220 1044 [l0, l1, l2, .int a] (.int a :: S) h Q := ax_iload_n mt220 dL_law_1043 rfl
theorem s220_1044 : aW d 220 1044 L S h Q = aW d 220 1045 L (.int (nI 2) :: S) h Q := ax_iconst mt220 dL_law_1044 ic_2
theorem s220_1045 : aW d 220 1045 L (.int b :: .int a :: S) h Q = aW d 220 1046 L (.int (a + b) :: S) h Q := ax_iadd mt220 dL_law_1045
theorem s220_1046 : aW d 220 1046 L (.int a :: .ref o :: S) h Q = (inb a (aI h o) ∧ aW d 220 1047 L (.int (gI h o a.toNatClampNeg) :: S) h Q) := ax_iald mt220 dL_law_1046
theorem s220_1047 : aW d 220 1047 [.ref o, l1, l2, l3] S h Q = aW d 220 1048 [.ref o, l1, l2, l3] (.ref o :: S) h Q := ax_aload_n mt220 dL_law_1047 rfl
theorem s220_1048 : aW d 220 1048 [l0, l1, l2, .int a] S h Q = aW d 220 1049 [l0, l1, l2, .int a] (.int a :: S) h Q := ax_iload_n mt220 dL_law_1048 rfl
theorem s220_1049 : aW d 220 1049 L S h Q = aW d 220 1050 L (.int (nI 3) :: S) h Q := ax_iconst mt220 dL_law_1049 ic_3
theorem s220_1050 : aW d 220 1050 L (.int b :: .int a :: S) h Q = aW d 220 1051 L (.int (a + b) :: S) h Q := ax_iadd mt220 dL_law_1050
theorem s220_1051 : aW d 220 1051 L (.int a :: .ref o :: S) h Q = (inb a (aI h o) ∧ aW d 220 1052 L (.int (gI h o a.toNatClampNeg) :: S) h Q) := ax_iald mt220 dL_law_1051
theorem s220_1052 : aW d 220 1052 [.ref o, l1, l2, l3] S h Q = aW d 220 1053 [.ref o, l1, l2, l3] (.ref o :: S) h Q := ax_aload_n mt220 dL_law_1052 rfl
theorem s220_1053 : aW d 220 1053 [l0, l1, l2, .int a] S h Q = aW d 220 1054 [l0, l1, l2, .int a] (.int a :: S) h Q := ax_iload_n mt220 dL_law_1053 rfl
theorem s220_1054 : aW d 220 1054 L S h Q = aW d 220 1055 L (.int (nI 4) :: S) h Q := ax_iconst mt220 dL_law_1054 ic_4
theorem s220_1055 : aW d 220 1055 L (.int b :: .int a :: S) h Q = aW d 220 1056 L (.int (a + b) :: S) h Q := ax_iadd mt220 dL_law_1055
theorem s220_1056 : aW d 220 1056 L (.int a :: .ref o :: S) h Q = (inb a (aI h o) ∧ aW d 220 1057 L (.int (gI h o a.toNatClampNeg) :: S) h Q) := ax_iald mt220 dL_law_1056
theorem s220_1057 : aW d 220 1057 [.ref o, l1, l2, l3] S h Q = aW d 220 1058 [.ref o, l1, l2, l3] (.ref o :: S) h Q := ax_aload_n mt220 dL_law_1057 rfl
theorem s220_1058 : aW d 220 1058 [l0, l1, l2, .int a] S h Q = aW d 220 1059 [l0, l1, l2, .int a] (.int a :: S) h Q := ax_iload_n mt220 dL_law_1058 rfl
theorem s220_1059 : aW d 220 1059 L S h Q = aW d 220 1060 L (.int (nI 5) :: S) h Q := ax_iconst mt220 dL_law_1059 ic_5
theorem s220_1060 : aW d 220 1060 L (.int b :: .int a :: S) h Q = aW d 220 1061 L (.int (a + b) :: S) h Q := ax_iadd mt220 dL_law_1060
theorem s220_1061 : aW d 220 1061 L (.int a :: .ref o :: S) h Q = (inb a (aI h o) ∧ aW d 220 1062 L (.int (gI h o a.toNatClampNeg) :: S) h Q) := ax_iald mt220 dL_law_1061
theorem s220_1062 (hT : gT h o = some (14, 54)) : aW (d + 1) 220 1062 L (.int x4 :: .int x3 :: .int x2 :: .int x1 :: .int x0 :: .ref o :: [.int y0]) h Q = aM d 215 (.ref o :: [.int x0, .int x1, .int x2, .int x3, .int x4]) h (fun v h1 => aW (d + 1) 220 1065 L (ab_ps v [.int y0]) h1 Q) := ax_invv mt220 dL_law_1062 (by decide) ct_53397 (.inl rfl) mt215 ⟨⟨Nat.le_of_ble_eq_true rfl, Nat.le_of_ble_eq_true rfl, Nat.le_of_ble_eq_true rfl⟩, rfl, rfl, rfl⟩ hT
theorem s220_1065 : aW d 220 1065 L (.int b :: .int a :: S) h Q = (if a = b then aW d 220 1166 L S h Q else aW d 220 1068 L S h Q) := ax_icmp_eq mt220 dL_law_1065 (by decide)
theorem s220_1068 : aW d 220 1068 L S h Q = aW d 220 1069 L (.int (nI 0) :: S) h Q := ax_iconst mt220 dL_law_1068 ic_0
theorem s220_1069 : aW d 220 1069 L [.int a] h Q = (b01 a ∧ Q (some (.int a)) h) := ax_retz mt220 dL_law_1069 rfl
theorem s220_964 : aW d 220 964 [l0, .ref o, l2, l3] S h Q = aW d 220 965 [l0, .ref o, l2, l3] (.ref o :: S) h Q := ax_aload_n mt220 dL_law_964 rfl
theorem s220_965 : aW d 220 965 [.ref o, l1, l2, l3] S h Q = aW d 220 966 [.ref o, l1, l2, l3] (.ref o :: S) h Q := ax_aload_n mt220 dL_law_965 rfl
theorem s220_966 : aW d 220 966 [l0, l1, l2, .int a] S h Q = aW d 220 967 [l0, l1, l2, .int a] (.int a :: S) h Q := ax_iload_n mt220 dL_law_966 rfl
theorem s220_967 : aW d 220 967 L S h Q = aW d 220 968 L (.int (nI 1) :: S) h Q := ax_iconst mt220 dL_law_967 ic_1
theorem s220_968 : aW d 220 968 L (.int b :: .int a :: S) h Q = aW d 220 969 L (.int (a + b) :: S) h Q := ax_iadd mt220 dL_law_968
theorem s220_969 : aW d 220 969 L (.int a :: .ref o :: S) h Q = (inb a (aI h o) ∧ aW d 220 970 L (.int (gI h o a.toNatClampNeg) :: S) h Q) := ax_iald mt220 dL_law_969
theorem s220_970 : aW d 220 970 [.ref o, l1, l2, l3] S h Q = aW d 220 971 [.ref o, l1, l2, l3] (.ref o :: S) h Q := ax_aload_n mt220 dL_law_970 rfl
theorem s220_971 : aW d 220 971 [l0, l1, l2, .int a] S h Q = aW d 220 972 [l0, l1, l2, .int a] (.int a :: S) h Q := ax_iload_n mt220 dL_law_971 rfl
theorem s220_972 : aW d 220 972 L S h Q = aW d 220 973 L (.int (nI 2) :: S) h Q := ax_iconst mt220 dL_law_972 ic_2
theorem s220_973 : aW d 220 973 L (.int b :: .int a :: S) h Q = aW d 220 974 L (.int (a + b) :: S) h Q := ax_iadd mt220 dL_law_973
theorem s220_974 : aW d 220 974 L (.int a :: .ref o :: S) h Q = (inb a (aI h o) ∧ aW d 220 975 L (.int (gI h o a.toNatClampNeg) :: S) h Q) := ax_iald mt220 dL_law_974
theorem s220_975 : aW d 220 975 [.ref o, l1, l2, l3] S h Q = aW d 220 976 [.ref o, l1, l2, l3] (.ref o :: S) h Q := ax_aload_n mt220 dL_law_975 rfl
theorem s220_976 : aW d 220 976 [l0, l1, l2, .int a] S h Q = aW d 220 977 [l0, l1, l2, .int a] (.int a :: S) h Q := ax_iload_n mt220 dL_law_976 rfl
theorem s220_977 : aW d 220 977 L S h Q = aW d 220 978 L (.int (nI 3) :: S) h Q := ax_iconst mt220 dL_law_977 ic_3
theorem s220_978 : aW d 220 978 L (.int b :: .int a :: S) h Q = aW d 220 979 L (.int (a + b) :: S) h Q := ax_iadd mt220 dL_law_978
theorem s220_979 : aW d 220 979 L (.int a :: .ref o :: S) h Q = (inb a (aI h o) ∧ aW d 220 980 L (.int (gI h o a.toNatClampNeg) :: S) h Q) := ax_iald mt220 dL_law_979
theorem s220_980 (hT : gT h o = some (13, 14)) : aW (d + 1) 220 980 L (.int x2 :: .int x1 :: .int x0 :: .ref o :: []) h Q = aM d 125 (.ref o :: [.int x0, .int x1, .int x2]) h (fun v h1 => aW (d + 1) 220 983 L (ab_ps v []) h1 Q) := ax_invv mt220 dL_law_980 (by decide) ct_53389 (.inl rfl) mt125 ⟨⟨Nat.le_of_ble_eq_true rfl, Nat.le_of_ble_eq_true rfl, Nat.le_of_ble_eq_true rfl⟩, rfl, rfl, rfl⟩ hT
theorem s220_983 : aW d 220 983 [l0, l1, .ref o, l3] S h Q = aW d 220 984 [l0, l1, .ref o, l3] (.ref o :: S) h Q := ax_aload_n mt220 dL_law_983 rfl
theorem s220_984 : aW d 220 984 [.ref o, l1, l2, l3] S h Q = aW d 220 985 [.ref o, l1, l2, l3] (.ref o :: S) h Q := ax_aload_n mt220 dL_law_984 rfl
theorem s220_985 : aW d 220 985 [l0, l1, l2, .int a] S h Q = aW d 220 986 [l0, l1, l2, .int a] (.int a :: S) h Q := ax_iload_n mt220 dL_law_985 rfl
theorem s220_986 : aW d 220 986 L S h Q = aW d 220 987 L (.int (nI 1) :: S) h Q := ax_iconst mt220 dL_law_986 ic_1
theorem s220_987 : aW d 220 987 L (.int b :: .int a :: S) h Q = aW d 220 988 L (.int (a + b) :: S) h Q := ax_iadd mt220 dL_law_987
theorem s220_988 : aW d 220 988 L (.int a :: .ref o :: S) h Q = (inb a (aI h o) ∧ aW d 220 989 L (.int (gI h o a.toNatClampNeg) :: S) h Q) := ax_iald mt220 dL_law_988
theorem s220_989 : aW d 220 989 [.ref o, l1, l2, l3] S h Q = aW d 220 990 [.ref o, l1, l2, l3] (.ref o :: S) h Q := ax_aload_n mt220 dL_law_989 rfl
theorem s220_990 : aW d 220 990 [l0, l1, l2, .int a] S h Q = aW d 220 991 [l0, l1, l2, .int a] (.int a :: S) h Q := ax_iload_n mt220 dL_law_990 rfl
theorem s220_991 : aW d 220 991 L S h Q = aW d 220 992 L (.int (nI 2) :: S) h Q := ax_iconst mt220 dL_law_991 ic_2
theorem s220_992 : aW d 220 992 L (.int b :: .int a :: S) h Q = aW d 220 993 L (.int (a + b) :: S) h Q := ax_iadd mt220 dL_law_992
theorem s220_993 : aW d 220 993 L (.int a :: .ref o :: S) h Q = (inb a (aI h o) ∧ aW d 220 994 L (.int (gI h o a.toNatClampNeg) :: S) h Q) := ax_iald mt220 dL_law_993
theorem s220_994 : aW d 220 994 [.ref o, l1, l2, l3] S h Q = aW d 220 995 [.ref o, l1, l2, l3] (.ref o :: S) h Q := ax_aload_n mt220 dL_law_994 rfl
theorem s220_995 : aW d 220 995 [l0, l1, l2, .int a] S h Q = aW d 220 996 [l0, l1, l2, .int a] (.int a :: S) h Q := ax_iload_n mt220 dL_law_995 rfl
theorem s220_996 : aW d 220 996 L S h Q = aW d 220 997 L (.int (nI 3) :: S) h Q := ax_iconst mt220 dL_law_996 ic_3
theorem s220_997 : aW d 220 997 L (.int b :: .int a :: S) h Q = aW d 220 998 L (.int (a + b) :: S) h Q := ax_iadd mt220 dL_law_997
theorem s220_998 : aW d 220 998 L (.int a :: .ref o :: S) h Q = (inb a (aI h o) ∧ aW d 220 999 L (.int (gI h o a.toNatClampNeg) :: S) h Q) := ax_iald mt220 dL_law_998
theorem s220_999 (hT : gT h o = some (14, 54)) : aW (d + 1) 220 999 L (.int x2 :: .int x1 :: .int x0 :: .ref o :: [.int y0]) h Q = aM d 214 (.ref o :: [.int x0, .int x1, .int x2]) h (fun v h1 => aW (d + 1) 220 1002 L (ab_ps v [.int y0]) h1 Q) := ax_invv mt220 dL_law_999 (by decide) ct_53392 (.inl rfl) mt214 ⟨⟨Nat.le_of_ble_eq_true rfl, Nat.le_of_ble_eq_true rfl, Nat.le_of_ble_eq_true rfl⟩, rfl, rfl, rfl⟩ hT
theorem s220_1002 : aW d 220 1002 L (.int b :: .int a :: S) h Q = (if a = b then aW d 220 1166 L S h Q else aW d 220 1005 L S h Q) := ax_icmp_eq mt220 dL_law_1002 (by decide)
theorem s220_1005 : aW d 220 1005 L S h Q = aW d 220 1006 L (.int (nI 0) :: S) h Q := ax_iconst mt220 dL_law_1005 ic_0
theorem s220_1006 : aW d 220 1006 L [.int a] h Q = (b01 a ∧ Q (some (.int a)) h) := ax_retz mt220 dL_law_1006 rfl
theorem s220_921 : aW d 220 921 [l0, .ref o, l2, l3] S h Q = aW d 220 922 [l0, .ref o, l2, l3] (.ref o :: S) h Q := ax_aload_n mt220 dL_law_921 rfl
theorem s220_922 : aW d 220 922 [.ref o, l1, l2, l3] S h Q = aW d 220 923 [.ref o, l1, l2, l3] (.ref o :: S) h Q := ax_aload_n mt220 dL_law_922 rfl
theorem s220_923 : aW d 220 923 [l0, l1, l2, .int a] S h Q = aW d 220 924 [l0, l1, l2, .int a] (.int a :: S) h Q := ax_iload_n mt220 dL_law_923 rfl
theorem s220_924 : aW d 220 924 L S h Q = aW d 220 925 L (.int (nI 1) :: S) h Q := ax_iconst mt220 dL_law_924 ic_1
theorem s220_925 : aW d 220 925 L (.int b :: .int a :: S) h Q = aW d 220 926 L (.int (a + b) :: S) h Q := ax_iadd mt220 dL_law_925
theorem s220_926 : aW d 220 926 L (.int a :: .ref o :: S) h Q = (inb a (aI h o) ∧ aW d 220 927 L (.int (gI h o a.toNatClampNeg) :: S) h Q) := ax_iald mt220 dL_law_926
theorem s220_927 : aW d 220 927 [.ref o, l1, l2, l3] S h Q = aW d 220 928 [.ref o, l1, l2, l3] (.ref o :: S) h Q := ax_aload_n mt220 dL_law_927 rfl
theorem s220_928 : aW d 220 928 [l0, l1, l2, .int a] S h Q = aW d 220 929 [l0, l1, l2, .int a] (.int a :: S) h Q := ax_iload_n mt220 dL_law_928 rfl
theorem s220_929 : aW d 220 929 L S h Q = aW d 220 930 L (.int (nI 2) :: S) h Q := ax_iconst mt220 dL_law_929 ic_2
theorem s220_930 : aW d 220 930 L (.int b :: .int a :: S) h Q = aW d 220 931 L (.int (a + b) :: S) h Q := ax_iadd mt220 dL_law_930
theorem s220_931 : aW d 220 931 L (.int a :: .ref o :: S) h Q = (inb a (aI h o) ∧ aW d 220 932 L (.int (gI h o a.toNatClampNeg) :: S) h Q) := ax_iald mt220 dL_law_931
theorem s220_932 : aW d 220 932 [.ref o, l1, l2, l3] S h Q = aW d 220 933 [.ref o, l1, l2, l3] (.ref o :: S) h Q := ax_aload_n mt220 dL_law_932 rfl
theorem s220_933 : aW d 220 933 [l0, l1, l2, .int a] S h Q = aW d 220 934 [l0, l1, l2, .int a] (.int a :: S) h Q := ax_iload_n mt220 dL_law_933 rfl
theorem s220_934 : aW d 220 934 L S h Q = aW d 220 935 L (.int (nI 3) :: S) h Q := ax_iconst mt220 dL_law_934 ic_3
theorem s220_935 : aW d 220 935 L (.int b :: .int a :: S) h Q = aW d 220 936 L (.int (a + b) :: S) h Q := ax_iadd mt220 dL_law_935
theorem s220_936 : aW d 220 936 L (.int a :: .ref o :: S) h Q = (inb a (aI h o) ∧ aW d 220 937 L (.int (gI h o a.toNatClampNeg) :: S) h Q) := ax_iald mt220 dL_law_936
theorem s220_937 (hT : gT h o = some (13, 14)) : aW (d + 1) 220 937 L (.int x2 :: .int x1 :: .int x0 :: .ref o :: []) h Q = aM d 124 (.ref o :: [.int x0, .int x1, .int x2]) h (fun v h1 => aW (d + 1) 220 940 L (ab_ps v []) h1 Q) := ax_invv mt220 dL_law_937 (by decide) ct_53385 (.inl rfl) mt124 ⟨⟨Nat.le_of_ble_eq_true rfl, Nat.le_of_ble_eq_true rfl, Nat.le_of_ble_eq_true rfl⟩, rfl, rfl, rfl⟩ hT
theorem s220_940 : aW d 220 940 [l0, l1, .ref o, l3] S h Q = aW d 220 941 [l0, l1, .ref o, l3] (.ref o :: S) h Q := ax_aload_n mt220 dL_law_940 rfl
theorem s220_941 : aW d 220 941 [.ref o, l1, l2, l3] S h Q = aW d 220 942 [.ref o, l1, l2, l3] (.ref o :: S) h Q := ax_aload_n mt220 dL_law_941 rfl
theorem s220_942 : aW d 220 942 [l0, l1, l2, .int a] S h Q = aW d 220 943 [l0, l1, l2, .int a] (.int a :: S) h Q := ax_iload_n mt220 dL_law_942 rfl
theorem s220_943 : aW d 220 943 L S h Q = aW d 220 944 L (.int (nI 1) :: S) h Q := ax_iconst mt220 dL_law_943 ic_1
theorem s220_944 : aW d 220 944 L (.int b :: .int a :: S) h Q = aW d 220 945 L (.int (a + b) :: S) h Q := ax_iadd mt220 dL_law_944
theorem s220_945 : aW d 220 945 L (.int a :: .ref o :: S) h Q = (inb a (aI h o) ∧ aW d 220 946 L (.int (gI h o a.toNatClampNeg) :: S) h Q) := ax_iald mt220 dL_law_945
theorem s220_946 : aW d 220 946 [.ref o, l1, l2, l3] S h Q = aW d 220 947 [.ref o, l1, l2, l3] (.ref o :: S) h Q := ax_aload_n mt220 dL_law_946 rfl
theorem s220_947 : aW d 220 947 [l0, l1, l2, .int a] S h Q = aW d 220 948 [l0, l1, l2, .int a] (.int a :: S) h Q := ax_iload_n mt220 dL_law_947 rfl
theorem s220_948 : aW d 220 948 L S h Q = aW d 220 949 L (.int (nI 2) :: S) h Q := ax_iconst mt220 dL_law_948 ic_2
theorem s220_949 : aW d 220 949 L (.int b :: .int a :: S) h Q = aW d 220 950 L (.int (a + b) :: S) h Q := ax_iadd mt220 dL_law_949
theorem s220_950 : aW d 220 950 L (.int a :: .ref o :: S) h Q = (inb a (aI h o) ∧ aW d 220 951 L (.int (gI h o a.toNatClampNeg) :: S) h Q) := ax_iald mt220 dL_law_950
theorem s220_951 : aW d 220 951 [.ref o, l1, l2, l3] S h Q = aW d 220 952 [.ref o, l1, l2, l3] (.ref o :: S) h Q := ax_aload_n mt220 dL_law_951 rfl
theorem s220_952 : aW d 220 952 [l0, l1, l2, .int a] S h Q = aW d 220 953 [l0, l1, l2, .int a] (.int a :: S) h Q := ax_iload_n mt220 dL_law_952 rfl
theorem s220_953 : aW d 220 953 L S h Q = aW d 220 954 L (.int (nI 3) :: S) h Q := ax_iconst mt220 dL_law_953 ic_3
theorem s220_954 : aW d 220 954 L (.int b :: .int a :: S) h Q = aW d 220 955 L (.int (a + b) :: S) h Q := ax_iadd mt220 dL_law_954
theorem s220_955 : aW d 220 955 L (.int a :: .ref o :: S) h Q = (inb a (aI h o) ∧ aW d 220 956 L (.int (gI h o a.toNatClampNeg) :: S) h Q) := ax_iald mt220 dL_law_955
theorem s220_956 (hT : gT h o = some (14, 54)) : aW (d + 1) 220 956 L (.int x2 :: .int x1 :: .int x0 :: .ref o :: [.int y0]) h Q = aM d 213 (.ref o :: [.int x0, .int x1, .int x2]) h (fun v h1 => aW (d + 1) 220 959 L (ab_ps v [.int y0]) h1 Q) := ax_invv mt220 dL_law_956 (by decide) ct_53388 (.inl rfl) mt213 ⟨⟨Nat.le_of_ble_eq_true rfl, Nat.le_of_ble_eq_true rfl, Nat.le_of_ble_eq_true rfl⟩, rfl, rfl, rfl⟩ hT
theorem s220_959 : aW d 220 959 L (.int b :: .int a :: S) h Q = (if a = b then aW d 220 1166 L S h Q else aW d 220 962 L S h Q) := ax_icmp_eq mt220 dL_law_959 (by decide)
theorem s220_962 : aW d 220 962 L S h Q = aW d 220 963 L (.int (nI 0) :: S) h Q := ax_iconst mt220 dL_law_962 ic_0
theorem s220_963 : aW d 220 963 L [.int a] h Q = (b01 a ∧ Q (some (.int a)) h) := ax_retz mt220 dL_law_963 rfl
theorem s220_898 : aW d 220 898 [l0, .ref o, l2, l3] S h Q = aW d 220 899 [l0, .ref o, l2, l3] (.ref o :: S) h Q := ax_aload_n mt220 dL_law_898 rfl
theorem s220_899 : aW d 220 899 [.ref o, l1, l2, l3] S h Q = aW d 220 900 [.ref o, l1, l2, l3] (.ref o :: S) h Q := ax_aload_n mt220 dL_law_899 rfl
theorem s220_900 : aW d 220 900 [l0, l1, l2, .int a] S h Q = aW d 220 901 [l0, l1, l2, .int a] (.int a :: S) h Q := ax_iload_n mt220 dL_law_900 rfl
theorem s220_901 : aW d 220 901 L S h Q = aW d 220 902 L (.int (nI 1) :: S) h Q := ax_iconst mt220 dL_law_901 ic_1
theorem s220_902 : aW d 220 902 L (.int b :: .int a :: S) h Q = aW d 220 903 L (.int (a + b) :: S) h Q := ax_iadd mt220 dL_law_902
theorem s220_903 : aW d 220 903 L (.int a :: .ref o :: S) h Q = (inb a (aI h o) ∧ aW d 220 904 L (.int (gI h o a.toNatClampNeg) :: S) h Q) := ax_iald mt220 dL_law_903
theorem s220_904 (hT : gT h o = some (13, 14)) : aW (d + 1) 220 904 L (.int x0 :: .ref o :: []) h Q = aM d 123 (.ref o :: [.int x0]) h (fun v h1 => aW (d + 1) 220 907 L (ab_ps v []) h1 Q) := ax_invv mt220 dL_law_904 (by decide) ct_53381 (.inl rfl) mt123 ⟨⟨Nat.le_of_ble_eq_true rfl, Nat.le_of_ble_eq_true rfl, Nat.le_of_ble_eq_true rfl⟩, rfl, rfl, rfl⟩ hT
theorem s220_907 : aW d 220 907 [l0, l1, .ref o, l3] S h Q = aW d 220 908 [l0, l1, .ref o, l3] (.ref o :: S) h Q := ax_aload_n mt220 dL_law_907 rfl
theorem s220_908 : aW d 220 908 [.ref o, l1, l2, l3] S h Q = aW d 220 909 [.ref o, l1, l2, l3] (.ref o :: S) h Q := ax_aload_n mt220 dL_law_908 rfl
theorem s220_909 : aW d 220 909 [l0, l1, l2, .int a] S h Q = aW d 220 910 [l0, l1, l2, .int a] (.int a :: S) h Q := ax_iload_n mt220 dL_law_909 rfl
theorem s220_910 : aW d 220 910 L S h Q = aW d 220 911 L (.int (nI 1) :: S) h Q := ax_iconst mt220 dL_law_910 ic_1
theorem s220_911 : aW d 220 911 L (.int b :: .int a :: S) h Q = aW d 220 912 L (.int (a + b) :: S) h Q := ax_iadd mt220 dL_law_911
theorem s220_912 : aW d 220 912 L (.int a :: .ref o :: S) h Q = (inb a (aI h o) ∧ aW d 220 913 L (.int (gI h o a.toNatClampNeg) :: S) h Q) := ax_iald mt220 dL_law_912
theorem s220_913 (hT : gT h o = some (14, 54)) : aW (d + 1) 220 913 L (.int x0 :: .ref o :: [.int y0]) h Q = aM d 212 (.ref o :: [.int x0]) h (fun v h1 => aW (d + 1) 220 916 L (ab_ps v [.int y0]) h1 Q) := ax_invv mt220 dL_law_913 (by decide) ct_53384 (.inl rfl) mt212 ⟨⟨Nat.le_of_ble_eq_true rfl, Nat.le_of_ble_eq_true rfl, Nat.le_of_ble_eq_true rfl⟩, rfl, rfl, rfl⟩ hT
theorem s220_916 : aW d 220 916 L (.int b :: .int a :: S) h Q = (if a = b then aW d 220 1166 L S h Q else aW d 220 919 L S h Q) := ax_icmp_eq mt220 dL_law_916 (by decide)
theorem s220_919 : aW d 220 919 L S h Q = aW d 220 920 L (.int (nI 0) :: S) h Q := ax_iconst mt220 dL_law_919 ic_0
theorem s220_920 : aW d 220 920 L [.int a] h Q = (b01 a ∧ Q (some (.int a)) h) := ax_retz mt220 dL_law_920 rfl
theorem s220_845 : aW d 220 845 [l0, .ref o, l2, l3] S h Q = aW d 220 846 [l0, .ref o, l2, l3] (.ref o :: S) h Q := ax_aload_n mt220 dL_law_845 rfl
theorem s220_846 : aW d 220 846 [.ref o, l1, l2, l3] S h Q = aW d 220 847 [.ref o, l1, l2, l3] (.ref o :: S) h Q := ax_aload_n mt220 dL_law_846 rfl
theorem s220_847 : aW d 220 847 [l0, l1, l2, .int a] S h Q = aW d 220 848 [l0, l1, l2, .int a] (.int a :: S) h Q := ax_iload_n mt220 dL_law_847 rfl
theorem s220_848 : aW d 220 848 L S h Q = aW d 220 849 L (.int (nI 1) :: S) h Q := ax_iconst mt220 dL_law_848 ic_1
theorem s220_849 : aW d 220 849 L (.int b :: .int a :: S) h Q = aW d 220 850 L (.int (a + b) :: S) h Q := ax_iadd mt220 dL_law_849
theorem s220_850 : aW d 220 850 L (.int a :: .ref o :: S) h Q = (inb a (aI h o) ∧ aW d 220 851 L (.int (gI h o a.toNatClampNeg) :: S) h Q) := ax_iald mt220 dL_law_850
theorem s220_851 : aW d 220 851 [.ref o, l1, l2, l3] S h Q = aW d 220 852 [.ref o, l1, l2, l3] (.ref o :: S) h Q := ax_aload_n mt220 dL_law_851 rfl
theorem s220_852 : aW d 220 852 [l0, l1, l2, .int a] S h Q = aW d 220 853 [l0, l1, l2, .int a] (.int a :: S) h Q := ax_iload_n mt220 dL_law_852 rfl
theorem s220_853 : aW d 220 853 L S h Q = aW d 220 854 L (.int (nI 2) :: S) h Q := ax_iconst mt220 dL_law_853 ic_2
theorem s220_854 : aW d 220 854 L (.int b :: .int a :: S) h Q = aW d 220 855 L (.int (a + b) :: S) h Q := ax_iadd mt220 dL_law_854
theorem s220_855 : aW d 220 855 L (.int a :: .ref o :: S) h Q = (inb a (aI h o) ∧ aW d 220 856 L (.int (gI h o a.toNatClampNeg) :: S) h Q) := ax_iald mt220 dL_law_855
theorem s220_856 : aW d 220 856 [.ref o, l1, l2, l3] S h Q = aW d 220 857 [.ref o, l1, l2, l3] (.ref o :: S) h Q := ax_aload_n mt220 dL_law_856 rfl
theorem s220_857 : aW d 220 857 [l0, l1, l2, .int a] S h Q = aW d 220 858 [l0, l1, l2, .int a] (.int a :: S) h Q := ax_iload_n mt220 dL_law_857 rfl
theorem s220_858 : aW d 220 858 L S h Q = aW d 220 859 L (.int (nI 3) :: S) h Q := ax_iconst mt220 dL_law_858 ic_3
theorem s220_859 : aW d 220 859 L (.int b :: .int a :: S) h Q = aW d 220 860 L (.int (a + b) :: S) h Q := ax_iadd mt220 dL_law_859
theorem s220_860 : aW d 220 860 L (.int a :: .ref o :: S) h Q = (inb a (aI h o) ∧ aW d 220 861 L (.int (gI h o a.toNatClampNeg) :: S) h Q) := ax_iald mt220 dL_law_860
theorem s220_861 : aW d 220 861 [.ref o, l1, l2, l3] S h Q = aW d 220 862 [.ref o, l1, l2, l3] (.ref o :: S) h Q := ax_aload_n mt220 dL_law_861 rfl
theorem s220_862 : aW d 220 862 [l0, l1, l2, .int a] S h Q = aW d 220 863 [l0, l1, l2, .int a] (.int a :: S) h Q := ax_iload_n mt220 dL_law_862 rfl
theorem s220_863 : aW d 220 863 L S h Q = aW d 220 864 L (.int (nI 4) :: S) h Q := ax_iconst mt220 dL_law_863 ic_4
theorem s220_864 : aW d 220 864 L (.int b :: .int a :: S) h Q = aW d 220 865 L (.int (a + b) :: S) h Q := ax_iadd mt220 dL_law_864
theorem s220_865 : aW d 220 865 L (.int a :: .ref o :: S) h Q = (inb a (aI h o) ∧ aW d 220 866 L (.int (gI h o a.toNatClampNeg) :: S) h Q) := ax_iald mt220 dL_law_865
theorem s220_866 (hT : gT h o = some (13, 14)) : aW (d + 1) 220 866 L (.int x3 :: .int x2 :: .int x1 :: .int x0 :: .ref o :: []) h Q = aM d 122 (.ref o :: [.int x0, .int x1, .int x2, .int x3]) h (fun v h1 => aW (d + 1) 220 869 L (ab_ps v []) h1 Q) := ax_invv mt220 dL_law_866 (by decide) ct_53376 (.inl rfl) mt122 ⟨⟨Nat.le_of_ble_eq_true rfl, Nat.le_of_ble_eq_true rfl, Nat.le_of_ble_eq_true rfl⟩, rfl, rfl, rfl⟩ hT
theorem s220_869 : aW d 220 869 [l0, l1, .ref o, l3] S h Q = aW d 220 870 [l0, l1, .ref o, l3] (.ref o :: S) h Q := ax_aload_n mt220 dL_law_869 rfl
theorem s220_870 : aW d 220 870 [.ref o, l1, l2, l3] S h Q = aW d 220 871 [.ref o, l1, l2, l3] (.ref o :: S) h Q := ax_aload_n mt220 dL_law_870 rfl
theorem s220_871 : aW d 220 871 [l0, l1, l2, .int a] S h Q = aW d 220 872 [l0, l1, l2, .int a] (.int a :: S) h Q := ax_iload_n mt220 dL_law_871 rfl
theorem s220_872 : aW d 220 872 L S h Q = aW d 220 873 L (.int (nI 1) :: S) h Q := ax_iconst mt220 dL_law_872 ic_1
theorem s220_873 : aW d 220 873 L (.int b :: .int a :: S) h Q = aW d 220 874 L (.int (a + b) :: S) h Q := ax_iadd mt220 dL_law_873
theorem s220_874 : aW d 220 874 L (.int a :: .ref o :: S) h Q = (inb a (aI h o) ∧ aW d 220 875 L (.int (gI h o a.toNatClampNeg) :: S) h Q) := ax_iald mt220 dL_law_874
theorem s220_875 : aW d 220 875 [.ref o, l1, l2, l3] S h Q = aW d 220 876 [.ref o, l1, l2, l3] (.ref o :: S) h Q := ax_aload_n mt220 dL_law_875 rfl
theorem s220_876 : aW d 220 876 [l0, l1, l2, .int a] S h Q = aW d 220 877 [l0, l1, l2, .int a] (.int a :: S) h Q := ax_iload_n mt220 dL_law_876 rfl
theorem s220_877 : aW d 220 877 L S h Q = aW d 220 878 L (.int (nI 2) :: S) h Q := ax_iconst mt220 dL_law_877 ic_2
theorem s220_878 : aW d 220 878 L (.int b :: .int a :: S) h Q = aW d 220 879 L (.int (a + b) :: S) h Q := ax_iadd mt220 dL_law_878
theorem s220_879 : aW d 220 879 L (.int a :: .ref o :: S) h Q = (inb a (aI h o) ∧ aW d 220 880 L (.int (gI h o a.toNatClampNeg) :: S) h Q) := ax_iald mt220 dL_law_879
theorem s220_880 : aW d 220 880 [.ref o, l1, l2, l3] S h Q = aW d 220 881 [.ref o, l1, l2, l3] (.ref o :: S) h Q := ax_aload_n mt220 dL_law_880 rfl
theorem s220_881 : aW d 220 881 [l0, l1, l2, .int a] S h Q = aW d 220 882 [l0, l1, l2, .int a] (.int a :: S) h Q := ax_iload_n mt220 dL_law_881 rfl
theorem s220_882 : aW d 220 882 L S h Q = aW d 220 883 L (.int (nI 3) :: S) h Q := ax_iconst mt220 dL_law_882 ic_3
theorem s220_883 : aW d 220 883 L (.int b :: .int a :: S) h Q = aW d 220 884 L (.int (a + b) :: S) h Q := ax_iadd mt220 dL_law_883
theorem s220_884 : aW d 220 884 L (.int a :: .ref o :: S) h Q = (inb a (aI h o) ∧ aW d 220 885 L (.int (gI h o a.toNatClampNeg) :: S) h Q) := ax_iald mt220 dL_law_884
theorem s220_885 : aW d 220 885 [.ref o, l1, l2, l3] S h Q = aW d 220 886 [.ref o, l1, l2, l3] (.ref o :: S) h Q := ax_aload_n mt220 dL_law_885 rfl
theorem s220_886 : aW d 220 886 [l0, l1, l2, .int a] S h Q = aW d 220 887 [l0, l1, l2, .int a] (.int a :: S) h Q := ax_iload_n mt220 dL_law_886 rfl
theorem s220_887 : aW d 220 887 L S h Q = aW d 220 888 L (.int (nI 4) :: S) h Q := ax_iconst mt220 dL_law_887 ic_4
theorem s220_888 : aW d 220 888 L (.int b :: .int a :: S) h Q = aW d 220 889 L (.int (a + b) :: S) h Q := ax_iadd mt220 dL_law_888
theorem s220_889 : aW d 220 889 L (.int a :: .ref o :: S) h Q = (inb a (aI h o) ∧ aW d 220 890 L (.int (gI h o a.toNatClampNeg) :: S) h Q) := ax_iald mt220 dL_law_889
theorem s220_890 (hT : gT h o = some (14, 54)) : aW (d + 1) 220 890 L (.int x3 :: .int x2 :: .int x1 :: .int x0 :: .ref o :: [.int y0]) h Q = aM d 158 (.ref o :: [.int x0, .int x1, .int x2, .int x3]) h (fun v h1 => aW (d + 1) 220 893 L (ab_ps v [.int y0]) h1 Q) := ax_invv mt220 dL_law_890 (by decide) ct_53380 (.inl rfl) mt158 ⟨⟨Nat.le_of_ble_eq_true rfl, Nat.le_of_ble_eq_true rfl, Nat.le_of_ble_eq_true rfl⟩, rfl, rfl, rfl⟩ hT
theorem s220_893 : aW d 220 893 L (.int b :: .int a :: S) h Q = (if a = b then aW d 220 1166 L S h Q else aW d 220 896 L S h Q) := ax_icmp_eq mt220 dL_law_893 (by decide)
theorem s220_896 : aW d 220 896 L S h Q = aW d 220 897 L (.int (nI 0) :: S) h Q := ax_iconst mt220 dL_law_896 ic_0
theorem s220_897 : aW d 220 897 L [.int a] h Q = (b01 a ∧ Q (some (.int a)) h) := ax_retz mt220 dL_law_897 rfl
theorem s220_832 : aW d 220 832 [l0, .ref o, l2, l3] S h Q = aW d 220 833 [l0, .ref o, l2, l3] (.ref o :: S) h Q := ax_aload_n mt220 dL_law_832 rfl
theorem s220_833 (hT : gT h o = some (13, 14)) : aW (d + 1) 220 833 L (.ref o :: []) h Q = aM d 121 (.ref o :: []) h (fun v h1 => aW (d + 1) 220 836 L (ab_ps v []) h1 Q) := ax_invv mt220 dL_law_833 (by decide) ct_53372 (.inl rfl) mt121 ⟨⟨Nat.le_of_ble_eq_true rfl, Nat.le_of_ble_eq_true rfl, Nat.le_of_ble_eq_true rfl⟩, rfl, rfl, rfl⟩ hT
theorem s220_836 : aW d 220 836 [l0, l1, .ref o, l3] S h Q = aW d 220 837 [l0, l1, .ref o, l3] (.ref o :: S) h Q := ax_aload_n mt220 dL_law_836 rfl
theorem s220_837 (hT : gT h o = some (14, 54)) : aW (d + 1) 220 837 L (.ref o :: [.int y0]) h Q = aM d 211 (.ref o :: []) h (fun v h1 => aW (d + 1) 220 840 L (ab_ps v [.int y0]) h1 Q) := ax_invv mt220 dL_law_837 (by decide) ct_53375 (.inl rfl) mt211 ⟨⟨Nat.le_of_ble_eq_true rfl, Nat.le_of_ble_eq_true rfl, Nat.le_of_ble_eq_true rfl⟩, rfl, rfl, rfl⟩ hT
theorem s220_840 : aW d 220 840 L (.int b :: .int a :: S) h Q = (if a = b then aW d 220 1166 L S h Q else aW d 220 843 L S h Q) := ax_icmp_eq mt220 dL_law_840 (by decide)
theorem s220_843 : aW d 220 843 L S h Q = aW d 220 844 L (.int (nI 0) :: S) h Q := ax_iconst mt220 dL_law_843 ic_0
theorem s220_844 : aW d 220 844 L [.int a] h Q = (b01 a ∧ Q (some (.int a)) h) := ax_retz mt220 dL_law_844 rfl
theorem s220_819 : aW d 220 819 [l0, .ref o, l2, l3] S h Q = aW d 220 820 [l0, .ref o, l2, l3] (.ref o :: S) h Q := ax_aload_n mt220 dL_law_819 rfl
theorem s220_820 (hT : gT h o = some (13, 14)) : aW (d + 1) 220 820 L (.ref o :: []) h Q = aM d 120 (.ref o :: []) h (fun v h1 => aW (d + 1) 220 823 L (ab_ps v []) h1 Q) := ax_invv mt220 dL_law_820 (by decide) ct_53368 (.inl rfl) mt120 ⟨⟨Nat.le_of_ble_eq_true rfl, Nat.le_of_ble_eq_true rfl, Nat.le_of_ble_eq_true rfl⟩, rfl, rfl, rfl⟩ hT
theorem s220_823 : aW d 220 823 [l0, l1, .ref o, l3] S h Q = aW d 220 824 [l0, l1, .ref o, l3] (.ref o :: S) h Q := ax_aload_n mt220 dL_law_823 rfl
theorem s220_824 (hT : gT h o = some (14, 54)) : aW (d + 1) 220 824 L (.ref o :: [.int y0]) h Q = aM d 210 (.ref o :: []) h (fun v h1 => aW (d + 1) 220 827 L (ab_ps v [.int y0]) h1 Q) := ax_invv mt220 dL_law_824 (by decide) ct_53371 (.inl rfl) mt210 ⟨⟨Nat.le_of_ble_eq_true rfl, Nat.le_of_ble_eq_true rfl, Nat.le_of_ble_eq_true rfl⟩, rfl, rfl, rfl⟩ hT
theorem s220_827 : aW d 220 827 L (.int b :: .int a :: S) h Q = (if a = b then aW d 220 1166 L S h Q else aW d 220 830 L S h Q) := ax_icmp_eq mt220 dL_law_827 (by decide)
theorem s220_830 : aW d 220 830 L S h Q = aW d 220 831 L (.int (nI 0) :: S) h Q := ax_iconst mt220 dL_law_830 ic_0
theorem s220_831 : aW d 220 831 L [.int a] h Q = (b01 a ∧ Q (some (.int a)) h) := ax_retz mt220 dL_law_831 rfl
theorem s220_806 : aW d 220 806 [l0, .ref o, l2, l3] S h Q = aW d 220 807 [l0, .ref o, l2, l3] (.ref o :: S) h Q := ax_aload_n mt220 dL_law_806 rfl
theorem s220_807 (hT : gT h o = some (13, 14)) : aW (d + 1) 220 807 L (.ref o :: []) h Q = aM d 119 (.ref o :: []) h (fun v h1 => aW (d + 1) 220 810 L (ab_ps v []) h1 Q) := ax_invv mt220 dL_law_807 (by decide) ct_53364 (.inl rfl) mt119 ⟨⟨Nat.le_of_ble_eq_true rfl, Nat.le_of_ble_eq_true rfl, Nat.le_of_ble_eq_true rfl⟩, rfl, rfl, rfl⟩ hT
theorem s220_810 : aW d 220 810 [l0, l1, .ref o, l3] S h Q = aW d 220 811 [l0, l1, .ref o, l3] (.ref o :: S) h Q := ax_aload_n mt220 dL_law_810 rfl
theorem s220_811 (hT : gT h o = some (14, 54)) : aW (d + 1) 220 811 L (.ref o :: [.int y0]) h Q = aM d 209 (.ref o :: []) h (fun v h1 => aW (d + 1) 220 814 L (ab_ps v [.int y0]) h1 Q) := ax_invv mt220 dL_law_811 (by decide) ct_53367 (.inl rfl) mt209 ⟨⟨Nat.le_of_ble_eq_true rfl, Nat.le_of_ble_eq_true rfl, Nat.le_of_ble_eq_true rfl⟩, rfl, rfl, rfl⟩ hT
theorem s220_814 : aW d 220 814 L (.int b :: .int a :: S) h Q = (if a = b then aW d 220 1166 L S h Q else aW d 220 817 L S h Q) := ax_icmp_eq mt220 dL_law_814 (by decide)
theorem s220_817 : aW d 220 817 L S h Q = aW d 220 818 L (.int (nI 0) :: S) h Q := ax_iconst mt220 dL_law_817 ic_0
theorem s220_818 : aW d 220 818 L [.int a] h Q = (b01 a ∧ Q (some (.int a)) h) := ax_retz mt220 dL_law_818 rfl
theorem s220_783 : aW d 220 783 [l0, .ref o, l2, l3] S h Q = aW d 220 784 [l0, .ref o, l2, l3] (.ref o :: S) h Q := ax_aload_n mt220 dL_law_783 rfl
theorem s220_784 : aW d 220 784 [.ref o, l1, l2, l3] S h Q = aW d 220 785 [.ref o, l1, l2, l3] (.ref o :: S) h Q := ax_aload_n mt220 dL_law_784 rfl
theorem s220_785 : aW d 220 785 [l0, l1, l2, .int a] S h Q = aW d 220 786 [l0, l1, l2, .int a] (.int a :: S) h Q := ax_iload_n mt220 dL_law_785 rfl
theorem s220_786 : aW d 220 786 L S h Q = aW d 220 787 L (.int (nI 1) :: S) h Q := ax_iconst mt220 dL_law_786 ic_1
theorem s220_787 : aW d 220 787 L (.int b :: .int a :: S) h Q = aW d 220 788 L (.int (a + b) :: S) h Q := ax_iadd mt220 dL_law_787
theorem s220_788 : aW d 220 788 L (.int a :: .ref o :: S) h Q = (inb a (aI h o) ∧ aW d 220 789 L (.int (gI h o a.toNatClampNeg) :: S) h Q) := ax_iald mt220 dL_law_788
theorem s220_789 (hT : gT h o = some (13, 14)) : aW (d + 1) 220 789 L (.int x0 :: .ref o :: []) h Q = aM d 118 (.ref o :: [.int x0]) h (fun v h1 => aW (d + 1) 220 792 L (ab_ps v []) h1 Q) := ax_invv mt220 dL_law_789 (by decide) ct_53360 (.inl rfl) mt118 ⟨⟨Nat.le_of_ble_eq_true rfl, Nat.le_of_ble_eq_true rfl, Nat.le_of_ble_eq_true rfl⟩, rfl, rfl, rfl⟩ hT
theorem s220_792 : aW d 220 792 [l0, l1, .ref o, l3] S h Q = aW d 220 793 [l0, l1, .ref o, l3] (.ref o :: S) h Q := ax_aload_n mt220 dL_law_792 rfl
theorem s220_793 : aW d 220 793 [.ref o, l1, l2, l3] S h Q = aW d 220 794 [.ref o, l1, l2, l3] (.ref o :: S) h Q := ax_aload_n mt220 dL_law_793 rfl
theorem s220_794 : aW d 220 794 [l0, l1, l2, .int a] S h Q = aW d 220 795 [l0, l1, l2, .int a] (.int a :: S) h Q := ax_iload_n mt220 dL_law_794 rfl
theorem s220_795 : aW d 220 795 L S h Q = aW d 220 796 L (.int (nI 1) :: S) h Q := ax_iconst mt220 dL_law_795 ic_1
theorem s220_796 : aW d 220 796 L (.int b :: .int a :: S) h Q = aW d 220 797 L (.int (a + b) :: S) h Q := ax_iadd mt220 dL_law_796
theorem s220_797 : aW d 220 797 L (.int a :: .ref o :: S) h Q = (inb a (aI h o) ∧ aW d 220 798 L (.int (gI h o a.toNatClampNeg) :: S) h Q) := ax_iald mt220 dL_law_797
theorem s220_798 (hT : gT h o = some (14, 54)) : aW (d + 1) 220 798 L (.int x0 :: .ref o :: [.int y0]) h Q = aM d 208 (.ref o :: [.int x0]) h (fun v h1 => aW (d + 1) 220 801 L (ab_ps v [.int y0]) h1 Q) := ax_invv mt220 dL_law_798 (by decide) ct_53363 (.inl rfl) mt208 ⟨⟨Nat.le_of_ble_eq_true rfl, Nat.le_of_ble_eq_true rfl, Nat.le_of_ble_eq_true rfl⟩, rfl, rfl, rfl⟩ hT
theorem s220_801 : aW d 220 801 L (.int b :: .int a :: S) h Q = (if a = b then aW d 220 1166 L S h Q else aW d 220 804 L S h Q) := ax_icmp_eq mt220 dL_law_801 (by decide)
theorem s220_804 : aW d 220 804 L S h Q = aW d 220 805 L (.int (nI 0) :: S) h Q := ax_iconst mt220 dL_law_804 ic_0
theorem s220_805 : aW d 220 805 L [.int a] h Q = (b01 a ∧ Q (some (.int a)) h) := ax_retz mt220 dL_law_805 rfl
theorem s220_750 : aW d 220 750 [l0, .ref o, l2, l3] S h Q = aW d 220 751 [l0, .ref o, l2, l3] (.ref o :: S) h Q := ax_aload_n mt220 dL_law_750 rfl
theorem s220_751 : aW d 220 751 [.ref o, l1, l2, l3] S h Q = aW d 220 752 [.ref o, l1, l2, l3] (.ref o :: S) h Q := ax_aload_n mt220 dL_law_751 rfl
theorem s220_752 : aW d 220 752 [l0, l1, l2, .int a] S h Q = aW d 220 753 [l0, l1, l2, .int a] (.int a :: S) h Q := ax_iload_n mt220 dL_law_752 rfl
theorem s220_753 : aW d 220 753 L S h Q = aW d 220 754 L (.int (nI 1) :: S) h Q := ax_iconst mt220 dL_law_753 ic_1
theorem s220_754 : aW d 220 754 L (.int b :: .int a :: S) h Q = aW d 220 755 L (.int (a + b) :: S) h Q := ax_iadd mt220 dL_law_754
theorem s220_755 : aW d 220 755 L (.int a :: .ref o :: S) h Q = (inb a (aI h o) ∧ aW d 220 756 L (.int (gI h o a.toNatClampNeg) :: S) h Q) := ax_iald mt220 dL_law_755
theorem s220_756 : aW d 220 756 [.ref o, l1, l2, l3] S h Q = aW d 220 757 [.ref o, l1, l2, l3] (.ref o :: S) h Q := ax_aload_n mt220 dL_law_756 rfl
theorem s220_757 : aW d 220 757 [l0, l1, l2, .int a] S h Q = aW d 220 758 [l0, l1, l2, .int a] (.int a :: S) h Q := ax_iload_n mt220 dL_law_757 rfl
theorem s220_758 : aW d 220 758 L S h Q = aW d 220 759 L (.int (nI 2) :: S) h Q := ax_iconst mt220 dL_law_758 ic_2
theorem s220_759 : aW d 220 759 L (.int b :: .int a :: S) h Q = aW d 220 760 L (.int (a + b) :: S) h Q := ax_iadd mt220 dL_law_759
theorem s220_760 : aW d 220 760 L (.int a :: .ref o :: S) h Q = (inb a (aI h o) ∧ aW d 220 761 L (.int (gI h o a.toNatClampNeg) :: S) h Q) := ax_iald mt220 dL_law_760
theorem s220_761 (hT : gT h o = some (13, 14)) : aW (d + 1) 220 761 L (.int x1 :: .int x0 :: .ref o :: []) h Q = aM d 117 (.ref o :: [.int x0, .int x1]) h (fun v h1 => aW (d + 1) 220 764 L (ab_ps v []) h1 Q) := ax_invv mt220 dL_law_761 (by decide) ct_53356 (.inl rfl) mt117 ⟨⟨Nat.le_of_ble_eq_true rfl, Nat.le_of_ble_eq_true rfl, Nat.le_of_ble_eq_true rfl⟩, rfl, rfl, rfl⟩ hT
theorem s220_764 : aW d 220 764 [l0, l1, .ref o, l3] S h Q = aW d 220 765 [l0, l1, .ref o, l3] (.ref o :: S) h Q := ax_aload_n mt220 dL_law_764 rfl
theorem s220_765 : aW d 220 765 [.ref o, l1, l2, l3] S h Q = aW d 220 766 [.ref o, l1, l2, l3] (.ref o :: S) h Q := ax_aload_n mt220 dL_law_765 rfl
theorem s220_766 : aW d 220 766 [l0, l1, l2, .int a] S h Q = aW d 220 767 [l0, l1, l2, .int a] (.int a :: S) h Q := ax_iload_n mt220 dL_law_766 rfl
theorem s220_767 : aW d 220 767 L S h Q = aW d 220 768 L (.int (nI 1) :: S) h Q := ax_iconst mt220 dL_law_767 ic_1
theorem s220_768 : aW d 220 768 L (.int b :: .int a :: S) h Q = aW d 220 769 L (.int (a + b) :: S) h Q := ax_iadd mt220 dL_law_768
theorem s220_769 : aW d 220 769 L (.int a :: .ref o :: S) h Q = (inb a (aI h o) ∧ aW d 220 770 L (.int (gI h o a.toNatClampNeg) :: S) h Q) := ax_iald mt220 dL_law_769
theorem s220_770 : aW d 220 770 [.ref o, l1, l2, l3] S h Q = aW d 220 771 [.ref o, l1, l2, l3] (.ref o :: S) h Q := ax_aload_n mt220 dL_law_770 rfl
theorem s220_771 : aW d 220 771 [l0, l1, l2, .int a] S h Q = aW d 220 772 [l0, l1, l2, .int a] (.int a :: S) h Q := ax_iload_n mt220 dL_law_771 rfl
theorem s220_772 : aW d 220 772 L S h Q = aW d 220 773 L (.int (nI 2) :: S) h Q := ax_iconst mt220 dL_law_772 ic_2
theorem s220_773 : aW d 220 773 L (.int b :: .int a :: S) h Q = aW d 220 774 L (.int (a + b) :: S) h Q := ax_iadd mt220 dL_law_773
theorem s220_774 : aW d 220 774 L (.int a :: .ref o :: S) h Q = (inb a (aI h o) ∧ aW d 220 775 L (.int (gI h o a.toNatClampNeg) :: S) h Q) := ax_iald mt220 dL_law_774
theorem s220_775 (hT : gT h o = some (14, 54)) : aW (d + 1) 220 775 L (.int x1 :: .int x0 :: .ref o :: [.int y0]) h Q = aM d 207 (.ref o :: [.int x0, .int x1]) h (fun v h1 => aW (d + 1) 220 778 L (ab_ps v [.int y0]) h1 Q) := ax_invv mt220 dL_law_775 (by decide) ct_53359 (.inl rfl) mt207 ⟨⟨Nat.le_of_ble_eq_true rfl, Nat.le_of_ble_eq_true rfl, Nat.le_of_ble_eq_true rfl⟩, rfl, rfl, rfl⟩ hT
theorem s220_778 : aW d 220 778 L (.int b :: .int a :: S) h Q = (if a = b then aW d 220 1166 L S h Q else aW d 220 781 L S h Q) := ax_icmp_eq mt220 dL_law_778 (by decide)
theorem s220_781 : aW d 220 781 L S h Q = aW d 220 782 L (.int (nI 0) :: S) h Q := ax_iconst mt220 dL_law_781 ic_0
theorem s220_782 : aW d 220 782 L [.int a] h Q = (b01 a ∧ Q (some (.int a)) h) := ax_retz mt220 dL_law_782 rfl
theorem s220_737 : aW d 220 737 [l0, .ref o, l2, l3] S h Q = aW d 220 738 [l0, .ref o, l2, l3] (.ref o :: S) h Q := ax_aload_n mt220 dL_law_737 rfl
theorem s220_738 (hT : gT h o = some (13, 14)) : aW (d + 1) 220 738 L (.ref o :: []) h Q = aM d 116 (.ref o :: []) h (fun v h1 => aW (d + 1) 220 741 L (ab_ps v []) h1 Q) := ax_invv mt220 dL_law_738 (by decide) ct_53352 (.inl rfl) mt116 ⟨⟨Nat.le_of_ble_eq_true rfl, Nat.le_of_ble_eq_true rfl, Nat.le_of_ble_eq_true rfl⟩, rfl, rfl, rfl⟩ hT
theorem s220_741 : aW d 220 741 [l0, l1, .ref o, l3] S h Q = aW d 220 742 [l0, l1, .ref o, l3] (.ref o :: S) h Q := ax_aload_n mt220 dL_law_741 rfl
theorem s220_742 (hT : gT h o = some (14, 54)) : aW (d + 1) 220 742 L (.ref o :: [.int y0]) h Q = aM d 206 (.ref o :: []) h (fun v h1 => aW (d + 1) 220 745 L (ab_ps v [.int y0]) h1 Q) := ax_invv mt220 dL_law_742 (by decide) ct_53355 (.inl rfl) mt206 ⟨⟨Nat.le_of_ble_eq_true rfl, Nat.le_of_ble_eq_true rfl, Nat.le_of_ble_eq_true rfl⟩, rfl, rfl, rfl⟩ hT
theorem s220_745 : aW d 220 745 L (.int b :: .int a :: S) h Q = (if a = b then aW d 220 1166 L S h Q else aW d 220 748 L S h Q) := ax_icmp_eq mt220 dL_law_745 (by decide)
theorem s220_748 : aW d 220 748 L S h Q = aW d 220 749 L (.int (nI 0) :: S) h Q := ax_iconst mt220 dL_law_748 ic_0
theorem s220_749 : aW d 220 749 L [.int a] h Q = (b01 a ∧ Q (some (.int a)) h) := ax_retz mt220 dL_law_749 rfl
theorem s220_714 : aW d 220 714 [l0, .ref o, l2, l3] S h Q = aW d 220 715 [l0, .ref o, l2, l3] (.ref o :: S) h Q := ax_aload_n mt220 dL_law_714 rfl
theorem s220_715 : aW d 220 715 [.ref o, l1, l2, l3] S h Q = aW d 220 716 [.ref o, l1, l2, l3] (.ref o :: S) h Q := ax_aload_n mt220 dL_law_715 rfl
theorem s220_716 : aW d 220 716 [l0, l1, l2, .int a] S h Q = aW d 220 717 [l0, l1, l2, .int a] (.int a :: S) h Q := ax_iload_n mt220 dL_law_716 rfl
theorem s220_717 : aW d 220 717 L S h Q = aW d 220 718 L (.int (nI 1) :: S) h Q := ax_iconst mt220 dL_law_717 ic_1
theorem s220_718 : aW d 220 718 L (.int b :: .int a :: S) h Q = aW d 220 719 L (.int (a + b) :: S) h Q := ax_iadd mt220 dL_law_718
theorem s220_719 : aW d 220 719 L (.int a :: .ref o :: S) h Q = (inb a (aI h o) ∧ aW d 220 720 L (.int (gI h o a.toNatClampNeg) :: S) h Q) := ax_iald mt220 dL_law_719
theorem s220_720 (hT : gT h o = some (13, 14)) : aW (d + 1) 220 720 L (.int x0 :: .ref o :: []) h Q = aM d 115 (.ref o :: [.int x0]) h (fun v h1 => aW (d + 1) 220 723 L (ab_ps v []) h1 Q) := ax_invv mt220 dL_law_720 (by decide) ct_53348 (.inl rfl) mt115 ⟨⟨Nat.le_of_ble_eq_true rfl, Nat.le_of_ble_eq_true rfl, Nat.le_of_ble_eq_true rfl⟩, rfl, rfl, rfl⟩ hT
theorem s220_723 : aW d 220 723 [l0, l1, .ref o, l3] S h Q = aW d 220 724 [l0, l1, .ref o, l3] (.ref o :: S) h Q := ax_aload_n mt220 dL_law_723 rfl
theorem s220_724 : aW d 220 724 [.ref o, l1, l2, l3] S h Q = aW d 220 725 [.ref o, l1, l2, l3] (.ref o :: S) h Q := ax_aload_n mt220 dL_law_724 rfl
theorem s220_725 : aW d 220 725 [l0, l1, l2, .int a] S h Q = aW d 220 726 [l0, l1, l2, .int a] (.int a :: S) h Q := ax_iload_n mt220 dL_law_725 rfl
theorem s220_726 : aW d 220 726 L S h Q = aW d 220 727 L (.int (nI 1) :: S) h Q := ax_iconst mt220 dL_law_726 ic_1
theorem s220_727 : aW d 220 727 L (.int b :: .int a :: S) h Q = aW d 220 728 L (.int (a + b) :: S) h Q := ax_iadd mt220 dL_law_727
theorem s220_728 : aW d 220 728 L (.int a :: .ref o :: S) h Q = (inb a (aI h o) ∧ aW d 220 729 L (.int (gI h o a.toNatClampNeg) :: S) h Q) := ax_iald mt220 dL_law_728
theorem s220_729 (hT : gT h o = some (14, 54)) : aW (d + 1) 220 729 L (.int x0 :: .ref o :: [.int y0]) h Q = aM d 205 (.ref o :: [.int x0]) h (fun v h1 => aW (d + 1) 220 732 L (ab_ps v [.int y0]) h1 Q) := ax_invv mt220 dL_law_729 (by decide) ct_53351 (.inl rfl) mt205 ⟨⟨Nat.le_of_ble_eq_true rfl, Nat.le_of_ble_eq_true rfl, Nat.le_of_ble_eq_true rfl⟩, rfl, rfl, rfl⟩ hT
theorem s220_732 : aW d 220 732 L (.int b :: .int a :: S) h Q = (if a = b then aW d 220 1166 L S h Q else aW d 220 735 L S h Q) := ax_icmp_eq mt220 dL_law_732 (by decide)
theorem s220_735 : aW d 220 735 L S h Q = aW d 220 736 L (.int (nI 0) :: S) h Q := ax_iconst mt220 dL_law_735 ic_0
theorem s220_736 : aW d 220 736 L [.int a] h Q = (b01 a ∧ Q (some (.int a)) h) := ax_retz mt220 dL_law_736 rfl
theorem s220_691 : aW d 220 691 [l0, .ref o, l2, l3] S h Q = aW d 220 692 [l0, .ref o, l2, l3] (.ref o :: S) h Q := ax_aload_n mt220 dL_law_691 rfl
theorem s220_692 : aW d 220 692 [.ref o, l1, l2, l3] S h Q = aW d 220 693 [.ref o, l1, l2, l3] (.ref o :: S) h Q := ax_aload_n mt220 dL_law_692 rfl
theorem s220_693 : aW d 220 693 [l0, l1, l2, .int a] S h Q = aW d 220 694 [l0, l1, l2, .int a] (.int a :: S) h Q := ax_iload_n mt220 dL_law_693 rfl
theorem s220_694 : aW d 220 694 L S h Q = aW d 220 695 L (.int (nI 1) :: S) h Q := ax_iconst mt220 dL_law_694 ic_1
theorem s220_695 : aW d 220 695 L (.int b :: .int a :: S) h Q = aW d 220 696 L (.int (a + b) :: S) h Q := ax_iadd mt220 dL_law_695
theorem s220_696 : aW d 220 696 L (.int a :: .ref o :: S) h Q = (inb a (aI h o) ∧ aW d 220 697 L (.int (gI h o a.toNatClampNeg) :: S) h Q) := ax_iald mt220 dL_law_696
theorem s220_697 (hT : gT h o = some (13, 14)) : aW (d + 1) 220 697 L (.int x0 :: .ref o :: []) h Q = aM d 114 (.ref o :: [.int x0]) h (fun v h1 => aW (d + 1) 220 700 L (ab_ps v []) h1 Q) := ax_invv mt220 dL_law_697 (by decide) ct_53344 (.inl rfl) mt114 ⟨⟨Nat.le_of_ble_eq_true rfl, Nat.le_of_ble_eq_true rfl, Nat.le_of_ble_eq_true rfl⟩, rfl, rfl, rfl⟩ hT
theorem s220_700 : aW d 220 700 [l0, l1, .ref o, l3] S h Q = aW d 220 701 [l0, l1, .ref o, l3] (.ref o :: S) h Q := ax_aload_n mt220 dL_law_700 rfl
theorem s220_701 : aW d 220 701 [.ref o, l1, l2, l3] S h Q = aW d 220 702 [.ref o, l1, l2, l3] (.ref o :: S) h Q := ax_aload_n mt220 dL_law_701 rfl
theorem s220_702 : aW d 220 702 [l0, l1, l2, .int a] S h Q = aW d 220 703 [l0, l1, l2, .int a] (.int a :: S) h Q := ax_iload_n mt220 dL_law_702 rfl
theorem s220_703 : aW d 220 703 L S h Q = aW d 220 704 L (.int (nI 1) :: S) h Q := ax_iconst mt220 dL_law_703 ic_1
theorem s220_704 : aW d 220 704 L (.int b :: .int a :: S) h Q = aW d 220 705 L (.int (a + b) :: S) h Q := ax_iadd mt220 dL_law_704
theorem s220_705 : aW d 220 705 L (.int a :: .ref o :: S) h Q = (inb a (aI h o) ∧ aW d 220 706 L (.int (gI h o a.toNatClampNeg) :: S) h Q) := ax_iald mt220 dL_law_705
theorem s220_706 (hT : gT h o = some (14, 54)) : aW (d + 1) 220 706 L (.int x0 :: .ref o :: [.int y0]) h Q = aM d 199 (.ref o :: [.int x0]) h (fun v h1 => aW (d + 1) 220 709 L (ab_ps v [.int y0]) h1 Q) := ax_invv mt220 dL_law_706 (by decide) ct_53347 (.inl rfl) mt199 ⟨⟨Nat.le_of_ble_eq_true rfl, Nat.le_of_ble_eq_true rfl, Nat.le_of_ble_eq_true rfl⟩, rfl, rfl, rfl⟩ hT
theorem s220_709 : aW d 220 709 L (.int b :: .int a :: S) h Q = (if a = b then aW d 220 1166 L S h Q else aW d 220 712 L S h Q) := ax_icmp_eq mt220 dL_law_709 (by decide)
theorem s220_712 : aW d 220 712 L S h Q = aW d 220 713 L (.int (nI 0) :: S) h Q := ax_iconst mt220 dL_law_712 ic_0
theorem s220_713 : aW d 220 713 L [.int a] h Q = (b01 a ∧ Q (some (.int a)) h) := ax_retz mt220 dL_law_713 rfl
theorem s220_668 : aW d 220 668 [l0, .ref o, l2, l3] S h Q = aW d 220 669 [l0, .ref o, l2, l3] (.ref o :: S) h Q := ax_aload_n mt220 dL_law_668 rfl
theorem s220_669 : aW d 220 669 [.ref o, l1, l2, l3] S h Q = aW d 220 670 [.ref o, l1, l2, l3] (.ref o :: S) h Q := ax_aload_n mt220 dL_law_669 rfl
theorem s220_670 : aW d 220 670 [l0, l1, l2, .int a] S h Q = aW d 220 671 [l0, l1, l2, .int a] (.int a :: S) h Q := ax_iload_n mt220 dL_law_670 rfl
theorem s220_671 : aW d 220 671 L S h Q = aW d 220 672 L (.int (nI 1) :: S) h Q := ax_iconst mt220 dL_law_671 ic_1
theorem s220_672 : aW d 220 672 L (.int b :: .int a :: S) h Q = aW d 220 673 L (.int (a + b) :: S) h Q := ax_iadd mt220 dL_law_672
theorem s220_673 : aW d 220 673 L (.int a :: .ref o :: S) h Q = (inb a (aI h o) ∧ aW d 220 674 L (.int (gI h o a.toNatClampNeg) :: S) h Q) := ax_iald mt220 dL_law_673
theorem s220_674 (hT : gT h o = some (13, 14)) : aW (d + 1) 220 674 L (.int x0 :: .ref o :: []) h Q = aM d 113 (.ref o :: [.int x0]) h (fun v h1 => aW (d + 1) 220 677 L (ab_ps v []) h1 Q) := ax_invv mt220 dL_law_674 (by decide) ct_53340 (.inl rfl) mt113 ⟨⟨Nat.le_of_ble_eq_true rfl, Nat.le_of_ble_eq_true rfl, Nat.le_of_ble_eq_true rfl⟩, rfl, rfl, rfl⟩ hT
theorem s220_677 : aW d 220 677 [l0, l1, .ref o, l3] S h Q = aW d 220 678 [l0, l1, .ref o, l3] (.ref o :: S) h Q := ax_aload_n mt220 dL_law_677 rfl
theorem s220_678 : aW d 220 678 [.ref o, l1, l2, l3] S h Q = aW d 220 679 [.ref o, l1, l2, l3] (.ref o :: S) h Q := ax_aload_n mt220 dL_law_678 rfl
theorem s220_679 : aW d 220 679 [l0, l1, l2, .int a] S h Q = aW d 220 680 [l0, l1, l2, .int a] (.int a :: S) h Q := ax_iload_n mt220 dL_law_679 rfl
theorem s220_680 : aW d 220 680 L S h Q = aW d 220 681 L (.int (nI 1) :: S) h Q := ax_iconst mt220 dL_law_680 ic_1
theorem s220_681 : aW d 220 681 L (.int b :: .int a :: S) h Q = aW d 220 682 L (.int (a + b) :: S) h Q := ax_iadd mt220 dL_law_681
theorem s220_682 : aW d 220 682 L (.int a :: .ref o :: S) h Q = (inb a (aI h o) ∧ aW d 220 683 L (.int (gI h o a.toNatClampNeg) :: S) h Q) := ax_iald mt220 dL_law_682
theorem s220_683 (hT : gT h o = some (14, 54)) : aW (d + 1) 220 683 L (.int x0 :: .ref o :: [.int y0]) h Q = aM d 198 (.ref o :: [.int x0]) h (fun v h1 => aW (d + 1) 220 686 L (ab_ps v [.int y0]) h1 Q) := ax_invv mt220 dL_law_683 (by decide) ct_53343 (.inl rfl) mt198 ⟨⟨Nat.le_of_ble_eq_true rfl, Nat.le_of_ble_eq_true rfl, Nat.le_of_ble_eq_true rfl⟩, rfl, rfl, rfl⟩ hT
theorem s220_686 : aW d 220 686 L (.int b :: .int a :: S) h Q = (if a = b then aW d 220 1166 L S h Q else aW d 220 689 L S h Q) := ax_icmp_eq mt220 dL_law_686 (by decide)
theorem s220_689 : aW d 220 689 L S h Q = aW d 220 690 L (.int (nI 0) :: S) h Q := ax_iconst mt220 dL_law_689 ic_0
theorem s220_690 : aW d 220 690 L [.int a] h Q = (b01 a ∧ Q (some (.int a)) h) := ax_retz mt220 dL_law_690 rfl
theorem s220_645 : aW d 220 645 [l0, .ref o, l2, l3] S h Q = aW d 220 646 [l0, .ref o, l2, l3] (.ref o :: S) h Q := ax_aload_n mt220 dL_law_645 rfl
theorem s220_646 : aW d 220 646 [.ref o, l1, l2, l3] S h Q = aW d 220 647 [.ref o, l1, l2, l3] (.ref o :: S) h Q := ax_aload_n mt220 dL_law_646 rfl
theorem s220_647 : aW d 220 647 [l0, l1, l2, .int a] S h Q = aW d 220 648 [l0, l1, l2, .int a] (.int a :: S) h Q := ax_iload_n mt220 dL_law_647 rfl
theorem s220_648 : aW d 220 648 L S h Q = aW d 220 649 L (.int (nI 1) :: S) h Q := ax_iconst mt220 dL_law_648 ic_1
theorem s220_649 : aW d 220 649 L (.int b :: .int a :: S) h Q = aW d 220 650 L (.int (a + b) :: S) h Q := ax_iadd mt220 dL_law_649
theorem s220_650 : aW d 220 650 L (.int a :: .ref o :: S) h Q = (inb a (aI h o) ∧ aW d 220 651 L (.int (gI h o a.toNatClampNeg) :: S) h Q) := ax_iald mt220 dL_law_650
theorem s220_651 (hT : gT h o = some (13, 14)) : aW (d + 1) 220 651 L (.int x0 :: .ref o :: []) h Q = aM d 112 (.ref o :: [.int x0]) h (fun v h1 => aW (d + 1) 220 654 L (ab_ps v []) h1 Q) := ax_invv mt220 dL_law_651 (by decide) ct_53336 (.inl rfl) mt112 ⟨⟨Nat.le_of_ble_eq_true rfl, Nat.le_of_ble_eq_true rfl, Nat.le_of_ble_eq_true rfl⟩, rfl, rfl, rfl⟩ hT
theorem s220_654 : aW d 220 654 [l0, l1, .ref o, l3] S h Q = aW d 220 655 [l0, l1, .ref o, l3] (.ref o :: S) h Q := ax_aload_n mt220 dL_law_654 rfl
theorem s220_655 : aW d 220 655 [.ref o, l1, l2, l3] S h Q = aW d 220 656 [.ref o, l1, l2, l3] (.ref o :: S) h Q := ax_aload_n mt220 dL_law_655 rfl
theorem s220_656 : aW d 220 656 [l0, l1, l2, .int a] S h Q = aW d 220 657 [l0, l1, l2, .int a] (.int a :: S) h Q := ax_iload_n mt220 dL_law_656 rfl
theorem s220_657 : aW d 220 657 L S h Q = aW d 220 658 L (.int (nI 1) :: S) h Q := ax_iconst mt220 dL_law_657 ic_1
theorem s220_658 : aW d 220 658 L (.int b :: .int a :: S) h Q = aW d 220 659 L (.int (a + b) :: S) h Q := ax_iadd mt220 dL_law_658
theorem s220_659 : aW d 220 659 L (.int a :: .ref o :: S) h Q = (inb a (aI h o) ∧ aW d 220 660 L (.int (gI h o a.toNatClampNeg) :: S) h Q) := ax_iald mt220 dL_law_659
theorem s220_660 (hT : gT h o = some (14, 54)) : aW (d + 1) 220 660 L (.int x0 :: .ref o :: [.int y0]) h Q = aM d 197 (.ref o :: [.int x0]) h (fun v h1 => aW (d + 1) 220 663 L (ab_ps v [.int y0]) h1 Q) := ax_invv mt220 dL_law_660 (by decide) ct_53339 (.inl rfl) mt197 ⟨⟨Nat.le_of_ble_eq_true rfl, Nat.le_of_ble_eq_true rfl, Nat.le_of_ble_eq_true rfl⟩, rfl, rfl, rfl⟩ hT
theorem s220_663 : aW d 220 663 L (.int b :: .int a :: S) h Q = (if a = b then aW d 220 1166 L S h Q else aW d 220 666 L S h Q) := ax_icmp_eq mt220 dL_law_663 (by decide)
theorem s220_666 : aW d 220 666 L S h Q = aW d 220 667 L (.int (nI 0) :: S) h Q := ax_iconst mt220 dL_law_666 ic_0
theorem s220_667 : aW d 220 667 L [.int a] h Q = (b01 a ∧ Q (some (.int a)) h) := ax_retz mt220 dL_law_667 rfl
theorem s220_632 : aW d 220 632 [l0, .ref o, l2, l3] S h Q = aW d 220 633 [l0, .ref o, l2, l3] (.ref o :: S) h Q := ax_aload_n mt220 dL_law_632 rfl
theorem s220_633 (hT : gT h o = some (13, 14)) : aW (d + 1) 220 633 L (.ref o :: []) h Q = aM d 111 (.ref o :: []) h (fun v h1 => aW (d + 1) 220 636 L (ab_ps v []) h1 Q) := ax_invv mt220 dL_law_633 (by decide) ct_53332 (.inl rfl) mt111 ⟨⟨Nat.le_of_ble_eq_true rfl, Nat.le_of_ble_eq_true rfl, Nat.le_of_ble_eq_true rfl⟩, rfl, rfl, rfl⟩ hT
theorem s220_636 : aW d 220 636 [l0, l1, .ref o, l3] S h Q = aW d 220 637 [l0, l1, .ref o, l3] (.ref o :: S) h Q := ax_aload_n mt220 dL_law_636 rfl
theorem s220_637 (hT : gT h o = some (14, 54)) : aW (d + 1) 220 637 L (.ref o :: [.int y0]) h Q = aM d 194 (.ref o :: []) h (fun v h1 => aW (d + 1) 220 640 L (ab_ps v [.int y0]) h1 Q) := ax_invv mt220 dL_law_637 (by decide) ct_53335 (.inl rfl) mt194 ⟨⟨Nat.le_of_ble_eq_true rfl, Nat.le_of_ble_eq_true rfl, Nat.le_of_ble_eq_true rfl⟩, rfl, rfl, rfl⟩ hT
theorem s220_640 : aW d 220 640 L (.int b :: .int a :: S) h Q = (if a = b then aW d 220 1166 L S h Q else aW d 220 643 L S h Q) := ax_icmp_eq mt220 dL_law_640 (by decide)
theorem s220_643 : aW d 220 643 L S h Q = aW d 220 644 L (.int (nI 0) :: S) h Q := ax_iconst mt220 dL_law_643 ic_0
theorem s220_644 : aW d 220 644 L [.int a] h Q = (b01 a ∧ Q (some (.int a)) h) := ax_retz mt220 dL_law_644 rfl
theorem s220_589 : aW d 220 589 [l0, .ref o, l2, l3] S h Q = aW d 220 590 [l0, .ref o, l2, l3] (.ref o :: S) h Q := ax_aload_n mt220 dL_law_589 rfl
theorem s220_590 : aW d 220 590 [.ref o, l1, l2, l3] S h Q = aW d 220 591 [.ref o, l1, l2, l3] (.ref o :: S) h Q := ax_aload_n mt220 dL_law_590 rfl
theorem s220_591 : aW d 220 591 [l0, l1, l2, .int a] S h Q = aW d 220 592 [l0, l1, l2, .int a] (.int a :: S) h Q := ax_iload_n mt220 dL_law_591 rfl
theorem s220_592 : aW d 220 592 L S h Q = aW d 220 593 L (.int (nI 1) :: S) h Q := ax_iconst mt220 dL_law_592 ic_1
theorem s220_593 : aW d 220 593 L (.int b :: .int a :: S) h Q = aW d 220 594 L (.int (a + b) :: S) h Q := ax_iadd mt220 dL_law_593
theorem s220_594 : aW d 220 594 L (.int a :: .ref o :: S) h Q = (inb a (aI h o) ∧ aW d 220 595 L (.int (gI h o a.toNatClampNeg) :: S) h Q) := ax_iald mt220 dL_law_594
theorem s220_595 : aW d 220 595 [.ref o, l1, l2, l3] S h Q = aW d 220 596 [.ref o, l1, l2, l3] (.ref o :: S) h Q := ax_aload_n mt220 dL_law_595 rfl
theorem s220_596 : aW d 220 596 [l0, l1, l2, .int a] S h Q = aW d 220 597 [l0, l1, l2, .int a] (.int a :: S) h Q := ax_iload_n mt220 dL_law_596 rfl
theorem s220_597 : aW d 220 597 L S h Q = aW d 220 598 L (.int (nI 2) :: S) h Q := ax_iconst mt220 dL_law_597 ic_2
theorem s220_598 : aW d 220 598 L (.int b :: .int a :: S) h Q = aW d 220 599 L (.int (a + b) :: S) h Q := ax_iadd mt220 dL_law_598
theorem s220_599 : aW d 220 599 L (.int a :: .ref o :: S) h Q = (inb a (aI h o) ∧ aW d 220 600 L (.int (gI h o a.toNatClampNeg) :: S) h Q) := ax_iald mt220 dL_law_599
theorem s220_600 : aW d 220 600 [.ref o, l1, l2, l3] S h Q = aW d 220 601 [.ref o, l1, l2, l3] (.ref o :: S) h Q := ax_aload_n mt220 dL_law_600 rfl
theorem s220_601 : aW d 220 601 [l0, l1, l2, .int a] S h Q = aW d 220 602 [l0, l1, l2, .int a] (.int a :: S) h Q := ax_iload_n mt220 dL_law_601 rfl
theorem s220_602 : aW d 220 602 L S h Q = aW d 220 603 L (.int (nI 3) :: S) h Q := ax_iconst mt220 dL_law_602 ic_3
theorem s220_603 : aW d 220 603 L (.int b :: .int a :: S) h Q = aW d 220 604 L (.int (a + b) :: S) h Q := ax_iadd mt220 dL_law_603
theorem s220_604 : aW d 220 604 L (.int a :: .ref o :: S) h Q = (inb a (aI h o) ∧ aW d 220 605 L (.int (gI h o a.toNatClampNeg) :: S) h Q) := ax_iald mt220 dL_law_604
theorem s220_605 (hT : gT h o = some (13, 14)) : aW (d + 1) 220 605 L (.int x2 :: .int x1 :: .int x0 :: .ref o :: []) h Q = aM d 110 (.ref o :: [.int x0, .int x1, .int x2]) h (fun v h1 => aW (d + 1) 220 608 L (ab_ps v []) h1 Q) := ax_invv mt220 dL_law_605 (by decide) ct_53327 (.inl rfl) mt110 ⟨⟨Nat.le_of_ble_eq_true rfl, Nat.le_of_ble_eq_true rfl, Nat.le_of_ble_eq_true rfl⟩, rfl, rfl, rfl⟩ hT
theorem s220_608 : aW d 220 608 [l0, l1, .ref o, l3] S h Q = aW d 220 609 [l0, l1, .ref o, l3] (.ref o :: S) h Q := ax_aload_n mt220 dL_law_608 rfl
theorem s220_609 : aW d 220 609 [.ref o, l1, l2, l3] S h Q = aW d 220 610 [.ref o, l1, l2, l3] (.ref o :: S) h Q := ax_aload_n mt220 dL_law_609 rfl
theorem s220_610 : aW d 220 610 [l0, l1, l2, .int a] S h Q = aW d 220 611 [l0, l1, l2, .int a] (.int a :: S) h Q := ax_iload_n mt220 dL_law_610 rfl
theorem s220_611 : aW d 220 611 L S h Q = aW d 220 612 L (.int (nI 1) :: S) h Q := ax_iconst mt220 dL_law_611 ic_1
theorem s220_612 : aW d 220 612 L (.int b :: .int a :: S) h Q = aW d 220 613 L (.int (a + b) :: S) h Q := ax_iadd mt220 dL_law_612
theorem s220_613 : aW d 220 613 L (.int a :: .ref o :: S) h Q = (inb a (aI h o) ∧ aW d 220 614 L (.int (gI h o a.toNatClampNeg) :: S) h Q) := ax_iald mt220 dL_law_613
theorem s220_614 : aW d 220 614 [.ref o, l1, l2, l3] S h Q = aW d 220 615 [.ref o, l1, l2, l3] (.ref o :: S) h Q := ax_aload_n mt220 dL_law_614 rfl
theorem s220_615 : aW d 220 615 [l0, l1, l2, .int a] S h Q = aW d 220 616 [l0, l1, l2, .int a] (.int a :: S) h Q := ax_iload_n mt220 dL_law_615 rfl
theorem s220_616 : aW d 220 616 L S h Q = aW d 220 617 L (.int (nI 2) :: S) h Q := ax_iconst mt220 dL_law_616 ic_2
theorem s220_617 : aW d 220 617 L (.int b :: .int a :: S) h Q = aW d 220 618 L (.int (a + b) :: S) h Q := ax_iadd mt220 dL_law_617
theorem s220_618 : aW d 220 618 L (.int a :: .ref o :: S) h Q = (inb a (aI h o) ∧ aW d 220 619 L (.int (gI h o a.toNatClampNeg) :: S) h Q) := ax_iald mt220 dL_law_618
theorem s220_619 : aW d 220 619 [.ref o, l1, l2, l3] S h Q = aW d 220 620 [.ref o, l1, l2, l3] (.ref o :: S) h Q := ax_aload_n mt220 dL_law_619 rfl
theorem s220_620 : aW d 220 620 [l0, l1, l2, .int a] S h Q = aW d 220 621 [l0, l1, l2, .int a] (.int a :: S) h Q := ax_iload_n mt220 dL_law_620 rfl
theorem s220_621 : aW d 220 621 L S h Q = aW d 220 622 L (.int (nI 3) :: S) h Q := ax_iconst mt220 dL_law_621 ic_3
theorem s220_622 : aW d 220 622 L (.int b :: .int a :: S) h Q = aW d 220 623 L (.int (a + b) :: S) h Q := ax_iadd mt220 dL_law_622
theorem s220_623 : aW d 220 623 L (.int a :: .ref o :: S) h Q = (inb a (aI h o) ∧ aW d 220 624 L (.int (gI h o a.toNatClampNeg) :: S) h Q) := ax_iald mt220 dL_law_623
theorem s220_624 (hT : gT h o = some (14, 54)) : aW (d + 1) 220 624 L (.int x2 :: .int x1 :: .int x0 :: .ref o :: [.int y0]) h Q = aM d 193 (.ref o :: [.int x0, .int x1, .int x2]) h (fun v h1 => aW (d + 1) 220 627 L (ab_ps v [.int y0]) h1 Q) := ax_invv mt220 dL_law_624 (by decide) ct_53331 (.inl rfl) mt193 ⟨⟨Nat.le_of_ble_eq_true rfl, Nat.le_of_ble_eq_true rfl, Nat.le_of_ble_eq_true rfl⟩, rfl, rfl, rfl⟩ hT
theorem s220_627 : aW d 220 627 L (.int b :: .int a :: S) h Q = (if a = b then aW d 220 1166 L S h Q else aW d 220 630 L S h Q) := ax_icmp_eq mt220 dL_law_627 (by decide)
theorem s220_630 : aW d 220 630 L S h Q = aW d 220 631 L (.int (nI 0) :: S) h Q := ax_iconst mt220 dL_law_630 ic_0
theorem s220_631 : aW d 220 631 L [.int a] h Q = (b01 a ∧ Q (some (.int a)) h) := ax_retz mt220 dL_law_631 rfl
theorem s220_576 : aW d 220 576 [l0, .ref o, l2, l3] S h Q = aW d 220 577 [l0, .ref o, l2, l3] (.ref o :: S) h Q := ax_aload_n mt220 dL_law_576 rfl
theorem s220_577 (hT : gT h o = some (13, 14)) : aW (d + 1) 220 577 L (.ref o :: []) h Q = aM d 109 (.ref o :: []) h (fun v h1 => aW (d + 1) 220 580 L (ab_ps v []) h1 Q) := ax_invv mt220 dL_law_577 (by decide) ct_53323 (.inl rfl) mt109 ⟨⟨Nat.le_of_ble_eq_true rfl, Nat.le_of_ble_eq_true rfl, Nat.le_of_ble_eq_true rfl⟩, rfl, rfl, rfl⟩ hT
theorem s220_580 : aW d 220 580 [l0, l1, .ref o, l3] S h Q = aW d 220 581 [l0, l1, .ref o, l3] (.ref o :: S) h Q := ax_aload_n mt220 dL_law_580 rfl
theorem s220_581 (hT : gT h o = some (14, 54)) : aW (d + 1) 220 581 L (.ref o :: [.int y0]) h Q = aM d 189 (.ref o :: []) h (fun v h1 => aW (d + 1) 220 584 L (ab_ps v [.int y0]) h1 Q) := ax_invv mt220 dL_law_581 (by decide) ct_53326 (.inl rfl) mt189 ⟨⟨Nat.le_of_ble_eq_true rfl, Nat.le_of_ble_eq_true rfl, Nat.le_of_ble_eq_true rfl⟩, rfl, rfl, rfl⟩ hT
theorem s220_584 : aW d 220 584 L (.int b :: .int a :: S) h Q = (if a = b then aW d 220 1166 L S h Q else aW d 220 587 L S h Q) := ax_icmp_eq mt220 dL_law_584 (by decide)
theorem s220_587 : aW d 220 587 L S h Q = aW d 220 588 L (.int (nI 0) :: S) h Q := ax_iconst mt220 dL_law_587 ic_0
theorem s220_588 : aW d 220 588 L [.int a] h Q = (b01 a ∧ Q (some (.int a)) h) := ax_retz mt220 dL_law_588 rfl
theorem s220_543 : aW d 220 543 [l0, .ref o, l2, l3] S h Q = aW d 220 544 [l0, .ref o, l2, l3] (.ref o :: S) h Q := ax_aload_n mt220 dL_law_543 rfl
theorem s220_544 : aW d 220 544 [.ref o, l1, l2, l3] S h Q = aW d 220 545 [.ref o, l1, l2, l3] (.ref o :: S) h Q := ax_aload_n mt220 dL_law_544 rfl
theorem s220_545 : aW d 220 545 [l0, l1, l2, .int a] S h Q = aW d 220 546 [l0, l1, l2, .int a] (.int a :: S) h Q := ax_iload_n mt220 dL_law_545 rfl
theorem s220_546 : aW d 220 546 L S h Q = aW d 220 547 L (.int (nI 1) :: S) h Q := ax_iconst mt220 dL_law_546 ic_1
theorem s220_547 : aW d 220 547 L (.int b :: .int a :: S) h Q = aW d 220 548 L (.int (a + b) :: S) h Q := ax_iadd mt220 dL_law_547
theorem s220_548 : aW d 220 548 L (.int a :: .ref o :: S) h Q = (inb a (aI h o) ∧ aW d 220 549 L (.int (gI h o a.toNatClampNeg) :: S) h Q) := ax_iald mt220 dL_law_548
theorem s220_549 : aW d 220 549 [.ref o, l1, l2, l3] S h Q = aW d 220 550 [.ref o, l1, l2, l3] (.ref o :: S) h Q := ax_aload_n mt220 dL_law_549 rfl
theorem s220_550 : aW d 220 550 [l0, l1, l2, .int a] S h Q = aW d 220 551 [l0, l1, l2, .int a] (.int a :: S) h Q := ax_iload_n mt220 dL_law_550 rfl
theorem s220_551 : aW d 220 551 L S h Q = aW d 220 552 L (.int (nI 2) :: S) h Q := ax_iconst mt220 dL_law_551 ic_2
theorem s220_552 : aW d 220 552 L (.int b :: .int a :: S) h Q = aW d 220 553 L (.int (a + b) :: S) h Q := ax_iadd mt220 dL_law_552
theorem s220_553 : aW d 220 553 L (.int a :: .ref o :: S) h Q = (inb a (aI h o) ∧ aW d 220 554 L (.int (gI h o a.toNatClampNeg) :: S) h Q) := ax_iald mt220 dL_law_553
theorem s220_554 (hT : gT h o = some (13, 14)) : aW (d + 1) 220 554 L (.int x1 :: .int x0 :: .ref o :: []) h Q = aM d 108 (.ref o :: [.int x0, .int x1]) h (fun v h1 => aW (d + 1) 220 557 L (ab_ps v []) h1 Q) := ax_invv mt220 dL_law_554 (by decide) ct_53319 (.inl rfl) mt108 ⟨⟨Nat.le_of_ble_eq_true rfl, Nat.le_of_ble_eq_true rfl, Nat.le_of_ble_eq_true rfl⟩, rfl, rfl, rfl⟩ hT
theorem s220_557 : aW d 220 557 [l0, l1, .ref o, l3] S h Q = aW d 220 558 [l0, l1, .ref o, l3] (.ref o :: S) h Q := ax_aload_n mt220 dL_law_557 rfl
theorem s220_558 : aW d 220 558 [.ref o, l1, l2, l3] S h Q = aW d 220 559 [.ref o, l1, l2, l3] (.ref o :: S) h Q := ax_aload_n mt220 dL_law_558 rfl
theorem s220_559 : aW d 220 559 [l0, l1, l2, .int a] S h Q = aW d 220 560 [l0, l1, l2, .int a] (.int a :: S) h Q := ax_iload_n mt220 dL_law_559 rfl
theorem s220_560 : aW d 220 560 L S h Q = aW d 220 561 L (.int (nI 1) :: S) h Q := ax_iconst mt220 dL_law_560 ic_1
theorem s220_561 : aW d 220 561 L (.int b :: .int a :: S) h Q = aW d 220 562 L (.int (a + b) :: S) h Q := ax_iadd mt220 dL_law_561
theorem s220_562 : aW d 220 562 L (.int a :: .ref o :: S) h Q = (inb a (aI h o) ∧ aW d 220 563 L (.int (gI h o a.toNatClampNeg) :: S) h Q) := ax_iald mt220 dL_law_562
theorem s220_563 : aW d 220 563 [.ref o, l1, l2, l3] S h Q = aW d 220 564 [.ref o, l1, l2, l3] (.ref o :: S) h Q := ax_aload_n mt220 dL_law_563 rfl
theorem s220_564 : aW d 220 564 [l0, l1, l2, .int a] S h Q = aW d 220 565 [l0, l1, l2, .int a] (.int a :: S) h Q := ax_iload_n mt220 dL_law_564 rfl
theorem s220_565 : aW d 220 565 L S h Q = aW d 220 566 L (.int (nI 2) :: S) h Q := ax_iconst mt220 dL_law_565 ic_2
theorem s220_566 : aW d 220 566 L (.int b :: .int a :: S) h Q = aW d 220 567 L (.int (a + b) :: S) h Q := ax_iadd mt220 dL_law_566
theorem s220_567 : aW d 220 567 L (.int a :: .ref o :: S) h Q = (inb a (aI h o) ∧ aW d 220 568 L (.int (gI h o a.toNatClampNeg) :: S) h Q) := ax_iald mt220 dL_law_567
theorem s220_568 (hT : gT h o = some (14, 54)) : aW (d + 1) 220 568 L (.int x1 :: .int x0 :: .ref o :: [.int y0]) h Q = aM d 187 (.ref o :: [.int x0, .int x1]) h (fun v h1 => aW (d + 1) 220 571 L (ab_ps v [.int y0]) h1 Q) := ax_invv mt220 dL_law_568 (by decide) ct_53322 (.inl rfl) mt187 ⟨⟨Nat.le_of_ble_eq_true rfl, Nat.le_of_ble_eq_true rfl, Nat.le_of_ble_eq_true rfl⟩, rfl, rfl, rfl⟩ hT
theorem s220_571 : aW d 220 571 L (.int b :: .int a :: S) h Q = (if a = b then aW d 220 1166 L S h Q else aW d 220 574 L S h Q) := ax_icmp_eq mt220 dL_law_571 (by decide)
theorem s220_574 : aW d 220 574 L S h Q = aW d 220 575 L (.int (nI 0) :: S) h Q := ax_iconst mt220 dL_law_574 ic_0
theorem s220_575 : aW d 220 575 L [.int a] h Q = (b01 a ∧ Q (some (.int a)) h) := ax_retz mt220 dL_law_575 rfl
theorem s220_520 : aW d 220 520 [l0, .ref o, l2, l3] S h Q = aW d 220 521 [l0, .ref o, l2, l3] (.ref o :: S) h Q := ax_aload_n mt220 dL_law_520 rfl
theorem s220_521 : aW d 220 521 [.ref o, l1, l2, l3] S h Q = aW d 220 522 [.ref o, l1, l2, l3] (.ref o :: S) h Q := ax_aload_n mt220 dL_law_521 rfl
theorem s220_522 : aW d 220 522 [l0, l1, l2, .int a] S h Q = aW d 220 523 [l0, l1, l2, .int a] (.int a :: S) h Q := ax_iload_n mt220 dL_law_522 rfl
theorem s220_523 : aW d 220 523 L S h Q = aW d 220 524 L (.int (nI 1) :: S) h Q := ax_iconst mt220 dL_law_523 ic_1
theorem s220_524 : aW d 220 524 L (.int b :: .int a :: S) h Q = aW d 220 525 L (.int (a + b) :: S) h Q := ax_iadd mt220 dL_law_524
theorem s220_525 : aW d 220 525 L (.int a :: .ref o :: S) h Q = (inb a (aI h o) ∧ aW d 220 526 L (.int (gI h o a.toNatClampNeg) :: S) h Q) := ax_iald mt220 dL_law_525
theorem s220_526 (hT : gT h o = some (13, 14)) : aW (d + 1) 220 526 L (.int x0 :: .ref o :: []) h Q = aM d 107 (.ref o :: [.int x0]) h (fun v h1 => aW (d + 1) 220 529 L (ab_ps v []) h1 Q) := ax_invv mt220 dL_law_526 (by decide) ct_53315 (.inl rfl) mt107 ⟨⟨Nat.le_of_ble_eq_true rfl, Nat.le_of_ble_eq_true rfl, Nat.le_of_ble_eq_true rfl⟩, rfl, rfl, rfl⟩ hT
theorem s220_529 : aW d 220 529 [l0, l1, .ref o, l3] S h Q = aW d 220 530 [l0, l1, .ref o, l3] (.ref o :: S) h Q := ax_aload_n mt220 dL_law_529 rfl
theorem s220_530 : aW d 220 530 [.ref o, l1, l2, l3] S h Q = aW d 220 531 [.ref o, l1, l2, l3] (.ref o :: S) h Q := ax_aload_n mt220 dL_law_530 rfl
theorem s220_531 : aW d 220 531 [l0, l1, l2, .int a] S h Q = aW d 220 532 [l0, l1, l2, .int a] (.int a :: S) h Q := ax_iload_n mt220 dL_law_531 rfl
theorem s220_532 : aW d 220 532 L S h Q = aW d 220 533 L (.int (nI 1) :: S) h Q := ax_iconst mt220 dL_law_532 ic_1
theorem s220_533 : aW d 220 533 L (.int b :: .int a :: S) h Q = aW d 220 534 L (.int (a + b) :: S) h Q := ax_iadd mt220 dL_law_533
theorem s220_534 : aW d 220 534 L (.int a :: .ref o :: S) h Q = (inb a (aI h o) ∧ aW d 220 535 L (.int (gI h o a.toNatClampNeg) :: S) h Q) := ax_iald mt220 dL_law_534
theorem s220_535 (hT : gT h o = some (14, 54)) : aW (d + 1) 220 535 L (.int x0 :: .ref o :: [.int y0]) h Q = aM d 186 (.ref o :: [.int x0]) h (fun v h1 => aW (d + 1) 220 538 L (ab_ps v [.int y0]) h1 Q) := ax_invv mt220 dL_law_535 (by decide) ct_53318 (.inl rfl) mt186 ⟨⟨Nat.le_of_ble_eq_true rfl, Nat.le_of_ble_eq_true rfl, Nat.le_of_ble_eq_true rfl⟩, rfl, rfl, rfl⟩ hT
theorem s220_538 : aW d 220 538 L (.int b :: .int a :: S) h Q = (if a = b then aW d 220 1166 L S h Q else aW d 220 541 L S h Q) := ax_icmp_eq mt220 dL_law_538 (by decide)
theorem s220_541 : aW d 220 541 L S h Q = aW d 220 542 L (.int (nI 0) :: S) h Q := ax_iconst mt220 dL_law_541 ic_0
theorem s220_542 : aW d 220 542 L [.int a] h Q = (b01 a ∧ Q (some (.int a)) h) := ax_retz mt220 dL_law_542 rfl
theorem s220_497 : aW d 220 497 [l0, .ref o, l2, l3] S h Q = aW d 220 498 [l0, .ref o, l2, l3] (.ref o :: S) h Q := ax_aload_n mt220 dL_law_497 rfl
theorem s220_498 : aW d 220 498 [.ref o, l1, l2, l3] S h Q = aW d 220 499 [.ref o, l1, l2, l3] (.ref o :: S) h Q := ax_aload_n mt220 dL_law_498 rfl
theorem s220_499 : aW d 220 499 [l0, l1, l2, .int a] S h Q = aW d 220 500 [l0, l1, l2, .int a] (.int a :: S) h Q := ax_iload_n mt220 dL_law_499 rfl
theorem s220_500 : aW d 220 500 L S h Q = aW d 220 501 L (.int (nI 1) :: S) h Q := ax_iconst mt220 dL_law_500 ic_1
theorem s220_501 : aW d 220 501 L (.int b :: .int a :: S) h Q = aW d 220 502 L (.int (a + b) :: S) h Q := ax_iadd mt220 dL_law_501
theorem s220_502 : aW d 220 502 L (.int a :: .ref o :: S) h Q = (inb a (aI h o) ∧ aW d 220 503 L (.int (gI h o a.toNatClampNeg) :: S) h Q) := ax_iald mt220 dL_law_502
theorem s220_503 (hT : gT h o = some (13, 14)) : aW (d + 1) 220 503 L (.int x0 :: .ref o :: []) h Q = aM d 106 (.ref o :: [.int x0]) h (fun v h1 => aW (d + 1) 220 506 L (ab_ps v []) h1 Q) := ax_invv mt220 dL_law_503 (by decide) ct_53311 (.inl rfl) mt106 ⟨⟨Nat.le_of_ble_eq_true rfl, Nat.le_of_ble_eq_true rfl, Nat.le_of_ble_eq_true rfl⟩, rfl, rfl, rfl⟩ hT
theorem s220_506 : aW d 220 506 [l0, l1, .ref o, l3] S h Q = aW d 220 507 [l0, l1, .ref o, l3] (.ref o :: S) h Q := ax_aload_n mt220 dL_law_506 rfl
theorem s220_507 : aW d 220 507 [.ref o, l1, l2, l3] S h Q = aW d 220 508 [.ref o, l1, l2, l3] (.ref o :: S) h Q := ax_aload_n mt220 dL_law_507 rfl
theorem s220_508 : aW d 220 508 [l0, l1, l2, .int a] S h Q = aW d 220 509 [l0, l1, l2, .int a] (.int a :: S) h Q := ax_iload_n mt220 dL_law_508 rfl
theorem s220_509 : aW d 220 509 L S h Q = aW d 220 510 L (.int (nI 1) :: S) h Q := ax_iconst mt220 dL_law_509 ic_1
theorem s220_510 : aW d 220 510 L (.int b :: .int a :: S) h Q = aW d 220 511 L (.int (a + b) :: S) h Q := ax_iadd mt220 dL_law_510
theorem s220_511 : aW d 220 511 L (.int a :: .ref o :: S) h Q = (inb a (aI h o) ∧ aW d 220 512 L (.int (gI h o a.toNatClampNeg) :: S) h Q) := ax_iald mt220 dL_law_511
theorem s220_512 (hT : gT h o = some (14, 54)) : aW (d + 1) 220 512 L (.int x0 :: .ref o :: [.int y0]) h Q = aM d 185 (.ref o :: [.int x0]) h (fun v h1 => aW (d + 1) 220 515 L (ab_ps v [.int y0]) h1 Q) := ax_invv mt220 dL_law_512 (by decide) ct_53314 (.inl rfl) mt185 ⟨⟨Nat.le_of_ble_eq_true rfl, Nat.le_of_ble_eq_true rfl, Nat.le_of_ble_eq_true rfl⟩, rfl, rfl, rfl⟩ hT
theorem s220_515 : aW d 220 515 L (.int b :: .int a :: S) h Q = (if a = b then aW d 220 1166 L S h Q else aW d 220 518 L S h Q) := ax_icmp_eq mt220 dL_law_515 (by decide)
theorem s220_518 : aW d 220 518 L S h Q = aW d 220 519 L (.int (nI 0) :: S) h Q := ax_iconst mt220 dL_law_518 ic_0
theorem s220_519 : aW d 220 519 L [.int a] h Q = (b01 a ∧ Q (some (.int a)) h) := ax_retz mt220 dL_law_519 rfl
theorem s220_474 : aW d 220 474 [l0, .ref o, l2, l3] S h Q = aW d 220 475 [l0, .ref o, l2, l3] (.ref o :: S) h Q := ax_aload_n mt220 dL_law_474 rfl
theorem s220_475 : aW d 220 475 [.ref o, l1, l2, l3] S h Q = aW d 220 476 [.ref o, l1, l2, l3] (.ref o :: S) h Q := ax_aload_n mt220 dL_law_475 rfl
theorem s220_476 : aW d 220 476 [l0, l1, l2, .int a] S h Q = aW d 220 477 [l0, l1, l2, .int a] (.int a :: S) h Q := ax_iload_n mt220 dL_law_476 rfl
theorem s220_477 : aW d 220 477 L S h Q = aW d 220 478 L (.int (nI 1) :: S) h Q := ax_iconst mt220 dL_law_477 ic_1
theorem s220_478 : aW d 220 478 L (.int b :: .int a :: S) h Q = aW d 220 479 L (.int (a + b) :: S) h Q := ax_iadd mt220 dL_law_478
theorem s220_479 : aW d 220 479 L (.int a :: .ref o :: S) h Q = (inb a (aI h o) ∧ aW d 220 480 L (.int (gI h o a.toNatClampNeg) :: S) h Q) := ax_iald mt220 dL_law_479
theorem s220_480 (hT : gT h o = some (13, 14)) : aW (d + 1) 220 480 L (.int x0 :: .ref o :: []) h Q = aM d 105 (.ref o :: [.int x0]) h (fun v h1 => aW (d + 1) 220 483 L (ab_ps v []) h1 Q) := ax_invv mt220 dL_law_480 (by decide) ct_53307 (.inl rfl) mt105 ⟨⟨Nat.le_of_ble_eq_true rfl, Nat.le_of_ble_eq_true rfl, Nat.le_of_ble_eq_true rfl⟩, rfl, rfl, rfl⟩ hT
theorem s220_483 : aW d 220 483 [l0, l1, .ref o, l3] S h Q = aW d 220 484 [l0, l1, .ref o, l3] (.ref o :: S) h Q := ax_aload_n mt220 dL_law_483 rfl
theorem s220_484 : aW d 220 484 [.ref o, l1, l2, l3] S h Q = aW d 220 485 [.ref o, l1, l2, l3] (.ref o :: S) h Q := ax_aload_n mt220 dL_law_484 rfl
theorem s220_485 : aW d 220 485 [l0, l1, l2, .int a] S h Q = aW d 220 486 [l0, l1, l2, .int a] (.int a :: S) h Q := ax_iload_n mt220 dL_law_485 rfl
theorem s220_486 : aW d 220 486 L S h Q = aW d 220 487 L (.int (nI 1) :: S) h Q := ax_iconst mt220 dL_law_486 ic_1
theorem s220_487 : aW d 220 487 L (.int b :: .int a :: S) h Q = aW d 220 488 L (.int (a + b) :: S) h Q := ax_iadd mt220 dL_law_487
theorem s220_488 : aW d 220 488 L (.int a :: .ref o :: S) h Q = (inb a (aI h o) ∧ aW d 220 489 L (.int (gI h o a.toNatClampNeg) :: S) h Q) := ax_iald mt220 dL_law_488
theorem s220_489 (hT : gT h o = some (14, 54)) : aW (d + 1) 220 489 L (.int x0 :: .ref o :: [.int y0]) h Q = aM d 179 (.ref o :: [.int x0]) h (fun v h1 => aW (d + 1) 220 492 L (ab_ps v [.int y0]) h1 Q) := ax_invv mt220 dL_law_489 (by decide) ct_53310 (.inl rfl) mt179 ⟨⟨Nat.le_of_ble_eq_true rfl, Nat.le_of_ble_eq_true rfl, Nat.le_of_ble_eq_true rfl⟩, rfl, rfl, rfl⟩ hT
theorem s220_492 : aW d 220 492 L (.int b :: .int a :: S) h Q = (if a = b then aW d 220 1166 L S h Q else aW d 220 495 L S h Q) := ax_icmp_eq mt220 dL_law_492 (by decide)
theorem s220_495 : aW d 220 495 L S h Q = aW d 220 496 L (.int (nI 0) :: S) h Q := ax_iconst mt220 dL_law_495 ic_0
theorem s220_496 : aW d 220 496 L [.int a] h Q = (b01 a ∧ Q (some (.int a)) h) := ax_retz mt220 dL_law_496 rfl
theorem s220_441 : aW d 220 441 [l0, .ref o, l2, l3] S h Q = aW d 220 442 [l0, .ref o, l2, l3] (.ref o :: S) h Q := ax_aload_n mt220 dL_law_441 rfl
theorem s220_442 : aW d 220 442 [.ref o, l1, l2, l3] S h Q = aW d 220 443 [.ref o, l1, l2, l3] (.ref o :: S) h Q := ax_aload_n mt220 dL_law_442 rfl
theorem s220_443 : aW d 220 443 [l0, l1, l2, .int a] S h Q = aW d 220 444 [l0, l1, l2, .int a] (.int a :: S) h Q := ax_iload_n mt220 dL_law_443 rfl
theorem s220_444 : aW d 220 444 L S h Q = aW d 220 445 L (.int (nI 1) :: S) h Q := ax_iconst mt220 dL_law_444 ic_1
theorem s220_445 : aW d 220 445 L (.int b :: .int a :: S) h Q = aW d 220 446 L (.int (a + b) :: S) h Q := ax_iadd mt220 dL_law_445
theorem s220_446 : aW d 220 446 L (.int a :: .ref o :: S) h Q = (inb a (aI h o) ∧ aW d 220 447 L (.int (gI h o a.toNatClampNeg) :: S) h Q) := ax_iald mt220 dL_law_446
theorem s220_447 : aW d 220 447 [.ref o, l1, l2, l3] S h Q = aW d 220 448 [.ref o, l1, l2, l3] (.ref o :: S) h Q := ax_aload_n mt220 dL_law_447 rfl
theorem s220_448 : aW d 220 448 [l0, l1, l2, .int a] S h Q = aW d 220 449 [l0, l1, l2, .int a] (.int a :: S) h Q := ax_iload_n mt220 dL_law_448 rfl
theorem s220_449 : aW d 220 449 L S h Q = aW d 220 450 L (.int (nI 2) :: S) h Q := ax_iconst mt220 dL_law_449 ic_2
theorem s220_450 : aW d 220 450 L (.int b :: .int a :: S) h Q = aW d 220 451 L (.int (a + b) :: S) h Q := ax_iadd mt220 dL_law_450
theorem s220_451 : aW d 220 451 L (.int a :: .ref o :: S) h Q = (inb a (aI h o) ∧ aW d 220 452 L (.int (gI h o a.toNatClampNeg) :: S) h Q) := ax_iald mt220 dL_law_451
theorem s220_452 (hT : gT h o = some (13, 14)) : aW (d + 1) 220 452 L (.int x1 :: .int x0 :: .ref o :: []) h Q = aM d 104 (.ref o :: [.int x0, .int x1]) h (fun v h1 => aW (d + 1) 220 455 L (ab_ps v []) h1 Q) := ax_invv mt220 dL_law_452 (by decide) ct_53303 (.inl rfl) mt104 ⟨⟨Nat.le_of_ble_eq_true rfl, Nat.le_of_ble_eq_true rfl, Nat.le_of_ble_eq_true rfl⟩, rfl, rfl, rfl⟩ hT
theorem s220_455 : aW d 220 455 [l0, l1, .ref o, l3] S h Q = aW d 220 456 [l0, l1, .ref o, l3] (.ref o :: S) h Q := ax_aload_n mt220 dL_law_455 rfl
theorem s220_456 : aW d 220 456 [.ref o, l1, l2, l3] S h Q = aW d 220 457 [.ref o, l1, l2, l3] (.ref o :: S) h Q := ax_aload_n mt220 dL_law_456 rfl
theorem s220_457 : aW d 220 457 [l0, l1, l2, .int a] S h Q = aW d 220 458 [l0, l1, l2, .int a] (.int a :: S) h Q := ax_iload_n mt220 dL_law_457 rfl
theorem s220_458 : aW d 220 458 L S h Q = aW d 220 459 L (.int (nI 1) :: S) h Q := ax_iconst mt220 dL_law_458 ic_1
theorem s220_459 : aW d 220 459 L (.int b :: .int a :: S) h Q = aW d 220 460 L (.int (a + b) :: S) h Q := ax_iadd mt220 dL_law_459
theorem s220_460 : aW d 220 460 L (.int a :: .ref o :: S) h Q = (inb a (aI h o) ∧ aW d 220 461 L (.int (gI h o a.toNatClampNeg) :: S) h Q) := ax_iald mt220 dL_law_460
theorem s220_461 : aW d 220 461 [.ref o, l1, l2, l3] S h Q = aW d 220 462 [.ref o, l1, l2, l3] (.ref o :: S) h Q := ax_aload_n mt220 dL_law_461 rfl
theorem s220_462 : aW d 220 462 [l0, l1, l2, .int a] S h Q = aW d 220 463 [l0, l1, l2, .int a] (.int a :: S) h Q := ax_iload_n mt220 dL_law_462 rfl
theorem s220_463 : aW d 220 463 L S h Q = aW d 220 464 L (.int (nI 2) :: S) h Q := ax_iconst mt220 dL_law_463 ic_2
theorem s220_464 : aW d 220 464 L (.int b :: .int a :: S) h Q = aW d 220 465 L (.int (a + b) :: S) h Q := ax_iadd mt220 dL_law_464
theorem s220_465 : aW d 220 465 L (.int a :: .ref o :: S) h Q = (inb a (aI h o) ∧ aW d 220 466 L (.int (gI h o a.toNatClampNeg) :: S) h Q) := ax_iald mt220 dL_law_465
theorem s220_466 (hT : gT h o = some (14, 54)) : aW (d + 1) 220 466 L (.int x1 :: .int x0 :: .ref o :: [.int y0]) h Q = aM d 175 (.ref o :: [.int x0, .int x1]) h (fun v h1 => aW (d + 1) 220 469 L (ab_ps v [.int y0]) h1 Q) := ax_invv mt220 dL_law_466 (by decide) ct_53306 (.inl rfl) mt175 ⟨⟨Nat.le_of_ble_eq_true rfl, Nat.le_of_ble_eq_true rfl, Nat.le_of_ble_eq_true rfl⟩, rfl, rfl, rfl⟩ hT
theorem s220_469 : aW d 220 469 L (.int b :: .int a :: S) h Q = (if a = b then aW d 220 1166 L S h Q else aW d 220 472 L S h Q) := ax_icmp_eq mt220 dL_law_469 (by decide)
theorem s220_472 : aW d 220 472 L S h Q = aW d 220 473 L (.int (nI 0) :: S) h Q := ax_iconst mt220 dL_law_472 ic_0
theorem s220_473 : aW d 220 473 L [.int a] h Q = (b01 a ∧ Q (some (.int a)) h) := ax_retz mt220 dL_law_473 rfl
theorem s220_408 : aW d 220 408 [l0, .ref o, l2, l3] S h Q = aW d 220 409 [l0, .ref o, l2, l3] (.ref o :: S) h Q := ax_aload_n mt220 dL_law_408 rfl
theorem s220_409 : aW d 220 409 [.ref o, l1, l2, l3] S h Q = aW d 220 410 [.ref o, l1, l2, l3] (.ref o :: S) h Q := ax_aload_n mt220 dL_law_409 rfl
theorem s220_410 : aW d 220 410 [l0, l1, l2, .int a] S h Q = aW d 220 411 [l0, l1, l2, .int a] (.int a :: S) h Q := ax_iload_n mt220 dL_law_410 rfl
theorem s220_411 : aW d 220 411 L S h Q = aW d 220 412 L (.int (nI 1) :: S) h Q := ax_iconst mt220 dL_law_411 ic_1
theorem s220_412 : aW d 220 412 L (.int b :: .int a :: S) h Q = aW d 220 413 L (.int (a + b) :: S) h Q := ax_iadd mt220 dL_law_412
theorem s220_413 : aW d 220 413 L (.int a :: .ref o :: S) h Q = (inb a (aI h o) ∧ aW d 220 414 L (.int (gI h o a.toNatClampNeg) :: S) h Q) := ax_iald mt220 dL_law_413
theorem s220_414 : aW d 220 414 [.ref o, l1, l2, l3] S h Q = aW d 220 415 [.ref o, l1, l2, l3] (.ref o :: S) h Q := ax_aload_n mt220 dL_law_414 rfl
theorem s220_415 : aW d 220 415 [l0, l1, l2, .int a] S h Q = aW d 220 416 [l0, l1, l2, .int a] (.int a :: S) h Q := ax_iload_n mt220 dL_law_415 rfl
theorem s220_416 : aW d 220 416 L S h Q = aW d 220 417 L (.int (nI 2) :: S) h Q := ax_iconst mt220 dL_law_416 ic_2
theorem s220_417 : aW d 220 417 L (.int b :: .int a :: S) h Q = aW d 220 418 L (.int (a + b) :: S) h Q := ax_iadd mt220 dL_law_417
theorem s220_418 : aW d 220 418 L (.int a :: .ref o :: S) h Q = (inb a (aI h o) ∧ aW d 220 419 L (.int (gI h o a.toNatClampNeg) :: S) h Q) := ax_iald mt220 dL_law_418
theorem s220_419 (hT : gT h o = some (13, 14)) : aW (d + 1) 220 419 L (.int x1 :: .int x0 :: .ref o :: []) h Q = aM d 103 (.ref o :: [.int x0, .int x1]) h (fun v h1 => aW (d + 1) 220 422 L (ab_ps v []) h1 Q) := ax_invv mt220 dL_law_419 (by decide) ct_53299 (.inl rfl) mt103 ⟨⟨Nat.le_of_ble_eq_true rfl, Nat.le_of_ble_eq_true rfl, Nat.le_of_ble_eq_true rfl⟩, rfl, rfl, rfl⟩ hT
theorem s220_422 : aW d 220 422 [l0, l1, .ref o, l3] S h Q = aW d 220 423 [l0, l1, .ref o, l3] (.ref o :: S) h Q := ax_aload_n mt220 dL_law_422 rfl
theorem s220_423 : aW d 220 423 [.ref o, l1, l2, l3] S h Q = aW d 220 424 [.ref o, l1, l2, l3] (.ref o :: S) h Q := ax_aload_n mt220 dL_law_423 rfl
theorem s220_424 : aW d 220 424 [l0, l1, l2, .int a] S h Q = aW d 220 425 [l0, l1, l2, .int a] (.int a :: S) h Q := ax_iload_n mt220 dL_law_424 rfl
theorem s220_425 : aW d 220 425 L S h Q = aW d 220 426 L (.int (nI 1) :: S) h Q := ax_iconst mt220 dL_law_425 ic_1
theorem s220_426 : aW d 220 426 L (.int b :: .int a :: S) h Q = aW d 220 427 L (.int (a + b) :: S) h Q := ax_iadd mt220 dL_law_426
theorem s220_427 : aW d 220 427 L (.int a :: .ref o :: S) h Q = (inb a (aI h o) ∧ aW d 220 428 L (.int (gI h o a.toNatClampNeg) :: S) h Q) := ax_iald mt220 dL_law_427
theorem s220_428 : aW d 220 428 [.ref o, l1, l2, l3] S h Q = aW d 220 429 [.ref o, l1, l2, l3] (.ref o :: S) h Q := ax_aload_n mt220 dL_law_428 rfl
theorem s220_429 : aW d 220 429 [l0, l1, l2, .int a] S h Q = aW d 220 430 [l0, l1, l2, .int a] (.int a :: S) h Q := ax_iload_n mt220 dL_law_429 rfl
theorem s220_430 : aW d 220 430 L S h Q = aW d 220 431 L (.int (nI 2) :: S) h Q := ax_iconst mt220 dL_law_430 ic_2
theorem s220_431 : aW d 220 431 L (.int b :: .int a :: S) h Q = aW d 220 432 L (.int (a + b) :: S) h Q := ax_iadd mt220 dL_law_431
theorem s220_432 : aW d 220 432 L (.int a :: .ref o :: S) h Q = (inb a (aI h o) ∧ aW d 220 433 L (.int (gI h o a.toNatClampNeg) :: S) h Q) := ax_iald mt220 dL_law_432
theorem s220_433 (hT : gT h o = some (14, 54)) : aW (d + 1) 220 433 L (.int x1 :: .int x0 :: .ref o :: [.int y0]) h Q = aM d 174 (.ref o :: [.int x0, .int x1]) h (fun v h1 => aW (d + 1) 220 436 L (ab_ps v [.int y0]) h1 Q) := ax_invv mt220 dL_law_433 (by decide) ct_53302 (.inl rfl) mt174 ⟨⟨Nat.le_of_ble_eq_true rfl, Nat.le_of_ble_eq_true rfl, Nat.le_of_ble_eq_true rfl⟩, rfl, rfl, rfl⟩ hT
theorem s220_436 : aW d 220 436 L (.int b :: .int a :: S) h Q = (if a = b then aW d 220 1166 L S h Q else aW d 220 439 L S h Q) := ax_icmp_eq mt220 dL_law_436 (by decide)
theorem s220_439 : aW d 220 439 L S h Q = aW d 220 440 L (.int (nI 0) :: S) h Q := ax_iconst mt220 dL_law_439 ic_0
theorem s220_440 : aW d 220 440 L [.int a] h Q = (b01 a ∧ Q (some (.int a)) h) := ax_retz mt220 dL_law_440 rfl
theorem s220_385 : aW d 220 385 [l0, .ref o, l2, l3] S h Q = aW d 220 386 [l0, .ref o, l2, l3] (.ref o :: S) h Q := ax_aload_n mt220 dL_law_385 rfl
theorem s220_386 : aW d 220 386 [.ref o, l1, l2, l3] S h Q = aW d 220 387 [.ref o, l1, l2, l3] (.ref o :: S) h Q := ax_aload_n mt220 dL_law_386 rfl
theorem s220_387 : aW d 220 387 [l0, l1, l2, .int a] S h Q = aW d 220 388 [l0, l1, l2, .int a] (.int a :: S) h Q := ax_iload_n mt220 dL_law_387 rfl
theorem s220_388 : aW d 220 388 L S h Q = aW d 220 389 L (.int (nI 1) :: S) h Q := ax_iconst mt220 dL_law_388 ic_1
theorem s220_389 : aW d 220 389 L (.int b :: .int a :: S) h Q = aW d 220 390 L (.int (a + b) :: S) h Q := ax_iadd mt220 dL_law_389
theorem s220_390 : aW d 220 390 L (.int a :: .ref o :: S) h Q = (inb a (aI h o) ∧ aW d 220 391 L (.int (gI h o a.toNatClampNeg) :: S) h Q) := ax_iald mt220 dL_law_390
theorem s220_391 (hT : gT h o = some (13, 14)) : aW (d + 1) 220 391 L (.int x0 :: .ref o :: []) h Q = aM d 102 (.ref o :: [.int x0]) h (fun v h1 => aW (d + 1) 220 394 L (ab_ps v []) h1 Q) := ax_invv mt220 dL_law_391 (by decide) ct_53295 (.inl rfl) mt102 ⟨⟨Nat.le_of_ble_eq_true rfl, Nat.le_of_ble_eq_true rfl, Nat.le_of_ble_eq_true rfl⟩, rfl, rfl, rfl⟩ hT
theorem s220_394 : aW d 220 394 [l0, l1, .ref o, l3] S h Q = aW d 220 395 [l0, l1, .ref o, l3] (.ref o :: S) h Q := ax_aload_n mt220 dL_law_394 rfl
theorem s220_395 : aW d 220 395 [.ref o, l1, l2, l3] S h Q = aW d 220 396 [.ref o, l1, l2, l3] (.ref o :: S) h Q := ax_aload_n mt220 dL_law_395 rfl
theorem s220_396 : aW d 220 396 [l0, l1, l2, .int a] S h Q = aW d 220 397 [l0, l1, l2, .int a] (.int a :: S) h Q := ax_iload_n mt220 dL_law_396 rfl
theorem s220_397 : aW d 220 397 L S h Q = aW d 220 398 L (.int (nI 1) :: S) h Q := ax_iconst mt220 dL_law_397 ic_1
theorem s220_398 : aW d 220 398 L (.int b :: .int a :: S) h Q = aW d 220 399 L (.int (a + b) :: S) h Q := ax_iadd mt220 dL_law_398
theorem s220_399 : aW d 220 399 L (.int a :: .ref o :: S) h Q = (inb a (aI h o) ∧ aW d 220 400 L (.int (gI h o a.toNatClampNeg) :: S) h Q) := ax_iald mt220 dL_law_399
theorem s220_400 (hT : gT h o = some (14, 54)) : aW (d + 1) 220 400 L (.int x0 :: .ref o :: [.int y0]) h Q = aM d 173 (.ref o :: [.int x0]) h (fun v h1 => aW (d + 1) 220 403 L (ab_ps v [.int y0]) h1 Q) := ax_invv mt220 dL_law_400 (by decide) ct_53298 (.inl rfl) mt173 ⟨⟨Nat.le_of_ble_eq_true rfl, Nat.le_of_ble_eq_true rfl, Nat.le_of_ble_eq_true rfl⟩, rfl, rfl, rfl⟩ hT
theorem s220_403 : aW d 220 403 L (.int b :: .int a :: S) h Q = (if a = b then aW d 220 1166 L S h Q else aW d 220 406 L S h Q) := ax_icmp_eq mt220 dL_law_403 (by decide)
theorem s220_406 : aW d 220 406 L S h Q = aW d 220 407 L (.int (nI 0) :: S) h Q := ax_iconst mt220 dL_law_406 ic_0
theorem s220_407 : aW d 220 407 L [.int a] h Q = (b01 a ∧ Q (some (.int a)) h) := ax_retz mt220 dL_law_407 rfl
theorem s220_362 : aW d 220 362 [l0, .ref o, l2, l3] S h Q = aW d 220 363 [l0, .ref o, l2, l3] (.ref o :: S) h Q := ax_aload_n mt220 dL_law_362 rfl
theorem s220_363 : aW d 220 363 [.ref o, l1, l2, l3] S h Q = aW d 220 364 [.ref o, l1, l2, l3] (.ref o :: S) h Q := ax_aload_n mt220 dL_law_363 rfl
theorem s220_364 : aW d 220 364 [l0, l1, l2, .int a] S h Q = aW d 220 365 [l0, l1, l2, .int a] (.int a :: S) h Q := ax_iload_n mt220 dL_law_364 rfl
theorem s220_365 : aW d 220 365 L S h Q = aW d 220 366 L (.int (nI 1) :: S) h Q := ax_iconst mt220 dL_law_365 ic_1
theorem s220_366 : aW d 220 366 L (.int b :: .int a :: S) h Q = aW d 220 367 L (.int (a + b) :: S) h Q := ax_iadd mt220 dL_law_366
theorem s220_367 : aW d 220 367 L (.int a :: .ref o :: S) h Q = (inb a (aI h o) ∧ aW d 220 368 L (.int (gI h o a.toNatClampNeg) :: S) h Q) := ax_iald mt220 dL_law_367
theorem s220_368 (hT : gT h o = some (13, 14)) : aW (d + 1) 220 368 L (.int x0 :: .ref o :: []) h Q = aM d 101 (.ref o :: [.int x0]) h (fun v h1 => aW (d + 1) 220 371 L (ab_ps v []) h1 Q) := ax_invv mt220 dL_law_368 (by decide) ct_53291 (.inl rfl) mt101 ⟨⟨Nat.le_of_ble_eq_true rfl, Nat.le_of_ble_eq_true rfl, Nat.le_of_ble_eq_true rfl⟩, rfl, rfl, rfl⟩ hT
theorem s220_371 : aW d 220 371 [l0, l1, .ref o, l3] S h Q = aW d 220 372 [l0, l1, .ref o, l3] (.ref o :: S) h Q := ax_aload_n mt220 dL_law_371 rfl
theorem s220_372 : aW d 220 372 [.ref o, l1, l2, l3] S h Q = aW d 220 373 [.ref o, l1, l2, l3] (.ref o :: S) h Q := ax_aload_n mt220 dL_law_372 rfl
theorem s220_373 : aW d 220 373 [l0, l1, l2, .int a] S h Q = aW d 220 374 [l0, l1, l2, .int a] (.int a :: S) h Q := ax_iload_n mt220 dL_law_373 rfl
theorem s220_374 : aW d 220 374 L S h Q = aW d 220 375 L (.int (nI 1) :: S) h Q := ax_iconst mt220 dL_law_374 ic_1
theorem s220_375 : aW d 220 375 L (.int b :: .int a :: S) h Q = aW d 220 376 L (.int (a + b) :: S) h Q := ax_iadd mt220 dL_law_375
theorem s220_376 : aW d 220 376 L (.int a :: .ref o :: S) h Q = (inb a (aI h o) ∧ aW d 220 377 L (.int (gI h o a.toNatClampNeg) :: S) h Q) := ax_iald mt220 dL_law_376
theorem s220_377 (hT : gT h o = some (14, 54)) : aW (d + 1) 220 377 L (.int x0 :: .ref o :: [.int y0]) h Q = aM d 172 (.ref o :: [.int x0]) h (fun v h1 => aW (d + 1) 220 380 L (ab_ps v [.int y0]) h1 Q) := ax_invv mt220 dL_law_377 (by decide) ct_53294 (.inl rfl) mt172 ⟨⟨Nat.le_of_ble_eq_true rfl, Nat.le_of_ble_eq_true rfl, Nat.le_of_ble_eq_true rfl⟩, rfl, rfl, rfl⟩ hT
theorem s220_380 : aW d 220 380 L (.int b :: .int a :: S) h Q = (if a = b then aW d 220 1166 L S h Q else aW d 220 383 L S h Q) := ax_icmp_eq mt220 dL_law_380 (by decide)
theorem s220_383 : aW d 220 383 L S h Q = aW d 220 384 L (.int (nI 0) :: S) h Q := ax_iconst mt220 dL_law_383 ic_0
theorem s220_384 : aW d 220 384 L [.int a] h Q = (b01 a ∧ Q (some (.int a)) h) := ax_retz mt220 dL_law_384 rfl
theorem s220_339 : aW d 220 339 [l0, .ref o, l2, l3] S h Q = aW d 220 340 [l0, .ref o, l2, l3] (.ref o :: S) h Q := ax_aload_n mt220 dL_law_339 rfl
theorem s220_340 : aW d 220 340 [.ref o, l1, l2, l3] S h Q = aW d 220 341 [.ref o, l1, l2, l3] (.ref o :: S) h Q := ax_aload_n mt220 dL_law_340 rfl
theorem s220_341 : aW d 220 341 [l0, l1, l2, .int a] S h Q = aW d 220 342 [l0, l1, l2, .int a] (.int a :: S) h Q := ax_iload_n mt220 dL_law_341 rfl
theorem s220_342 : aW d 220 342 L S h Q = aW d 220 343 L (.int (nI 1) :: S) h Q := ax_iconst mt220 dL_law_342 ic_1
theorem s220_343 : aW d 220 343 L (.int b :: .int a :: S) h Q = aW d 220 344 L (.int (a + b) :: S) h Q := ax_iadd mt220 dL_law_343
theorem s220_344 : aW d 220 344 L (.int a :: .ref o :: S) h Q = (inb a (aI h o) ∧ aW d 220 345 L (.int (gI h o a.toNatClampNeg) :: S) h Q) := ax_iald mt220 dL_law_344
theorem s220_345 (hT : gT h o = some (13, 14)) : aW (d + 1) 220 345 L (.int x0 :: .ref o :: []) h Q = aM d 100 (.ref o :: [.int x0]) h (fun v h1 => aW (d + 1) 220 348 L (ab_ps v []) h1 Q) := ax_invv mt220 dL_law_345 (by decide) ct_53287 (.inl rfl) mt100 ⟨⟨Nat.le_of_ble_eq_true rfl, Nat.le_of_ble_eq_true rfl, Nat.le_of_ble_eq_true rfl⟩, rfl, rfl, rfl⟩ hT
theorem s220_348 : aW d 220 348 [l0, l1, .ref o, l3] S h Q = aW d 220 349 [l0, l1, .ref o, l3] (.ref o :: S) h Q := ax_aload_n mt220 dL_law_348 rfl
theorem s220_349 : aW d 220 349 [.ref o, l1, l2, l3] S h Q = aW d 220 350 [.ref o, l1, l2, l3] (.ref o :: S) h Q := ax_aload_n mt220 dL_law_349 rfl
theorem s220_350 : aW d 220 350 [l0, l1, l2, .int a] S h Q = aW d 220 351 [l0, l1, l2, .int a] (.int a :: S) h Q := ax_iload_n mt220 dL_law_350 rfl
theorem s220_351 : aW d 220 351 L S h Q = aW d 220 352 L (.int (nI 1) :: S) h Q := ax_iconst mt220 dL_law_351 ic_1
theorem s220_352 : aW d 220 352 L (.int b :: .int a :: S) h Q = aW d 220 353 L (.int (a + b) :: S) h Q := ax_iadd mt220 dL_law_352
theorem s220_353 : aW d 220 353 L (.int a :: .ref o :: S) h Q = (inb a (aI h o) ∧ aW d 220 354 L (.int (gI h o a.toNatClampNeg) :: S) h Q) := ax_iald mt220 dL_law_353
theorem s220_354 (hT : gT h o = some (14, 54)) : aW (d + 1) 220 354 L (.int x0 :: .ref o :: [.int y0]) h Q = aM d 171 (.ref o :: [.int x0]) h (fun v h1 => aW (d + 1) 220 357 L (ab_ps v [.int y0]) h1 Q) := ax_invv mt220 dL_law_354 (by decide) ct_53290 (.inl rfl) mt171 ⟨⟨Nat.le_of_ble_eq_true rfl, Nat.le_of_ble_eq_true rfl, Nat.le_of_ble_eq_true rfl⟩, rfl, rfl, rfl⟩ hT
theorem s220_357 : aW d 220 357 L (.int b :: .int a :: S) h Q = (if a = b then aW d 220 1166 L S h Q else aW d 220 360 L S h Q) := ax_icmp_eq mt220 dL_law_357 (by decide)
theorem s220_360 : aW d 220 360 L S h Q = aW d 220 361 L (.int (nI 0) :: S) h Q := ax_iconst mt220 dL_law_360 ic_0
theorem s220_361 : aW d 220 361 L [.int a] h Q = (b01 a ∧ Q (some (.int a)) h) := ax_retz mt220 dL_law_361 rfl
theorem s220_316 : aW d 220 316 [l0, .ref o, l2, l3] S h Q = aW d 220 317 [l0, .ref o, l2, l3] (.ref o :: S) h Q := ax_aload_n mt220 dL_law_316 rfl
theorem s220_317 : aW d 220 317 [.ref o, l1, l2, l3] S h Q = aW d 220 318 [.ref o, l1, l2, l3] (.ref o :: S) h Q := ax_aload_n mt220 dL_law_317 rfl
theorem s220_318 : aW d 220 318 [l0, l1, l2, .int a] S h Q = aW d 220 319 [l0, l1, l2, .int a] (.int a :: S) h Q := ax_iload_n mt220 dL_law_318 rfl
theorem s220_319 : aW d 220 319 L S h Q = aW d 220 320 L (.int (nI 1) :: S) h Q := ax_iconst mt220 dL_law_319 ic_1
theorem s220_320 : aW d 220 320 L (.int b :: .int a :: S) h Q = aW d 220 321 L (.int (a + b) :: S) h Q := ax_iadd mt220 dL_law_320
theorem s220_321 : aW d 220 321 L (.int a :: .ref o :: S) h Q = (inb a (aI h o) ∧ aW d 220 322 L (.int (gI h o a.toNatClampNeg) :: S) h Q) := ax_iald mt220 dL_law_321
theorem s220_322 (hT : gT h o = some (13, 14)) : aW (d + 1) 220 322 L (.int x0 :: .ref o :: []) h Q = aM d 99 (.ref o :: [.int x0]) h (fun v h1 => aW (d + 1) 220 325 L (ab_ps v []) h1 Q) := ax_invv mt220 dL_law_322 (by decide) ct_53283 (.inl rfl) mt99 ⟨⟨Nat.le_of_ble_eq_true rfl, Nat.le_of_ble_eq_true rfl, Nat.le_of_ble_eq_true rfl⟩, rfl, rfl, rfl⟩ hT
theorem s220_325 : aW d 220 325 [l0, l1, .ref o, l3] S h Q = aW d 220 326 [l0, l1, .ref o, l3] (.ref o :: S) h Q := ax_aload_n mt220 dL_law_325 rfl
theorem s220_326 : aW d 220 326 [.ref o, l1, l2, l3] S h Q = aW d 220 327 [.ref o, l1, l2, l3] (.ref o :: S) h Q := ax_aload_n mt220 dL_law_326 rfl
theorem s220_327 : aW d 220 327 [l0, l1, l2, .int a] S h Q = aW d 220 328 [l0, l1, l2, .int a] (.int a :: S) h Q := ax_iload_n mt220 dL_law_327 rfl
theorem s220_328 : aW d 220 328 L S h Q = aW d 220 329 L (.int (nI 1) :: S) h Q := ax_iconst mt220 dL_law_328 ic_1
theorem s220_329 : aW d 220 329 L (.int b :: .int a :: S) h Q = aW d 220 330 L (.int (a + b) :: S) h Q := ax_iadd mt220 dL_law_329
theorem s220_330 : aW d 220 330 L (.int a :: .ref o :: S) h Q = (inb a (aI h o) ∧ aW d 220 331 L (.int (gI h o a.toNatClampNeg) :: S) h Q) := ax_iald mt220 dL_law_330
theorem s220_331 (hT : gT h o = some (14, 54)) : aW (d + 1) 220 331 L (.int x0 :: .ref o :: [.int y0]) h Q = aM d 168 (.ref o :: [.int x0]) h (fun v h1 => aW (d + 1) 220 334 L (ab_ps v [.int y0]) h1 Q) := ax_invv mt220 dL_law_331 (by decide) ct_53286 (.inl rfl) mt168 ⟨⟨Nat.le_of_ble_eq_true rfl, Nat.le_of_ble_eq_true rfl, Nat.le_of_ble_eq_true rfl⟩, rfl, rfl, rfl⟩ hT
theorem s220_334 : aW d 220 334 L (.int b :: .int a :: S) h Q = (if a = b then aW d 220 1166 L S h Q else aW d 220 337 L S h Q) := ax_icmp_eq mt220 dL_law_334 (by decide)
theorem s220_337 : aW d 220 337 L S h Q = aW d 220 338 L (.int (nI 0) :: S) h Q := ax_iconst mt220 dL_law_337 ic_0
theorem s220_338 : aW d 220 338 L [.int a] h Q = (b01 a ∧ Q (some (.int a)) h) := ax_retz mt220 dL_law_338 rfl
theorem s220_293 : aW d 220 293 [l0, .ref o, l2, l3] S h Q = aW d 220 294 [l0, .ref o, l2, l3] (.ref o :: S) h Q := ax_aload_n mt220 dL_law_293 rfl
theorem s220_294 : aW d 220 294 [.ref o, l1, l2, l3] S h Q = aW d 220 295 [.ref o, l1, l2, l3] (.ref o :: S) h Q := ax_aload_n mt220 dL_law_294 rfl
theorem s220_295 : aW d 220 295 [l0, l1, l2, .int a] S h Q = aW d 220 296 [l0, l1, l2, .int a] (.int a :: S) h Q := ax_iload_n mt220 dL_law_295 rfl
theorem s220_296 : aW d 220 296 L S h Q = aW d 220 297 L (.int (nI 1) :: S) h Q := ax_iconst mt220 dL_law_296 ic_1
theorem s220_297 : aW d 220 297 L (.int b :: .int a :: S) h Q = aW d 220 298 L (.int (a + b) :: S) h Q := ax_iadd mt220 dL_law_297
theorem s220_298 : aW d 220 298 L (.int a :: .ref o :: S) h Q = (inb a (aI h o) ∧ aW d 220 299 L (.int (gI h o a.toNatClampNeg) :: S) h Q) := ax_iald mt220 dL_law_298
theorem s220_299 (hT : gT h o = some (13, 14)) : aW (d + 1) 220 299 L (.int x0 :: .ref o :: []) h Q = aM d 98 (.ref o :: [.int x0]) h (fun v h1 => aW (d + 1) 220 302 L (ab_ps v []) h1 Q) := ax_invv mt220 dL_law_299 (by decide) ct_53278 (.inl rfl) mt98 ⟨⟨Nat.le_of_ble_eq_true rfl, Nat.le_of_ble_eq_true rfl, Nat.le_of_ble_eq_true rfl⟩, rfl, rfl, rfl⟩ hT
theorem s220_302 : aW d 220 302 [l0, l1, .ref o, l3] S h Q = aW d 220 303 [l0, l1, .ref o, l3] (.ref o :: S) h Q := ax_aload_n mt220 dL_law_302 rfl
theorem s220_303 : aW d 220 303 [.ref o, l1, l2, l3] S h Q = aW d 220 304 [.ref o, l1, l2, l3] (.ref o :: S) h Q := ax_aload_n mt220 dL_law_303 rfl
theorem s220_304 : aW d 220 304 [l0, l1, l2, .int a] S h Q = aW d 220 305 [l0, l1, l2, .int a] (.int a :: S) h Q := ax_iload_n mt220 dL_law_304 rfl
theorem s220_305 : aW d 220 305 L S h Q = aW d 220 306 L (.int (nI 1) :: S) h Q := ax_iconst mt220 dL_law_305 ic_1
theorem s220_306 : aW d 220 306 L (.int b :: .int a :: S) h Q = aW d 220 307 L (.int (a + b) :: S) h Q := ax_iadd mt220 dL_law_306
theorem s220_307 : aW d 220 307 L (.int a :: .ref o :: S) h Q = (inb a (aI h o) ∧ aW d 220 308 L (.int (gI h o a.toNatClampNeg) :: S) h Q) := ax_iald mt220 dL_law_307
theorem s220_308 (hT : gT h o = some (14, 54)) : aW (d + 1) 220 308 L (.int x0 :: .ref o :: [.int y0]) h Q = aM d 166 (.ref o :: [.int x0]) h (fun v h1 => aW (d + 1) 220 311 L (ab_ps v [.int y0]) h1 Q) := ax_invv mt220 dL_law_308 (by decide) ct_53282 (.inl rfl) mt166 ⟨⟨Nat.le_of_ble_eq_true rfl, Nat.le_of_ble_eq_true rfl, Nat.le_of_ble_eq_true rfl⟩, rfl, rfl, rfl⟩ hT
theorem s220_311 : aW d 220 311 L (.int b :: .int a :: S) h Q = (if a = b then aW d 220 1166 L S h Q else aW d 220 314 L S h Q) := ax_icmp_eq mt220 dL_law_311 (by decide)
theorem s220_314 : aW d 220 314 L S h Q = aW d 220 315 L (.int (nI 0) :: S) h Q := ax_iconst mt220 dL_law_314 ic_0
theorem s220_315 : aW d 220 315 L [.int a] h Q = (b01 a ∧ Q (some (.int a)) h) := ax_retz mt220 dL_law_315 rfl
theorem s220_260 : aW d 220 260 [l0, .ref o, l2, l3] S h Q = aW d 220 261 [l0, .ref o, l2, l3] (.ref o :: S) h Q := ax_aload_n mt220 dL_law_260 rfl
theorem s220_261 : aW d 220 261 [.ref o, l1, l2, l3] S h Q = aW d 220 262 [.ref o, l1, l2, l3] (.ref o :: S) h Q := ax_aload_n mt220 dL_law_261 rfl
theorem s220_262 : aW d 220 262 [l0, l1, l2, .int a] S h Q = aW d 220 263 [l0, l1, l2, .int a] (.int a :: S) h Q := ax_iload_n mt220 dL_law_262 rfl
theorem s220_263 : aW d 220 263 L S h Q = aW d 220 264 L (.int (nI 1) :: S) h Q := ax_iconst mt220 dL_law_263 ic_1
theorem s220_264 : aW d 220 264 L (.int b :: .int a :: S) h Q = aW d 220 265 L (.int (a + b) :: S) h Q := ax_iadd mt220 dL_law_264
theorem s220_265 : aW d 220 265 L (.int a :: .ref o :: S) h Q = (inb a (aI h o) ∧ aW d 220 266 L (.int (gI h o a.toNatClampNeg) :: S) h Q) := ax_iald mt220 dL_law_265
theorem s220_266 : aW d 220 266 [.ref o, l1, l2, l3] S h Q = aW d 220 267 [.ref o, l1, l2, l3] (.ref o :: S) h Q := ax_aload_n mt220 dL_law_266 rfl
theorem s220_267 : aW d 220 267 [l0, l1, l2, .int a] S h Q = aW d 220 268 [l0, l1, l2, .int a] (.int a :: S) h Q := ax_iload_n mt220 dL_law_267 rfl
theorem s220_268 : aW d 220 268 L S h Q = aW d 220 269 L (.int (nI 2) :: S) h Q := ax_iconst mt220 dL_law_268 ic_2
theorem s220_269 : aW d 220 269 L (.int b :: .int a :: S) h Q = aW d 220 270 L (.int (a + b) :: S) h Q := ax_iadd mt220 dL_law_269
theorem s220_270 : aW d 220 270 L (.int a :: .ref o :: S) h Q = (inb a (aI h o) ∧ aW d 220 271 L (.int (gI h o a.toNatClampNeg) :: S) h Q) := ax_iald mt220 dL_law_270
theorem s220_271 (hT : gT h o = some (13, 14)) : aW (d + 1) 220 271 L (.int x1 :: .int x0 :: .ref o :: []) h Q = aM d 97 (.ref o :: [.int x0, .int x1]) h (fun v h1 => aW (d + 1) 220 274 L (ab_ps v []) h1 Q) := ax_invv mt220 dL_law_271 (by decide) ct_53273 (.inl rfl) mt97 ⟨⟨Nat.le_of_ble_eq_true rfl, Nat.le_of_ble_eq_true rfl, Nat.le_of_ble_eq_true rfl⟩, rfl, rfl, rfl⟩ hT
theorem s220_274 : aW d 220 274 [l0, l1, .ref o, l3] S h Q = aW d 220 275 [l0, l1, .ref o, l3] (.ref o :: S) h Q := ax_aload_n mt220 dL_law_274 rfl
theorem s220_275 : aW d 220 275 [.ref o, l1, l2, l3] S h Q = aW d 220 276 [.ref o, l1, l2, l3] (.ref o :: S) h Q := ax_aload_n mt220 dL_law_275 rfl
theorem s220_276 : aW d 220 276 [l0, l1, l2, .int a] S h Q = aW d 220 277 [l0, l1, l2, .int a] (.int a :: S) h Q := ax_iload_n mt220 dL_law_276 rfl
theorem s220_277 : aW d 220 277 L S h Q = aW d 220 278 L (.int (nI 1) :: S) h Q := ax_iconst mt220 dL_law_277 ic_1
theorem s220_278 : aW d 220 278 L (.int b :: .int a :: S) h Q = aW d 220 279 L (.int (a + b) :: S) h Q := ax_iadd mt220 dL_law_278
theorem s220_279 : aW d 220 279 L (.int a :: .ref o :: S) h Q = (inb a (aI h o) ∧ aW d 220 280 L (.int (gI h o a.toNatClampNeg) :: S) h Q) := ax_iald mt220 dL_law_279
theorem s220_280 : aW d 220 280 [.ref o, l1, l2, l3] S h Q = aW d 220 281 [.ref o, l1, l2, l3] (.ref o :: S) h Q := ax_aload_n mt220 dL_law_280 rfl
theorem s220_281 : aW d 220 281 [l0, l1, l2, .int a] S h Q = aW d 220 282 [l0, l1, l2, .int a] (.int a :: S) h Q := ax_iload_n mt220 dL_law_281 rfl
theorem s220_282 : aW d 220 282 L S h Q = aW d 220 283 L (.int (nI 2) :: S) h Q := ax_iconst mt220 dL_law_282 ic_2
theorem s220_283 : aW d 220 283 L (.int b :: .int a :: S) h Q = aW d 220 284 L (.int (a + b) :: S) h Q := ax_iadd mt220 dL_law_283
theorem s220_284 : aW d 220 284 L (.int a :: .ref o :: S) h Q = (inb a (aI h o) ∧ aW d 220 285 L (.int (gI h o a.toNatClampNeg) :: S) h Q) := ax_iald mt220 dL_law_284
theorem s220_285 (hT : gT h o = some (14, 54)) : aW (d + 1) 220 285 L (.int x1 :: .int x0 :: .ref o :: [.int y0]) h Q = aM d 152 (.ref o :: [.int x0, .int x1]) h (fun v h1 => aW (d + 1) 220 288 L (ab_ps v [.int y0]) h1 Q) := ax_invv mt220 dL_law_285 (by decide) ct_53277 (.inl rfl) mt152 ⟨⟨Nat.le_of_ble_eq_true rfl, Nat.le_of_ble_eq_true rfl, Nat.le_of_ble_eq_true rfl⟩, rfl, rfl, rfl⟩ hT
theorem s220_288 : aW d 220 288 L (.int b :: .int a :: S) h Q = (if a = b then aW d 220 1166 L S h Q else aW d 220 291 L S h Q) := ax_icmp_eq mt220 dL_law_288 (by decide)
theorem s220_291 : aW d 220 291 L S h Q = aW d 220 292 L (.int (nI 0) :: S) h Q := ax_iconst mt220 dL_law_291 ic_0
theorem s220_292 : aW d 220 292 L [.int a] h Q = (b01 a ∧ Q (some (.int a)) h) := ax_retz mt220 dL_law_292 rfl
theorem s220_247 : aW d 220 247 [l0, .ref o, l2, l3] S h Q = aW d 220 248 [l0, .ref o, l2, l3] (.ref o :: S) h Q := ax_aload_n mt220 dL_law_247 rfl
theorem s220_248 (hT : gT h o = some (13, 14)) : aW (d + 1) 220 248 L (.ref o :: []) h Q = aM d 96 (.ref o :: []) h (fun v h1 => aW (d + 1) 220 251 L (ab_ps v []) h1 Q) := ax_invv mt220 dL_law_248 (by decide) ct_53268 (.inl rfl) mt96 ⟨⟨Nat.le_of_ble_eq_true rfl, Nat.le_of_ble_eq_true rfl, Nat.le_of_ble_eq_true rfl⟩, rfl, rfl, rfl⟩ hT
theorem s220_251 : aW d 220 251 [l0, l1, .ref o, l3] S h Q = aW d 220 252 [l0, l1, .ref o, l3] (.ref o :: S) h Q := ax_aload_n mt220 dL_law_251 rfl
theorem s220_252 (hT : gT h o = some (14, 54)) : aW (d + 1) 220 252 L (.ref o :: [.int y0]) h Q = aM d 151 (.ref o :: []) h (fun v h1 => aW (d + 1) 220 255 L (ab_ps v [.int y0]) h1 Q) := ax_invv mt220 dL_law_252 (by decide) ct_53272 (.inl rfl) mt151 ⟨⟨Nat.le_of_ble_eq_true rfl, Nat.le_of_ble_eq_true rfl, Nat.le_of_ble_eq_true rfl⟩, rfl, rfl, rfl⟩ hT
theorem s220_255 : aW d 220 255 L (.int b :: .int a :: S) h Q = (if a = b then aW d 220 1166 L S h Q else aW d 220 258 L S h Q) := ax_icmp_eq mt220 dL_law_255 (by decide)
theorem s220_258 : aW d 220 258 L S h Q = aW d 220 259 L (.int (nI 0) :: S) h Q := ax_iconst mt220 dL_law_258 ic_0
theorem s220_259 : aW d 220 259 L [.int a] h Q = (b01 a ∧ Q (some (.int a)) h) := ax_retz mt220 dL_law_259 rfl
theorem s220_184 : aW d 220 184 [l0, .ref o, l2, l3] S h Q = aW d 220 185 [l0, .ref o, l2, l3] (.ref o :: S) h Q := ax_aload_n mt220 dL_law_184 rfl
theorem s220_185 : aW d 220 185 [.ref o, l1, l2, l3] S h Q = aW d 220 186 [.ref o, l1, l2, l3] (.ref o :: S) h Q := ax_aload_n mt220 dL_law_185 rfl
theorem s220_186 : aW d 220 186 [l0, l1, l2, .int a] S h Q = aW d 220 187 [l0, l1, l2, .int a] (.int a :: S) h Q := ax_iload_n mt220 dL_law_186 rfl
theorem s220_187 : aW d 220 187 L S h Q = aW d 220 188 L (.int (nI 1) :: S) h Q := ax_iconst mt220 dL_law_187 ic_1
theorem s220_188 : aW d 220 188 L (.int b :: .int a :: S) h Q = aW d 220 189 L (.int (a + b) :: S) h Q := ax_iadd mt220 dL_law_188
theorem s220_189 : aW d 220 189 L (.int a :: .ref o :: S) h Q = (inb a (aI h o) ∧ aW d 220 190 L (.int (gI h o a.toNatClampNeg) :: S) h Q) := ax_iald mt220 dL_law_189
theorem s220_190 : aW d 220 190 L (.int a :: S) h Q = aW d 220 191 L (.long a.toInt64 :: S) h Q := ax_i2l mt220 dL_law_190
theorem s220_191 : aW d 220 191 L S h Q = aW d 220 193 L (.int (nI 32) :: S) h Q := ax_bipush mt220 dL_law_191 bp_32
theorem s220_193 : aW d 220 193 L (.int b :: .long u :: S) h Q = aW d 220 194 L (.long (u <<< (b.toInt64 &&& 63)) :: S) h Q := ax_lshl mt220 dL_law_193
theorem s220_194 : aW d 220 194 [.ref o, l1, l2, l3] S h Q = aW d 220 195 [.ref o, l1, l2, l3] (.ref o :: S) h Q := ax_aload_n mt220 dL_law_194 rfl
theorem s220_195 : aW d 220 195 [l0, l1, l2, .int a] S h Q = aW d 220 196 [l0, l1, l2, .int a] (.int a :: S) h Q := ax_iload_n mt220 dL_law_195 rfl
theorem s220_196 : aW d 220 196 L S h Q = aW d 220 197 L (.int (nI 2) :: S) h Q := ax_iconst mt220 dL_law_196 ic_2
theorem s220_197 : aW d 220 197 L (.int b :: .int a :: S) h Q = aW d 220 198 L (.int (a + b) :: S) h Q := ax_iadd mt220 dL_law_197
theorem s220_198 : aW d 220 198 L (.int a :: .ref o :: S) h Q = (inb a (aI h o) ∧ aW d 220 199 L (.int (gI h o a.toNatClampNeg) :: S) h Q) := ax_iald mt220 dL_law_198
theorem s220_199 : aW d 220 199 L (.int a :: S) h Q = aW d 220 200 L (.long a.toInt64 :: S) h Q := ax_i2l mt220 dL_law_199
theorem s220_200 : aW d 220 200 L S h Q = aW d 220 203 L (.long 4294967295 :: S) h Q := ax_ldc2_w mt220 dL_law_200 (by decide) lt_53261
theorem s220_203 : aW d 220 203 L (.long w :: .long u :: S) h Q = aW d 220 204 L (.long (u &&& w) :: S) h Q := ax_land mt220 dL_law_203
theorem s220_204 : aW d 220 204 L (.long w :: .long u :: S) h Q = aW d 220 205 L (.long (u ||| w) :: S) h Q := ax_lor mt220 dL_law_204
theorem s220_205 : aW d 220 205 [.ref o, l1, l2, l3] S h Q = aW d 220 206 [.ref o, l1, l2, l3] (.ref o :: S) h Q := ax_aload_n mt220 dL_law_205 rfl
theorem s220_206 : aW d 220 206 [l0, l1, l2, .int a] S h Q = aW d 220 207 [l0, l1, l2, .int a] (.int a :: S) h Q := ax_iload_n mt220 dL_law_206 rfl
theorem s220_207 : aW d 220 207 L S h Q = aW d 220 208 L (.int (nI 3) :: S) h Q := ax_iconst mt220 dL_law_207 ic_3
theorem s220_208 : aW d 220 208 L (.int b :: .int a :: S) h Q = aW d 220 209 L (.int (a + b) :: S) h Q := ax_iadd mt220 dL_law_208
theorem s220_209 : aW d 220 209 L (.int a :: .ref o :: S) h Q = (inb a (aI h o) ∧ aW d 220 210 L (.int (gI h o a.toNatClampNeg) :: S) h Q) := ax_iald mt220 dL_law_209
theorem s220_210 (hT : gT h o = some (13, 14)) : aW (d + 1) 220 210 L (.int x1 :: .long u0 :: .ref o :: []) h Q = aM d 95 (.ref o :: [.long u0, .int x1]) h (fun v h1 => aW (d + 1) 220 213 L (ab_ps v []) h1 Q) := ax_invv mt220 dL_law_210 (by decide) ct_53263 (.inl rfl) mt95 ⟨⟨Nat.le_of_ble_eq_true rfl, Nat.le_of_ble_eq_true rfl, Nat.le_of_ble_eq_true rfl⟩, rfl, rfl, rfl⟩ hT
theorem s220_213 : aW d 220 213 [l0, l1, .ref o, l3] S h Q = aW d 220 214 [l0, l1, .ref o, l3] (.ref o :: S) h Q := ax_aload_n mt220 dL_law_213 rfl
theorem s220_214 : aW d 220 214 [.ref o, l1, l2, l3] S h Q = aW d 220 215 [.ref o, l1, l2, l3] (.ref o :: S) h Q := ax_aload_n mt220 dL_law_214 rfl
theorem s220_215 : aW d 220 215 [l0, l1, l2, .int a] S h Q = aW d 220 216 [l0, l1, l2, .int a] (.int a :: S) h Q := ax_iload_n mt220 dL_law_215 rfl
theorem s220_216 : aW d 220 216 L S h Q = aW d 220 217 L (.int (nI 1) :: S) h Q := ax_iconst mt220 dL_law_216 ic_1
theorem s220_217 : aW d 220 217 L (.int b :: .int a :: S) h Q = aW d 220 218 L (.int (a + b) :: S) h Q := ax_iadd mt220 dL_law_217
theorem s220_218 : aW d 220 218 L (.int a :: .ref o :: S) h Q = (inb a (aI h o) ∧ aW d 220 219 L (.int (gI h o a.toNatClampNeg) :: S) h Q) := ax_iald mt220 dL_law_218
theorem s220_219 : aW d 220 219 L (.int a :: S) h Q = aW d 220 220 L (.long a.toInt64 :: S) h Q := ax_i2l mt220 dL_law_219
theorem s220_220 : aW d 220 220 L S h Q = aW d 220 222 L (.int (nI 32) :: S) h Q := ax_bipush mt220 dL_law_220 bp_32
theorem s220_222 : aW d 220 222 L (.int b :: .long u :: S) h Q = aW d 220 223 L (.long (u <<< (b.toInt64 &&& 63)) :: S) h Q := ax_lshl mt220 dL_law_222
theorem s220_223 : aW d 220 223 [.ref o, l1, l2, l3] S h Q = aW d 220 224 [.ref o, l1, l2, l3] (.ref o :: S) h Q := ax_aload_n mt220 dL_law_223 rfl
theorem s220_224 : aW d 220 224 [l0, l1, l2, .int a] S h Q = aW d 220 225 [l0, l1, l2, .int a] (.int a :: S) h Q := ax_iload_n mt220 dL_law_224 rfl
theorem s220_225 : aW d 220 225 L S h Q = aW d 220 226 L (.int (nI 2) :: S) h Q := ax_iconst mt220 dL_law_225 ic_2
theorem s220_226 : aW d 220 226 L (.int b :: .int a :: S) h Q = aW d 220 227 L (.int (a + b) :: S) h Q := ax_iadd mt220 dL_law_226
theorem s220_227 : aW d 220 227 L (.int a :: .ref o :: S) h Q = (inb a (aI h o) ∧ aW d 220 228 L (.int (gI h o a.toNatClampNeg) :: S) h Q) := ax_iald mt220 dL_law_227
theorem s220_228 : aW d 220 228 L (.int a :: S) h Q = aW d 220 229 L (.long a.toInt64 :: S) h Q := ax_i2l mt220 dL_law_228
theorem s220_229 : aW d 220 229 L S h Q = aW d 220 232 L (.long 4294967295 :: S) h Q := ax_ldc2_w mt220 dL_law_229 (by decide) lt_53261
theorem s220_232 : aW d 220 232 L (.long w :: .long u :: S) h Q = aW d 220 233 L (.long (u &&& w) :: S) h Q := ax_land mt220 dL_law_232
theorem s220_233 : aW d 220 233 L (.long w :: .long u :: S) h Q = aW d 220 234 L (.long (u ||| w) :: S) h Q := ax_lor mt220 dL_law_233
theorem s220_234 : aW d 220 234 [.ref o, l1, l2, l3] S h Q = aW d 220 235 [.ref o, l1, l2, l3] (.ref o :: S) h Q := ax_aload_n mt220 dL_law_234 rfl
theorem s220_235 : aW d 220 235 [l0, l1, l2, .int a] S h Q = aW d 220 236 [l0, l1, l2, .int a] (.int a :: S) h Q := ax_iload_n mt220 dL_law_235 rfl
theorem s220_236 : aW d 220 236 L S h Q = aW d 220 237 L (.int (nI 3) :: S) h Q := ax_iconst mt220 dL_law_236 ic_3
theorem s220_237 : aW d 220 237 L (.int b :: .int a :: S) h Q = aW d 220 238 L (.int (a + b) :: S) h Q := ax_iadd mt220 dL_law_237
theorem s220_238 : aW d 220 238 L (.int a :: .ref o :: S) h Q = (inb a (aI h o) ∧ aW d 220 239 L (.int (gI h o a.toNatClampNeg) :: S) h Q) := ax_iald mt220 dL_law_238
theorem s220_239 (hT : gT h o = some (14, 54)) : aW (d + 1) 220 239 L (.int x1 :: .long u0 :: .ref o :: [.int y0]) h Q = aM d 140 (.ref o :: [.long u0, .int x1]) h (fun v h1 => aW (d + 1) 220 242 L (ab_ps v [.int y0]) h1 Q) := ax_invv mt220 dL_law_239 (by decide) ct_53267 (.inl rfl) mt140 ⟨⟨Nat.le_of_ble_eq_true rfl, Nat.le_of_ble_eq_true rfl, Nat.le_of_ble_eq_true rfl⟩, rfl, rfl, rfl⟩ hT
theorem s220_242 : aW d 220 242 L (.int b :: .int a :: S) h Q = (if a = b then aW d 220 1166 L S h Q else aW d 220 245 L S h Q) := ax_icmp_eq mt220 dL_law_242 (by decide)
theorem s220_245 : aW d 220 245 L S h Q = aW d 220 246 L (.int (nI 0) :: S) h Q := ax_iconst mt220 dL_law_245 ic_0
theorem s220_246 : aW d 220 246 L [.int a] h Q = (b01 a ∧ Q (some (.int a)) h) := ax_retz mt220 dL_law_246 rfl
theorem s220_1166 : aW d 220 1166 [l0, l1, l2, .int a] S h Q = aW d 220 1169 [l0, l1, l2, .int (a + nI 6)] S h Q := ax_iinc mt220 dL_law_1166 rfl ic_6 rfl
theorem s220_1169 : aW d 220 1169 L S h Q = aW d 220 18 L S h Q := ax_goto mt220 dL_law_1169 (by decide)
theorem s220_1172 : aW d 220 1172 L S h Q = aW d 220 1173 L (.int (nI 1) :: S) h Q := ax_iconst mt220 dL_law_1172 ic_1
theorem s220_1173 : aW d 220 1173 L [.int a] h Q = (b01 a ∧ Q (some (.int a)) h) := ax_retz mt220 dL_law_1173 rfl
end S
