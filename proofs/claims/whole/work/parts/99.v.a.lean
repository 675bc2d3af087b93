/-! the law's instructions -/
theorem dLw_0 : decode code 0 = .ok (.new 8, 3) := by decide +kernel
theorem dLw_3 : decode code 3 = .ok (.dup, 1) := by decide +kernel
theorem dLw_4 : decode code 4 = .ok (.invokespecial 15, 3) := by decide +kernel
theorem dLw_7 : decode code 7 = .ok (.astore_n 1, 1) := by decide +kernel
theorem dLw_8 : decode code 8 = .ok (.new 16, 3) := by decide +kernel
theorem dLw_11 : decode code 11 = .ok (.dup, 1) := by decide +kernel
theorem dLw_12 : decode code 12 = .ok (.invokespecial 18, 3) := by decide +kernel
theorem dLw_15 : decode code 15 = .ok (.astore_n 2, 1) := by decide +kernel
theorem dLw_16 : decode code 16 = .ok (.iconst 1, 1) := by decide +kernel
theorem dLw_17 : decode code 17 = .ok (.newarray .long, 2) := by decide +kernel
theorem dLw_19 : decode code 19 = .ok (.astore_n 3, 1) := by decide +kernel
theorem dLw_20 : decode code 20 = .ok (.iconst 0, 1) := by decide +kernel
theorem dLw_21 : decode code 21 = .ok (.istore 4, 2) := by decide +kernel
theorem dLw_23 : decode code 23 = .ok (.iload 4, 2) := by decide +kernel
theorem dLw_25 : decode code 25 = .ok (.aload_n 0, 1) := by decide +kernel
theorem dLw_26 : decode code 26 = .ok (.arraylength, 1) := by decide +kernel
theorem dLw_27 : decode code 27 = .ok (.bipush 6, 2) := by decide +kernel
theorem dLw_29 : decode code 29 = .ok (.isub, 1) := by decide +kernel
theorem dLw_30 : decode code 30 = .ok (.if_icmp .gt 1318, 3) := by decide +kernel
theorem dLw_33 : decode code 33 = .ok (.aload_n 0, 1) := by decide +kernel
theorem dLw_34 : decode code 34 = .ok (.iload 4, 2) := by decide +kernel
theorem dLw_36 : decode code 36 = .ok (.iaload, 1) := by decide +kernel
theorem dLw_37 : decode code 37 = .ok (.bipush 63, 2) := by decide +kernel
theorem dLw_39 : decode code 39 = .ok (.iand, 1) := by decide +kernel
theorem dLw_40 : decode code 40 = .ok (.tableswitch 1302 0 34 #[156, 229, 254, 279, 304, 329, 397, 434, 459, 484, 521, 546, 571, 596, 621, 690, 715, 728, 765, 790, 815, 840, 877, 942, 967, 980, 1005, 1078, 1127, 1164, 1189, 1226, 1251, 1264, 1277], 156) := by decide +kernel
theorem dLw_196 : decode code 196 = .ok (.aload_n 1, 1) := by decide +kernel
theorem dLw_197 : decode code 197 = .ok (.aload_n 0, 1) := by decide +kernel
theorem dLw_198 : decode code 198 = .ok (.iload 4, 2) := by decide +kernel
theorem dLw_200 : decode code 200 = .ok (.iconst 1, 1) := by decide +kernel
theorem dLw_201 : decode code 201 = .ok (.iadd, 1) := by decide +kernel
theorem dLw_202 : decode code 202 = .ok (.iaload, 1) := by decide +kernel
theorem dLw_203 : decode code 203 = .ok (.aload_n 0, 1) := by decide +kernel
theorem dLw_204 : decode code 204 = .ok (.iload 4, 2) := by decide +kernel
theorem dLw_206 : decode code 206 = .ok (.iconst 2, 1) := by decide +kernel
theorem dLw_207 : decode code 207 = .ok (.iadd, 1) := by decide +kernel
theorem dLw_208 : decode code 208 = .ok (.iaload, 1) := by decide +kernel
theorem dLw_209 : decode code 209 = .ok (.aload_n 0, 1) := by decide +kernel
theorem dLw_210 : decode code 210 = .ok (.iload 4, 2) := by decide +kernel
theorem dLw_212 : decode code 212 = .ok (.iconst 3, 1) := by decide +kernel
theorem dLw_213 : decode code 213 = .ok (.iadd, 1) := by decide +kernel
theorem dLw_214 : decode code 214 = .ok (.iaload, 1) := by decide +kernel
theorem dLw_215 : decode code 215 = .ok (.aload_n 0, 1) := by decide +kernel
theorem dLw_216 : decode code 216 = .ok (.iload 4, 2) := by decide +kernel
theorem dLw_218 : decode code 218 = .ok (.iconst 4, 1) := by decide +kernel
theorem dLw_219 : decode code 219 = .ok (.iadd, 1) := by decide +kernel
theorem dLw_220 : decode code 220 = .ok (.iaload, 1) := by decide +kernel
theorem dLw_221 : decode code 221 = .ok (.aload_n 0, 1) := by decide +kernel
theorem dLw_222 : decode code 222 = .ok (.iload 4, 2) := by decide +kernel
theorem dLw_224 : decode code 224 = .ok (.iconst 5, 1) := by decide +kernel
theorem dLw_225 : decode code 225 = .ok (.iadd, 1) := by decide +kernel
theorem dLw_226 : decode code 226 = .ok (.iaload, 1) := by decide +kernel
theorem dLw_227 : decode code 227 = .ok (.invokevirtual 19, 3) := by decide +kernel
theorem dLw_230 : decode code 230 = .ok (.aload_n 2, 1) := by decide +kernel
theorem dLw_231 : decode code 231 = .ok (.aload_n 0, 1) := by decide +kernel
theorem dLw_232 : decode code 232 = .ok (.iload 4, 2) := by decide +kernel
theorem dLw_234 : decode code 234 = .ok (.iconst 1, 1) := by decide +kernel
theorem dLw_235 : decode code 235 = .ok (.iadd, 1) := by decide +kernel
theorem dLw_236 : decode code 236 = .ok (.iaload, 1) := by decide +kernel
theorem dLw_237 : decode code 237 = .ok (.aload_n 0, 1) := by decide +kernel
theorem dLw_238 : decode code 238 = .ok (.iload 4, 2) := by decide +kernel
theorem dLw_240 : decode code 240 = .ok (.iconst 2, 1) := by decide +kernel
theorem dLw_241 : decode code 241 = .ok (.iadd, 1) := by decide +kernel
theorem dLw_242 : decode code 242 = .ok (.iaload, 1) := by decide +kernel
theorem dLw_243 : decode code 243 = .ok (.aload_n 0, 1) := by decide +kernel
theorem dLw_244 : decode code 244 = .ok (.iload 4, 2) := by decide +kernel
theorem dLw_246 : decode code 246 = .ok (.iconst 3, 1) := by decide +kernel
theorem dLw_247 : decode code 247 = .ok (.iadd, 1) := by decide +kernel
theorem dLw_248 : decode code 248 = .ok (.iaload, 1) := by decide +kernel
theorem dLw_249 : decode code 249 = .ok (.aload_n 0, 1) := by decide +kernel
theorem dLw_250 : decode code 250 = .ok (.iload 4, 2) := by decide +kernel
theorem dLw_252 : decode code 252 = .ok (.iconst 4, 1) := by decide +kernel
theorem dLw_253 : decode code 253 = .ok (.iadd, 1) := by decide +kernel
theorem dLw_254 : decode code 254 = .ok (.iaload, 1) := by decide +kernel
theorem dLw_255 : decode code 255 = .ok (.aload_n 0, 1) := by decide +kernel
theorem dLw_256 : decode code 256 = .ok (.iload 4, 2) := by decide +kernel
theorem dLw_258 : decode code 258 = .ok (.iconst 5, 1) := by decide +kernel
theorem dLw_259 : decode code 259 = .ok (.iadd, 1) := by decide +kernel
theorem dLw_260 : decode code 260 = .ok (.iaload, 1) := by decide +kernel
theorem dLw_261 : decode code 261 = .ok (.invokevirtual 23, 3) := by decide +kernel
theorem dLw_264 : decode code 264 = .ok (.if_icmp .eq 1078, 3) := by decide +kernel
theorem dLw_267 : decode code 267 = .ok (.iconst 0, 1) := by decide +kernel
theorem dLw_268 : decode code 268 = .ok (.ireturn, 1) := by decide +kernel
theorem dLw_269 : decode code 269 = .ok (.aload_n 1, 1) := by decide +kernel
theorem dLw_270 : decode code 270 = .ok (.aload_n 0, 1) := by decide +kernel
theorem dLw_271 : decode code 271 = .ok (.iload 4, 2) := by decide +kernel
theorem dLw_273 : decode code 273 = .ok (.iconst 1, 1) := by decide +kernel
theorem dLw_274 : decode code 274 = .ok (.iadd, 1) := by decide +kernel
theorem dLw_275 : decode code 275 = .ok (.iaload, 1) := by decide +kernel
theorem dLw_276 : decode code 276 = .ok (.invokevirtual 24, 3) := by decide +kernel
theorem dLw_279 : decode code 279 = .ok (.aload_n 2, 1) := by decide +kernel
theorem dLw_280 : decode code 280 = .ok (.aload_n 0, 1) := by decide +kernel
theorem dLw_281 : decode code 281 = .ok (.iload 4, 2) := by decide +kernel
theorem dLw_283 : decode code 283 = .ok (.iconst 1, 1) := by decide +kernel
theorem dLw_284 : decode code 284 = .ok (.iadd, 1) := by decide +kernel
theorem dLw_285 : decode code 285 = .ok (.iaload, 1) := by decide +kernel
theorem dLw_286 : decode code 286 = .ok (.invokevirtual 28, 3) := by decide +kernel
theorem dLw_289 : decode code 289 = .ok (.if_icmp .eq 1053, 3) := by decide +kernel
theorem dLw_292 : decode code 292 = .ok (.iconst 0, 1) := by decide +kernel
theorem dLw_293 : decode code 293 = .ok (.ireturn, 1) := by decide +kernel
theorem dLw_294 : decode code 294 = .ok (.aload_n 1, 1) := by decide +kernel
theorem dLw_295 : decode code 295 = .ok (.aload_n 0, 1) := by decide +kernel
theorem dLw_296 : decode code 296 = .ok (.iload 4, 2) := by decide +kernel
theorem dLw_298 : decode code 298 = .ok (.iconst 1, 1) := by decide +kernel
theorem dLw_299 : decode code 299 = .ok (.iadd, 1) := by decide +kernel
theorem dLw_300 : decode code 300 = .ok (.iaload, 1) := by decide +kernel
theorem dLw_301 : decode code 301 = .ok (.invokevirtual 29, 3) := by decide +kernel
theorem dLw_304 : decode code 304 = .ok (.aload_n 2, 1) := by decide +kernel
theorem dLw_305 : decode code 305 = .ok (.aload_n 0, 1) := by decide +kernel
theorem dLw_306 : decode code 306 = .ok (.iload 4, 2) := by decide +kernel
theorem dLw_308 : decode code 308 = .ok (.iconst 1, 1) := by decide +kernel
theorem dLw_309 : decode code 309 = .ok (.iadd, 1) := by decide +kernel
theorem dLw_310 : decode code 310 = .ok (.iaload, 1) := by decide +kernel
theorem dLw_311 : decode code 311 = .ok (.invokevirtual 33, 3) := by decide +kernel
theorem dLw_314 : decode code 314 = .ok (.if_icmp .eq 1028, 3) := by decide +kernel
theorem dLw_317 : decode code 317 = .ok (.iconst 0, 1) := by decide +kernel
theorem dLw_318 : decode code 318 = .ok (.ireturn, 1) := by decide +kernel
theorem dLw_319 : decode code 319 = .ok (.aload_n 1, 1) := by decide +kernel
theorem dLw_320 : decode code 320 = .ok (.aload_n 0, 1) := by decide +kernel
theorem dLw_321 : decode code 321 = .ok (.iload 4, 2) := by decide +kernel
theorem dLw_323 : decode code 323 = .ok (.iconst 1, 1) := by decide +kernel
theorem dLw_324 : decode code 324 = .ok (.iadd, 1) := by decide +kernel
theorem dLw_325 : decode code 325 = .ok (.iaload, 1) := by decide +kernel
theorem dLw_326 : decode code 326 = .ok (.invokevirtual 34, 3) := by decide +kernel
theorem dLw_329 : decode code 329 = .ok (.aload_n 2, 1) := by decide +kernel
theorem dLw_330 : decode code 330 = .ok (.aload_n 0, 1) := by decide +kernel
theorem dLw_331 : decode code 331 = .ok (.iload 4, 2) := by decide +kernel
theorem dLw_333 : decode code 333 = .ok (.iconst 1, 1) := by decide +kernel
theorem dLw_334 : decode code 334 = .ok (.iadd, 1) := by decide +kernel
theorem dLw_335 : decode code 335 = .ok (.iaload, 1) := by decide +kernel
theorem dLw_336 : decode code 336 = .ok (.invokevirtual 37, 3) := by decide +kernel
theorem dLw_339 : decode code 339 = .ok (.if_icmp .eq 1003, 3) := by decide +kernel
theorem dLw_342 : decode code 342 = .ok (.iconst 0, 1) := by decide +kernel
theorem dLw_343 : decode code 343 = .ok (.ireturn, 1) := by decide +kernel
theorem dLw_344 : decode code 344 = .ok (.aload_n 1, 1) := by decide +kernel
theorem dLw_345 : decode code 345 = .ok (.aload_n 0, 1) := by decide +kernel
theorem dLw_346 : decode code 346 = .ok (.iload 4, 2) := by decide +kernel
theorem dLw_348 : decode code 348 = .ok (.iconst 1, 1) := by decide +kernel
theorem dLw_349 : decode code 349 = .ok (.iadd, 1) := by decide +kernel
theorem dLw_350 : decode code 350 = .ok (.iaload, 1) := by decide +kernel
theorem dLw_351 : decode code 351 = .ok (.invokevirtual 38, 3) := by decide +kernel
theorem dLw_354 : decode code 354 = .ok (.aload_n 2, 1) := by decide +kernel
theorem dLw_355 : decode code 355 = .ok (.aload_n 0, 1) := by decide +kernel
theorem dLw_356 : decode code 356 = .ok (.iload 4, 2) := by decide +kernel
theorem dLw_358 : decode code 358 = .ok (.iconst 1, 1) := by decide +kernel
theorem dLw_359 : decode code 359 = .ok (.iadd, 1) := by decide +kernel
theorem dLw_360 : decode code 360 = .ok (.iaload, 1) := by decide +kernel
theorem dLw_361 : decode code 361 = .ok (.invokevirtual 41, 3) := by decide +kernel
theorem dLw_364 : decode code 364 = .ok (.if_icmp .eq 978, 3) := by decide +kernel
theorem dLw_367 : decode code 367 = .ok (.iconst 0, 1) := by decide +kernel
theorem dLw_368 : decode code 368 = .ok (.ireturn, 1) := by decide +kernel
theorem dLw_369 : decode code 369 = .ok (.aload_n 1, 1) := by decide +kernel
theorem dLw_370 : decode code 370 = .ok (.aload_n 0, 1) := by decide +kernel
theorem dLw_371 : decode code 371 = .ok (.iload 4, 2) := by decide +kernel
theorem dLw_373 : decode code 373 = .ok (.iconst 1, 1) := by decide +kernel
theorem dLw_374 : decode code 374 = .ok (.iadd, 1) := by decide +kernel
theorem dLw_375 : decode code 375 = .ok (.iaload, 1) := by decide +kernel
theorem dLw_376 : decode code 376 = .ok (.aload_n 0, 1) := by decide +kernel
theorem dLw_377 : decode code 377 = .ok (.iload 4, 2) := by decide +kernel
theorem dLw_379 : decode code 379 = .ok (.iconst 2, 1) := by decide +kernel
theorem dLw_380 : decode code 380 = .ok (.iadd, 1) := by decide +kernel
theorem dLw_381 : decode code 381 = .ok (.iaload, 1) := by decide +kernel
theorem dLw_382 : decode code 382 = .ok (.aload_n 3, 1) := by decide +kernel
theorem dLw_383 : decode code 383 = .ok (.invokestatic 42, 3) := by decide +kernel
theorem dLw_386 : decode code 386 = .ok (.istore 5, 2) := by decide +kernel
theorem dLw_388 : decode code 388 = .ok (.aload_n 2, 1) := by decide +kernel
theorem dLw_389 : decode code 389 = .ok (.aload_n 0, 1) := by decide +kernel
theorem dLw_390 : decode code 390 = .ok (.iload 4, 2) := by decide +kernel
theorem dLw_392 : decode code 392 = .ok (.iconst 1, 1) := by decide +kernel
theorem dLw_393 : decode code 393 = .ok (.iadd, 1) := by decide +kernel
theorem dLw_394 : decode code 394 = .ok (.iaload, 1) := by decide +kernel
theorem dLw_395 : decode code 395 = .ok (.aload_n 0, 1) := by decide +kernel
theorem dLw_396 : decode code 396 = .ok (.iload 4, 2) := by decide +kernel
theorem dLw_398 : decode code 398 = .ok (.iconst 2, 1) := by decide +kernel
theorem dLw_399 : decode code 399 = .ok (.iadd, 1) := by decide +kernel
theorem dLw_400 : decode code 400 = .ok (.iaload, 1) := by decide +kernel
theorem dLw_401 : decode code 401 = .ok (.invokevirtual 47, 3) := by decide +kernel
theorem dLw_404 : decode code 404 = .ok (.istore 6, 2) := by decide +kernel
theorem dLw_406 : decode code 406 = .ok (.aload_n 2, 1) := by decide +kernel
theorem dLw_407 : decode code 407 = .ok (.invokevirtual 48, 3) := by decide +kernel
theorem dLw_410 : decode code 410 = .ok (.iload 5, 2) := by decide +kernel
theorem dLw_412 : decode code 412 = .ok (.if_icmp .eq 5, 3) := by decide +kernel
theorem dLw_415 : decode code 415 = .ok (.iconst 0, 1) := by decide +kernel
theorem dLw_416 : decode code 416 = .ok (.ireturn, 1) := by decide +kernel
theorem dLw_417 : decode code 417 = .ok (.iload 5, 2) := by decide +kernel
theorem dLw_419 : decode code 419 = .ok (.ifCond .ne 15, 3) := by decide +kernel
theorem dLw_422 : decode code 422 = .ok (.aload_n 3, 1) := by decide +kernel
theorem dLw_423 : decode code 423 = .ok (.iconst 0, 1) := by decide +kernel
theorem dLw_424 : decode code 424 = .ok (.laload, 1) := by decide +kernel
theorem dLw_425 : decode code 425 = .ok (.iload 6, 2) := by decide +kernel
theorem dLw_427 : decode code 427 = .ok (.i2l, 1) := by decide +kernel
theorem dLw_428 : decode code 428 = .ok (.lcmp, 1) := by decide +kernel
theorem dLw_429 : decode code 429 = .ok (.ifCond .eq 5, 3) := by decide +kernel
theorem dLw_432 : decode code 432 = .ok (.iconst 0, 1) := by decide +kernel
theorem dLw_433 : decode code 433 = .ok (.ireturn, 1) := by decide +kernel
theorem dLw_434 : decode code 434 = .ok (.goto 908, 3) := by decide +kernel
theorem dLw_437 : decode code 437 = .ok (.aload_n 1, 1) := by decide +kernel
theorem dLw_438 : decode code 438 = .ok (.aload_n 0, 1) := by decide +kernel
theorem dLw_439 : decode code 439 = .ok (.iload 4, 2) := by decide +kernel
theorem dLw_441 : decode code 441 = .ok (.iconst 1, 1) := by decide +kernel
theorem dLw_442 : decode code 442 = .ok (.iadd, 1) := by decide +kernel
theorem dLw_443 : decode code 443 = .ok (.iaload, 1) := by decide +kernel
theorem dLw_444 : decode code 444 = .ok (.aload_n 0, 1) := by decide +kernel
theorem dLw_445 : decode code 445 = .ok (.iload 4, 2) := by decide +kernel
theorem dLw_447 : decode code 447 = .ok (.iconst 2, 1) := by decide +kernel
theorem dLw_448 : decode code 448 = .ok (.iadd, 1) := by decide +kernel
theorem dLw_449 : decode code 449 = .ok (.iaload, 1) := by decide +kernel
theorem dLw_450 : decode code 450 = .ok (.invokevirtual 52, 3) := by decide +kernel
theorem dLw_453 : decode code 453 = .ok (.aload_n 2, 1) := by decide +kernel
theorem dLw_454 : decode code 454 = .ok (.aload_n 0, 1) := by decide +kernel
theorem dLw_455 : decode code 455 = .ok (.iload 4, 2) := by decide +kernel
