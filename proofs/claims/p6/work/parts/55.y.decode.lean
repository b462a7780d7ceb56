def dl_L_law_268 : List (ByteArray × Nat × Jvm.ClassFile.Instr × Nat) := [(code, 268, .aload_n 1, 1), (code, 269, .aload_n 0, 1), (code, 270, .iload 4, 2), (code, 272, .iconst 1, 1), (code, 273, .iadd, 1), (code, 274, .iaload, 1), (code, 275, .aload_n 0, 1), (code, 276, .iload 4, 2), (code, 278, .iconst 2, 1), (code, 279, .iadd, 1), (code, 280, .iaload, 1), (code, 281, .ifCond .eq 7, 3), (code, 288, .iconst 0, 1), (code, 289, .aload_n 3, 1), (code, 290, .invokestatic 182, 3), (code, 293, .istore 5, 2), (code, 295, .aload_n 2, 1), (code, 296, .aload_n 0, 1), (code, 297, .iload 4, 2), (code, 299, .iconst 1, 1), (code, 300, .iadd, 1), (code, 301, .iaload, 1), (code, 302, .aload_n 0, 1), (code, 303, .iload 4, 2), (code, 305, .iconst 2, 1), (code, 306, .iadd, 1), (code, 307, .iaload, 1), (code, 308, .ifCond .eq 7, 3), (code, 315, .iconst 0, 1), (code, 316, .invokevirtual 187, 3), (code, 319, .istore 6, 2), (code, 321, .goto 1973, 3), (code, 284, .iconst 1, 1), (code, 285, .goto 4, 3), (code, 311, .iconst 1, 1), (code, 312, .goto 4, 3), (code, 324, .aload_n 1, 1), (code, 325, .aload_n 0, 1), (code, 326, .iload 4, 2), (code, 328, .iconst 1, 1), (code, 329, .iadd, 1), (code, 330, .iaload, 1), (code, 331, .aload_n 0, 1), (code, 332, .iload 4, 2), (code, 334, .iconst 2, 1), (code, 335, .iadd, 1), (code, 336, .iaload, 1), (code, 337, .ifCond .eq 7, 3), (code, 344, .iconst 0, 1), (code, 345, .aload_n 3, 1), (code, 346, .invokestatic 188, 3), (code, 349, .istore 5, 2), (code, 351, .aload_n 2, 1), (code, 352, .aload_n 0, 1), (code, 353, .iload 4, 2), (code, 355, .iconst 1, 1), (code, 356, .iadd, 1), (code, 357, .iaload, 1), (code, 358, .aload_n 0, 1), (code, 359, .iload 4, 2)]
theorem db_L_law_268 : dl_L_law_268.all (fun x => decide (decode x.1 x.2.1 = .ok x.2.2)) = true := by decide +kernel
theorem dc_L_law_268 : decode code 268 = .ok (.aload_n 1, 1) := ky_dc db_L_law_268 0 rfl
theorem dc_L_law_269 : decode code 269 = .ok (.aload_n 0, 1) := ky_dc db_L_law_268 1 rfl
theorem dc_L_law_270 : decode code 270 = .ok (.iload 4, 2) := ky_dc db_L_law_268 2 rfl
theorem dc_L_law_272 : decode code 272 = .ok (.iconst 1, 1) := ky_dc db_L_law_268 3 rfl
theorem dc_L_law_273 : decode code 273 = .ok (.iadd, 1) := ky_dc db_L_law_268 4 rfl
theorem dc_L_law_274 : decode code 274 = .ok (.iaload, 1) := ky_dc db_L_law_268 5 rfl
theorem dc_L_law_275 : decode code 275 = .ok (.aload_n 0, 1) := ky_dc db_L_law_268 6 rfl
theorem dc_L_law_276 : decode code 276 = .ok (.iload 4, 2) := ky_dc db_L_law_268 7 rfl
theorem dc_L_law_278 : decode code 278 = .ok (.iconst 2, 1) := ky_dc db_L_law_268 8 rfl
theorem dc_L_law_279 : decode code 279 = .ok (.iadd, 1) := ky_dc db_L_law_268 9 rfl
theorem dc_L_law_280 : decode code 280 = .ok (.iaload, 1) := ky_dc db_L_law_268 10 rfl
theorem dc_L_law_281 : decode code 281 = .ok (.ifCond .eq 7, 3) := ky_dc db_L_law_268 11 rfl
theorem dc_L_law_288 : decode code 288 = .ok (.iconst 0, 1) := ky_dc db_L_law_268 12 rfl
theorem dc_L_law_289 : decode code 289 = .ok (.aload_n 3, 1) := ky_dc db_L_law_268 13 rfl
theorem dc_L_law_290 : decode code 290 = .ok (.invokestatic 182, 3) := ky_dc db_L_law_268 14 rfl
theorem dc_L_law_293 : decode code 293 = .ok (.istore 5, 2) := ky_dc db_L_law_268 15 rfl
theorem dc_L_law_295 : decode code 295 = .ok (.aload_n 2, 1) := ky_dc db_L_law_268 16 rfl
theorem dc_L_law_296 : decode code 296 = .ok (.aload_n 0, 1) := ky_dc db_L_law_268 17 rfl
theorem dc_L_law_297 : decode code 297 = .ok (.iload 4, 2) := ky_dc db_L_law_268 18 rfl
theorem dc_L_law_299 : decode code 299 = .ok (.iconst 1, 1) := ky_dc db_L_law_268 19 rfl
theorem dc_L_law_300 : decode code 300 = .ok (.iadd, 1) := ky_dc db_L_law_268 20 rfl
theorem dc_L_law_301 : decode code 301 = .ok (.iaload, 1) := ky_dc db_L_law_268 21 rfl
theorem dc_L_law_302 : decode code 302 = .ok (.aload_n 0, 1) := ky_dc db_L_law_268 22 rfl
theorem dc_L_law_303 : decode code 303 = .ok (.iload 4, 2) := ky_dc db_L_law_268 23 rfl
theorem dc_L_law_305 : decode code 305 = .ok (.iconst 2, 1) := ky_dc db_L_law_268 24 rfl
theorem dc_L_law_306 : decode code 306 = .ok (.iadd, 1) := ky_dc db_L_law_268 25 rfl
theorem dc_L_law_307 : decode code 307 = .ok (.iaload, 1) := ky_dc db_L_law_268 26 rfl
theorem dc_L_law_308 : decode code 308 = .ok (.ifCond .eq 7, 3) := ky_dc db_L_law_268 27 rfl
theorem dc_L_law_315 : decode code 315 = .ok (.iconst 0, 1) := ky_dc db_L_law_268 28 rfl
theorem dc_L_law_316 : decode code 316 = .ok (.invokevirtual 187, 3) := ky_dc db_L_law_268 29 rfl
theorem dc_L_law_319 : decode code 319 = .ok (.istore 6, 2) := ky_dc db_L_law_268 30 rfl
theorem dc_L_law_321 : decode code 321 = .ok (.goto 1973, 3) := ky_dc db_L_law_268 31 rfl
theorem dc_L_law_284 : decode code 284 = .ok (.iconst 1, 1) := ky_dc db_L_law_268 32 rfl
theorem dc_L_law_285 : decode code 285 = .ok (.goto 4, 3) := ky_dc db_L_law_268 33 rfl
theorem dc_L_law_311 : decode code 311 = .ok (.iconst 1, 1) := ky_dc db_L_law_268 34 rfl
theorem dc_L_law_312 : decode code 312 = .ok (.goto 4, 3) := ky_dc db_L_law_268 35 rfl
theorem dc_L_law_324 : decode code 324 = .ok (.aload_n 1, 1) := ky_dc db_L_law_268 36 rfl
theorem dc_L_law_325 : decode code 325 = .ok (.aload_n 0, 1) := ky_dc db_L_law_268 37 rfl
theorem dc_L_law_326 : decode code 326 = .ok (.iload 4, 2) := ky_dc db_L_law_268 38 rfl
theorem dc_L_law_328 : decode code 328 = .ok (.iconst 1, 1) := ky_dc db_L_law_268 39 rfl
theorem dc_L_law_329 : decode code 329 = .ok (.iadd, 1) := ky_dc db_L_law_268 40 rfl
theorem dc_L_law_330 : decode code 330 = .ok (.iaload, 1) := ky_dc db_L_law_268 41 rfl
theorem dc_L_law_331 : decode code 331 = .ok (.aload_n 0, 1) := ky_dc db_L_law_268 42 rfl
theorem dc_L_law_332 : decode code 332 = .ok (.iload 4, 2) := ky_dc db_L_law_268 43 rfl
theorem dc_L_law_334 : decode code 334 = .ok (.iconst 2, 1) := ky_dc db_L_law_268 44 rfl
theorem dc_L_law_335 : decode code 335 = .ok (.iadd, 1) := ky_dc db_L_law_268 45 rfl
theorem dc_L_law_336 : decode code 336 = .ok (.iaload, 1) := ky_dc db_L_law_268 46 rfl
theorem dc_L_law_337 : decode code 337 = .ok (.ifCond .eq 7, 3) := ky_dc db_L_law_268 47 rfl
theorem dc_L_law_344 : decode code 344 = .ok (.iconst 0, 1) := ky_dc db_L_law_268 48 rfl
theorem dc_L_law_345 : decode code 345 = .ok (.aload_n 3, 1) := ky_dc db_L_law_268 49 rfl
theorem dc_L_law_346 : decode code 346 = .ok (.invokestatic 188, 3) := ky_dc db_L_law_268 50 rfl
theorem dc_L_law_349 : decode code 349 = .ok (.istore 5, 2) := ky_dc db_L_law_268 51 rfl
theorem dc_L_law_351 : decode code 351 = .ok (.aload_n 2, 1) := ky_dc db_L_law_268 52 rfl
theorem dc_L_law_352 : decode code 352 = .ok (.aload_n 0, 1) := ky_dc db_L_law_268 53 rfl
theorem dc_L_law_353 : decode code 353 = .ok (.iload 4, 2) := ky_dc db_L_law_268 54 rfl
theorem dc_L_law_355 : decode code 355 = .ok (.iconst 1, 1) := ky_dc db_L_law_268 55 rfl
theorem dc_L_law_356 : decode code 356 = .ok (.iadd, 1) := ky_dc db_L_law_268 56 rfl
theorem dc_L_law_357 : decode code 357 = .ok (.iaload, 1) := ky_dc db_L_law_268 57 rfl
theorem dc_L_law_358 : decode code 358 = .ok (.aload_n 0, 1) := ky_dc db_L_law_268 58 rfl
theorem dc_L_law_359 : decode code 359 = .ok (.iload 4, 2) := ky_dc db_L_law_268 59 rfl
def dl_L_law_361 : List (ByteArray × Nat × Jvm.ClassFile.Instr × Nat) := [(code, 361, .iconst 2, 1), (code, 362, .iadd, 1), (code, 363, .iaload, 1), (code, 364, .ifCond .eq 7, 3), (code, 371, .iconst 0, 1), (code, 372, .invokevirtual 190, 3), (code, 375, .istore 6, 2), (code, 377, .goto 1917, 3), (code, 340, .iconst 1, 1), (code, 341, .goto 4, 3), (code, 367, .iconst 1, 1), (code, 368, .goto 4, 3), (code, 380, .aload_n 1, 1), (code, 381, .aload_n 0, 1), (code, 382, .iload 4, 2), (code, 384, .iconst 1, 1), (code, 385, .iadd, 1), (code, 386, .iaload, 1), (code, 387, .aload_n 0, 1), (code, 388, .iload 4, 2), (code, 390, .iconst 2, 1), (code, 391, .iadd, 1), (code, 392, .iaload, 1), (code, 393, .aload_n 3, 1), (code, 394, .invokestatic 191, 3), (code, 397, .istore 5, 2), (code, 399, .aload_n 2, 1), (code, 400, .aload_n 0, 1), (code, 401, .iload 4, 2), (code, 403, .iconst 1, 1), (code, 404, .iadd, 1), (code, 405, .iaload, 1), (code, 406, .aload_n 0, 1), (code, 407, .iload 4, 2), (code, 409, .iconst 2, 1), (code, 410, .iadd, 1), (code, 411, .iaload, 1), (code, 412, .invokevirtual 194, 3), (code, 415, .istore 6, 2), (code, 417, .goto 1877, 3), (code, 420, .aload_n 1, 1), (code, 421, .aload_n 0, 1), (code, 422, .iload 4, 2), (code, 424, .iconst 1, 1), (code, 425, .iadd, 1), (code, 426, .iaload, 1), (code, 427, .aload_n 0, 1), (code, 428, .iload 4, 2), (code, 430, .iconst 2, 1), (code, 431, .iadd, 1), (code, 432, .iaload, 1), (code, 433, .aload_n 0, 1), (code, 434, .iload 4, 2), (code, 436, .iconst 3, 1), (code, 437, .iadd, 1), (code, 438, .iaload, 1), (code, 439, .ifCond .eq 7, 3), (code, 446, .iconst 0, 1), (code, 447, .aload_n 3, 1), (code, 448, .invokestatic 195, 3)]
theorem db_L_law_361 : dl_L_law_361.all (fun x => decide (decode x.1 x.2.1 = .ok x.2.2)) = true := by decide +kernel
theorem dc_L_law_361 : decode code 361 = .ok (.iconst 2, 1) := ky_dc db_L_law_361 0 rfl
theorem dc_L_law_362 : decode code 362 = .ok (.iadd, 1) := ky_dc db_L_law_361 1 rfl
theorem dc_L_law_363 : decode code 363 = .ok (.iaload, 1) := ky_dc db_L_law_361 2 rfl
theorem dc_L_law_364 : decode code 364 = .ok (.ifCond .eq 7, 3) := ky_dc db_L_law_361 3 rfl
theorem dc_L_law_371 : decode code 371 = .ok (.iconst 0, 1) := ky_dc db_L_law_361 4 rfl
theorem dc_L_law_372 : decode code 372 = .ok (.invokevirtual 190, 3) := ky_dc db_L_law_361 5 rfl
theorem dc_L_law_375 : decode code 375 = .ok (.istore 6, 2) := ky_dc db_L_law_361 6 rfl
theorem dc_L_law_377 : decode code 377 = .ok (.goto 1917, 3) := ky_dc db_L_law_361 7 rfl
theorem dc_L_law_340 : decode code 340 = .ok (.iconst 1, 1) := ky_dc db_L_law_361 8 rfl
theorem dc_L_law_341 : decode code 341 = .ok (.goto 4, 3) := ky_dc db_L_law_361 9 rfl
theorem dc_L_law_367 : decode code 367 = .ok (.iconst 1, 1) := ky_dc db_L_law_361 10 rfl
theorem dc_L_law_368 : decode code 368 = .ok (.goto 4, 3) := ky_dc db_L_law_361 11 rfl
theorem dc_L_law_380 : decode code 380 = .ok (.aload_n 1, 1) := ky_dc db_L_law_361 12 rfl
theorem dc_L_law_381 : decode code 381 = .ok (.aload_n 0, 1) := ky_dc db_L_law_361 13 rfl
theorem dc_L_law_382 : decode code 382 = .ok (.iload 4, 2) := ky_dc db_L_law_361 14 rfl
theorem dc_L_law_384 : decode code 384 = .ok (.iconst 1, 1) := ky_dc db_L_law_361 15 rfl
theorem dc_L_law_385 : decode code 385 = .ok (.iadd, 1) := ky_dc db_L_law_361 16 rfl
theorem dc_L_law_386 : decode code 386 = .ok (.iaload, 1) := ky_dc db_L_law_361 17 rfl
theorem dc_L_law_387 : decode code 387 = .ok (.aload_n 0, 1) := ky_dc db_L_law_361 18 rfl
theorem dc_L_law_388 : decode code 388 = .ok (.iload 4, 2) := ky_dc db_L_law_361 19 rfl
theorem dc_L_law_390 : decode code 390 = .ok (.iconst 2, 1) := ky_dc db_L_law_361 20 rfl
theorem dc_L_law_391 : decode code 391 = .ok (.iadd, 1) := ky_dc db_L_law_361 21 rfl
theorem dc_L_law_392 : decode code 392 = .ok (.iaload, 1) := ky_dc db_L_law_361 22 rfl
theorem dc_L_law_393 : decode code 393 = .ok (.aload_n 3, 1) := ky_dc db_L_law_361 23 rfl
theorem dc_L_law_394 : decode code 394 = .ok (.invokestatic 191, 3) := ky_dc db_L_law_361 24 rfl
theorem dc_L_law_397 : decode code 397 = .ok (.istore 5, 2) := ky_dc db_L_law_361 25 rfl
theorem dc_L_law_399 : decode code 399 = .ok (.aload_n 2, 1) := ky_dc db_L_law_361 26 rfl
theorem dc_L_law_400 : decode code 400 = .ok (.aload_n 0, 1) := ky_dc db_L_law_361 27 rfl
theorem dc_L_law_401 : decode code 401 = .ok (.iload 4, 2) := ky_dc db_L_law_361 28 rfl
theorem dc_L_law_403 : decode code 403 = .ok (.iconst 1, 1) := ky_dc db_L_law_361 29 rfl
theorem dc_L_law_404 : decode code 404 = .ok (.iadd, 1) := ky_dc db_L_law_361 30 rfl
theorem dc_L_law_405 : decode code 405 = .ok (.iaload, 1) := ky_dc db_L_law_361 31 rfl
theorem dc_L_law_406 : decode code 406 = .ok (.aload_n 0, 1) := ky_dc db_L_law_361 32 rfl
theorem dc_L_law_407 : decode code 407 = .ok (.iload 4, 2) := ky_dc db_L_law_361 33 rfl
theorem dc_L_law_409 : decode code 409 = .ok (.iconst 2, 1) := ky_dc db_L_law_361 34 rfl
theorem dc_L_law_410 : decode code 410 = .ok (.iadd, 1) := ky_dc db_L_law_361 35 rfl
theorem dc_L_law_411 : decode code 411 = .ok (.iaload, 1) := ky_dc db_L_law_361 36 rfl
theorem dc_L_law_412 : decode code 412 = .ok (.invokevirtual 194, 3) := ky_dc db_L_law_361 37 rfl
theorem dc_L_law_415 : decode code 415 = .ok (.istore 6, 2) := ky_dc db_L_law_361 38 rfl
theorem dc_L_law_417 : decode code 417 = .ok (.goto 1877, 3) := ky_dc db_L_law_361 39 rfl
theorem dc_L_law_420 : decode code 420 = .ok (.aload_n 1, 1) := ky_dc db_L_law_361 40 rfl
theorem dc_L_law_421 : decode code 421 = .ok (.aload_n 0, 1) := ky_dc db_L_law_361 41 rfl
theorem dc_L_law_422 : decode code 422 = .ok (.iload 4, 2) := ky_dc db_L_law_361 42 rfl
theorem dc_L_law_424 : decode code 424 = .ok (.iconst 1, 1) := ky_dc db_L_law_361 43 rfl
theorem dc_L_law_425 : decode code 425 = .ok (.iadd, 1) := ky_dc db_L_law_361 44 rfl
theorem dc_L_law_426 : decode code 426 = .ok (.iaload, 1) := ky_dc db_L_law_361 45 rfl
theorem dc_L_law_427 : decode code 427 = .ok (.aload_n 0, 1) := ky_dc db_L_law_361 46 rfl
theorem dc_L_law_428 : decode code 428 = .ok (.iload 4, 2) := ky_dc db_L_law_361 47 rfl
theorem dc_L_law_430 : decode code 430 = .ok (.iconst 2, 1) := ky_dc db_L_law_361 48 rfl
theorem dc_L_law_431 : decode code 431 = .ok (.iadd, 1) := ky_dc db_L_law_361 49 rfl
theorem dc_L_law_432 : decode code 432 = .ok (.iaload, 1) := ky_dc db_L_law_361 50 rfl
theorem dc_L_law_433 : decode code 433 = .ok (.aload_n 0, 1) := ky_dc db_L_law_361 51 rfl
theorem dc_L_law_434 : decode code 434 = .ok (.iload 4, 2) := ky_dc db_L_law_361 52 rfl
theorem dc_L_law_436 : decode code 436 = .ok (.iconst 3, 1) := ky_dc db_L_law_361 53 rfl
theorem dc_L_law_437 : decode code 437 = .ok (.iadd, 1) := ky_dc db_L_law_361 54 rfl
theorem dc_L_law_438 : decode code 438 = .ok (.iaload, 1) := ky_dc db_L_law_361 55 rfl
theorem dc_L_law_439 : decode code 439 = .ok (.ifCond .eq 7, 3) := ky_dc db_L_law_361 56 rfl
theorem dc_L_law_446 : decode code 446 = .ok (.iconst 0, 1) := ky_dc db_L_law_361 57 rfl
theorem dc_L_law_447 : decode code 447 = .ok (.aload_n 3, 1) := ky_dc db_L_law_361 58 rfl
theorem dc_L_law_448 : decode code 448 = .ok (.invokestatic 195, 3) := ky_dc db_L_law_361 59 rfl
def dl_L_law_451 : List (ByteArray × Nat × Jvm.ClassFile.Instr × Nat) := [(code, 451, .istore 5, 2), (code, 453, .aload_n 2, 1), (code, 454, .aload_n 0, 1), (code, 455, .iload 4, 2), (code, 457, .iconst 1, 1), (code, 458, .iadd, 1), (code, 459, .iaload, 1), (code, 460, .aload_n 0, 1), (code, 461, .iload 4, 2), (code, 463, .iconst 2, 1), (code, 464, .iadd, 1), (code, 465, .iaload, 1), (code, 466, .aload_n 0, 1), (code, 467, .iload 4, 2), (code, 469, .iconst 3, 1), (code, 470, .iadd, 1), (code, 471, .iaload, 1), (code, 472, .ifCond .eq 7, 3), (code, 479, .iconst 0, 1), (code, 480, .invokevirtual 198, 3), (code, 483, .istore 6, 2), (code, 485, .goto 1809, 3), (code, 442, .iconst 1, 1), (code, 443, .goto 4, 3), (code, 475, .iconst 1, 1), (code, 476, .goto 4, 3), (code, 488, .aload_n 1, 1), (code, 489, .aload_n 0, 1), (code, 490, .iload 4, 2), (code, 492, .iconst 1, 1), (code, 493, .iadd, 1), (code, 494, .iaload, 1), (code, 495, .aload_n 0, 1), (code, 496, .iload 4, 2), (code, 498, .iconst 2, 1), (code, 499, .iadd, 1), (code, 500, .iaload, 1), (code, 501, .aload_n 0, 1), (code, 502, .iload 4, 2), (code, 504, .iconst 3, 1), (code, 505, .iadd, 1), (code, 506, .iaload, 1), (code, 507, .aload_n 3, 1), (code, 508, .invokestatic 199, 3), (code, 511, .istore 5, 2), (code, 513, .aload_n 2, 1), (code, 514, .aload_n 0, 1), (code, 515, .iload 4, 2), (code, 517, .iconst 1, 1), (code, 518, .iadd, 1), (code, 519, .iaload, 1), (code, 520, .aload_n 0, 1), (code, 521, .iload 4, 2), (code, 523, .iconst 2, 1), (code, 524, .iadd, 1), (code, 525, .iaload, 1), (code, 526, .aload_n 0, 1), (code, 527, .iload 4, 2), (code, 529, .iconst 3, 1), (code, 530, .iadd, 1)]
theorem db_L_law_451 : dl_L_law_451.all (fun x => decide (decode x.1 x.2.1 = .ok x.2.2)) = true := by decide +kernel
theorem dc_L_law_451 : decode code 451 = .ok (.istore 5, 2) := ky_dc db_L_law_451 0 rfl
theorem dc_L_law_453 : decode code 453 = .ok (.aload_n 2, 1) := ky_dc db_L_law_451 1 rfl
theorem dc_L_law_454 : decode code 454 = .ok (.aload_n 0, 1) := ky_dc db_L_law_451 2 rfl
theorem dc_L_law_455 : decode code 455 = .ok (.iload 4, 2) := ky_dc db_L_law_451 3 rfl
theorem dc_L_law_457 : decode code 457 = .ok (.iconst 1, 1) := ky_dc db_L_law_451 4 rfl
theorem dc_L_law_458 : decode code 458 = .ok (.iadd, 1) := ky_dc db_L_law_451 5 rfl
theorem dc_L_law_459 : decode code 459 = .ok (.iaload, 1) := ky_dc db_L_law_451 6 rfl
theorem dc_L_law_460 : decode code 460 = .ok (.aload_n 0, 1) := ky_dc db_L_law_451 7 rfl
theorem dc_L_law_461 : decode code 461 = .ok (.iload 4, 2) := ky_dc db_L_law_451 8 rfl
theorem dc_L_law_463 : decode code 463 = .ok (.iconst 2, 1) := ky_dc db_L_law_451 9 rfl
theorem dc_L_law_464 : decode code 464 = .ok (.iadd, 1) := ky_dc db_L_law_451 10 rfl
theorem dc_L_law_465 : decode code 465 = .ok (.iaload, 1) := ky_dc db_L_law_451 11 rfl
theorem dc_L_law_466 : decode code 466 = .ok (.aload_n 0, 1) := ky_dc db_L_law_451 12 rfl
theorem dc_L_law_467 : decode code 467 = .ok (.iload 4, 2) := ky_dc db_L_law_451 13 rfl
theorem dc_L_law_469 : decode code 469 = .ok (.iconst 3, 1) := ky_dc db_L_law_451 14 rfl
theorem dc_L_law_470 : decode code 470 = .ok (.iadd, 1) := ky_dc db_L_law_451 15 rfl
theorem dc_L_law_471 : decode code 471 = .ok (.iaload, 1) := ky_dc db_L_law_451 16 rfl
theorem dc_L_law_472 : decode code 472 = .ok (.ifCond .eq 7, 3) := ky_dc db_L_law_451 17 rfl
theorem dc_L_law_479 : decode code 479 = .ok (.iconst 0, 1) := ky_dc db_L_law_451 18 rfl
theorem dc_L_law_480 : decode code 480 = .ok (.invokevirtual 198, 3) := ky_dc db_L_law_451 19 rfl
theorem dc_L_law_483 : decode code 483 = .ok (.istore 6, 2) := ky_dc db_L_law_451 20 rfl
theorem dc_L_law_485 : decode code 485 = .ok (.goto 1809, 3) := ky_dc db_L_law_451 21 rfl
theorem dc_L_law_442 : decode code 442 = .ok (.iconst 1, 1) := ky_dc db_L_law_451 22 rfl
theorem dc_L_law_443 : decode code 443 = .ok (.goto 4, 3) := ky_dc db_L_law_451 23 rfl
theorem dc_L_law_475 : decode code 475 = .ok (.iconst 1, 1) := ky_dc db_L_law_451 24 rfl
theorem dc_L_law_476 : decode code 476 = .ok (.goto 4, 3) := ky_dc db_L_law_451 25 rfl
theorem dc_L_law_488 : decode code 488 = .ok (.aload_n 1, 1) := ky_dc db_L_law_451 26 rfl
theorem dc_L_law_489 : decode code 489 = .ok (.aload_n 0, 1) := ky_dc db_L_law_451 27 rfl
theorem dc_L_law_490 : decode code 490 = .ok (.iload 4, 2) := ky_dc db_L_law_451 28 rfl
theorem dc_L_law_492 : decode code 492 = .ok (.iconst 1, 1) := ky_dc db_L_law_451 29 rfl
theorem dc_L_law_493 : decode code 493 = .ok (.iadd, 1) := ky_dc db_L_law_451 30 rfl
theorem dc_L_law_494 : decode code 494 = .ok (.iaload, 1) := ky_dc db_L_law_451 31 rfl
theorem dc_L_law_495 : decode code 495 = .ok (.aload_n 0, 1) := ky_dc db_L_law_451 32 rfl
theorem dc_L_law_496 : decode code 496 = .ok (.iload 4, 2) := ky_dc db_L_law_451 33 rfl
theorem dc_L_law_498 : decode code 498 = .ok (.iconst 2, 1) := ky_dc db_L_law_451 34 rfl
theorem dc_L_law_499 : decode code 499 = .ok (.iadd, 1) := ky_dc db_L_law_451 35 rfl
theorem dc_L_law_500 : decode code 500 = .ok (.iaload, 1) := ky_dc db_L_law_451 36 rfl
theorem dc_L_law_501 : decode code 501 = .ok (.aload_n 0, 1) := ky_dc db_L_law_451 37 rfl
theorem dc_L_law_502 : decode code 502 = .ok (.iload 4, 2) := ky_dc db_L_law_451 38 rfl
theorem dc_L_law_504 : decode code 504 = .ok (.iconst 3, 1) := ky_dc db_L_law_451 39 rfl
theorem dc_L_law_505 : decode code 505 = .ok (.iadd, 1) := ky_dc db_L_law_451 40 rfl
theorem dc_L_law_506 : decode code 506 = .ok (.iaload, 1) := ky_dc db_L_law_451 41 rfl
theorem dc_L_law_507 : decode code 507 = .ok (.aload_n 3, 1) := ky_dc db_L_law_451 42 rfl
theorem dc_L_law_508 : decode code 508 = .ok (.invokestatic 199, 3) := ky_dc db_L_law_451 43 rfl
theorem dc_L_law_511 : decode code 511 = .ok (.istore 5, 2) := ky_dc db_L_law_451 44 rfl
theorem dc_L_law_513 : decode code 513 = .ok (.aload_n 2, 1) := ky_dc db_L_law_451 45 rfl
theorem dc_L_law_514 : decode code 514 = .ok (.aload_n 0, 1) := ky_dc db_L_law_451 46 rfl
theorem dc_L_law_515 : decode code 515 = .ok (.iload 4, 2) := ky_dc db_L_law_451 47 rfl
theorem dc_L_law_517 : decode code 517 = .ok (.iconst 1, 1) := ky_dc db_L_law_451 48 rfl
theorem dc_L_law_518 : decode code 518 = .ok (.iadd, 1) := ky_dc db_L_law_451 49 rfl
theorem dc_L_law_519 : decode code 519 = .ok (.iaload, 1) := ky_dc db_L_law_451 50 rfl
theorem dc_L_law_520 : decode code 520 = .ok (.aload_n 0, 1) := ky_dc db_L_law_451 51 rfl
theorem dc_L_law_521 : decode code 521 = .ok (.iload 4, 2) := ky_dc db_L_law_451 52 rfl
theorem dc_L_law_523 : decode code 523 = .ok (.iconst 2, 1) := ky_dc db_L_law_451 53 rfl
theorem dc_L_law_524 : decode code 524 = .ok (.iadd, 1) := ky_dc db_L_law_451 54 rfl
theorem dc_L_law_525 : decode code 525 = .ok (.iaload, 1) := ky_dc db_L_law_451 55 rfl
theorem dc_L_law_526 : decode code 526 = .ok (.aload_n 0, 1) := ky_dc db_L_law_451 56 rfl
theorem dc_L_law_527 : decode code 527 = .ok (.iload 4, 2) := ky_dc db_L_law_451 57 rfl
theorem dc_L_law_529 : decode code 529 = .ok (.iconst 3, 1) := ky_dc db_L_law_451 58 rfl
theorem dc_L_law_530 : decode code 530 = .ok (.iadd, 1) := ky_dc db_L_law_451 59 rfl
def dl_L_law_531 : List (ByteArray × Nat × Jvm.ClassFile.Instr × Nat) := [(code, 531, .iaload, 1), (code, 532, .invokevirtual 202, 3), (code, 535, .istore 6, 2), (code, 537, .aload_n 2, 1), (code, 538, .invokevirtual 203, 3), (code, 541, .iload 5, 2), (code, 543, .if_icmp .eq 5, 3), (code, 548, .iload 5, 2), (code, 550, .ifCond .ne 16, 3), (code, 566, .goto 1728, 3), (code, 553, .aload_n 3, 1), (code, 554, .getfield 13, 3), (code, 557, .iload 6, 2), (code, 559, .i2l, 1), (code, 560, .lcmp, 1), (code, 561, .ifCond .eq 5, 3), (code, 569, .aload_n 1, 1), (code, 570, .aload_n 0, 1), (code, 571, .iload 4, 2), (code, 573, .iconst 1, 1), (code, 574, .iadd, 1), (code, 575, .iaload, 1), (code, 576, .aload_n 0, 1), (code, 577, .iload 4, 2), (code, 579, .iconst 2, 1), (code, 580, .iadd, 1), (code, 581, .iaload, 1), (code, 582, .aload_n 0, 1), (code, 583, .iload 4, 2), (code, 585, .iconst 3, 1), (code, 586, .iadd, 1), (code, 587, .iaload, 1), (code, 588, .ifCond .eq 7, 3), (code, 595, .iconst 0, 1), (code, 596, .aload_n 3, 1), (code, 597, .invokestatic 207, 3), (code, 600, .istore 5, 2), (code, 602, .aload_n 2, 1), (code, 603, .aload_n 0, 1), (code, 604, .iload 4, 2), (code, 606, .iconst 1, 1), (code, 607, .iadd, 1), (code, 608, .iaload, 1), (code, 609, .aload_n 0, 1), (code, 610, .iload 4, 2), (code, 612, .iconst 2, 1), (code, 613, .iadd, 1), (code, 614, .iaload, 1), (code, 615, .aload_n 0, 1), (code, 616, .iload 4, 2), (code, 618, .iconst 3, 1), (code, 619, .iadd, 1), (code, 620, .iaload, 1), (code, 621, .ifCond .eq 7, 3), (code, 628, .iconst 0, 1), (code, 629, .invokevirtual 209, 3), (code, 632, .istore 6, 2), (code, 634, .goto 1660, 3), (code, 591, .iconst 1, 1), (code, 592, .goto 4, 3)]
theorem db_L_law_531 : dl_L_law_531.all (fun x => decide (decode x.1 x.2.1 = .ok x.2.2)) = true := by decide +kernel
theorem dc_L_law_531 : decode code 531 = .ok (.iaload, 1) := ky_dc db_L_law_531 0 rfl
theorem dc_L_law_532 : decode code 532 = .ok (.invokevirtual 202, 3) := ky_dc db_L_law_531 1 rfl
theorem dc_L_law_535 : decode code 535 = .ok (.istore 6, 2) := ky_dc db_L_law_531 2 rfl
theorem dc_L_law_537 : decode code 537 = .ok (.aload_n 2, 1) := ky_dc db_L_law_531 3 rfl
theorem dc_L_law_538 : decode code 538 = .ok (.invokevirtual 203, 3) := ky_dc db_L_law_531 4 rfl
theorem dc_L_law_541 : decode code 541 = .ok (.iload 5, 2) := ky_dc db_L_law_531 5 rfl
theorem dc_L_law_543 : decode code 543 = .ok (.if_icmp .eq 5, 3) := ky_dc db_L_law_531 6 rfl
theorem dc_L_law_548 : decode code 548 = .ok (.iload 5, 2) := ky_dc db_L_law_531 7 rfl
theorem dc_L_law_550 : decode code 550 = .ok (.ifCond .ne 16, 3) := ky_dc db_L_law_531 8 rfl
theorem dc_L_law_566 : decode code 566 = .ok (.goto 1728, 3) := ky_dc db_L_law_531 9 rfl
theorem dc_L_law_553 : decode code 553 = .ok (.aload_n 3, 1) := ky_dc db_L_law_531 10 rfl
theorem dc_L_law_554 : decode code 554 = .ok (.getfield 13, 3) := ky_dc db_L_law_531 11 rfl
theorem dc_L_law_557 : decode code 557 = .ok (.iload 6, 2) := ky_dc db_L_law_531 12 rfl
theorem dc_L_law_559 : decode code 559 = .ok (.i2l, 1) := ky_dc db_L_law_531 13 rfl
theorem dc_L_law_560 : decode code 560 = .ok (.lcmp, 1) := ky_dc db_L_law_531 14 rfl
theorem dc_L_law_561 : decode code 561 = .ok (.ifCond .eq 5, 3) := ky_dc db_L_law_531 15 rfl
theorem dc_L_law_569 : decode code 569 = .ok (.aload_n 1, 1) := ky_dc db_L_law_531 16 rfl
theorem dc_L_law_570 : decode code 570 = .ok (.aload_n 0, 1) := ky_dc db_L_law_531 17 rfl
theorem dc_L_law_571 : decode code 571 = .ok (.iload 4, 2) := ky_dc db_L_law_531 18 rfl
theorem dc_L_law_573 : decode code 573 = .ok (.iconst 1, 1) := ky_dc db_L_law_531 19 rfl
theorem dc_L_law_574 : decode code 574 = .ok (.iadd, 1) := ky_dc db_L_law_531 20 rfl
theorem dc_L_law_575 : decode code 575 = .ok (.iaload, 1) := ky_dc db_L_law_531 21 rfl
theorem dc_L_law_576 : decode code 576 = .ok (.aload_n 0, 1) := ky_dc db_L_law_531 22 rfl
theorem dc_L_law_577 : decode code 577 = .ok (.iload 4, 2) := ky_dc db_L_law_531 23 rfl
theorem dc_L_law_579 : decode code 579 = .ok (.iconst 2, 1) := ky_dc db_L_law_531 24 rfl
theorem dc_L_law_580 : decode code 580 = .ok (.iadd, 1) := ky_dc db_L_law_531 25 rfl
theorem dc_L_law_581 : decode code 581 = .ok (.iaload, 1) := ky_dc db_L_law_531 26 rfl
theorem dc_L_law_582 : decode code 582 = .ok (.aload_n 0, 1) := ky_dc db_L_law_531 27 rfl
theorem dc_L_law_583 : decode code 583 = .ok (.iload 4, 2) := ky_dc db_L_law_531 28 rfl
theorem dc_L_law_585 : decode code 585 = .ok (.iconst 3, 1) := ky_dc db_L_law_531 29 rfl
theorem dc_L_law_586 : decode code 586 = .ok (.iadd, 1) := ky_dc db_L_law_531 30 rfl
theorem dc_L_law_587 : decode code 587 = .ok (.iaload, 1) := ky_dc db_L_law_531 31 rfl
theorem dc_L_law_588 : decode code 588 = .ok (.ifCond .eq 7, 3) := ky_dc db_L_law_531 32 rfl
theorem dc_L_law_595 : decode code 595 = .ok (.iconst 0, 1) := ky_dc db_L_law_531 33 rfl
theorem dc_L_law_596 : decode code 596 = .ok (.aload_n 3, 1) := ky_dc db_L_law_531 34 rfl
theorem dc_L_law_597 : decode code 597 = .ok (.invokestatic 207, 3) := ky_dc db_L_law_531 35 rfl
theorem dc_L_law_600 : decode code 600 = .ok (.istore 5, 2) := ky_dc db_L_law_531 36 rfl
theorem dc_L_law_602 : decode code 602 = .ok (.aload_n 2, 1) := ky_dc db_L_law_531 37 rfl
theorem dc_L_law_603 : decode code 603 = .ok (.aload_n 0, 1) := ky_dc db_L_law_531 38 rfl
theorem dc_L_law_604 : decode code 604 = .ok (.iload 4, 2) := ky_dc db_L_law_531 39 rfl
theorem dc_L_law_606 : decode code 606 = .ok (.iconst 1, 1) := ky_dc db_L_law_531 40 rfl
theorem dc_L_law_607 : decode code 607 = .ok (.iadd, 1) := ky_dc db_L_law_531 41 rfl
theorem dc_L_law_608 : decode code 608 = .ok (.iaload, 1) := ky_dc db_L_law_531 42 rfl
theorem dc_L_law_609 : decode code 609 = .ok (.aload_n 0, 1) := ky_dc db_L_law_531 43 rfl
theorem dc_L_law_610 : decode code 610 = .ok (.iload 4, 2) := ky_dc db_L_law_531 44 rfl
theorem dc_L_law_612 : decode code 612 = .ok (.iconst 2, 1) := ky_dc db_L_law_531 45 rfl
theorem dc_L_law_613 : decode code 613 = .ok (.iadd, 1) := ky_dc db_L_law_531 46 rfl
theorem dc_L_law_614 : decode code 614 = .ok (.iaload, 1) := ky_dc db_L_law_531 47 rfl
theorem dc_L_law_615 : decode code 615 = .ok (.aload_n 0, 1) := ky_dc db_L_law_531 48 rfl
theorem dc_L_law_616 : decode code 616 = .ok (.iload 4, 2) := ky_dc db_L_law_531 49 rfl
theorem dc_L_law_618 : decode code 618 = .ok (.iconst 3, 1) := ky_dc db_L_law_531 50 rfl
theorem dc_L_law_619 : decode code 619 = .ok (.iadd, 1) := ky_dc db_L_law_531 51 rfl
theorem dc_L_law_620 : decode code 620 = .ok (.iaload, 1) := ky_dc db_L_law_531 52 rfl
theorem dc_L_law_621 : decode code 621 = .ok (.ifCond .eq 7, 3) := ky_dc db_L_law_531 53 rfl
theorem dc_L_law_628 : decode code 628 = .ok (.iconst 0, 1) := ky_dc db_L_law_531 54 rfl
theorem dc_L_law_629 : decode code 629 = .ok (.invokevirtual 209, 3) := ky_dc db_L_law_531 55 rfl
theorem dc_L_law_632 : decode code 632 = .ok (.istore 6, 2) := ky_dc db_L_law_531 56 rfl
theorem dc_L_law_634 : decode code 634 = .ok (.goto 1660, 3) := ky_dc db_L_law_531 57 rfl
theorem dc_L_law_591 : decode code 591 = .ok (.iconst 1, 1) := ky_dc db_L_law_531 58 rfl
theorem dc_L_law_592 : decode code 592 = .ok (.goto 4, 3) := ky_dc db_L_law_531 59 rfl
def dl_L_law_624 : List (ByteArray × Nat × Jvm.ClassFile.Instr × Nat) := [(code, 624, .iconst 1, 1), (code, 625, .goto 4, 3), (code, 637, .aload_n 1, 1), (code, 638, .aload_n 0, 1), (code, 639, .iload 4, 2), (code, 641, .iconst 1, 1), (code, 642, .iadd, 1), (code, 643, .iaload, 1), (code, 644, .aload_n 0, 1), (code, 645, .iload 4, 2), (code, 647, .iconst 2, 1), (code, 648, .iadd, 1), (code, 649, .iaload, 1), (code, 650, .aload_n 3, 1), (code, 651, .invokestatic 210, 3), (code, 654, .istore 5, 2), (code, 656, .aload_n 2, 1), (code, 657, .aload_n 0, 1), (code, 658, .iload 4, 2), (code, 660, .iconst 1, 1), (code, 661, .iadd, 1), (code, 662, .iaload, 1), (code, 663, .aload_n 0, 1), (code, 664, .iload 4, 2), (code, 666, .iconst 2, 1), (code, 667, .iadd, 1), (code, 668, .iaload, 1), (code, 669, .invokevirtual 212, 3), (code, 672, .istore 6, 2), (code, 674, .goto 1620, 3), (code, 677, .aload_n 1, 1), (code, 678, .aload_n 0, 1), (code, 679, .iload 4, 2), (code, 681, .iconst 1, 1), (code, 682, .iadd, 1), (code, 683, .iaload, 1), (code, 684, .aload_n 0, 1), (code, 685, .iload 4, 2), (code, 687, .iconst 2, 1), (code, 688, .iadd, 1), (code, 689, .iaload, 1), (code, 690, .aload_n 3, 1), (code, 691, .invokestatic 213, 3), (code, 694, .istore 5, 2), (code, 696, .aload_n 2, 1), (code, 697, .aload_n 0, 1), (code, 698, .iload 4, 2), (code, 700, .iconst 1, 1), (code, 701, .iadd, 1), (code, 702, .iaload, 1), (code, 703, .aload_n 0, 1), (code, 704, .iload 4, 2), (code, 706, .iconst 2, 1), (code, 707, .iadd, 1), (code, 708, .iaload, 1), (code, 709, .invokevirtual 215, 3), (code, 712, .istore 6, 2), (code, 714, .goto 1580, 3), (code, 717, .aload_n 1, 1), (code, 718, .aload_n 0, 1)]
theorem db_L_law_624 : dl_L_law_624.all (fun x => decide (decode x.1 x.2.1 = .ok x.2.2)) = true := by decide +kernel
theorem dc_L_law_624 : decode code 624 = .ok (.iconst 1, 1) := ky_dc db_L_law_624 0 rfl
theorem dc_L_law_625 : decode code 625 = .ok (.goto 4, 3) := ky_dc db_L_law_624 1 rfl
theorem dc_L_law_637 : decode code 637 = .ok (.aload_n 1, 1) := ky_dc db_L_law_624 2 rfl
theorem dc_L_law_638 : decode code 638 = .ok (.aload_n 0, 1) := ky_dc db_L_law_624 3 rfl
theorem dc_L_law_639 : decode code 639 = .ok (.iload 4, 2) := ky_dc db_L_law_624 4 rfl
theorem dc_L_law_641 : decode code 641 = .ok (.iconst 1, 1) := ky_dc db_L_law_624 5 rfl
theorem dc_L_law_642 : decode code 642 = .ok (.iadd, 1) := ky_dc db_L_law_624 6 rfl
theorem dc_L_law_643 : decode code 643 = .ok (.iaload, 1) := ky_dc db_L_law_624 7 rfl
theorem dc_L_law_644 : decode code 644 = .ok (.aload_n 0, 1) := ky_dc db_L_law_624 8 rfl
theorem dc_L_law_645 : decode code 645 = .ok (.iload 4, 2) := ky_dc db_L_law_624 9 rfl
theorem dc_L_law_647 : decode code 647 = .ok (.iconst 2, 1) := ky_dc db_L_law_624 10 rfl
theorem dc_L_law_648 : decode code 648 = .ok (.iadd, 1) := ky_dc db_L_law_624 11 rfl
theorem dc_L_law_649 : decode code 649 = .ok (.iaload, 1) := ky_dc db_L_law_624 12 rfl
theorem dc_L_law_650 : decode code 650 = .ok (.aload_n 3, 1) := ky_dc db_L_law_624 13 rfl
theorem dc_L_law_651 : decode code 651 = .ok (.invokestatic 210, 3) := ky_dc db_L_law_624 14 rfl
theorem dc_L_law_654 : decode code 654 = .ok (.istore 5, 2) := ky_dc db_L_law_624 15 rfl
theorem dc_L_law_656 : decode code 656 = .ok (.aload_n 2, 1) := ky_dc db_L_law_624 16 rfl
theorem dc_L_law_657 : decode code 657 = .ok (.aload_n 0, 1) := ky_dc db_L_law_624 17 rfl
theorem dc_L_law_658 : decode code 658 = .ok (.iload 4, 2) := ky_dc db_L_law_624 18 rfl
theorem dc_L_law_660 : decode code 660 = .ok (.iconst 1, 1) := ky_dc db_L_law_624 19 rfl
theorem dc_L_law_661 : decode code 661 = .ok (.iadd, 1) := ky_dc db_L_law_624 20 rfl
theorem dc_L_law_662 : decode code 662 = .ok (.iaload, 1) := ky_dc db_L_law_624 21 rfl
theorem dc_L_law_663 : decode code 663 = .ok (.aload_n 0, 1) := ky_dc db_L_law_624 22 rfl
theorem dc_L_law_664 : decode code 664 = .ok (.iload 4, 2) := ky_dc db_L_law_624 23 rfl
theorem dc_L_law_666 : decode code 666 = .ok (.iconst 2, 1) := ky_dc db_L_law_624 24 rfl
theorem dc_L_law_667 : decode code 667 = .ok (.iadd, 1) := ky_dc db_L_law_624 25 rfl
theorem dc_L_law_668 : decode code 668 = .ok (.iaload, 1) := ky_dc db_L_law_624 26 rfl
theorem dc_L_law_669 : decode code 669 = .ok (.invokevirtual 212, 3) := ky_dc db_L_law_624 27 rfl
theorem dc_L_law_672 : decode code 672 = .ok (.istore 6, 2) := ky_dc db_L_law_624 28 rfl
theorem dc_L_law_674 : decode code 674 = .ok (.goto 1620, 3) := ky_dc db_L_law_624 29 rfl
theorem dc_L_law_677 : decode code 677 = .ok (.aload_n 1, 1) := ky_dc db_L_law_624 30 rfl
theorem dc_L_law_678 : decode code 678 = .ok (.aload_n 0, 1) := ky_dc db_L_law_624 31 rfl
theorem dc_L_law_679 : decode code 679 = .ok (.iload 4, 2) := ky_dc db_L_law_624 32 rfl
theorem dc_L_law_681 : decode code 681 = .ok (.iconst 1, 1) := ky_dc db_L_law_624 33 rfl
theorem dc_L_law_682 : decode code 682 = .ok (.iadd, 1) := ky_dc db_L_law_624 34 rfl
theorem dc_L_law_683 : decode code 683 = .ok (.iaload, 1) := ky_dc db_L_law_624 35 rfl
theorem dc_L_law_684 : decode code 684 = .ok (.aload_n 0, 1) := ky_dc db_L_law_624 36 rfl
theorem dc_L_law_685 : decode code 685 = .ok (.iload 4, 2) := ky_dc db_L_law_624 37 rfl
theorem dc_L_law_687 : decode code 687 = .ok (.iconst 2, 1) := ky_dc db_L_law_624 38 rfl
theorem dc_L_law_688 : decode code 688 = .ok (.iadd, 1) := ky_dc db_L_law_624 39 rfl
theorem dc_L_law_689 : decode code 689 = .ok (.iaload, 1) := ky_dc db_L_law_624 40 rfl
theorem dc_L_law_690 : decode code 690 = .ok (.aload_n 3, 1) := ky_dc db_L_law_624 41 rfl
theorem dc_L_law_691 : decode code 691 = .ok (.invokestatic 213, 3) := ky_dc db_L_law_624 42 rfl
theorem dc_L_law_694 : decode code 694 = .ok (.istore 5, 2) := ky_dc db_L_law_624 43 rfl
theorem dc_L_law_696 : decode code 696 = .ok (.aload_n 2, 1) := ky_dc db_L_law_624 44 rfl
theorem dc_L_law_697 : decode code 697 = .ok (.aload_n 0, 1) := ky_dc db_L_law_624 45 rfl
theorem dc_L_law_698 : decode code 698 = .ok (.iload 4, 2) := ky_dc db_L_law_624 46 rfl
theorem dc_L_law_700 : decode code 700 = .ok (.iconst 1, 1) := ky_dc db_L_law_624 47 rfl
theorem dc_L_law_701 : decode code 701 = .ok (.iadd, 1) := ky_dc db_L_law_624 48 rfl
theorem dc_L_law_702 : decode code 702 = .ok (.iaload, 1) := ky_dc db_L_law_624 49 rfl
theorem dc_L_law_703 : decode code 703 = .ok (.aload_n 0, 1) := ky_dc db_L_law_624 50 rfl
theorem dc_L_law_704 : decode code 704 = .ok (.iload 4, 2) := ky_dc db_L_law_624 51 rfl
theorem dc_L_law_706 : decode code 706 = .ok (.iconst 2, 1) := ky_dc db_L_law_624 52 rfl
theorem dc_L_law_707 : decode code 707 = .ok (.iadd, 1) := ky_dc db_L_law_624 53 rfl
theorem dc_L_law_708 : decode code 708 = .ok (.iaload, 1) := ky_dc db_L_law_624 54 rfl
theorem dc_L_law_709 : decode code 709 = .ok (.invokevirtual 215, 3) := ky_dc db_L_law_624 55 rfl
theorem dc_L_law_712 : decode code 712 = .ok (.istore 6, 2) := ky_dc db_L_law_624 56 rfl
theorem dc_L_law_714 : decode code 714 = .ok (.goto 1580, 3) := ky_dc db_L_law_624 57 rfl
theorem dc_L_law_717 : decode code 717 = .ok (.aload_n 1, 1) := ky_dc db_L_law_624 58 rfl
theorem dc_L_law_718 : decode code 718 = .ok (.aload_n 0, 1) := ky_dc db_L_law_624 59 rfl
def dl_L_law_719 : List (ByteArray × Nat × Jvm.ClassFile.Instr × Nat) := [(code, 719, .iload 4, 2), (code, 721, .iconst 1, 1), (code, 722, .iadd, 1), (code, 723, .iaload, 1), (code, 724, .aload_n 0, 1), (code, 725, .iload 4, 2), (code, 727, .iconst 2, 1), (code, 728, .iadd, 1), (code, 729, .iaload, 1), (code, 730, .aload_n 3, 1), (code, 731, .invokestatic 216, 3), (code, 734, .istore 5, 2), (code, 736, .aload_n 2, 1), (code, 737, .aload_n 0, 1), (code, 738, .iload 4, 2), (code, 740, .iconst 1, 1), (code, 741, .iadd, 1), (code, 742, .iaload, 1), (code, 743, .aload_n 0, 1), (code, 744, .iload 4, 2), (code, 746, .iconst 2, 1), (code, 747, .iadd, 1), (code, 748, .iaload, 1), (code, 749, .invokevirtual 218, 3), (code, 752, .istore 6, 2), (code, 754, .goto 1540, 3), (code, 757, .aload_n 1, 1), (code, 758, .aload_n 0, 1), (code, 759, .iload 4, 2), (code, 761, .iconst 1, 1), (code, 762, .iadd, 1), (code, 763, .iaload, 1), (code, 764, .aload_n 0, 1), (code, 765, .iload 4, 2), (code, 767, .iconst 2, 1), (code, 768, .iadd, 1), (code, 769, .iaload, 1), (code, 770, .aload_n 3, 1), (code, 771, .invokestatic 219, 3), (code, 774, .istore 5, 2), (code, 776, .aload_n 2, 1), (code, 777, .aload_n 0, 1), (code, 778, .iload 4, 2), (code, 780, .iconst 1, 1), (code, 781, .iadd, 1), (code, 782, .iaload, 1), (code, 783, .aload_n 0, 1), (code, 784, .iload 4, 2), (code, 786, .iconst 2, 1), (code, 787, .iadd, 1), (code, 788, .iaload, 1), (code, 789, .invokevirtual 221, 3), (code, 792, .istore 6, 2), (code, 794, .goto 1500, 3), (code, 797, .aload_n 1, 1), (code, 798, .aload_n 0, 1), (code, 799, .iload 4, 2), (code, 801, .iconst 1, 1), (code, 802, .iadd, 1), (code, 803, .iaload, 1)]
theorem db_L_law_719 : dl_L_law_719.all (fun x => decide (decode x.1 x.2.1 = .ok x.2.2)) = true := by decide +kernel
theorem dc_L_law_719 : decode code 719 = .ok (.iload 4, 2) := ky_dc db_L_law_719 0 rfl
theorem dc_L_law_721 : decode code 721 = .ok (.iconst 1, 1) := ky_dc db_L_law_719 1 rfl
theorem dc_L_law_722 : decode code 722 = .ok (.iadd, 1) := ky_dc db_L_law_719 2 rfl
theorem dc_L_law_723 : decode code 723 = .ok (.iaload, 1) := ky_dc db_L_law_719 3 rfl
theorem dc_L_law_724 : decode code 724 = .ok (.aload_n 0, 1) := ky_dc db_L_law_719 4 rfl
theorem dc_L_law_725 : decode code 725 = .ok (.iload 4, 2) := ky_dc db_L_law_719 5 rfl
theorem dc_L_law_727 : decode code 727 = .ok (.iconst 2, 1) := ky_dc db_L_law_719 6 rfl
theorem dc_L_law_728 : decode code 728 = .ok (.iadd, 1) := ky_dc db_L_law_719 7 rfl
theorem dc_L_law_729 : decode code 729 = .ok (.iaload, 1) := ky_dc db_L_law_719 8 rfl
theorem dc_L_law_730 : decode code 730 = .ok (.aload_n 3, 1) := ky_dc db_L_law_719 9 rfl
theorem dc_L_law_731 : decode code 731 = .ok (.invokestatic 216, 3) := ky_dc db_L_law_719 10 rfl
theorem dc_L_law_734 : decode code 734 = .ok (.istore 5, 2) := ky_dc db_L_law_719 11 rfl
theorem dc_L_law_736 : decode code 736 = .ok (.aload_n 2, 1) := ky_dc db_L_law_719 12 rfl
theorem dc_L_law_737 : decode code 737 = .ok (.aload_n 0, 1) := ky_dc db_L_law_719 13 rfl
theorem dc_L_law_738 : decode code 738 = .ok (.iload 4, 2) := ky_dc db_L_law_719 14 rfl
theorem dc_L_law_740 : decode code 740 = .ok (.iconst 1, 1) := ky_dc db_L_law_719 15 rfl
theorem dc_L_law_741 : decode code 741 = .ok (.iadd, 1) := ky_dc db_L_law_719 16 rfl
theorem dc_L_law_742 : decode code 742 = .ok (.iaload, 1) := ky_dc db_L_law_719 17 rfl
theorem dc_L_law_743 : decode code 743 = .ok (.aload_n 0, 1) := ky_dc db_L_law_719 18 rfl
theorem dc_L_law_744 : decode code 744 = .ok (.iload 4, 2) := ky_dc db_L_law_719 19 rfl
theorem dc_L_law_746 : decode code 746 = .ok (.iconst 2, 1) := ky_dc db_L_law_719 20 rfl
theorem dc_L_law_747 : decode code 747 = .ok (.iadd, 1) := ky_dc db_L_law_719 21 rfl
theorem dc_L_law_748 : decode code 748 = .ok (.iaload, 1) := ky_dc db_L_law_719 22 rfl
theorem dc_L_law_749 : decode code 749 = .ok (.invokevirtual 218, 3) := ky_dc db_L_law_719 23 rfl
theorem dc_L_law_752 : decode code 752 = .ok (.istore 6, 2) := ky_dc db_L_law_719 24 rfl
theorem dc_L_law_754 : decode code 754 = .ok (.goto 1540, 3) := ky_dc db_L_law_719 25 rfl
theorem dc_L_law_757 : decode code 757 = .ok (.aload_n 1, 1) := ky_dc db_L_law_719 26 rfl
theorem dc_L_law_758 : decode code 758 = .ok (.aload_n 0, 1) := ky_dc db_L_law_719 27 rfl
theorem dc_L_law_759 : decode code 759 = .ok (.iload 4, 2) := ky_dc db_L_law_719 28 rfl
theorem dc_L_law_761 : decode code 761 = .ok (.iconst 1, 1) := ky_dc db_L_law_719 29 rfl
theorem dc_L_law_762 : decode code 762 = .ok (.iadd, 1) := ky_dc db_L_law_719 30 rfl
theorem dc_L_law_763 : decode code 763 = .ok (.iaload, 1) := ky_dc db_L_law_719 31 rfl
theorem dc_L_law_764 : decode code 764 = .ok (.aload_n 0, 1) := ky_dc db_L_law_719 32 rfl
theorem dc_L_law_765 : decode code 765 = .ok (.iload 4, 2) := ky_dc db_L_law_719 33 rfl
theorem dc_L_law_767 : decode code 767 = .ok (.iconst 2, 1) := ky_dc db_L_law_719 34 rfl
theorem dc_L_law_768 : decode code 768 = .ok (.iadd, 1) := ky_dc db_L_law_719 35 rfl
theorem dc_L_law_769 : decode code 769 = .ok (.iaload, 1) := ky_dc db_L_law_719 36 rfl
theorem dc_L_law_770 : decode code 770 = .ok (.aload_n 3, 1) := ky_dc db_L_law_719 37 rfl
theorem dc_L_law_771 : decode code 771 = .ok (.invokestatic 219, 3) := ky_dc db_L_law_719 38 rfl
theorem dc_L_law_774 : decode code 774 = .ok (.istore 5, 2) := ky_dc db_L_law_719 39 rfl
theorem dc_L_law_776 : decode code 776 = .ok (.aload_n 2, 1) := ky_dc db_L_law_719 40 rfl
theorem dc_L_law_777 : decode code 777 = .ok (.aload_n 0, 1) := ky_dc db_L_law_719 41 rfl
theorem dc_L_law_778 : decode code 778 = .ok (.iload 4, 2) := ky_dc db_L_law_719 42 rfl
theorem dc_L_law_780 : decode code 780 = .ok (.iconst 1, 1) := ky_dc db_L_law_719 43 rfl
theorem dc_L_law_781 : decode code 781 = .ok (.iadd, 1) := ky_dc db_L_law_719 44 rfl
theorem dc_L_law_782 : decode code 782 = .ok (.iaload, 1) := ky_dc db_L_law_719 45 rfl
theorem dc_L_law_783 : decode code 783 = .ok (.aload_n 0, 1) := ky_dc db_L_law_719 46 rfl
theorem dc_L_law_784 : decode code 784 = .ok (.iload 4, 2) := ky_dc db_L_law_719 47 rfl
theorem dc_L_law_786 : decode code 786 = .ok (.iconst 2, 1) := ky_dc db_L_law_719 48 rfl
theorem dc_L_law_787 : decode code 787 = .ok (.iadd, 1) := ky_dc db_L_law_719 49 rfl
theorem dc_L_law_788 : decode code 788 = .ok (.iaload, 1) := ky_dc db_L_law_719 50 rfl
theorem dc_L_law_789 : decode code 789 = .ok (.invokevirtual 221, 3) := ky_dc db_L_law_719 51 rfl
theorem dc_L_law_792 : decode code 792 = .ok (.istore 6, 2) := ky_dc db_L_law_719 52 rfl
theorem dc_L_law_794 : decode code 794 = .ok (.goto 1500, 3) := ky_dc db_L_law_719 53 rfl
theorem dc_L_law_797 : decode code 797 = .ok (.aload_n 1, 1) := ky_dc db_L_law_719 54 rfl
theorem dc_L_law_798 : decode code 798 = .ok (.aload_n 0, 1) := ky_dc db_L_law_719 55 rfl
theorem dc_L_law_799 : decode code 799 = .ok (.iload 4, 2) := ky_dc db_L_law_719 56 rfl
theorem dc_L_law_801 : decode code 801 = .ok (.iconst 1, 1) := ky_dc db_L_law_719 57 rfl
theorem dc_L_law_802 : decode code 802 = .ok (.iadd, 1) := ky_dc db_L_law_719 58 rfl
theorem dc_L_law_803 : decode code 803 = .ok (.iaload, 1) := ky_dc db_L_law_719 59 rfl
def dl_L_law_804 : List (ByteArray × Nat × Jvm.ClassFile.Instr × Nat) := [(code, 804, .aload_n 0, 1), (code, 805, .iload 4, 2), (code, 807, .iconst 2, 1), (code, 808, .iadd, 1), (code, 809, .iaload, 1), (code, 810, .aload_n 3, 1), (code, 811, .invokestatic 222, 3), (code, 814, .istore 5, 2), (code, 816, .aload_n 2, 1), (code, 817, .aload_n 0, 1), (code, 818, .iload 4, 2), (code, 820, .iconst 1, 1), (code, 821, .iadd, 1), (code, 822, .iaload, 1), (code, 823, .aload_n 0, 1), (code, 824, .iload 4, 2), (code, 826, .iconst 2, 1), (code, 827, .iadd, 1), (code, 828, .iaload, 1), (code, 829, .invokevirtual 224, 3), (code, 832, .istore 6, 2), (code, 834, .goto 1460, 3), (code, 837, .aload_n 1, 1), (code, 838, .aload_n 0, 1), (code, 839, .iload 4, 2), (code, 841, .iconst 1, 1), (code, 842, .iadd, 1), (code, 843, .iaload, 1), (code, 844, .aload_n 0, 1), (code, 845, .iload 4, 2), (code, 847, .iconst 2, 1), (code, 848, .iadd, 1), (code, 849, .iaload, 1), (code, 850, .aload_n 3, 1), (code, 851, .invokestatic 225, 3), (code, 854, .istore 5, 2), (code, 856, .aload_n 2, 1), (code, 857, .aload_n 0, 1), (code, 858, .iload 4, 2), (code, 860, .iconst 1, 1), (code, 861, .iadd, 1), (code, 862, .iaload, 1), (code, 863, .aload_n 0, 1), (code, 864, .iload 4, 2), (code, 866, .iconst 2, 1), (code, 867, .iadd, 1), (code, 868, .iaload, 1), (code, 869, .invokevirtual 227, 3), (code, 872, .istore 6, 2), (code, 874, .goto 1420, 3), (code, 877, .aload_n 1, 1), (code, 878, .aload_n 0, 1), (code, 879, .iload 4, 2), (code, 881, .iconst 1, 1), (code, 882, .iadd, 1), (code, 883, .iaload, 1), (code, 884, .aload_n 0, 1), (code, 885, .iload 4, 2), (code, 887, .iconst 2, 1), (code, 888, .iadd, 1)]
theorem db_L_law_804 : dl_L_law_804.all (fun x => decide (decode x.1 x.2.1 = .ok x.2.2)) = true := by decide +kernel
theorem dc_L_law_804 : decode code 804 = .ok (.aload_n 0, 1) := ky_dc db_L_law_804 0 rfl
theorem dc_L_law_805 : decode code 805 = .ok (.iload 4, 2) := ky_dc db_L_law_804 1 rfl
theorem dc_L_law_807 : decode code 807 = .ok (.iconst 2, 1) := ky_dc db_L_law_804 2 rfl
theorem dc_L_law_808 : decode code 808 = .ok (.iadd, 1) := ky_dc db_L_law_804 3 rfl
theorem dc_L_law_809 : decode code 809 = .ok (.iaload, 1) := ky_dc db_L_law_804 4 rfl
theorem dc_L_law_810 : decode code 810 = .ok (.aload_n 3, 1) := ky_dc db_L_law_804 5 rfl
theorem dc_L_law_811 : decode code 811 = .ok (.invokestatic 222, 3) := ky_dc db_L_law_804 6 rfl
theorem dc_L_law_814 : decode code 814 = .ok (.istore 5, 2) := ky_dc db_L_law_804 7 rfl
theorem dc_L_law_816 : decode code 816 = .ok (.aload_n 2, 1) := ky_dc db_L_law_804 8 rfl
theorem dc_L_law_817 : decode code 817 = .ok (.aload_n 0, 1) := ky_dc db_L_law_804 9 rfl
theorem dc_L_law_818 : decode code 818 = .ok (.iload 4, 2) := ky_dc db_L_law_804 10 rfl
theorem dc_L_law_820 : decode code 820 = .ok (.iconst 1, 1) := ky_dc db_L_law_804 11 rfl
theorem dc_L_law_821 : decode code 821 = .ok (.iadd, 1) := ky_dc db_L_law_804 12 rfl
theorem dc_L_law_822 : decode code 822 = .ok (.iaload, 1) := ky_dc db_L_law_804 13 rfl
theorem dc_L_law_823 : decode code 823 = .ok (.aload_n 0, 1) := ky_dc db_L_law_804 14 rfl
theorem dc_L_law_824 : decode code 824 = .ok (.iload 4, 2) := ky_dc db_L_law_804 15 rfl
theorem dc_L_law_826 : decode code 826 = .ok (.iconst 2, 1) := ky_dc db_L_law_804 16 rfl
theorem dc_L_law_827 : decode code 827 = .ok (.iadd, 1) := ky_dc db_L_law_804 17 rfl
theorem dc_L_law_828 : decode code 828 = .ok (.iaload, 1) := ky_dc db_L_law_804 18 rfl
theorem dc_L_law_829 : decode code 829 = .ok (.invokevirtual 224, 3) := ky_dc db_L_law_804 19 rfl
theorem dc_L_law_832 : decode code 832 = .ok (.istore 6, 2) := ky_dc db_L_law_804 20 rfl
theorem dc_L_law_834 : decode code 834 = .ok (.goto 1460, 3) := ky_dc db_L_law_804 21 rfl
theorem dc_L_law_837 : decode code 837 = .ok (.aload_n 1, 1) := ky_dc db_L_law_804 22 rfl
theorem dc_L_law_838 : decode code 838 = .ok (.aload_n 0, 1) := ky_dc db_L_law_804 23 rfl
theorem dc_L_law_839 : decode code 839 = .ok (.iload 4, 2) := ky_dc db_L_law_804 24 rfl
theorem dc_L_law_841 : decode code 841 = .ok (.iconst 1, 1) := ky_dc db_L_law_804 25 rfl
theorem dc_L_law_842 : decode code 842 = .ok (.iadd, 1) := ky_dc db_L_law_804 26 rfl
theorem dc_L_law_843 : decode code 843 = .ok (.iaload, 1) := ky_dc db_L_law_804 27 rfl
theorem dc_L_law_844 : decode code 844 = .ok (.aload_n 0, 1) := ky_dc db_L_law_804 28 rfl
theorem dc_L_law_845 : decode code 845 = .ok (.iload 4, 2) := ky_dc db_L_law_804 29 rfl
theorem dc_L_law_847 : decode code 847 = .ok (.iconst 2, 1) := ky_dc db_L_law_804 30 rfl
theorem dc_L_law_848 : decode code 848 = .ok (.iadd, 1) := ky_dc db_L_law_804 31 rfl
theorem dc_L_law_849 : decode code 849 = .ok (.iaload, 1) := ky_dc db_L_law_804 32 rfl
theorem dc_L_law_850 : decode code 850 = .ok (.aload_n 3, 1) := ky_dc db_L_law_804 33 rfl
theorem dc_L_law_851 : decode code 851 = .ok (.invokestatic 225, 3) := ky_dc db_L_law_804 34 rfl
theorem dc_L_law_854 : decode code 854 = .ok (.istore 5, 2) := ky_dc db_L_law_804 35 rfl
theorem dc_L_law_856 : decode code 856 = .ok (.aload_n 2, 1) := ky_dc db_L_law_804 36 rfl
theorem dc_L_law_857 : decode code 857 = .ok (.aload_n 0, 1) := ky_dc db_L_law_804 37 rfl
theorem dc_L_law_858 : decode code 858 = .ok (.iload 4, 2) := ky_dc db_L_law_804 38 rfl
theorem dc_L_law_860 : decode code 860 = .ok (.iconst 1, 1) := ky_dc db_L_law_804 39 rfl
theorem dc_L_law_861 : decode code 861 = .ok (.iadd, 1) := ky_dc db_L_law_804 40 rfl
theorem dc_L_law_862 : decode code 862 = .ok (.iaload, 1) := ky_dc db_L_law_804 41 rfl
theorem dc_L_law_863 : decode code 863 = .ok (.aload_n 0, 1) := ky_dc db_L_law_804 42 rfl
theorem dc_L_law_864 : decode code 864 = .ok (.iload 4, 2) := ky_dc db_L_law_804 43 rfl
theorem dc_L_law_866 : decode code 866 = .ok (.iconst 2, 1) := ky_dc db_L_law_804 44 rfl
theorem dc_L_law_867 : decode code 867 = .ok (.iadd, 1) := ky_dc db_L_law_804 45 rfl
theorem dc_L_law_868 : decode code 868 = .ok (.iaload, 1) := ky_dc db_L_law_804 46 rfl
theorem dc_L_law_869 : decode code 869 = .ok (.invokevirtual 227, 3) := ky_dc db_L_law_804 47 rfl
theorem dc_L_law_872 : decode code 872 = .ok (.istore 6, 2) := ky_dc db_L_law_804 48 rfl
theorem dc_L_law_874 : decode code 874 = .ok (.goto 1420, 3) := ky_dc db_L_law_804 49 rfl
theorem dc_L_law_877 : decode code 877 = .ok (.aload_n 1, 1) := ky_dc db_L_law_804 50 rfl
theorem dc_L_law_878 : decode code 878 = .ok (.aload_n 0, 1) := ky_dc db_L_law_804 51 rfl
theorem dc_L_law_879 : decode code 879 = .ok (.iload 4, 2) := ky_dc db_L_law_804 52 rfl
theorem dc_L_law_881 : decode code 881 = .ok (.iconst 1, 1) := ky_dc db_L_law_804 53 rfl
theorem dc_L_law_882 : decode code 882 = .ok (.iadd, 1) := ky_dc db_L_law_804 54 rfl
theorem dc_L_law_883 : decode code 883 = .ok (.iaload, 1) := ky_dc db_L_law_804 55 rfl
theorem dc_L_law_884 : decode code 884 = .ok (.aload_n 0, 1) := ky_dc db_L_law_804 56 rfl
theorem dc_L_law_885 : decode code 885 = .ok (.iload 4, 2) := ky_dc db_L_law_804 57 rfl
theorem dc_L_law_887 : decode code 887 = .ok (.iconst 2, 1) := ky_dc db_L_law_804 58 rfl
theorem dc_L_law_888 : decode code 888 = .ok (.iadd, 1) := ky_dc db_L_law_804 59 rfl
def dl_L_law_889 : List (ByteArray × Nat × Jvm.ClassFile.Instr × Nat) := [(code, 889, .iaload, 1), (code, 890, .aload_n 3, 1), (code, 891, .invokestatic 228, 3), (code, 894, .istore 5, 2), (code, 896, .aload_n 2, 1), (code, 897, .aload_n 0, 1), (code, 898, .iload 4, 2), (code, 900, .iconst 1, 1), (code, 901, .iadd, 1), (code, 902, .iaload, 1), (code, 903, .aload_n 0, 1), (code, 904, .iload 4, 2), (code, 906, .iconst 2, 1), (code, 907, .iadd, 1), (code, 908, .iaload, 1), (code, 909, .invokevirtual 230, 3), (code, 912, .istore 6, 2), (code, 914, .goto 1380, 3), (code, 917, .aload_n 1, 1), (code, 918, .aload_n 0, 1), (code, 919, .iload 4, 2), (code, 921, .iconst 1, 1), (code, 922, .iadd, 1), (code, 923, .iaload, 1), (code, 924, .aload_n 0, 1), (code, 925, .iload 4, 2), (code, 927, .iconst 2, 1), (code, 928, .iadd, 1), (code, 929, .iaload, 1), (code, 930, .aload_n 3, 1), (code, 931, .invokestatic 231, 3), (code, 934, .istore 5, 2), (code, 936, .aload_n 2, 1), (code, 937, .aload_n 0, 1), (code, 938, .iload 4, 2), (code, 940, .iconst 1, 1), (code, 941, .iadd, 1), (code, 942, .iaload, 1), (code, 943, .aload_n 0, 1), (code, 944, .iload 4, 2), (code, 946, .iconst 2, 1), (code, 947, .iadd, 1), (code, 948, .iaload, 1), (code, 949, .invokevirtual 233, 3), (code, 952, .istore 6, 2), (code, 954, .goto 1340, 3), (code, 957, .aload_n 1, 1), (code, 958, .aload_n 0, 1), (code, 959, .iload 4, 2), (code, 961, .iconst 1, 1), (code, 962, .iadd, 1), (code, 963, .iaload, 1), (code, 964, .aload_n 0, 1), (code, 965, .iload 4, 2), (code, 967, .iconst 2, 1), (code, 968, .iadd, 1), (code, 969, .iaload, 1), (code, 970, .aload_n 3, 1), (code, 971, .invokestatic 234, 3), (code, 974, .istore 5, 2)]
theorem db_L_law_889 : dl_L_law_889.all (fun x => decide (decode x.1 x.2.1 = .ok x.2.2)) = true := by decide +kernel
theorem dc_L_law_889 : decode code 889 = .ok (.iaload, 1) := ky_dc db_L_law_889 0 rfl
theorem dc_L_law_890 : decode code 890 = .ok (.aload_n 3, 1) := ky_dc db_L_law_889 1 rfl
theorem dc_L_law_891 : decode code 891 = .ok (.invokestatic 228, 3) := ky_dc db_L_law_889 2 rfl
theorem dc_L_law_894 : decode code 894 = .ok (.istore 5, 2) := ky_dc db_L_law_889 3 rfl
theorem dc_L_law_896 : decode code 896 = .ok (.aload_n 2, 1) := ky_dc db_L_law_889 4 rfl
theorem dc_L_law_897 : decode code 897 = .ok (.aload_n 0, 1) := ky_dc db_L_law_889 5 rfl
theorem dc_L_law_898 : decode code 898 = .ok (.iload 4, 2) := ky_dc db_L_law_889 6 rfl
theorem dc_L_law_900 : decode code 900 = .ok (.iconst 1, 1) := ky_dc db_L_law_889 7 rfl
theorem dc_L_law_901 : decode code 901 = .ok (.iadd, 1) := ky_dc db_L_law_889 8 rfl
theorem dc_L_law_902 : decode code 902 = .ok (.iaload, 1) := ky_dc db_L_law_889 9 rfl
theorem dc_L_law_903 : decode code 903 = .ok (.aload_n 0, 1) := ky_dc db_L_law_889 10 rfl
theorem dc_L_law_904 : decode code 904 = .ok (.iload 4, 2) := ky_dc db_L_law_889 11 rfl
theorem dc_L_law_906 : decode code 906 = .ok (.iconst 2, 1) := ky_dc db_L_law_889 12 rfl
theorem dc_L_law_907 : decode code 907 = .ok (.iadd, 1) := ky_dc db_L_law_889 13 rfl
theorem dc_L_law_908 : decode code 908 = .ok (.iaload, 1) := ky_dc db_L_law_889 14 rfl
theorem dc_L_law_909 : decode code 909 = .ok (.invokevirtual 230, 3) := ky_dc db_L_law_889 15 rfl
theorem dc_L_law_912 : decode code 912 = .ok (.istore 6, 2) := ky_dc db_L_law_889 16 rfl
theorem dc_L_law_914 : decode code 914 = .ok (.goto 1380, 3) := ky_dc db_L_law_889 17 rfl
theorem dc_L_law_917 : decode code 917 = .ok (.aload_n 1, 1) := ky_dc db_L_law_889 18 rfl
theorem dc_L_law_918 : decode code 918 = .ok (.aload_n 0, 1) := ky_dc db_L_law_889 19 rfl
theorem dc_L_law_919 : decode code 919 = .ok (.iload 4, 2) := ky_dc db_L_law_889 20 rfl
theorem dc_L_law_921 : decode code 921 = .ok (.iconst 1, 1) := ky_dc db_L_law_889 21 rfl
theorem dc_L_law_922 : decode code 922 = .ok (.iadd, 1) := ky_dc db_L_law_889 22 rfl
theorem dc_L_law_923 : decode code 923 = .ok (.iaload, 1) := ky_dc db_L_law_889 23 rfl
theorem dc_L_law_924 : decode code 924 = .ok (.aload_n 0, 1) := ky_dc db_L_law_889 24 rfl
theorem dc_L_law_925 : decode code 925 = .ok (.iload 4, 2) := ky_dc db_L_law_889 25 rfl
theorem dc_L_law_927 : decode code 927 = .ok (.iconst 2, 1) := ky_dc db_L_law_889 26 rfl
theorem dc_L_law_928 : decode code 928 = .ok (.iadd, 1) := ky_dc db_L_law_889 27 rfl
theorem dc_L_law_929 : decode code 929 = .ok (.iaload, 1) := ky_dc db_L_law_889 28 rfl
theorem dc_L_law_930 : decode code 930 = .ok (.aload_n 3, 1) := ky_dc db_L_law_889 29 rfl
theorem dc_L_law_931 : decode code 931 = .ok (.invokestatic 231, 3) := ky_dc db_L_law_889 30 rfl
theorem dc_L_law_934 : decode code 934 = .ok (.istore 5, 2) := ky_dc db_L_law_889 31 rfl
theorem dc_L_law_936 : decode code 936 = .ok (.aload_n 2, 1) := ky_dc db_L_law_889 32 rfl
theorem dc_L_law_937 : decode code 937 = .ok (.aload_n 0, 1) := ky_dc db_L_law_889 33 rfl
theorem dc_L_law_938 : decode code 938 = .ok (.iload 4, 2) := ky_dc db_L_law_889 34 rfl
theorem dc_L_law_940 : decode code 940 = .ok (.iconst 1, 1) := ky_dc db_L_law_889 35 rfl
theorem dc_L_law_941 : decode code 941 = .ok (.iadd, 1) := ky_dc db_L_law_889 36 rfl
theorem dc_L_law_942 : decode code 942 = .ok (.iaload, 1) := ky_dc db_L_law_889 37 rfl
theorem dc_L_law_943 : decode code 943 = .ok (.aload_n 0, 1) := ky_dc db_L_law_889 38 rfl
theorem dc_L_law_944 : decode code 944 = .ok (.iload 4, 2) := ky_dc db_L_law_889 39 rfl
theorem dc_L_law_946 : decode code 946 = .ok (.iconst 2, 1) := ky_dc db_L_law_889 40 rfl
theorem dc_L_law_947 : decode code 947 = .ok (.iadd, 1) := ky_dc db_L_law_889 41 rfl
theorem dc_L_law_948 : decode code 948 = .ok (.iaload, 1) := ky_dc db_L_law_889 42 rfl
theorem dc_L_law_949 : decode code 949 = .ok (.invokevirtual 233, 3) := ky_dc db_L_law_889 43 rfl
theorem dc_L_law_952 : decode code 952 = .ok (.istore 6, 2) := ky_dc db_L_law_889 44 rfl
theorem dc_L_law_954 : decode code 954 = .ok (.goto 1340, 3) := ky_dc db_L_law_889 45 rfl
theorem dc_L_law_957 : decode code 957 = .ok (.aload_n 1, 1) := ky_dc db_L_law_889 46 rfl
theorem dc_L_law_958 : decode code 958 = .ok (.aload_n 0, 1) := ky_dc db_L_law_889 47 rfl
theorem dc_L_law_959 : decode code 959 = .ok (.iload 4, 2) := ky_dc db_L_law_889 48 rfl
theorem dc_L_law_961 : decode code 961 = .ok (.iconst 1, 1) := ky_dc db_L_law_889 49 rfl
theorem dc_L_law_962 : decode code 962 = .ok (.iadd, 1) := ky_dc db_L_law_889 50 rfl
theorem dc_L_law_963 : decode code 963 = .ok (.iaload, 1) := ky_dc db_L_law_889 51 rfl
theorem dc_L_law_964 : decode code 964 = .ok (.aload_n 0, 1) := ky_dc db_L_law_889 52 rfl
theorem dc_L_law_965 : decode code 965 = .ok (.iload 4, 2) := ky_dc db_L_law_889 53 rfl
theorem dc_L_law_967 : decode code 967 = .ok (.iconst 2, 1) := ky_dc db_L_law_889 54 rfl
theorem dc_L_law_968 : decode code 968 = .ok (.iadd, 1) := ky_dc db_L_law_889 55 rfl
theorem dc_L_law_969 : decode code 969 = .ok (.iaload, 1) := ky_dc db_L_law_889 56 rfl
theorem dc_L_law_970 : decode code 970 = .ok (.aload_n 3, 1) := ky_dc db_L_law_889 57 rfl
theorem dc_L_law_971 : decode code 971 = .ok (.invokestatic 234, 3) := ky_dc db_L_law_889 58 rfl
theorem dc_L_law_974 : decode code 974 = .ok (.istore 5, 2) := ky_dc db_L_law_889 59 rfl
def dl_L_law_976 : List (ByteArray × Nat × Jvm.ClassFile.Instr × Nat) := [(code, 976, .aload_n 2, 1), (code, 977, .aload_n 0, 1), (code, 978, .iload 4, 2), (code, 980, .iconst 1, 1), (code, 981, .iadd, 1), (code, 982, .iaload, 1), (code, 983, .aload_n 0, 1), (code, 984, .iload 4, 2), (code, 986, .iconst 2, 1), (code, 987, .iadd, 1), (code, 988, .iaload, 1), (code, 989, .invokevirtual 236, 3), (code, 992, .istore 6, 2), (code, 994, .goto 1300, 3), (code, 997, .aload_n 1, 1), (code, 998, .aload_n 0, 1), (code, 999, .iload 4, 2), (code, 1001, .iconst 1, 1), (code, 1002, .iadd, 1), (code, 1003, .iaload, 1), (code, 1004, .aload_n 0, 1), (code, 1005, .iload 4, 2), (code, 1007, .iconst 2, 1), (code, 1008, .iadd, 1), (code, 1009, .iaload, 1), (code, 1010, .aload_n 3, 1), (code, 1011, .invokestatic 237, 3), (code, 1014, .istore 5, 2), (code, 1016, .aload_n 2, 1), (code, 1017, .aload_n 0, 1), (code, 1018, .iload 4, 2), (code, 1020, .iconst 1, 1), (code, 1021, .iadd, 1), (code, 1022, .iaload, 1), (code, 1023, .aload_n 0, 1), (code, 1024, .iload 4, 2), (code, 1026, .iconst 2, 1), (code, 1027, .iadd, 1), (code, 1028, .iaload, 1), (code, 1029, .invokevirtual 239, 3), (code, 1032, .istore 6, 2), (code, 1034, .goto 1260, 3), (code, 1037, .aload_n 1, 1), (code, 1038, .aload_n 0, 1), (code, 1039, .iload 4, 2), (code, 1041, .iconst 1, 1), (code, 1042, .iadd, 1), (code, 1043, .iaload, 1), (code, 1044, .aload_n 0, 1), (code, 1045, .iload 4, 2), (code, 1047, .iconst 2, 1), (code, 1048, .iadd, 1), (code, 1049, .iaload, 1), (code, 1050, .aload_n 3, 1), (code, 1051, .invokestatic 240, 3), (code, 1054, .istore 5, 2), (code, 1056, .aload_n 2, 1), (code, 1057, .aload_n 0, 1), (code, 1058, .iload 4, 2), (code, 1060, .iconst 1, 1)]
theorem db_L_law_976 : dl_L_law_976.all (fun x => decide (decode x.1 x.2.1 = .ok x.2.2)) = true := by decide +kernel
theorem dc_L_law_976 : decode code 976 = .ok (.aload_n 2, 1) := ky_dc db_L_law_976 0 rfl
theorem dc_L_law_977 : decode code 977 = .ok (.aload_n 0, 1) := ky_dc db_L_law_976 1 rfl
theorem dc_L_law_978 : decode code 978 = .ok (.iload 4, 2) := ky_dc db_L_law_976 2 rfl
theorem dc_L_law_980 : decode code 980 = .ok (.iconst 1, 1) := ky_dc db_L_law_976 3 rfl
theorem dc_L_law_981 : decode code 981 = .ok (.iadd, 1) := ky_dc db_L_law_976 4 rfl
theorem dc_L_law_982 : decode code 982 = .ok (.iaload, 1) := ky_dc db_L_law_976 5 rfl
theorem dc_L_law_983 : decode code 983 = .ok (.aload_n 0, 1) := ky_dc db_L_law_976 6 rfl
theorem dc_L_law_984 : decode code 984 = .ok (.iload 4, 2) := ky_dc db_L_law_976 7 rfl
theorem dc_L_law_986 : decode code 986 = .ok (.iconst 2, 1) := ky_dc db_L_law_976 8 rfl
theorem dc_L_law_987 : decode code 987 = .ok (.iadd, 1) := ky_dc db_L_law_976 9 rfl
theorem dc_L_law_988 : decode code 988 = .ok (.iaload, 1) := ky_dc db_L_law_976 10 rfl
theorem dc_L_law_989 : decode code 989 = .ok (.invokevirtual 236, 3) := ky_dc db_L_law_976 11 rfl
theorem dc_L_law_992 : decode code 992 = .ok (.istore 6, 2) := ky_dc db_L_law_976 12 rfl
theorem dc_L_law_994 : decode code 994 = .ok (.goto 1300, 3) := ky_dc db_L_law_976 13 rfl
theorem dc_L_law_997 : decode code 997 = .ok (.aload_n 1, 1) := ky_dc db_L_law_976 14 rfl
theorem dc_L_law_998 : decode code 998 = .ok (.aload_n 0, 1) := ky_dc db_L_law_976 15 rfl
theorem dc_L_law_999 : decode code 999 = .ok (.iload 4, 2) := ky_dc db_L_law_976 16 rfl
theorem dc_L_law_1001 : decode code 1001 = .ok (.iconst 1, 1) := ky_dc db_L_law_976 17 rfl
theorem dc_L_law_1002 : decode code 1002 = .ok (.iadd, 1) := ky_dc db_L_law_976 18 rfl
theorem dc_L_law_1003 : decode code 1003 = .ok (.iaload, 1) := ky_dc db_L_law_976 19 rfl
theorem dc_L_law_1004 : decode code 1004 = .ok (.aload_n 0, 1) := ky_dc db_L_law_976 20 rfl
theorem dc_L_law_1005 : decode code 1005 = .ok (.iload 4, 2) := ky_dc db_L_law_976 21 rfl
theorem dc_L_law_1007 : decode code 1007 = .ok (.iconst 2, 1) := ky_dc db_L_law_976 22 rfl
theorem dc_L_law_1008 : decode code 1008 = .ok (.iadd, 1) := ky_dc db_L_law_976 23 rfl
theorem dc_L_law_1009 : decode code 1009 = .ok (.iaload, 1) := ky_dc db_L_law_976 24 rfl
theorem dc_L_law_1010 : decode code 1010 = .ok (.aload_n 3, 1) := ky_dc db_L_law_976 25 rfl
theorem dc_L_law_1011 : decode code 1011 = .ok (.invokestatic 237, 3) := ky_dc db_L_law_976 26 rfl
theorem dc_L_law_1014 : decode code 1014 = .ok (.istore 5, 2) := ky_dc db_L_law_976 27 rfl
theorem dc_L_law_1016 : decode code 1016 = .ok (.aload_n 2, 1) := ky_dc db_L_law_976 28 rfl
theorem dc_L_law_1017 : decode code 1017 = .ok (.aload_n 0, 1) := ky_dc db_L_law_976 29 rfl
theorem dc_L_law_1018 : decode code 1018 = .ok (.iload 4, 2) := ky_dc db_L_law_976 30 rfl
theorem dc_L_law_1020 : decode code 1020 = .ok (.iconst 1, 1) := ky_dc db_L_law_976 31 rfl
theorem dc_L_law_1021 : decode code 1021 = .ok (.iadd, 1) := ky_dc db_L_law_976 32 rfl
theorem dc_L_law_1022 : decode code 1022 = .ok (.iaload, 1) := ky_dc db_L_law_976 33 rfl
theorem dc_L_law_1023 : decode code 1023 = .ok (.aload_n 0, 1) := ky_dc db_L_law_976 34 rfl
theorem dc_L_law_1024 : decode code 1024 = .ok (.iload 4, 2) := ky_dc db_L_law_976 35 rfl
theorem dc_L_law_1026 : decode code 1026 = .ok (.iconst 2, 1) := ky_dc db_L_law_976 36 rfl
theorem dc_L_law_1027 : decode code 1027 = .ok (.iadd, 1) := ky_dc db_L_law_976 37 rfl
theorem dc_L_law_1028 : decode code 1028 = .ok (.iaload, 1) := ky_dc db_L_law_976 38 rfl
theorem dc_L_law_1029 : decode code 1029 = .ok (.invokevirtual 239, 3) := ky_dc db_L_law_976 39 rfl
theorem dc_L_law_1032 : decode code 1032 = .ok (.istore 6, 2) := ky_dc db_L_law_976 40 rfl
theorem dc_L_law_1034 : decode code 1034 = .ok (.goto 1260, 3) := ky_dc db_L_law_976 41 rfl
theorem dc_L_law_1037 : decode code 1037 = .ok (.aload_n 1, 1) := ky_dc db_L_law_976 42 rfl
theorem dc_L_law_1038 : decode code 1038 = .ok (.aload_n 0, 1) := ky_dc db_L_law_976 43 rfl
theorem dc_L_law_1039 : decode code 1039 = .ok (.iload 4, 2) := ky_dc db_L_law_976 44 rfl
theorem dc_L_law_1041 : decode code 1041 = .ok (.iconst 1, 1) := ky_dc db_L_law_976 45 rfl
theorem dc_L_law_1042 : decode code 1042 = .ok (.iadd, 1) := ky_dc db_L_law_976 46 rfl
theorem dc_L_law_1043 : decode code 1043 = .ok (.iaload, 1) := ky_dc db_L_law_976 47 rfl
theorem dc_L_law_1044 : decode code 1044 = .ok (.aload_n 0, 1) := ky_dc db_L_law_976 48 rfl
theorem dc_L_law_1045 : decode code 1045 = .ok (.iload 4, 2) := ky_dc db_L_law_976 49 rfl
theorem dc_L_law_1047 : decode code 1047 = .ok (.iconst 2, 1) := ky_dc db_L_law_976 50 rfl
theorem dc_L_law_1048 : decode code 1048 = .ok (.iadd, 1) := ky_dc db_L_law_976 51 rfl
theorem dc_L_law_1049 : decode code 1049 = .ok (.iaload, 1) := ky_dc db_L_law_976 52 rfl
theorem dc_L_law_1050 : decode code 1050 = .ok (.aload_n 3, 1) := ky_dc db_L_law_976 53 rfl
theorem dc_L_law_1051 : decode code 1051 = .ok (.invokestatic 240, 3) := ky_dc db_L_law_976 54 rfl
theorem dc_L_law_1054 : decode code 1054 = .ok (.istore 5, 2) := ky_dc db_L_law_976 55 rfl
theorem dc_L_law_1056 : decode code 1056 = .ok (.aload_n 2, 1) := ky_dc db_L_law_976 56 rfl
theorem dc_L_law_1057 : decode code 1057 = .ok (.aload_n 0, 1) := ky_dc db_L_law_976 57 rfl
theorem dc_L_law_1058 : decode code 1058 = .ok (.iload 4, 2) := ky_dc db_L_law_976 58 rfl
theorem dc_L_law_1060 : decode code 1060 = .ok (.iconst 1, 1) := ky_dc db_L_law_976 59 rfl
def dl_L_law_1061 : List (ByteArray × Nat × Jvm.ClassFile.Instr × Nat) := [(code, 1061, .iadd, 1), (code, 1062, .iaload, 1), (code, 1063, .aload_n 0, 1), (code, 1064, .iload 4, 2), (code, 1066, .iconst 2, 1), (code, 1067, .iadd, 1), (code, 1068, .iaload, 1), (code, 1069, .invokevirtual 242, 3), (code, 1072, .istore 6, 2), (code, 1074, .goto 1220, 3), (code, 1077, .aload_n 1, 1), (code, 1078, .aload_n 0, 1), (code, 1079, .iload 4, 2), (code, 1081, .iconst 1, 1), (code, 1082, .iadd, 1), (code, 1083, .iaload, 1), (code, 1084, .aload_n 0, 1), (code, 1085, .iload 4, 2), (code, 1087, .iconst 2, 1), (code, 1088, .iadd, 1), (code, 1089, .iaload, 1), (code, 1090, .aload_n 3, 1), (code, 1091, .invokestatic 243, 3), (code, 1094, .istore 5, 2), (code, 1096, .aload_n 2, 1), (code, 1097, .aload_n 0, 1), (code, 1098, .iload 4, 2), (code, 1100, .iconst 1, 1), (code, 1101, .iadd, 1), (code, 1102, .iaload, 1), (code, 1103, .aload_n 0, 1), (code, 1104, .iload 4, 2), (code, 1106, .iconst 2, 1), (code, 1107, .iadd, 1), (code, 1108, .iaload, 1), (code, 1109, .invokevirtual 245, 3), (code, 1112, .istore 6, 2), (code, 1114, .goto 1180, 3), (code, 1117, .aload_n 1, 1), (code, 1118, .aload_n 0, 1), (code, 1119, .iload 4, 2), (code, 1121, .iconst 1, 1), (code, 1122, .iadd, 1), (code, 1123, .iaload, 1), (code, 1124, .aload_n 0, 1), (code, 1125, .iload 4, 2), (code, 1127, .iconst 2, 1), (code, 1128, .iadd, 1), (code, 1129, .iaload, 1), (code, 1130, .aload_n 0, 1), (code, 1131, .iload 4, 2), (code, 1133, .iconst 3, 1), (code, 1134, .iadd, 1), (code, 1135, .iaload, 1), (code, 1136, .aload_n 3, 1), (code, 1137, .invokestatic 246, 3), (code, 1140, .istore 5, 2), (code, 1142, .aload_n 2, 1), (code, 1143, .aload_n 0, 1), (code, 1144, .iload 4, 2)]
theorem db_L_law_1061 : dl_L_law_1061.all (fun x => decide (decode x.1 x.2.1 = .ok x.2.2)) = true := by decide +kernel
theorem dc_L_law_1061 : decode code 1061 = .ok (.iadd, 1) := ky_dc db_L_law_1061 0 rfl
theorem dc_L_law_1062 : decode code 1062 = .ok (.iaload, 1) := ky_dc db_L_law_1061 1 rfl
theorem dc_L_law_1063 : decode code 1063 = .ok (.aload_n 0, 1) := ky_dc db_L_law_1061 2 rfl
theorem dc_L_law_1064 : decode code 1064 = .ok (.iload 4, 2) := ky_dc db_L_law_1061 3 rfl
theorem dc_L_law_1066 : decode code 1066 = .ok (.iconst 2, 1) := ky_dc db_L_law_1061 4 rfl
theorem dc_L_law_1067 : decode code 1067 = .ok (.iadd, 1) := ky_dc db_L_law_1061 5 rfl
theorem dc_L_law_1068 : decode code 1068 = .ok (.iaload, 1) := ky_dc db_L_law_1061 6 rfl
theorem dc_L_law_1069 : decode code 1069 = .ok (.invokevirtual 242, 3) := ky_dc db_L_law_1061 7 rfl
theorem dc_L_law_1072 : decode code 1072 = .ok (.istore 6, 2) := ky_dc db_L_law_1061 8 rfl
theorem dc_L_law_1074 : decode code 1074 = .ok (.goto 1220, 3) := ky_dc db_L_law_1061 9 rfl
theorem dc_L_law_1077 : decode code 1077 = .ok (.aload_n 1, 1) := ky_dc db_L_law_1061 10 rfl
theorem dc_L_law_1078 : decode code 1078 = .ok (.aload_n 0, 1) := ky_dc db_L_law_1061 11 rfl
theorem dc_L_law_1079 : decode code 1079 = .ok (.iload 4, 2) := ky_dc db_L_law_1061 12 rfl
theorem dc_L_law_1081 : decode code 1081 = .ok (.iconst 1, 1) := ky_dc db_L_law_1061 13 rfl
theorem dc_L_law_1082 : decode code 1082 = .ok (.iadd, 1) := ky_dc db_L_law_1061 14 rfl
theorem dc_L_law_1083 : decode code 1083 = .ok (.iaload, 1) := ky_dc db_L_law_1061 15 rfl
theorem dc_L_law_1084 : decode code 1084 = .ok (.aload_n 0, 1) := ky_dc db_L_law_1061 16 rfl
theorem dc_L_law_1085 : decode code 1085 = .ok (.iload 4, 2) := ky_dc db_L_law_1061 17 rfl
theorem dc_L_law_1087 : decode code 1087 = .ok (.iconst 2, 1) := ky_dc db_L_law_1061 18 rfl
theorem dc_L_law_1088 : decode code 1088 = .ok (.iadd, 1) := ky_dc db_L_law_1061 19 rfl
theorem dc_L_law_1089 : decode code 1089 = .ok (.iaload, 1) := ky_dc db_L_law_1061 20 rfl
theorem dc_L_law_1090 : decode code 1090 = .ok (.aload_n 3, 1) := ky_dc db_L_law_1061 21 rfl
theorem dc_L_law_1091 : decode code 1091 = .ok (.invokestatic 243, 3) := ky_dc db_L_law_1061 22 rfl
theorem dc_L_law_1094 : decode code 1094 = .ok (.istore 5, 2) := ky_dc db_L_law_1061 23 rfl
theorem dc_L_law_1096 : decode code 1096 = .ok (.aload_n 2, 1) := ky_dc db_L_law_1061 24 rfl
theorem dc_L_law_1097 : decode code 1097 = .ok (.aload_n 0, 1) := ky_dc db_L_law_1061 25 rfl
theorem dc_L_law_1098 : decode code 1098 = .ok (.iload 4, 2) := ky_dc db_L_law_1061 26 rfl
theorem dc_L_law_1100 : decode code 1100 = .ok (.iconst 1, 1) := ky_dc db_L_law_1061 27 rfl
theorem dc_L_law_1101 : decode code 1101 = .ok (.iadd, 1) := ky_dc db_L_law_1061 28 rfl
theorem dc_L_law_1102 : decode code 1102 = .ok (.iaload, 1) := ky_dc db_L_law_1061 29 rfl
theorem dc_L_law_1103 : decode code 1103 = .ok (.aload_n 0, 1) := ky_dc db_L_law_1061 30 rfl
theorem dc_L_law_1104 : decode code 1104 = .ok (.iload 4, 2) := ky_dc db_L_law_1061 31 rfl
theorem dc_L_law_1106 : decode code 1106 = .ok (.iconst 2, 1) := ky_dc db_L_law_1061 32 rfl
theorem dc_L_law_1107 : decode code 1107 = .ok (.iadd, 1) := ky_dc db_L_law_1061 33 rfl
theorem dc_L_law_1108 : decode code 1108 = .ok (.iaload, 1) := ky_dc db_L_law_1061 34 rfl
theorem dc_L_law_1109 : decode code 1109 = .ok (.invokevirtual 245, 3) := ky_dc db_L_law_1061 35 rfl
theorem dc_L_law_1112 : decode code 1112 = .ok (.istore 6, 2) := ky_dc db_L_law_1061 36 rfl
theorem dc_L_law_1114 : decode code 1114 = .ok (.goto 1180, 3) := ky_dc db_L_law_1061 37 rfl
theorem dc_L_law_1117 : decode code 1117 = .ok (.aload_n 1, 1) := ky_dc db_L_law_1061 38 rfl
theorem dc_L_law_1118 : decode code 1118 = .ok (.aload_n 0, 1) := ky_dc db_L_law_1061 39 rfl
theorem dc_L_law_1119 : decode code 1119 = .ok (.iload 4, 2) := ky_dc db_L_law_1061 40 rfl
theorem dc_L_law_1121 : decode code 1121 = .ok (.iconst 1, 1) := ky_dc db_L_law_1061 41 rfl
theorem dc_L_law_1122 : decode code 1122 = .ok (.iadd, 1) := ky_dc db_L_law_1061 42 rfl
theorem dc_L_law_1123 : decode code 1123 = .ok (.iaload, 1) := ky_dc db_L_law_1061 43 rfl
theorem dc_L_law_1124 : decode code 1124 = .ok (.aload_n 0, 1) := ky_dc db_L_law_1061 44 rfl
theorem dc_L_law_1125 : decode code 1125 = .ok (.iload 4, 2) := ky_dc db_L_law_1061 45 rfl
theorem dc_L_law_1127 : decode code 1127 = .ok (.iconst 2, 1) := ky_dc db_L_law_1061 46 rfl
theorem dc_L_law_1128 : decode code 1128 = .ok (.iadd, 1) := ky_dc db_L_law_1061 47 rfl
theorem dc_L_law_1129 : decode code 1129 = .ok (.iaload, 1) := ky_dc db_L_law_1061 48 rfl
theorem dc_L_law_1130 : decode code 1130 = .ok (.aload_n 0, 1) := ky_dc db_L_law_1061 49 rfl
theorem dc_L_law_1131 : decode code 1131 = .ok (.iload 4, 2) := ky_dc db_L_law_1061 50 rfl
theorem dc_L_law_1133 : decode code 1133 = .ok (.iconst 3, 1) := ky_dc db_L_law_1061 51 rfl
theorem dc_L_law_1134 : decode code 1134 = .ok (.iadd, 1) := ky_dc db_L_law_1061 52 rfl
theorem dc_L_law_1135 : decode code 1135 = .ok (.iaload, 1) := ky_dc db_L_law_1061 53 rfl
theorem dc_L_law_1136 : decode code 1136 = .ok (.aload_n 3, 1) := ky_dc db_L_law_1061 54 rfl
theorem dc_L_law_1137 : decode code 1137 = .ok (.invokestatic 246, 3) := ky_dc db_L_law_1061 55 rfl
theorem dc_L_law_1140 : decode code 1140 = .ok (.istore 5, 2) := ky_dc db_L_law_1061 56 rfl
theorem dc_L_law_1142 : decode code 1142 = .ok (.aload_n 2, 1) := ky_dc db_L_law_1061 57 rfl
theorem dc_L_law_1143 : decode code 1143 = .ok (.aload_n 0, 1) := ky_dc db_L_law_1061 58 rfl
theorem dc_L_law_1144 : decode code 1144 = .ok (.iload 4, 2) := ky_dc db_L_law_1061 59 rfl
def dl_L_law_1146 : List (ByteArray × Nat × Jvm.ClassFile.Instr × Nat) := [(code, 1146, .iconst 1, 1), (code, 1147, .iadd, 1), (code, 1148, .iaload, 1), (code, 1149, .aload_n 0, 1), (code, 1150, .iload 4, 2), (code, 1152, .iconst 2, 1), (code, 1153, .iadd, 1), (code, 1154, .iaload, 1), (code, 1155, .aload_n 0, 1), (code, 1156, .iload 4, 2), (code, 1158, .iconst 3, 1), (code, 1159, .iadd, 1), (code, 1160, .iaload, 1), (code, 1161, .invokevirtual 248, 3), (code, 1164, .istore 6, 2), (code, 1166, .goto 1128, 3), (code, 1169, .aload_n 1, 1), (code, 1170, .aload_n 0, 1), (code, 1171, .iload 4, 2), (code, 1173, .iconst 1, 1), (code, 1174, .iadd, 1), (code, 1175, .iaload, 1), (code, 1176, .aload_n 0, 1), (code, 1177, .iload 4, 2), (code, 1179, .iconst 2, 1), (code, 1180, .iadd, 1), (code, 1181, .iaload, 1), (code, 1182, .aload_n 0, 1), (code, 1183, .iload 4, 2), (code, 1185, .iconst 3, 1), (code, 1186, .iadd, 1), (code, 1187, .iaload, 1), (code, 1188, .aload_n 3, 1), (code, 1189, .invokestatic 249, 3), (code, 1192, .istore 5, 2), (code, 1194, .aload_n 2, 1), (code, 1195, .aload_n 0, 1), (code, 1196, .iload 4, 2), (code, 1198, .iconst 1, 1), (code, 1199, .iadd, 1), (code, 1200, .iaload, 1), (code, 1201, .aload_n 0, 1), (code, 1202, .iload 4, 2), (code, 1204, .iconst 2, 1), (code, 1205, .iadd, 1), (code, 1206, .iaload, 1), (code, 1207, .aload_n 0, 1), (code, 1208, .iload 4, 2), (code, 1210, .iconst 3, 1), (code, 1211, .iadd, 1), (code, 1212, .iaload, 1), (code, 1213, .invokevirtual 251, 3), (code, 1216, .istore 6, 2), (code, 1218, .goto 1076, 3), (code, 1221, .aload_n 1, 1), (code, 1222, .aload_n 0, 1), (code, 1223, .iload 4, 2), (code, 1225, .iconst 1, 1), (code, 1226, .iadd, 1), (code, 1227, .iaload, 1)]
theorem db_L_law_1146 : dl_L_law_1146.all (fun x => decide (decode x.1 x.2.1 = .ok x.2.2)) = true := by decide +kernel
theorem dc_L_law_1146 : decode code 1146 = .ok (.iconst 1, 1) := ky_dc db_L_law_1146 0 rfl
theorem dc_L_law_1147 : decode code 1147 = .ok (.iadd, 1) := ky_dc db_L_law_1146 1 rfl
theorem dc_L_law_1148 : decode code 1148 = .ok (.iaload, 1) := ky_dc db_L_law_1146 2 rfl
theorem dc_L_law_1149 : decode code 1149 = .ok (.aload_n 0, 1) := ky_dc db_L_law_1146 3 rfl
theorem dc_L_law_1150 : decode code 1150 = .ok (.iload 4, 2) := ky_dc db_L_law_1146 4 rfl
theorem dc_L_law_1152 : decode code 1152 = .ok (.iconst 2, 1) := ky_dc db_L_law_1146 5 rfl
theorem dc_L_law_1153 : decode code 1153 = .ok (.iadd, 1) := ky_dc db_L_law_1146 6 rfl
theorem dc_L_law_1154 : decode code 1154 = .ok (.iaload, 1) := ky_dc db_L_law_1146 7 rfl
theorem dc_L_law_1155 : decode code 1155 = .ok (.aload_n 0, 1) := ky_dc db_L_law_1146 8 rfl
theorem dc_L_law_1156 : decode code 1156 = .ok (.iload 4, 2) := ky_dc db_L_law_1146 9 rfl
theorem dc_L_law_1158 : decode code 1158 = .ok (.iconst 3, 1) := ky_dc db_L_law_1146 10 rfl
theorem dc_L_law_1159 : decode code 1159 = .ok (.iadd, 1) := ky_dc db_L_law_1146 11 rfl
theorem dc_L_law_1160 : decode code 1160 = .ok (.iaload, 1) := ky_dc db_L_law_1146 12 rfl
theorem dc_L_law_1161 : decode code 1161 = .ok (.invokevirtual 248, 3) := ky_dc db_L_law_1146 13 rfl
theorem dc_L_law_1164 : decode code 1164 = .ok (.istore 6, 2) := ky_dc db_L_law_1146 14 rfl
theorem dc_L_law_1166 : decode code 1166 = .ok (.goto 1128, 3) := ky_dc db_L_law_1146 15 rfl
theorem dc_L_law_1169 : decode code 1169 = .ok (.aload_n 1, 1) := ky_dc db_L_law_1146 16 rfl
theorem dc_L_law_1170 : decode code 1170 = .ok (.aload_n 0, 1) := ky_dc db_L_law_1146 17 rfl
theorem dc_L_law_1171 : decode code 1171 = .ok (.iload 4, 2) := ky_dc db_L_law_1146 18 rfl
theorem dc_L_law_1173 : decode code 1173 = .ok (.iconst 1, 1) := ky_dc db_L_law_1146 19 rfl
theorem dc_L_law_1174 : decode code 1174 = .ok (.iadd, 1) := ky_dc db_L_law_1146 20 rfl
theorem dc_L_law_1175 : decode code 1175 = .ok (.iaload, 1) := ky_dc db_L_law_1146 21 rfl
theorem dc_L_law_1176 : decode code 1176 = .ok (.aload_n 0, 1) := ky_dc db_L_law_1146 22 rfl
theorem dc_L_law_1177 : decode code 1177 = .ok (.iload 4, 2) := ky_dc db_L_law_1146 23 rfl
theorem dc_L_law_1179 : decode code 1179 = .ok (.iconst 2, 1) := ky_dc db_L_law_1146 24 rfl
theorem dc_L_law_1180 : decode code 1180 = .ok (.iadd, 1) := ky_dc db_L_law_1146 25 rfl
theorem dc_L_law_1181 : decode code 1181 = .ok (.iaload, 1) := ky_dc db_L_law_1146 26 rfl
theorem dc_L_law_1182 : decode code 1182 = .ok (.aload_n 0, 1) := ky_dc db_L_law_1146 27 rfl
theorem dc_L_law_1183 : decode code 1183 = .ok (.iload 4, 2) := ky_dc db_L_law_1146 28 rfl
theorem dc_L_law_1185 : decode code 1185 = .ok (.iconst 3, 1) := ky_dc db_L_law_1146 29 rfl
theorem dc_L_law_1186 : decode code 1186 = .ok (.iadd, 1) := ky_dc db_L_law_1146 30 rfl
theorem dc_L_law_1187 : decode code 1187 = .ok (.iaload, 1) := ky_dc db_L_law_1146 31 rfl
theorem dc_L_law_1188 : decode code 1188 = .ok (.aload_n 3, 1) := ky_dc db_L_law_1146 32 rfl
theorem dc_L_law_1189 : decode code 1189 = .ok (.invokestatic 249, 3) := ky_dc db_L_law_1146 33 rfl
theorem dc_L_law_1192 : decode code 1192 = .ok (.istore 5, 2) := ky_dc db_L_law_1146 34 rfl
theorem dc_L_law_1194 : decode code 1194 = .ok (.aload_n 2, 1) := ky_dc db_L_law_1146 35 rfl
theorem dc_L_law_1195 : decode code 1195 = .ok (.aload_n 0, 1) := ky_dc db_L_law_1146 36 rfl
theorem dc_L_law_1196 : decode code 1196 = .ok (.iload 4, 2) := ky_dc db_L_law_1146 37 rfl
theorem dc_L_law_1198 : decode code 1198 = .ok (.iconst 1, 1) := ky_dc db_L_law_1146 38 rfl
theorem dc_L_law_1199 : decode code 1199 = .ok (.iadd, 1) := ky_dc db_L_law_1146 39 rfl
theorem dc_L_law_1200 : decode code 1200 = .ok (.iaload, 1) := ky_dc db_L_law_1146 40 rfl
theorem dc_L_law_1201 : decode code 1201 = .ok (.aload_n 0, 1) := ky_dc db_L_law_1146 41 rfl
theorem dc_L_law_1202 : decode code 1202 = .ok (.iload 4, 2) := ky_dc db_L_law_1146 42 rfl
theorem dc_L_law_1204 : decode code 1204 = .ok (.iconst 2, 1) := ky_dc db_L_law_1146 43 rfl
theorem dc_L_law_1205 : decode code 1205 = .ok (.iadd, 1) := ky_dc db_L_law_1146 44 rfl
theorem dc_L_law_1206 : decode code 1206 = .ok (.iaload, 1) := ky_dc db_L_law_1146 45 rfl
theorem dc_L_law_1207 : decode code 1207 = .ok (.aload_n 0, 1) := ky_dc db_L_law_1146 46 rfl
theorem dc_L_law_1208 : decode code 1208 = .ok (.iload 4, 2) := ky_dc db_L_law_1146 47 rfl
theorem dc_L_law_1210 : decode code 1210 = .ok (.iconst 3, 1) := ky_dc db_L_law_1146 48 rfl
theorem dc_L_law_1211 : decode code 1211 = .ok (.iadd, 1) := ky_dc db_L_law_1146 49 rfl
theorem dc_L_law_1212 : decode code 1212 = .ok (.iaload, 1) := ky_dc db_L_law_1146 50 rfl
theorem dc_L_law_1213 : decode code 1213 = .ok (.invokevirtual 251, 3) := ky_dc db_L_law_1146 51 rfl
theorem dc_L_law_1216 : decode code 1216 = .ok (.istore 6, 2) := ky_dc db_L_law_1146 52 rfl
theorem dc_L_law_1218 : decode code 1218 = .ok (.goto 1076, 3) := ky_dc db_L_law_1146 53 rfl
theorem dc_L_law_1221 : decode code 1221 = .ok (.aload_n 1, 1) := ky_dc db_L_law_1146 54 rfl
theorem dc_L_law_1222 : decode code 1222 = .ok (.aload_n 0, 1) := ky_dc db_L_law_1146 55 rfl
theorem dc_L_law_1223 : decode code 1223 = .ok (.iload 4, 2) := ky_dc db_L_law_1146 56 rfl
theorem dc_L_law_1225 : decode code 1225 = .ok (.iconst 1, 1) := ky_dc db_L_law_1146 57 rfl
theorem dc_L_law_1226 : decode code 1226 = .ok (.iadd, 1) := ky_dc db_L_law_1146 58 rfl
theorem dc_L_law_1227 : decode code 1227 = .ok (.iaload, 1) := ky_dc db_L_law_1146 59 rfl
def dl_L_law_1228 : List (ByteArray × Nat × Jvm.ClassFile.Instr × Nat) := [(code, 1228, .aload_n 0, 1), (code, 1229, .iload 4, 2), (code, 1231, .iconst 2, 1), (code, 1232, .iadd, 1), (code, 1233, .iaload, 1), (code, 1234, .aload_n 0, 1), (code, 1235, .iload 4, 2), (code, 1237, .iconst 3, 1), (code, 1238, .iadd, 1), (code, 1239, .iaload, 1), (code, 1240, .aload_n 3, 1), (code, 1241, .invokestatic 252, 3), (code, 1244, .istore 5, 2), (code, 1246, .aload_n 2, 1), (code, 1247, .aload_n 0, 1), (code, 1248, .iload 4, 2), (code, 1250, .iconst 1, 1), (code, 1251, .iadd, 1), (code, 1252, .iaload, 1), (code, 1253, .aload_n 0, 1), (code, 1254, .iload 4, 2), (code, 1256, .iconst 2, 1), (code, 1257, .iadd, 1), (code, 1258, .iaload, 1), (code, 1259, .aload_n 0, 1), (code, 1260, .iload 4, 2), (code, 1262, .iconst 3, 1), (code, 1263, .iadd, 1), (code, 1264, .iaload, 1), (code, 1265, .invokevirtual 254, 3), (code, 1268, .istore 6, 2), (code, 1270, .goto 1024, 3), (code, 1273, .aload_n 1, 1), (code, 1274, .aload_n 0, 1), (code, 1275, .iload 4, 2), (code, 1277, .iconst 1, 1), (code, 1278, .iadd, 1), (code, 1279, .iaload, 1), (code, 1280, .aload_n 0, 1), (code, 1281, .iload 4, 2), (code, 1283, .iconst 2, 1), (code, 1284, .iadd, 1), (code, 1285, .iaload, 1), (code, 1286, .aload_n 0, 1), (code, 1287, .iload 4, 2), (code, 1289, .iconst 3, 1), (code, 1290, .iadd, 1), (code, 1291, .iaload, 1), (code, 1292, .aload_n 3, 1), (code, 1293, .invokestatic 255, 3), (code, 1296, .istore 5, 2), (code, 1298, .aload_n 2, 1), (code, 1299, .aload_n 0, 1), (code, 1300, .iload 4, 2), (code, 1302, .iconst 1, 1), (code, 1303, .iadd, 1), (code, 1304, .iaload, 1), (code, 1305, .aload_n 0, 1), (code, 1306, .iload 4, 2), (code, 1308, .iconst 2, 1)]
theorem db_L_law_1228 : dl_L_law_1228.all (fun x => decide (decode x.1 x.2.1 = .ok x.2.2)) = true := by decide +kernel
theorem dc_L_law_1228 : decode code 1228 = .ok (.aload_n 0, 1) := ky_dc db_L_law_1228 0 rfl
theorem dc_L_law_1229 : decode code 1229 = .ok (.iload 4, 2) := ky_dc db_L_law_1228 1 rfl
theorem dc_L_law_1231 : decode code 1231 = .ok (.iconst 2, 1) := ky_dc db_L_law_1228 2 rfl
theorem dc_L_law_1232 : decode code 1232 = .ok (.iadd, 1) := ky_dc db_L_law_1228 3 rfl
theorem dc_L_law_1233 : decode code 1233 = .ok (.iaload, 1) := ky_dc db_L_law_1228 4 rfl
theorem dc_L_law_1234 : decode code 1234 = .ok (.aload_n 0, 1) := ky_dc db_L_law_1228 5 rfl
theorem dc_L_law_1235 : decode code 1235 = .ok (.iload 4, 2) := ky_dc db_L_law_1228 6 rfl
theorem dc_L_law_1237 : decode code 1237 = .ok (.iconst 3, 1) := ky_dc db_L_law_1228 7 rfl
theorem dc_L_law_1238 : decode code 1238 = .ok (.iadd, 1) := ky_dc db_L_law_1228 8 rfl
theorem dc_L_law_1239 : decode code 1239 = .ok (.iaload, 1) := ky_dc db_L_law_1228 9 rfl
theorem dc_L_law_1240 : decode code 1240 = .ok (.aload_n 3, 1) := ky_dc db_L_law_1228 10 rfl
theorem dc_L_law_1241 : decode code 1241 = .ok (.invokestatic 252, 3) := ky_dc db_L_law_1228 11 rfl
theorem dc_L_law_1244 : decode code 1244 = .ok (.istore 5, 2) := ky_dc db_L_law_1228 12 rfl
theorem dc_L_law_1246 : decode code 1246 = .ok (.aload_n 2, 1) := ky_dc db_L_law_1228 13 rfl
theorem dc_L_law_1247 : decode code 1247 = .ok (.aload_n 0, 1) := ky_dc db_L_law_1228 14 rfl
theorem dc_L_law_1248 : decode code 1248 = .ok (.iload 4, 2) := ky_dc db_L_law_1228 15 rfl
theorem dc_L_law_1250 : decode code 1250 = .ok (.iconst 1, 1) := ky_dc db_L_law_1228 16 rfl
theorem dc_L_law_1251 : decode code 1251 = .ok (.iadd, 1) := ky_dc db_L_law_1228 17 rfl
theorem dc_L_law_1252 : decode code 1252 = .ok (.iaload, 1) := ky_dc db_L_law_1228 18 rfl
theorem dc_L_law_1253 : decode code 1253 = .ok (.aload_n 0, 1) := ky_dc db_L_law_1228 19 rfl
theorem dc_L_law_1254 : decode code 1254 = .ok (.iload 4, 2) := ky_dc db_L_law_1228 20 rfl
theorem dc_L_law_1256 : decode code 1256 = .ok (.iconst 2, 1) := ky_dc db_L_law_1228 21 rfl
theorem dc_L_law_1257 : decode code 1257 = .ok (.iadd, 1) := ky_dc db_L_law_1228 22 rfl
theorem dc_L_law_1258 : decode code 1258 = .ok (.iaload, 1) := ky_dc db_L_law_1228 23 rfl
theorem dc_L_law_1259 : decode code 1259 = .ok (.aload_n 0, 1) := ky_dc db_L_law_1228 24 rfl
theorem dc_L_law_1260 : decode code 1260 = .ok (.iload 4, 2) := ky_dc db_L_law_1228 25 rfl
theorem dc_L_law_1262 : decode code 1262 = .ok (.iconst 3, 1) := ky_dc db_L_law_1228 26 rfl
theorem dc_L_law_1263 : decode code 1263 = .ok (.iadd, 1) := ky_dc db_L_law_1228 27 rfl
theorem dc_L_law_1264 : decode code 1264 = .ok (.iaload, 1) := ky_dc db_L_law_1228 28 rfl
theorem dc_L_law_1265 : decode code 1265 = .ok (.invokevirtual 254, 3) := ky_dc db_L_law_1228 29 rfl
theorem dc_L_law_1268 : decode code 1268 = .ok (.istore 6, 2) := ky_dc db_L_law_1228 30 rfl
theorem dc_L_law_1270 : decode code 1270 = .ok (.goto 1024, 3) := ky_dc db_L_law_1228 31 rfl
theorem dc_L_law_1273 : decode code 1273 = .ok (.aload_n 1, 1) := ky_dc db_L_law_1228 32 rfl
theorem dc_L_law_1274 : decode code 1274 = .ok (.aload_n 0, 1) := ky_dc db_L_law_1228 33 rfl
theorem dc_L_law_1275 : decode code 1275 = .ok (.iload 4, 2) := ky_dc db_L_law_1228 34 rfl
theorem dc_L_law_1277 : decode code 1277 = .ok (.iconst 1, 1) := ky_dc db_L_law_1228 35 rfl
theorem dc_L_law_1278 : decode code 1278 = .ok (.iadd, 1) := ky_dc db_L_law_1228 36 rfl
theorem dc_L_law_1279 : decode code 1279 = .ok (.iaload, 1) := ky_dc db_L_law_1228 37 rfl
theorem dc_L_law_1280 : decode code 1280 = .ok (.aload_n 0, 1) := ky_dc db_L_law_1228 38 rfl
theorem dc_L_law_1281 : decode code 1281 = .ok (.iload 4, 2) := ky_dc db_L_law_1228 39 rfl
theorem dc_L_law_1283 : decode code 1283 = .ok (.iconst 2, 1) := ky_dc db_L_law_1228 40 rfl
theorem dc_L_law_1284 : decode code 1284 = .ok (.iadd, 1) := ky_dc db_L_law_1228 41 rfl
theorem dc_L_law_1285 : decode code 1285 = .ok (.iaload, 1) := ky_dc db_L_law_1228 42 rfl
theorem dc_L_law_1286 : decode code 1286 = .ok (.aload_n 0, 1) := ky_dc db_L_law_1228 43 rfl
theorem dc_L_law_1287 : decode code 1287 = .ok (.iload 4, 2) := ky_dc db_L_law_1228 44 rfl
theorem dc_L_law_1289 : decode code 1289 = .ok (.iconst 3, 1) := ky_dc db_L_law_1228 45 rfl
theorem dc_L_law_1290 : decode code 1290 = .ok (.iadd, 1) := ky_dc db_L_law_1228 46 rfl
theorem dc_L_law_1291 : decode code 1291 = .ok (.iaload, 1) := ky_dc db_L_law_1228 47 rfl
theorem dc_L_law_1292 : decode code 1292 = .ok (.aload_n 3, 1) := ky_dc db_L_law_1228 48 rfl
theorem dc_L_law_1293 : decode code 1293 = .ok (.invokestatic 255, 3) := ky_dc db_L_law_1228 49 rfl
theorem dc_L_law_1296 : decode code 1296 = .ok (.istore 5, 2) := ky_dc db_L_law_1228 50 rfl
theorem dc_L_law_1298 : decode code 1298 = .ok (.aload_n 2, 1) := ky_dc db_L_law_1228 51 rfl
theorem dc_L_law_1299 : decode code 1299 = .ok (.aload_n 0, 1) := ky_dc db_L_law_1228 52 rfl
theorem dc_L_law_1300 : decode code 1300 = .ok (.iload 4, 2) := ky_dc db_L_law_1228 53 rfl
theorem dc_L_law_1302 : decode code 1302 = .ok (.iconst 1, 1) := ky_dc db_L_law_1228 54 rfl
theorem dc_L_law_1303 : decode code 1303 = .ok (.iadd, 1) := ky_dc db_L_law_1228 55 rfl
theorem dc_L_law_1304 : decode code 1304 = .ok (.iaload, 1) := ky_dc db_L_law_1228 56 rfl
theorem dc_L_law_1305 : decode code 1305 = .ok (.aload_n 0, 1) := ky_dc db_L_law_1228 57 rfl
theorem dc_L_law_1306 : decode code 1306 = .ok (.iload 4, 2) := ky_dc db_L_law_1228 58 rfl
theorem dc_L_law_1308 : decode code 1308 = .ok (.iconst 2, 1) := ky_dc db_L_law_1228 59 rfl
def dl_L_law_1309 : List (ByteArray × Nat × Jvm.ClassFile.Instr × Nat) := [(code, 1309, .iadd, 1), (code, 1310, .iaload, 1), (code, 1311, .aload_n 0, 1), (code, 1312, .iload 4, 2), (code, 1314, .iconst 3, 1), (code, 1315, .iadd, 1), (code, 1316, .iaload, 1), (code, 1317, .invokevirtual 257, 3), (code, 1320, .istore 6, 2), (code, 1322, .goto 972, 3), (code, 1325, .aload_n 1, 1), (code, 1326, .aload_n 0, 1), (code, 1327, .iload 4, 2), (code, 1329, .iconst 1, 1), (code, 1330, .iadd, 1), (code, 1331, .iaload, 1), (code, 1332, .aload_n 0, 1), (code, 1333, .iload 4, 2), (code, 1335, .iconst 2, 1), (code, 1336, .iadd, 1), (code, 1337, .iaload, 1), (code, 1338, .aload_n 3, 1), (code, 1339, .invokestatic 258, 3), (code, 1342, .istore 5, 2), (code, 1344, .aload_n 2, 1), (code, 1345, .aload_n 0, 1), (code, 1346, .iload 4, 2), (code, 1348, .iconst 1, 1), (code, 1349, .iadd, 1), (code, 1350, .iaload, 1), (code, 1351, .aload_n 0, 1), (code, 1352, .iload 4, 2), (code, 1354, .iconst 2, 1), (code, 1355, .iadd, 1), (code, 1356, .iaload, 1), (code, 1357, .invokevirtual 260, 3), (code, 1360, .istore 6, 2), (code, 1362, .goto 932, 3), (code, 1365, .aload_n 1, 1), (code, 1366, .aload_n 0, 1), (code, 1367, .iload 4, 2), (code, 1369, .iconst 1, 1), (code, 1370, .iadd, 1), (code, 1371, .iaload, 1), (code, 1372, .aload_n 3, 1), (code, 1373, .invokestatic 261, 3), (code, 1376, .istore 5, 2), (code, 1378, .aload_n 2, 1), (code, 1379, .aload_n 0, 1), (code, 1380, .iload 4, 2), (code, 1382, .iconst 1, 1), (code, 1383, .iadd, 1), (code, 1384, .iaload, 1), (code, 1385, .invokevirtual 264, 3), (code, 1388, .istore 6, 2), (code, 1390, .goto 904, 3), (code, 1393, .aload_n 1, 1), (code, 1394, .aload_n 0, 1), (code, 1395, .iload 4, 2), (code, 1397, .iconst 1, 1)]
theorem db_L_law_1309 : dl_L_law_1309.all (fun x => decide (decode x.1 x.2.1 = .ok x.2.2)) = true := by decide +kernel
theorem dc_L_law_1309 : decode code 1309 = .ok (.iadd, 1) := ky_dc db_L_law_1309 0 rfl
theorem dc_L_law_1310 : decode code 1310 = .ok (.iaload, 1) := ky_dc db_L_law_1309 1 rfl
theorem dc_L_law_1311 : decode code 1311 = .ok (.aload_n 0, 1) := ky_dc db_L_law_1309 2 rfl
theorem dc_L_law_1312 : decode code 1312 = .ok (.iload 4, 2) := ky_dc db_L_law_1309 3 rfl
theorem dc_L_law_1314 : decode code 1314 = .ok (.iconst 3, 1) := ky_dc db_L_law_1309 4 rfl
theorem dc_L_law_1315 : decode code 1315 = .ok (.iadd, 1) := ky_dc db_L_law_1309 5 rfl
theorem dc_L_law_1316 : decode code 1316 = .ok (.iaload, 1) := ky_dc db_L_law_1309 6 rfl
theorem dc_L_law_1317 : decode code 1317 = .ok (.invokevirtual 257, 3) := ky_dc db_L_law_1309 7 rfl
theorem dc_L_law_1320 : decode code 1320 = .ok (.istore 6, 2) := ky_dc db_L_law_1309 8 rfl
theorem dc_L_law_1322 : decode code 1322 = .ok (.goto 972, 3) := ky_dc db_L_law_1309 9 rfl
theorem dc_L_law_1325 : decode code 1325 = .ok (.aload_n 1, 1) := ky_dc db_L_law_1309 10 rfl
theorem dc_L_law_1326 : decode code 1326 = .ok (.aload_n 0, 1) := ky_dc db_L_law_1309 11 rfl
theorem dc_L_law_1327 : decode code 1327 = .ok (.iload 4, 2) := ky_dc db_L_law_1309 12 rfl
theorem dc_L_law_1329 : decode code 1329 = .ok (.iconst 1, 1) := ky_dc db_L_law_1309 13 rfl
theorem dc_L_law_1330 : decode code 1330 = .ok (.iadd, 1) := ky_dc db_L_law_1309 14 rfl
theorem dc_L_law_1331 : decode code 1331 = .ok (.iaload, 1) := ky_dc db_L_law_1309 15 rfl
theorem dc_L_law_1332 : decode code 1332 = .ok (.aload_n 0, 1) := ky_dc db_L_law_1309 16 rfl
theorem dc_L_law_1333 : decode code 1333 = .ok (.iload 4, 2) := ky_dc db_L_law_1309 17 rfl
theorem dc_L_law_1335 : decode code 1335 = .ok (.iconst 2, 1) := ky_dc db_L_law_1309 18 rfl
theorem dc_L_law_1336 : decode code 1336 = .ok (.iadd, 1) := ky_dc db_L_law_1309 19 rfl
theorem dc_L_law_1337 : decode code 1337 = .ok (.iaload, 1) := ky_dc db_L_law_1309 20 rfl
theorem dc_L_law_1338 : decode code 1338 = .ok (.aload_n 3, 1) := ky_dc db_L_law_1309 21 rfl
theorem dc_L_law_1339 : decode code 1339 = .ok (.invokestatic 258, 3) := ky_dc db_L_law_1309 22 rfl
theorem dc_L_law_1342 : decode code 1342 = .ok (.istore 5, 2) := ky_dc db_L_law_1309 23 rfl
theorem dc_L_law_1344 : decode code 1344 = .ok (.aload_n 2, 1) := ky_dc db_L_law_1309 24 rfl
theorem dc_L_law_1345 : decode code 1345 = .ok (.aload_n 0, 1) := ky_dc db_L_law_1309 25 rfl
theorem dc_L_law_1346 : decode code 1346 = .ok (.iload 4, 2) := ky_dc db_L_law_1309 26 rfl
theorem dc_L_law_1348 : decode code 1348 = .ok (.iconst 1, 1) := ky_dc db_L_law_1309 27 rfl
theorem dc_L_law_1349 : decode code 1349 = .ok (.iadd, 1) := ky_dc db_L_law_1309 28 rfl
theorem dc_L_law_1350 : decode code 1350 = .ok (.iaload, 1) := ky_dc db_L_law_1309 29 rfl
theorem dc_L_law_1351 : decode code 1351 = .ok (.aload_n 0, 1) := ky_dc db_L_law_1309 30 rfl
theorem dc_L_law_1352 : decode code 1352 = .ok (.iload 4, 2) := ky_dc db_L_law_1309 31 rfl
theorem dc_L_law_1354 : decode code 1354 = .ok (.iconst 2, 1) := ky_dc db_L_law_1309 32 rfl
theorem dc_L_law_1355 : decode code 1355 = .ok (.iadd, 1) := ky_dc db_L_law_1309 33 rfl
theorem dc_L_law_1356 : decode code 1356 = .ok (.iaload, 1) := ky_dc db_L_law_1309 34 rfl
theorem dc_L_law_1357 : decode code 1357 = .ok (.invokevirtual 260, 3) := ky_dc db_L_law_1309 35 rfl
theorem dc_L_law_1360 : decode code 1360 = .ok (.istore 6, 2) := ky_dc db_L_law_1309 36 rfl
theorem dc_L_law_1362 : decode code 1362 = .ok (.goto 932, 3) := ky_dc db_L_law_1309 37 rfl
theorem dc_L_law_1365 : decode code 1365 = .ok (.aload_n 1, 1) := ky_dc db_L_law_1309 38 rfl
theorem dc_L_law_1366 : decode code 1366 = .ok (.aload_n 0, 1) := ky_dc db_L_law_1309 39 rfl
theorem dc_L_law_1367 : decode code 1367 = .ok (.iload 4, 2) := ky_dc db_L_law_1309 40 rfl
theorem dc_L_law_1369 : decode code 1369 = .ok (.iconst 1, 1) := ky_dc db_L_law_1309 41 rfl
theorem dc_L_law_1370 : decode code 1370 = .ok (.iadd, 1) := ky_dc db_L_law_1309 42 rfl
theorem dc_L_law_1371 : decode code 1371 = .ok (.iaload, 1) := ky_dc db_L_law_1309 43 rfl
theorem dc_L_law_1372 : decode code 1372 = .ok (.aload_n 3, 1) := ky_dc db_L_law_1309 44 rfl
theorem dc_L_law_1373 : decode code 1373 = .ok (.invokestatic 261, 3) := ky_dc db_L_law_1309 45 rfl
theorem dc_L_law_1376 : decode code 1376 = .ok (.istore 5, 2) := ky_dc db_L_law_1309 46 rfl
theorem dc_L_law_1378 : decode code 1378 = .ok (.aload_n 2, 1) := ky_dc db_L_law_1309 47 rfl
theorem dc_L_law_1379 : decode code 1379 = .ok (.aload_n 0, 1) := ky_dc db_L_law_1309 48 rfl
theorem dc_L_law_1380 : decode code 1380 = .ok (.iload 4, 2) := ky_dc db_L_law_1309 49 rfl
theorem dc_L_law_1382 : decode code 1382 = .ok (.iconst 1, 1) := ky_dc db_L_law_1309 50 rfl
theorem dc_L_law_1383 : decode code 1383 = .ok (.iadd, 1) := ky_dc db_L_law_1309 51 rfl
theorem dc_L_law_1384 : decode code 1384 = .ok (.iaload, 1) := ky_dc db_L_law_1309 52 rfl
theorem dc_L_law_1385 : decode code 1385 = .ok (.invokevirtual 264, 3) := ky_dc db_L_law_1309 53 rfl
theorem dc_L_law_1388 : decode code 1388 = .ok (.istore 6, 2) := ky_dc db_L_law_1309 54 rfl
theorem dc_L_law_1390 : decode code 1390 = .ok (.goto 904, 3) := ky_dc db_L_law_1309 55 rfl
theorem dc_L_law_1393 : decode code 1393 = .ok (.aload_n 1, 1) := ky_dc db_L_law_1309 56 rfl
theorem dc_L_law_1394 : decode code 1394 = .ok (.aload_n 0, 1) := ky_dc db_L_law_1309 57 rfl
theorem dc_L_law_1395 : decode code 1395 = .ok (.iload 4, 2) := ky_dc db_L_law_1309 58 rfl
theorem dc_L_law_1397 : decode code 1397 = .ok (.iconst 1, 1) := ky_dc db_L_law_1309 59 rfl
def dl_L_law_1398 : List (ByteArray × Nat × Jvm.ClassFile.Instr × Nat) := [(code, 1398, .iadd, 1), (code, 1399, .iaload, 1), (code, 1400, .aload_n 0, 1), (code, 1401, .iload 4, 2), (code, 1403, .iconst 2, 1), (code, 1404, .iadd, 1), (code, 1405, .iaload, 1), (code, 1406, .aload_n 3, 1), (code, 1407, .invokestatic 265, 3), (code, 1410, .istore 5, 2), (code, 1412, .aload_n 2, 1), (code, 1413, .aload_n 0, 1), (code, 1414, .iload 4, 2), (code, 1416, .iconst 1, 1), (code, 1417, .iadd, 1), (code, 1418, .iaload, 1), (code, 1419, .aload_n 0, 1), (code, 1420, .iload 4, 2), (code, 1422, .iconst 2, 1), (code, 1423, .iadd, 1), (code, 1424, .iaload, 1), (code, 1425, .invokevirtual 267, 3), (code, 1428, .istore 6, 2), (code, 1430, .goto 864, 3), (code, 1433, .aload_n 1, 1), (code, 1434, .aload_n 0, 1), (code, 1435, .iload 4, 2), (code, 1437, .iconst 1, 1), (code, 1438, .iadd, 1), (code, 1439, .iaload, 1), (code, 1440, .aload_n 3, 1), (code, 1441, .invokestatic 268, 3), (code, 1444, .istore 5, 2), (code, 1446, .aload_n 2, 1), (code, 1447, .aload_n 0, 1), (code, 1448, .iload 4, 2), (code, 1450, .iconst 1, 1), (code, 1451, .iadd, 1), (code, 1452, .iaload, 1), (code, 1453, .invokevirtual 270, 3), (code, 1456, .astore 6, 2), (code, 1458, .goto 836, 3), (code, 1461, .aload_n 1, 1), (code, 1462, .aload_n 0, 1), (code, 1463, .iload 4, 2), (code, 1465, .iconst 1, 1), (code, 1466, .iadd, 1), (code, 1467, .iaload, 1), (code, 1468, .aload_n 3, 1), (code, 1469, .invokestatic 271, 3), (code, 1472, .istore 5, 2), (code, 1474, .aload_n 2, 1), (code, 1475, .aload_n 0, 1), (code, 1476, .iload 4, 2), (code, 1478, .iconst 1, 1), (code, 1479, .iadd, 1), (code, 1480, .iaload, 1), (code, 1481, .invokevirtual 273, 3), (code, 1484, .istore 6, 2), (code, 1486, .goto 808, 3)]
theorem db_L_law_1398 : dl_L_law_1398.all (fun x => decide (decode x.1 x.2.1 = .ok x.2.2)) = true := by decide +kernel
theorem dc_L_law_1398 : decode code 1398 = .ok (.iadd, 1) := ky_dc db_L_law_1398 0 rfl
theorem dc_L_law_1399 : decode code 1399 = .ok (.iaload, 1) := ky_dc db_L_law_1398 1 rfl
theorem dc_L_law_1400 : decode code 1400 = .ok (.aload_n 0, 1) := ky_dc db_L_law_1398 2 rfl
theorem dc_L_law_1401 : decode code 1401 = .ok (.iload 4, 2) := ky_dc db_L_law_1398 3 rfl
theorem dc_L_law_1403 : decode code 1403 = .ok (.iconst 2, 1) := ky_dc db_L_law_1398 4 rfl
theorem dc_L_law_1404 : decode code 1404 = .ok (.iadd, 1) := ky_dc db_L_law_1398 5 rfl
theorem dc_L_law_1405 : decode code 1405 = .ok (.iaload, 1) := ky_dc db_L_law_1398 6 rfl
theorem dc_L_law_1406 : decode code 1406 = .ok (.aload_n 3, 1) := ky_dc db_L_law_1398 7 rfl
theorem dc_L_law_1407 : decode code 1407 = .ok (.invokestatic 265, 3) := ky_dc db_L_law_1398 8 rfl
theorem dc_L_law_1410 : decode code 1410 = .ok (.istore 5, 2) := ky_dc db_L_law_1398 9 rfl
theorem dc_L_law_1412 : decode code 1412 = .ok (.aload_n 2, 1) := ky_dc db_L_law_1398 10 rfl
theorem dc_L_law_1413 : decode code 1413 = .ok (.aload_n 0, 1) := ky_dc db_L_law_1398 11 rfl
theorem dc_L_law_1414 : decode code 1414 = .ok (.iload 4, 2) := ky_dc db_L_law_1398 12 rfl
theorem dc_L_law_1416 : decode code 1416 = .ok (.iconst 1, 1) := ky_dc db_L_law_1398 13 rfl
theorem dc_L_law_1417 : decode code 1417 = .ok (.iadd, 1) := ky_dc db_L_law_1398 14 rfl
theorem dc_L_law_1418 : decode code 1418 = .ok (.iaload, 1) := ky_dc db_L_law_1398 15 rfl
theorem dc_L_law_1419 : decode code 1419 = .ok (.aload_n 0, 1) := ky_dc db_L_law_1398 16 rfl
theorem dc_L_law_1420 : decode code 1420 = .ok (.iload 4, 2) := ky_dc db_L_law_1398 17 rfl
theorem dc_L_law_1422 : decode code 1422 = .ok (.iconst 2, 1) := ky_dc db_L_law_1398 18 rfl
theorem dc_L_law_1423 : decode code 1423 = .ok (.iadd, 1) := ky_dc db_L_law_1398 19 rfl
theorem dc_L_law_1424 : decode code 1424 = .ok (.iaload, 1) := ky_dc db_L_law_1398 20 rfl
theorem dc_L_law_1425 : decode code 1425 = .ok (.invokevirtual 267, 3) := ky_dc db_L_law_1398 21 rfl
theorem dc_L_law_1428 : decode code 1428 = .ok (.istore 6, 2) := ky_dc db_L_law_1398 22 rfl
theorem dc_L_law_1430 : decode code 1430 = .ok (.goto 864, 3) := ky_dc db_L_law_1398 23 rfl
theorem dc_L_law_1433 : decode code 1433 = .ok (.aload_n 1, 1) := ky_dc db_L_law_1398 24 rfl
theorem dc_L_law_1434 : decode code 1434 = .ok (.aload_n 0, 1) := ky_dc db_L_law_1398 25 rfl
theorem dc_L_law_1435 : decode code 1435 = .ok (.iload 4, 2) := ky_dc db_L_law_1398 26 rfl
theorem dc_L_law_1437 : decode code 1437 = .ok (.iconst 1, 1) := ky_dc db_L_law_1398 27 rfl
theorem dc_L_law_1438 : decode code 1438 = .ok (.iadd, 1) := ky_dc db_L_law_1398 28 rfl
theorem dc_L_law_1439 : decode code 1439 = .ok (.iaload, 1) := ky_dc db_L_law_1398 29 rfl
theorem dc_L_law_1440 : decode code 1440 = .ok (.aload_n 3, 1) := ky_dc db_L_law_1398 30 rfl
theorem dc_L_law_1441 : decode code 1441 = .ok (.invokestatic 268, 3) := ky_dc db_L_law_1398 31 rfl
theorem dc_L_law_1444 : decode code 1444 = .ok (.istore 5, 2) := ky_dc db_L_law_1398 32 rfl
theorem dc_L_law_1446 : decode code 1446 = .ok (.aload_n 2, 1) := ky_dc db_L_law_1398 33 rfl
theorem dc_L_law_1447 : decode code 1447 = .ok (.aload_n 0, 1) := ky_dc db_L_law_1398 34 rfl
theorem dc_L_law_1448 : decode code 1448 = .ok (.iload 4, 2) := ky_dc db_L_law_1398 35 rfl
theorem dc_L_law_1450 : decode code 1450 = .ok (.iconst 1, 1) := ky_dc db_L_law_1398 36 rfl
theorem dc_L_law_1451 : decode code 1451 = .ok (.iadd, 1) := ky_dc db_L_law_1398 37 rfl
theorem dc_L_law_1452 : decode code 1452 = .ok (.iaload, 1) := ky_dc db_L_law_1398 38 rfl
theorem dc_L_law_1453 : decode code 1453 = .ok (.invokevirtual 270, 3) := ky_dc db_L_law_1398 39 rfl
theorem dc_L_law_1456 : decode code 1456 = .ok (.astore 6, 2) := ky_dc db_L_law_1398 40 rfl
theorem dc_L_law_1458 : decode code 1458 = .ok (.goto 836, 3) := ky_dc db_L_law_1398 41 rfl
theorem dc_L_law_1461 : decode code 1461 = .ok (.aload_n 1, 1) := ky_dc db_L_law_1398 42 rfl
theorem dc_L_law_1462 : decode code 1462 = .ok (.aload_n 0, 1) := ky_dc db_L_law_1398 43 rfl
theorem dc_L_law_1463 : decode code 1463 = .ok (.iload 4, 2) := ky_dc db_L_law_1398 44 rfl
theorem dc_L_law_1465 : decode code 1465 = .ok (.iconst 1, 1) := ky_dc db_L_law_1398 45 rfl
theorem dc_L_law_1466 : decode code 1466 = .ok (.iadd, 1) := ky_dc db_L_law_1398 46 rfl
theorem dc_L_law_1467 : decode code 1467 = .ok (.iaload, 1) := ky_dc db_L_law_1398 47 rfl
theorem dc_L_law_1468 : decode code 1468 = .ok (.aload_n 3, 1) := ky_dc db_L_law_1398 48 rfl
theorem dc_L_law_1469 : decode code 1469 = .ok (.invokestatic 271, 3) := ky_dc db_L_law_1398 49 rfl
theorem dc_L_law_1472 : decode code 1472 = .ok (.istore 5, 2) := ky_dc db_L_law_1398 50 rfl
theorem dc_L_law_1474 : decode code 1474 = .ok (.aload_n 2, 1) := ky_dc db_L_law_1398 51 rfl
theorem dc_L_law_1475 : decode code 1475 = .ok (.aload_n 0, 1) := ky_dc db_L_law_1398 52 rfl
theorem dc_L_law_1476 : decode code 1476 = .ok (.iload 4, 2) := ky_dc db_L_law_1398 53 rfl
theorem dc_L_law_1478 : decode code 1478 = .ok (.iconst 1, 1) := ky_dc db_L_law_1398 54 rfl
theorem dc_L_law_1479 : decode code 1479 = .ok (.iadd, 1) := ky_dc db_L_law_1398 55 rfl
theorem dc_L_law_1480 : decode code 1480 = .ok (.iaload, 1) := ky_dc db_L_law_1398 56 rfl
theorem dc_L_law_1481 : decode code 1481 = .ok (.invokevirtual 273, 3) := ky_dc db_L_law_1398 57 rfl
theorem dc_L_law_1484 : decode code 1484 = .ok (.istore 6, 2) := ky_dc db_L_law_1398 58 rfl
theorem dc_L_law_1486 : decode code 1486 = .ok (.goto 808, 3) := ky_dc db_L_law_1398 59 rfl
def dl_L_law_1489 : List (ByteArray × Nat × Jvm.ClassFile.Instr × Nat) := [(code, 1489, .aload_n 1, 1), (code, 1490, .aload_n 0, 1), (code, 1491, .iload 4, 2), (code, 1493, .iconst 1, 1), (code, 1494, .iadd, 1), (code, 1495, .iaload, 1), (code, 1496, .aload_n 0, 1), (code, 1497, .iload 4, 2), (code, 1499, .iconst 2, 1), (code, 1500, .iadd, 1), (code, 1501, .iaload, 1), (code, 1502, .ifCond .eq 7, 3), (code, 1509, .iconst 0, 1), (code, 1510, .aload_n 3, 1), (code, 1511, .invokestatic 274, 3), (code, 1514, .istore 5, 2), (code, 1516, .aload_n 2, 1), (code, 1517, .aload_n 0, 1), (code, 1518, .iload 4, 2), (code, 1520, .iconst 1, 1), (code, 1521, .iadd, 1), (code, 1522, .iaload, 1), (code, 1523, .aload_n 0, 1), (code, 1524, .iload 4, 2), (code, 1526, .iconst 2, 1), (code, 1527, .iadd, 1), (code, 1528, .iaload, 1), (code, 1529, .ifCond .eq 7, 3), (code, 1536, .iconst 0, 1), (code, 1537, .invokevirtual 276, 3), (code, 1540, .istore 6, 2), (code, 1542, .goto 752, 3), (code, 1505, .iconst 1, 1), (code, 1506, .goto 4, 3), (code, 1532, .iconst 1, 1), (code, 1533, .goto 4, 3), (code, 1545, .aload_n 1, 1), (code, 1546, .aload_n 0, 1), (code, 1547, .iload 4, 2), (code, 1549, .iconst 1, 1), (code, 1550, .iadd, 1), (code, 1551, .iaload, 1), (code, 1552, .aload_n 3, 1), (code, 1553, .invokestatic 277, 3), (code, 1556, .istore 5, 2), (code, 1558, .aload_n 2, 1), (code, 1559, .aload_n 0, 1), (code, 1560, .iload 4, 2), (code, 1562, .iconst 1, 1), (code, 1563, .iadd, 1), (code, 1564, .iaload, 1), (code, 1565, .invokevirtual 279, 3), (code, 1568, .astore 6, 2), (code, 1570, .goto 724, 3), (code, 1573, .aload_n 1, 1), (code, 1574, .aload_n 0, 1), (code, 1575, .iload 4, 2), (code, 1577, .iconst 1, 1), (code, 1578, .iadd, 1), (code, 1579, .iaload, 1)]
theorem db_L_law_1489 : dl_L_law_1489.all (fun x => decide (decode x.1 x.2.1 = .ok x.2.2)) = true := by decide +kernel
theorem dc_L_law_1489 : decode code 1489 = .ok (.aload_n 1, 1) := ky_dc db_L_law_1489 0 rfl
theorem dc_L_law_1490 : decode code 1490 = .ok (.aload_n 0, 1) := ky_dc db_L_law_1489 1 rfl
theorem dc_L_law_1491 : decode code 1491 = .ok (.iload 4, 2) := ky_dc db_L_law_1489 2 rfl
theorem dc_L_law_1493 : decode code 1493 = .ok (.iconst 1, 1) := ky_dc db_L_law_1489 3 rfl
theorem dc_L_law_1494 : decode code 1494 = .ok (.iadd, 1) := ky_dc db_L_law_1489 4 rfl
theorem dc_L_law_1495 : decode code 1495 = .ok (.iaload, 1) := ky_dc db_L_law_1489 5 rfl
theorem dc_L_law_1496 : decode code 1496 = .ok (.aload_n 0, 1) := ky_dc db_L_law_1489 6 rfl
theorem dc_L_law_1497 : decode code 1497 = .ok (.iload 4, 2) := ky_dc db_L_law_1489 7 rfl
theorem dc_L_law_1499 : decode code 1499 = .ok (.iconst 2, 1) := ky_dc db_L_law_1489 8 rfl
theorem dc_L_law_1500 : decode code 1500 = .ok (.iadd, 1) := ky_dc db_L_law_1489 9 rfl
theorem dc_L_law_1501 : decode code 1501 = .ok (.iaload, 1) := ky_dc db_L_law_1489 10 rfl
theorem dc_L_law_1502 : decode code 1502 = .ok (.ifCond .eq 7, 3) := ky_dc db_L_law_1489 11 rfl
theorem dc_L_law_1509 : decode code 1509 = .ok (.iconst 0, 1) := ky_dc db_L_law_1489 12 rfl
theorem dc_L_law_1510 : decode code 1510 = .ok (.aload_n 3, 1) := ky_dc db_L_law_1489 13 rfl
theorem dc_L_law_1511 : decode code 1511 = .ok (.invokestatic 274, 3) := ky_dc db_L_law_1489 14 rfl
theorem dc_L_law_1514 : decode code 1514 = .ok (.istore 5, 2) := ky_dc db_L_law_1489 15 rfl
theorem dc_L_law_1516 : decode code 1516 = .ok (.aload_n 2, 1) := ky_dc db_L_law_1489 16 rfl
theorem dc_L_law_1517 : decode code 1517 = .ok (.aload_n 0, 1) := ky_dc db_L_law_1489 17 rfl
theorem dc_L_law_1518 : decode code 1518 = .ok (.iload 4, 2) := ky_dc db_L_law_1489 18 rfl
theorem dc_L_law_1520 : decode code 1520 = .ok (.iconst 1, 1) := ky_dc db_L_law_1489 19 rfl
theorem dc_L_law_1521 : decode code 1521 = .ok (.iadd, 1) := ky_dc db_L_law_1489 20 rfl
theorem dc_L_law_1522 : decode code 1522 = .ok (.iaload, 1) := ky_dc db_L_law_1489 21 rfl
theorem dc_L_law_1523 : decode code 1523 = .ok (.aload_n 0, 1) := ky_dc db_L_law_1489 22 rfl
theorem dc_L_law_1524 : decode code 1524 = .ok (.iload 4, 2) := ky_dc db_L_law_1489 23 rfl
theorem dc_L_law_1526 : decode code 1526 = .ok (.iconst 2, 1) := ky_dc db_L_law_1489 24 rfl
theorem dc_L_law_1527 : decode code 1527 = .ok (.iadd, 1) := ky_dc db_L_law_1489 25 rfl
theorem dc_L_law_1528 : decode code 1528 = .ok (.iaload, 1) := ky_dc db_L_law_1489 26 rfl
theorem dc_L_law_1529 : decode code 1529 = .ok (.ifCond .eq 7, 3) := ky_dc db_L_law_1489 27 rfl
theorem dc_L_law_1536 : decode code 1536 = .ok (.iconst 0, 1) := ky_dc db_L_law_1489 28 rfl
theorem dc_L_law_1537 : decode code 1537 = .ok (.invokevirtual 276, 3) := ky_dc db_L_law_1489 29 rfl
theorem dc_L_law_1540 : decode code 1540 = .ok (.istore 6, 2) := ky_dc db_L_law_1489 30 rfl
theorem dc_L_law_1542 : decode code 1542 = .ok (.goto 752, 3) := ky_dc db_L_law_1489 31 rfl
theorem dc_L_law_1505 : decode code 1505 = .ok (.iconst 1, 1) := ky_dc db_L_law_1489 32 rfl
theorem dc_L_law_1506 : decode code 1506 = .ok (.goto 4, 3) := ky_dc db_L_law_1489 33 rfl
theorem dc_L_law_1532 : decode code 1532 = .ok (.iconst 1, 1) := ky_dc db_L_law_1489 34 rfl
theorem dc_L_law_1533 : decode code 1533 = .ok (.goto 4, 3) := ky_dc db_L_law_1489 35 rfl
theorem dc_L_law_1545 : decode code 1545 = .ok (.aload_n 1, 1) := ky_dc db_L_law_1489 36 rfl
theorem dc_L_law_1546 : decode code 1546 = .ok (.aload_n 0, 1) := ky_dc db_L_law_1489 37 rfl
theorem dc_L_law_1547 : decode code 1547 = .ok (.iload 4, 2) := ky_dc db_L_law_1489 38 rfl
theorem dc_L_law_1549 : decode code 1549 = .ok (.iconst 1, 1) := ky_dc db_L_law_1489 39 rfl
theorem dc_L_law_1550 : decode code 1550 = .ok (.iadd, 1) := ky_dc db_L_law_1489 40 rfl
theorem dc_L_law_1551 : decode code 1551 = .ok (.iaload, 1) := ky_dc db_L_law_1489 41 rfl
theorem dc_L_law_1552 : decode code 1552 = .ok (.aload_n 3, 1) := ky_dc db_L_law_1489 42 rfl
theorem dc_L_law_1553 : decode code 1553 = .ok (.invokestatic 277, 3) := ky_dc db_L_law_1489 43 rfl
theorem dc_L_law_1556 : decode code 1556 = .ok (.istore 5, 2) := ky_dc db_L_law_1489 44 rfl
theorem dc_L_law_1558 : decode code 1558 = .ok (.aload_n 2, 1) := ky_dc db_L_law_1489 45 rfl
theorem dc_L_law_1559 : decode code 1559 = .ok (.aload_n 0, 1) := ky_dc db_L_law_1489 46 rfl
theorem dc_L_law_1560 : decode code 1560 = .ok (.iload 4, 2) := ky_dc db_L_law_1489 47 rfl
theorem dc_L_law_1562 : decode code 1562 = .ok (.iconst 1, 1) := ky_dc db_L_law_1489 48 rfl
theorem dc_L_law_1563 : decode code 1563 = .ok (.iadd, 1) := ky_dc db_L_law_1489 49 rfl
theorem dc_L_law_1564 : decode code 1564 = .ok (.iaload, 1) := ky_dc db_L_law_1489 50 rfl
theorem dc_L_law_1565 : decode code 1565 = .ok (.invokevirtual 279, 3) := ky_dc db_L_law_1489 51 rfl
theorem dc_L_law_1568 : decode code 1568 = .ok (.astore 6, 2) := ky_dc db_L_law_1489 52 rfl
theorem dc_L_law_1570 : decode code 1570 = .ok (.goto 724, 3) := ky_dc db_L_law_1489 53 rfl
theorem dc_L_law_1573 : decode code 1573 = .ok (.aload_n 1, 1) := ky_dc db_L_law_1489 54 rfl
theorem dc_L_law_1574 : decode code 1574 = .ok (.aload_n 0, 1) := ky_dc db_L_law_1489 55 rfl
theorem dc_L_law_1575 : decode code 1575 = .ok (.iload 4, 2) := ky_dc db_L_law_1489 56 rfl
theorem dc_L_law_1577 : decode code 1577 = .ok (.iconst 1, 1) := ky_dc db_L_law_1489 57 rfl
theorem dc_L_law_1578 : decode code 1578 = .ok (.iadd, 1) := ky_dc db_L_law_1489 58 rfl
theorem dc_L_law_1579 : decode code 1579 = .ok (.iaload, 1) := ky_dc db_L_law_1489 59 rfl
def dl_L_law_1580 : List (ByteArray × Nat × Jvm.ClassFile.Instr × Nat) := [(code, 1580, .aload_n 3, 1), (code, 1581, .invokestatic 280, 3), (code, 1584, .istore 5, 2), (code, 1586, .aload_n 2, 1), (code, 1587, .aload_n 0, 1), (code, 1588, .iload 4, 2), (code, 1590, .iconst 1, 1), (code, 1591, .iadd, 1), (code, 1592, .iaload, 1), (code, 1593, .invokevirtual 282, 3), (code, 1596, .astore 6, 2), (code, 1598, .goto 696, 3), (code, 1601, .aload_n 1, 1), (code, 1602, .aload_n 0, 1), (code, 1603, .iload 4, 2), (code, 1605, .iconst 1, 1), (code, 1606, .iadd, 1), (code, 1607, .iaload, 1), (code, 1608, .aload_n 3, 1), (code, 1609, .invokestatic 283, 3), (code, 1612, .istore 5, 2), (code, 1614, .aload_n 2, 1), (code, 1615, .aload_n 0, 1), (code, 1616, .iload 4, 2), (code, 1618, .iconst 1, 1), (code, 1619, .iadd, 1), (code, 1620, .iaload, 1), (code, 1621, .invokevirtual 285, 3), (code, 1624, .istore 6, 2), (code, 1626, .goto 668, 3), (code, 1629, .aload_n 1, 1), (code, 1630, .aload_n 0, 1), (code, 1631, .iload 4, 2), (code, 1633, .iconst 1, 1), (code, 1634, .iadd, 1), (code, 1635, .iaload, 1), (code, 1636, .aload_n 3, 1), (code, 1637, .invokestatic 286, 3), (code, 1640, .istore 5, 2), (code, 1642, .aload_n 2, 1), (code, 1643, .aload_n 0, 1), (code, 1644, .iload 4, 2), (code, 1646, .iconst 1, 1), (code, 1647, .iadd, 1), (code, 1648, .iaload, 1), (code, 1649, .invokevirtual 288, 3), (code, 1652, .istore 6, 2), (code, 1654, .goto 640, 3), (code, 1657, .aload_n 1, 1), (code, 1658, .aload_n 0, 1), (code, 1659, .iload 4, 2), (code, 1661, .iconst 1, 1), (code, 1662, .iadd, 1), (code, 1663, .iaload, 1), (code, 1664, .aload_n 3, 1), (code, 1665, .invokestatic 289, 3), (code, 1668, .istore 5, 2), (code, 1670, .aload_n 2, 1), (code, 1671, .aload_n 0, 1), (code, 1672, .iload 4, 2)]
theorem db_L_law_1580 : dl_L_law_1580.all (fun x => decide (decode x.1 x.2.1 = .ok x.2.2)) = true := by decide +kernel
theorem dc_L_law_1580 : decode code 1580 = .ok (.aload_n 3, 1) := ky_dc db_L_law_1580 0 rfl
theorem dc_L_law_1581 : decode code 1581 = .ok (.invokestatic 280, 3) := ky_dc db_L_law_1580 1 rfl
theorem dc_L_law_1584 : decode code 1584 = .ok (.istore 5, 2) := ky_dc db_L_law_1580 2 rfl
theorem dc_L_law_1586 : decode code 1586 = .ok (.aload_n 2, 1) := ky_dc db_L_law_1580 3 rfl
theorem dc_L_law_1587 : decode code 1587 = .ok (.aload_n 0, 1) := ky_dc db_L_law_1580 4 rfl
theorem dc_L_law_1588 : decode code 1588 = .ok (.iload 4, 2) := ky_dc db_L_law_1580 5 rfl
theorem dc_L_law_1590 : decode code 1590 = .ok (.iconst 1, 1) := ky_dc db_L_law_1580 6 rfl
theorem dc_L_law_1591 : decode code 1591 = .ok (.iadd, 1) := ky_dc db_L_law_1580 7 rfl
theorem dc_L_law_1592 : decode code 1592 = .ok (.iaload, 1) := ky_dc db_L_law_1580 8 rfl
theorem dc_L_law_1593 : decode code 1593 = .ok (.invokevirtual 282, 3) := ky_dc db_L_law_1580 9 rfl
theorem dc_L_law_1596 : decode code 1596 = .ok (.astore 6, 2) := ky_dc db_L_law_1580 10 rfl
theorem dc_L_law_1598 : decode code 1598 = .ok (.goto 696, 3) := ky_dc db_L_law_1580 11 rfl
theorem dc_L_law_1601 : decode code 1601 = .ok (.aload_n 1, 1) := ky_dc db_L_law_1580 12 rfl
theorem dc_L_law_1602 : decode code 1602 = .ok (.aload_n 0, 1) := ky_dc db_L_law_1580 13 rfl
theorem dc_L_law_1603 : decode code 1603 = .ok (.iload 4, 2) := ky_dc db_L_law_1580 14 rfl
theorem dc_L_law_1605 : decode code 1605 = .ok (.iconst 1, 1) := ky_dc db_L_law_1580 15 rfl
theorem dc_L_law_1606 : decode code 1606 = .ok (.iadd, 1) := ky_dc db_L_law_1580 16 rfl
theorem dc_L_law_1607 : decode code 1607 = .ok (.iaload, 1) := ky_dc db_L_law_1580 17 rfl
theorem dc_L_law_1608 : decode code 1608 = .ok (.aload_n 3, 1) := ky_dc db_L_law_1580 18 rfl
theorem dc_L_law_1609 : decode code 1609 = .ok (.invokestatic 283, 3) := ky_dc db_L_law_1580 19 rfl
theorem dc_L_law_1612 : decode code 1612 = .ok (.istore 5, 2) := ky_dc db_L_law_1580 20 rfl
theorem dc_L_law_1614 : decode code 1614 = .ok (.aload_n 2, 1) := ky_dc db_L_law_1580 21 rfl
theorem dc_L_law_1615 : decode code 1615 = .ok (.aload_n 0, 1) := ky_dc db_L_law_1580 22 rfl
theorem dc_L_law_1616 : decode code 1616 = .ok (.iload 4, 2) := ky_dc db_L_law_1580 23 rfl
theorem dc_L_law_1618 : decode code 1618 = .ok (.iconst 1, 1) := ky_dc db_L_law_1580 24 rfl
theorem dc_L_law_1619 : decode code 1619 = .ok (.iadd, 1) := ky_dc db_L_law_1580 25 rfl
theorem dc_L_law_1620 : decode code 1620 = .ok (.iaload, 1) := ky_dc db_L_law_1580 26 rfl
theorem dc_L_law_1621 : decode code 1621 = .ok (.invokevirtual 285, 3) := ky_dc db_L_law_1580 27 rfl
theorem dc_L_law_1624 : decode code 1624 = .ok (.istore 6, 2) := ky_dc db_L_law_1580 28 rfl
theorem dc_L_law_1626 : decode code 1626 = .ok (.goto 668, 3) := ky_dc db_L_law_1580 29 rfl
theorem dc_L_law_1629 : decode code 1629 = .ok (.aload_n 1, 1) := ky_dc db_L_law_1580 30 rfl
theorem dc_L_law_1630 : decode code 1630 = .ok (.aload_n 0, 1) := ky_dc db_L_law_1580 31 rfl
theorem dc_L_law_1631 : decode code 1631 = .ok (.iload 4, 2) := ky_dc db_L_law_1580 32 rfl
theorem dc_L_law_1633 : decode code 1633 = .ok (.iconst 1, 1) := ky_dc db_L_law_1580 33 rfl
theorem dc_L_law_1634 : decode code 1634 = .ok (.iadd, 1) := ky_dc db_L_law_1580 34 rfl
theorem dc_L_law_1635 : decode code 1635 = .ok (.iaload, 1) := ky_dc db_L_law_1580 35 rfl
theorem dc_L_law_1636 : decode code 1636 = .ok (.aload_n 3, 1) := ky_dc db_L_law_1580 36 rfl
theorem dc_L_law_1637 : decode code 1637 = .ok (.invokestatic 286, 3) := ky_dc db_L_law_1580 37 rfl
theorem dc_L_law_1640 : decode code 1640 = .ok (.istore 5, 2) := ky_dc db_L_law_1580 38 rfl
theorem dc_L_law_1642 : decode code 1642 = .ok (.aload_n 2, 1) := ky_dc db_L_law_1580 39 rfl
theorem dc_L_law_1643 : decode code 1643 = .ok (.aload_n 0, 1) := ky_dc db_L_law_1580 40 rfl
theorem dc_L_law_1644 : decode code 1644 = .ok (.iload 4, 2) := ky_dc db_L_law_1580 41 rfl
theorem dc_L_law_1646 : decode code 1646 = .ok (.iconst 1, 1) := ky_dc db_L_law_1580 42 rfl
theorem dc_L_law_1647 : decode code 1647 = .ok (.iadd, 1) := ky_dc db_L_law_1580 43 rfl
theorem dc_L_law_1648 : decode code 1648 = .ok (.iaload, 1) := ky_dc db_L_law_1580 44 rfl
theorem dc_L_law_1649 : decode code 1649 = .ok (.invokevirtual 288, 3) := ky_dc db_L_law_1580 45 rfl
theorem dc_L_law_1652 : decode code 1652 = .ok (.istore 6, 2) := ky_dc db_L_law_1580 46 rfl
theorem dc_L_law_1654 : decode code 1654 = .ok (.goto 640, 3) := ky_dc db_L_law_1580 47 rfl
theorem dc_L_law_1657 : decode code 1657 = .ok (.aload_n 1, 1) := ky_dc db_L_law_1580 48 rfl
theorem dc_L_law_1658 : decode code 1658 = .ok (.aload_n 0, 1) := ky_dc db_L_law_1580 49 rfl
theorem dc_L_law_1659 : decode code 1659 = .ok (.iload 4, 2) := ky_dc db_L_law_1580 50 rfl
theorem dc_L_law_1661 : decode code 1661 = .ok (.iconst 1, 1) := ky_dc db_L_law_1580 51 rfl
theorem dc_L_law_1662 : decode code 1662 = .ok (.iadd, 1) := ky_dc db_L_law_1580 52 rfl
theorem dc_L_law_1663 : decode code 1663 = .ok (.iaload, 1) := ky_dc db_L_law_1580 53 rfl
theorem dc_L_law_1664 : decode code 1664 = .ok (.aload_n 3, 1) := ky_dc db_L_law_1580 54 rfl
theorem dc_L_law_1665 : decode code 1665 = .ok (.invokestatic 289, 3) := ky_dc db_L_law_1580 55 rfl
theorem dc_L_law_1668 : decode code 1668 = .ok (.istore 5, 2) := ky_dc db_L_law_1580 56 rfl
theorem dc_L_law_1670 : decode code 1670 = .ok (.aload_n 2, 1) := ky_dc db_L_law_1580 57 rfl
theorem dc_L_law_1671 : decode code 1671 = .ok (.aload_n 0, 1) := ky_dc db_L_law_1580 58 rfl
theorem dc_L_law_1672 : decode code 1672 = .ok (.iload 4, 2) := ky_dc db_L_law_1580 59 rfl
def dl_L_law_1674 : List (ByteArray × Nat × Jvm.ClassFile.Instr × Nat) := [(code, 1674, .iconst 1, 1), (code, 1675, .iadd, 1), (code, 1676, .iaload, 1), (code, 1677, .invokevirtual 291, 3), (code, 1680, .istore 6, 2), (code, 1682, .goto 612, 3), (code, 1685, .aload_n 1, 1), (code, 1686, .aload_n 0, 1), (code, 1687, .iload 4, 2), (code, 1689, .iconst 1, 1), (code, 1690, .iadd, 1), (code, 1691, .iaload, 1), (code, 1692, .aload_n 0, 1), (code, 1693, .iload 4, 2), (code, 1695, .iconst 2, 1), (code, 1696, .iadd, 1), (code, 1697, .iaload, 1), (code, 1698, .aload_n 3, 1), (code, 1699, .invokestatic 292, 3), (code, 1702, .istore 5, 2), (code, 1704, .aload_n 2, 1), (code, 1705, .aload_n 0, 1), (code, 1706, .iload 4, 2), (code, 1708, .iconst 1, 1), (code, 1709, .iadd, 1), (code, 1710, .iaload, 1), (code, 1711, .aload_n 0, 1), (code, 1712, .iload 4, 2), (code, 1714, .iconst 2, 1), (code, 1715, .iadd, 1), (code, 1716, .iaload, 1), (code, 1717, .invokevirtual 294, 3), (code, 1720, .istore 6, 2), (code, 1722, .goto 572, 3), (code, 1725, .aload_n 1, 1), (code, 1726, .aload_n 0, 1), (code, 1727, .iload 4, 2), (code, 1729, .iconst 1, 1), (code, 1730, .iadd, 1), (code, 1731, .iaload, 1), (code, 1732, .aload_n 0, 1), (code, 1733, .iload 4, 2), (code, 1735, .iconst 2, 1), (code, 1736, .iadd, 1), (code, 1737, .iaload, 1), (code, 1738, .aload_n 3, 1), (code, 1739, .invokestatic 295, 3), (code, 1742, .istore 5, 2), (code, 1744, .aload_n 2, 1), (code, 1745, .aload_n 0, 1), (code, 1746, .iload 4, 2), (code, 1748, .iconst 1, 1), (code, 1749, .iadd, 1), (code, 1750, .iaload, 1), (code, 1751, .aload_n 0, 1), (code, 1752, .iload 4, 2), (code, 1754, .iconst 2, 1), (code, 1755, .iadd, 1), (code, 1756, .iaload, 1), (code, 1757, .invokevirtual 297, 3)]
theorem db_L_law_1674 : dl_L_law_1674.all (fun x => decide (decode x.1 x.2.1 = .ok x.2.2)) = true := by decide +kernel
theorem dc_L_law_1674 : decode code 1674 = .ok (.iconst 1, 1) := ky_dc db_L_law_1674 0 rfl
theorem dc_L_law_1675 : decode code 1675 = .ok (.iadd, 1) := ky_dc db_L_law_1674 1 rfl
theorem dc_L_law_1676 : decode code 1676 = .ok (.iaload, 1) := ky_dc db_L_law_1674 2 rfl
theorem dc_L_law_1677 : decode code 1677 = .ok (.invokevirtual 291, 3) := ky_dc db_L_law_1674 3 rfl
theorem dc_L_law_1680 : decode code 1680 = .ok (.istore 6, 2) := ky_dc db_L_law_1674 4 rfl
theorem dc_L_law_1682 : decode code 1682 = .ok (.goto 612, 3) := ky_dc db_L_law_1674 5 rfl
theorem dc_L_law_1685 : decode code 1685 = .ok (.aload_n 1, 1) := ky_dc db_L_law_1674 6 rfl
theorem dc_L_law_1686 : decode code 1686 = .ok (.aload_n 0, 1) := ky_dc db_L_law_1674 7 rfl
theorem dc_L_law_1687 : decode code 1687 = .ok (.iload 4, 2) := ky_dc db_L_law_1674 8 rfl
theorem dc_L_law_1689 : decode code 1689 = .ok (.iconst 1, 1) := ky_dc db_L_law_1674 9 rfl
theorem dc_L_law_1690 : decode code 1690 = .ok (.iadd, 1) := ky_dc db_L_law_1674 10 rfl
theorem dc_L_law_1691 : decode code 1691 = .ok (.iaload, 1) := ky_dc db_L_law_1674 11 rfl
theorem dc_L_law_1692 : decode code 1692 = .ok (.aload_n 0, 1) := ky_dc db_L_law_1674 12 rfl
theorem dc_L_law_1693 : decode code 1693 = .ok (.iload 4, 2) := ky_dc db_L_law_1674 13 rfl
theorem dc_L_law_1695 : decode code 1695 = .ok (.iconst 2, 1) := ky_dc db_L_law_1674 14 rfl
theorem dc_L_law_1696 : decode code 1696 = .ok (.iadd, 1) := ky_dc db_L_law_1674 15 rfl
theorem dc_L_law_1697 : decode code 1697 = .ok (.iaload, 1) := ky_dc db_L_law_1674 16 rfl
theorem dc_L_law_1698 : decode code 1698 = .ok (.aload_n 3, 1) := ky_dc db_L_law_1674 17 rfl
theorem dc_L_law_1699 : decode code 1699 = .ok (.invokestatic 292, 3) := ky_dc db_L_law_1674 18 rfl
theorem dc_L_law_1702 : decode code 1702 = .ok (.istore 5, 2) := ky_dc db_L_law_1674 19 rfl
theorem dc_L_law_1704 : decode code 1704 = .ok (.aload_n 2, 1) := ky_dc db_L_law_1674 20 rfl
theorem dc_L_law_1705 : decode code 1705 = .ok (.aload_n 0, 1) := ky_dc db_L_law_1674 21 rfl
theorem dc_L_law_1706 : decode code 1706 = .ok (.iload 4, 2) := ky_dc db_L_law_1674 22 rfl
theorem dc_L_law_1708 : decode code 1708 = .ok (.iconst 1, 1) := ky_dc db_L_law_1674 23 rfl
theorem dc_L_law_1709 : decode code 1709 = .ok (.iadd, 1) := ky_dc db_L_law_1674 24 rfl
theorem dc_L_law_1710 : decode code 1710 = .ok (.iaload, 1) := ky_dc db_L_law_1674 25 rfl
theorem dc_L_law_1711 : decode code 1711 = .ok (.aload_n 0, 1) := ky_dc db_L_law_1674 26 rfl
theorem dc_L_law_1712 : decode code 1712 = .ok (.iload 4, 2) := ky_dc db_L_law_1674 27 rfl
theorem dc_L_law_1714 : decode code 1714 = .ok (.iconst 2, 1) := ky_dc db_L_law_1674 28 rfl
theorem dc_L_law_1715 : decode code 1715 = .ok (.iadd, 1) := ky_dc db_L_law_1674 29 rfl
theorem dc_L_law_1716 : decode code 1716 = .ok (.iaload, 1) := ky_dc db_L_law_1674 30 rfl
theorem dc_L_law_1717 : decode code 1717 = .ok (.invokevirtual 294, 3) := ky_dc db_L_law_1674 31 rfl
theorem dc_L_law_1720 : decode code 1720 = .ok (.istore 6, 2) := ky_dc db_L_law_1674 32 rfl
theorem dc_L_law_1722 : decode code 1722 = .ok (.goto 572, 3) := ky_dc db_L_law_1674 33 rfl
theorem dc_L_law_1725 : decode code 1725 = .ok (.aload_n 1, 1) := ky_dc db_L_law_1674 34 rfl
theorem dc_L_law_1726 : decode code 1726 = .ok (.aload_n 0, 1) := ky_dc db_L_law_1674 35 rfl
theorem dc_L_law_1727 : decode code 1727 = .ok (.iload 4, 2) := ky_dc db_L_law_1674 36 rfl
theorem dc_L_law_1729 : decode code 1729 = .ok (.iconst 1, 1) := ky_dc db_L_law_1674 37 rfl
theorem dc_L_law_1730 : decode code 1730 = .ok (.iadd, 1) := ky_dc db_L_law_1674 38 rfl
theorem dc_L_law_1731 : decode code 1731 = .ok (.iaload, 1) := ky_dc db_L_law_1674 39 rfl
theorem dc_L_law_1732 : decode code 1732 = .ok (.aload_n 0, 1) := ky_dc db_L_law_1674 40 rfl
theorem dc_L_law_1733 : decode code 1733 = .ok (.iload 4, 2) := ky_dc db_L_law_1674 41 rfl
theorem dc_L_law_1735 : decode code 1735 = .ok (.iconst 2, 1) := ky_dc db_L_law_1674 42 rfl
theorem dc_L_law_1736 : decode code 1736 = .ok (.iadd, 1) := ky_dc db_L_law_1674 43 rfl
theorem dc_L_law_1737 : decode code 1737 = .ok (.iaload, 1) := ky_dc db_L_law_1674 44 rfl
theorem dc_L_law_1738 : decode code 1738 = .ok (.aload_n 3, 1) := ky_dc db_L_law_1674 45 rfl
theorem dc_L_law_1739 : decode code 1739 = .ok (.invokestatic 295, 3) := ky_dc db_L_law_1674 46 rfl
theorem dc_L_law_1742 : decode code 1742 = .ok (.istore 5, 2) := ky_dc db_L_law_1674 47 rfl
theorem dc_L_law_1744 : decode code 1744 = .ok (.aload_n 2, 1) := ky_dc db_L_law_1674 48 rfl
theorem dc_L_law_1745 : decode code 1745 = .ok (.aload_n 0, 1) := ky_dc db_L_law_1674 49 rfl
theorem dc_L_law_1746 : decode code 1746 = .ok (.iload 4, 2) := ky_dc db_L_law_1674 50 rfl
theorem dc_L_law_1748 : decode code 1748 = .ok (.iconst 1, 1) := ky_dc db_L_law_1674 51 rfl
theorem dc_L_law_1749 : decode code 1749 = .ok (.iadd, 1) := ky_dc db_L_law_1674 52 rfl
theorem dc_L_law_1750 : decode code 1750 = .ok (.iaload, 1) := ky_dc db_L_law_1674 53 rfl
theorem dc_L_law_1751 : decode code 1751 = .ok (.aload_n 0, 1) := ky_dc db_L_law_1674 54 rfl
theorem dc_L_law_1752 : decode code 1752 = .ok (.iload 4, 2) := ky_dc db_L_law_1674 55 rfl
theorem dc_L_law_1754 : decode code 1754 = .ok (.iconst 2, 1) := ky_dc db_L_law_1674 56 rfl
theorem dc_L_law_1755 : decode code 1755 = .ok (.iadd, 1) := ky_dc db_L_law_1674 57 rfl
theorem dc_L_law_1756 : decode code 1756 = .ok (.iaload, 1) := ky_dc db_L_law_1674 58 rfl
theorem dc_L_law_1757 : decode code 1757 = .ok (.invokevirtual 297, 3) := ky_dc db_L_law_1674 59 rfl
def dl_L_law_1760 : List (ByteArray × Nat × Jvm.ClassFile.Instr × Nat) := [(code, 1760, .istore 6, 2), (code, 1762, .goto 532, 3), (code, 1765, .aload_n 1, 1), (code, 1766, .aload_n 0, 1), (code, 1767, .iload 4, 2), (code, 1769, .iconst 1, 1), (code, 1770, .iadd, 1), (code, 1771, .iaload, 1), (code, 1772, .aload_n 0, 1), (code, 1773, .iload 4, 2), (code, 1775, .iconst 2, 1), (code, 1776, .iadd, 1), (code, 1777, .iaload, 1), (code, 1778, .aload_n 3, 1), (code, 1779, .invokestatic 298, 3), (code, 1782, .istore 5, 2), (code, 1784, .aload_n 2, 1), (code, 1785, .aload_n 0, 1), (code, 1786, .iload 4, 2), (code, 1788, .iconst 1, 1), (code, 1789, .iadd, 1), (code, 1790, .iaload, 1), (code, 1791, .aload_n 0, 1), (code, 1792, .iload 4, 2), (code, 1794, .iconst 2, 1), (code, 1795, .iadd, 1), (code, 1796, .iaload, 1), (code, 1797, .invokevirtual 300, 3), (code, 1800, .istore 6, 2), (code, 1802, .goto 492, 3), (code, 1805, .aload_n 1, 1), (code, 1806, .aload_n 0, 1), (code, 1807, .iload 4, 2), (code, 1809, .iconst 1, 1), (code, 1810, .iadd, 1), (code, 1811, .iaload, 1), (code, 1812, .aload_n 0, 1), (code, 1813, .iload 4, 2), (code, 1815, .iconst 2, 1), (code, 1816, .iadd, 1), (code, 1817, .iaload, 1), (code, 1818, .aload_n 3, 1), (code, 1819, .invokestatic 301, 3), (code, 1822, .istore 5, 2), (code, 1824, .aload_n 2, 1), (code, 1825, .aload_n 0, 1), (code, 1826, .iload 4, 2), (code, 1828, .iconst 1, 1), (code, 1829, .iadd, 1), (code, 1830, .iaload, 1), (code, 1831, .aload_n 0, 1), (code, 1832, .iload 4, 2), (code, 1834, .iconst 2, 1), (code, 1835, .iadd, 1), (code, 1836, .iaload, 1), (code, 1837, .invokevirtual 303, 3), (code, 1840, .istore 6, 2), (code, 1842, .goto 452, 3), (code, 1845, .aload_n 1, 1), (code, 1846, .aload_n 0, 1)]
theorem db_L_law_1760 : dl_L_law_1760.all (fun x => decide (decode x.1 x.2.1 = .ok x.2.2)) = true := by decide +kernel
theorem dc_L_law_1760 : decode code 1760 = .ok (.istore 6, 2) := ky_dc db_L_law_1760 0 rfl
theorem dc_L_law_1762 : decode code 1762 = .ok (.goto 532, 3) := ky_dc db_L_law_1760 1 rfl
theorem dc_L_law_1765 : decode code 1765 = .ok (.aload_n 1, 1) := ky_dc db_L_law_1760 2 rfl
theorem dc_L_law_1766 : decode code 1766 = .ok (.aload_n 0, 1) := ky_dc db_L_law_1760 3 rfl
theorem dc_L_law_1767 : decode code 1767 = .ok (.iload 4, 2) := ky_dc db_L_law_1760 4 rfl
theorem dc_L_law_1769 : decode code 1769 = .ok (.iconst 1, 1) := ky_dc db_L_law_1760 5 rfl
theorem dc_L_law_1770 : decode code 1770 = .ok (.iadd, 1) := ky_dc db_L_law_1760 6 rfl
theorem dc_L_law_1771 : decode code 1771 = .ok (.iaload, 1) := ky_dc db_L_law_1760 7 rfl
theorem dc_L_law_1772 : decode code 1772 = .ok (.aload_n 0, 1) := ky_dc db_L_law_1760 8 rfl
theorem dc_L_law_1773 : decode code 1773 = .ok (.iload 4, 2) := ky_dc db_L_law_1760 9 rfl
theorem dc_L_law_1775 : decode code 1775 = .ok (.iconst 2, 1) := ky_dc db_L_law_1760 10 rfl
theorem dc_L_law_1776 : decode code 1776 = .ok (.iadd, 1) := ky_dc db_L_law_1760 11 rfl
theorem dc_L_law_1777 : decode code 1777 = .ok (.iaload, 1) := ky_dc db_L_law_1760 12 rfl
theorem dc_L_law_1778 : decode code 1778 = .ok (.aload_n 3, 1) := ky_dc db_L_law_1760 13 rfl
theorem dc_L_law_1779 : decode code 1779 = .ok (.invokestatic 298, 3) := ky_dc db_L_law_1760 14 rfl
theorem dc_L_law_1782 : decode code 1782 = .ok (.istore 5, 2) := ky_dc db_L_law_1760 15 rfl
theorem dc_L_law_1784 : decode code 1784 = .ok (.aload_n 2, 1) := ky_dc db_L_law_1760 16 rfl
theorem dc_L_law_1785 : decode code 1785 = .ok (.aload_n 0, 1) := ky_dc db_L_law_1760 17 rfl
theorem dc_L_law_1786 : decode code 1786 = .ok (.iload 4, 2) := ky_dc db_L_law_1760 18 rfl
theorem dc_L_law_1788 : decode code 1788 = .ok (.iconst 1, 1) := ky_dc db_L_law_1760 19 rfl
theorem dc_L_law_1789 : decode code 1789 = .ok (.iadd, 1) := ky_dc db_L_law_1760 20 rfl
theorem dc_L_law_1790 : decode code 1790 = .ok (.iaload, 1) := ky_dc db_L_law_1760 21 rfl
theorem dc_L_law_1791 : decode code 1791 = .ok (.aload_n 0, 1) := ky_dc db_L_law_1760 22 rfl
theorem dc_L_law_1792 : decode code 1792 = .ok (.iload 4, 2) := ky_dc db_L_law_1760 23 rfl
theorem dc_L_law_1794 : decode code 1794 = .ok (.iconst 2, 1) := ky_dc db_L_law_1760 24 rfl
theorem dc_L_law_1795 : decode code 1795 = .ok (.iadd, 1) := ky_dc db_L_law_1760 25 rfl
theorem dc_L_law_1796 : decode code 1796 = .ok (.iaload, 1) := ky_dc db_L_law_1760 26 rfl
theorem dc_L_law_1797 : decode code 1797 = .ok (.invokevirtual 300, 3) := ky_dc db_L_law_1760 27 rfl
theorem dc_L_law_1800 : decode code 1800 = .ok (.istore 6, 2) := ky_dc db_L_law_1760 28 rfl
theorem dc_L_law_1802 : decode code 1802 = .ok (.goto 492, 3) := ky_dc db_L_law_1760 29 rfl
theorem dc_L_law_1805 : decode code 1805 = .ok (.aload_n 1, 1) := ky_dc db_L_law_1760 30 rfl
theorem dc_L_law_1806 : decode code 1806 = .ok (.aload_n 0, 1) := ky_dc db_L_law_1760 31 rfl
theorem dc_L_law_1807 : decode code 1807 = .ok (.iload 4, 2) := ky_dc db_L_law_1760 32 rfl
theorem dc_L_law_1809 : decode code 1809 = .ok (.iconst 1, 1) := ky_dc db_L_law_1760 33 rfl
theorem dc_L_law_1810 : decode code 1810 = .ok (.iadd, 1) := ky_dc db_L_law_1760 34 rfl
theorem dc_L_law_1811 : decode code 1811 = .ok (.iaload, 1) := ky_dc db_L_law_1760 35 rfl
theorem dc_L_law_1812 : decode code 1812 = .ok (.aload_n 0, 1) := ky_dc db_L_law_1760 36 rfl
theorem dc_L_law_1813 : decode code 1813 = .ok (.iload 4, 2) := ky_dc db_L_law_1760 37 rfl
theorem dc_L_law_1815 : decode code 1815 = .ok (.iconst 2, 1) := ky_dc db_L_law_1760 38 rfl
theorem dc_L_law_1816 : decode code 1816 = .ok (.iadd, 1) := ky_dc db_L_law_1760 39 rfl
theorem dc_L_law_1817 : decode code 1817 = .ok (.iaload, 1) := ky_dc db_L_law_1760 40 rfl
theorem dc_L_law_1818 : decode code 1818 = .ok (.aload_n 3, 1) := ky_dc db_L_law_1760 41 rfl
theorem dc_L_law_1819 : decode code 1819 = .ok (.invokestatic 301, 3) := ky_dc db_L_law_1760 42 rfl
theorem dc_L_law_1822 : decode code 1822 = .ok (.istore 5, 2) := ky_dc db_L_law_1760 43 rfl
theorem dc_L_law_1824 : decode code 1824 = .ok (.aload_n 2, 1) := ky_dc db_L_law_1760 44 rfl
theorem dc_L_law_1825 : decode code 1825 = .ok (.aload_n 0, 1) := ky_dc db_L_law_1760 45 rfl
theorem dc_L_law_1826 : decode code 1826 = .ok (.iload 4, 2) := ky_dc db_L_law_1760 46 rfl
theorem dc_L_law_1828 : decode code 1828 = .ok (.iconst 1, 1) := ky_dc db_L_law_1760 47 rfl
theorem dc_L_law_1829 : decode code 1829 = .ok (.iadd, 1) := ky_dc db_L_law_1760 48 rfl
theorem dc_L_law_1830 : decode code 1830 = .ok (.iaload, 1) := ky_dc db_L_law_1760 49 rfl
theorem dc_L_law_1831 : decode code 1831 = .ok (.aload_n 0, 1) := ky_dc db_L_law_1760 50 rfl
theorem dc_L_law_1832 : decode code 1832 = .ok (.iload 4, 2) := ky_dc db_L_law_1760 51 rfl
theorem dc_L_law_1834 : decode code 1834 = .ok (.iconst 2, 1) := ky_dc db_L_law_1760 52 rfl
theorem dc_L_law_1835 : decode code 1835 = .ok (.iadd, 1) := ky_dc db_L_law_1760 53 rfl
theorem dc_L_law_1836 : decode code 1836 = .ok (.iaload, 1) := ky_dc db_L_law_1760 54 rfl
theorem dc_L_law_1837 : decode code 1837 = .ok (.invokevirtual 303, 3) := ky_dc db_L_law_1760 55 rfl
theorem dc_L_law_1840 : decode code 1840 = .ok (.istore 6, 2) := ky_dc db_L_law_1760 56 rfl
theorem dc_L_law_1842 : decode code 1842 = .ok (.goto 452, 3) := ky_dc db_L_law_1760 57 rfl
theorem dc_L_law_1845 : decode code 1845 = .ok (.aload_n 1, 1) := ky_dc db_L_law_1760 58 rfl
theorem dc_L_law_1846 : decode code 1846 = .ok (.aload_n 0, 1) := ky_dc db_L_law_1760 59 rfl
def dl_L_law_1847 : List (ByteArray × Nat × Jvm.ClassFile.Instr × Nat) := [(code, 1847, .iload 4, 2), (code, 1849, .iconst 1, 1), (code, 1850, .iadd, 1), (code, 1851, .iaload, 1), (code, 1852, .aload_n 0, 1), (code, 1853, .iload 4, 2), (code, 1855, .iconst 2, 1), (code, 1856, .iadd, 1), (code, 1857, .iaload, 1), (code, 1858, .aload_n 3, 1), (code, 1859, .invokestatic 304, 3), (code, 1862, .istore 5, 2), (code, 1864, .aload_n 2, 1), (code, 1865, .aload_n 0, 1), (code, 1866, .iload 4, 2), (code, 1868, .iconst 1, 1), (code, 1869, .iadd, 1), (code, 1870, .iaload, 1), (code, 1871, .aload_n 0, 1), (code, 1872, .iload 4, 2), (code, 1874, .iconst 2, 1), (code, 1875, .iadd, 1), (code, 1876, .iaload, 1), (code, 1877, .invokevirtual 306, 3), (code, 1880, .istore 6, 2), (code, 1882, .goto 412, 3), (code, 1885, .aload_n 1, 1), (code, 1886, .aload_n 0, 1), (code, 1887, .iload 4, 2), (code, 1889, .iconst 1, 1), (code, 1890, .iadd, 1), (code, 1891, .iaload, 1), (code, 1892, .aload_n 0, 1), (code, 1893, .iload 4, 2), (code, 1895, .iconst 2, 1), (code, 1896, .iadd, 1), (code, 1897, .iaload, 1), (code, 1898, .aload_n 3, 1), (code, 1899, .invokestatic 307, 3), (code, 1902, .istore 5, 2), (code, 1904, .aload_n 2, 1), (code, 1905, .aload_n 0, 1), (code, 1906, .iload 4, 2), (code, 1908, .iconst 1, 1), (code, 1909, .iadd, 1), (code, 1910, .iaload, 1), (code, 1911, .aload_n 0, 1), (code, 1912, .iload 4, 2), (code, 1914, .iconst 2, 1), (code, 1915, .iadd, 1), (code, 1916, .iaload, 1), (code, 1917, .invokevirtual 309, 3), (code, 1920, .istore 6, 2), (code, 1922, .goto 372, 3), (code, 1925, .aload_n 1, 1), (code, 1926, .aload_n 0, 1), (code, 1927, .iload 4, 2), (code, 1929, .iconst 1, 1), (code, 1930, .iadd, 1), (code, 1931, .iaload, 1)]
theorem db_L_law_1847 : dl_L_law_1847.all (fun x => decide (decode x.1 x.2.1 = .ok x.2.2)) = true := by decide +kernel
theorem dc_L_law_1847 : decode code 1847 = .ok (.iload 4, 2) := ky_dc db_L_law_1847 0 rfl
theorem dc_L_law_1849 : decode code 1849 = .ok (.iconst 1, 1) := ky_dc db_L_law_1847 1 rfl
theorem dc_L_law_1850 : decode code 1850 = .ok (.iadd, 1) := ky_dc db_L_law_1847 2 rfl
theorem dc_L_law_1851 : decode code 1851 = .ok (.iaload, 1) := ky_dc db_L_law_1847 3 rfl
theorem dc_L_law_1852 : decode code 1852 = .ok (.aload_n 0, 1) := ky_dc db_L_law_1847 4 rfl
theorem dc_L_law_1853 : decode code 1853 = .ok (.iload 4, 2) := ky_dc db_L_law_1847 5 rfl
theorem dc_L_law_1855 : decode code 1855 = .ok (.iconst 2, 1) := ky_dc db_L_law_1847 6 rfl
theorem dc_L_law_1856 : decode code 1856 = .ok (.iadd, 1) := ky_dc db_L_law_1847 7 rfl
theorem dc_L_law_1857 : decode code 1857 = .ok (.iaload, 1) := ky_dc db_L_law_1847 8 rfl
theorem dc_L_law_1858 : decode code 1858 = .ok (.aload_n 3, 1) := ky_dc db_L_law_1847 9 rfl
theorem dc_L_law_1859 : decode code 1859 = .ok (.invokestatic 304, 3) := ky_dc db_L_law_1847 10 rfl
theorem dc_L_law_1862 : decode code 1862 = .ok (.istore 5, 2) := ky_dc db_L_law_1847 11 rfl
theorem dc_L_law_1864 : decode code 1864 = .ok (.aload_n 2, 1) := ky_dc db_L_law_1847 12 rfl
theorem dc_L_law_1865 : decode code 1865 = .ok (.aload_n 0, 1) := ky_dc db_L_law_1847 13 rfl
theorem dc_L_law_1866 : decode code 1866 = .ok (.iload 4, 2) := ky_dc db_L_law_1847 14 rfl
theorem dc_L_law_1868 : decode code 1868 = .ok (.iconst 1, 1) := ky_dc db_L_law_1847 15 rfl
theorem dc_L_law_1869 : decode code 1869 = .ok (.iadd, 1) := ky_dc db_L_law_1847 16 rfl
theorem dc_L_law_1870 : decode code 1870 = .ok (.iaload, 1) := ky_dc db_L_law_1847 17 rfl
theorem dc_L_law_1871 : decode code 1871 = .ok (.aload_n 0, 1) := ky_dc db_L_law_1847 18 rfl
theorem dc_L_law_1872 : decode code 1872 = .ok (.iload 4, 2) := ky_dc db_L_law_1847 19 rfl
theorem dc_L_law_1874 : decode code 1874 = .ok (.iconst 2, 1) := ky_dc db_L_law_1847 20 rfl
theorem dc_L_law_1875 : decode code 1875 = .ok (.iadd, 1) := ky_dc db_L_law_1847 21 rfl
theorem dc_L_law_1876 : decode code 1876 = .ok (.iaload, 1) := ky_dc db_L_law_1847 22 rfl
theorem dc_L_law_1877 : decode code 1877 = .ok (.invokevirtual 306, 3) := ky_dc db_L_law_1847 23 rfl
theorem dc_L_law_1880 : decode code 1880 = .ok (.istore 6, 2) := ky_dc db_L_law_1847 24 rfl
theorem dc_L_law_1882 : decode code 1882 = .ok (.goto 412, 3) := ky_dc db_L_law_1847 25 rfl
theorem dc_L_law_1885 : decode code 1885 = .ok (.aload_n 1, 1) := ky_dc db_L_law_1847 26 rfl
theorem dc_L_law_1886 : decode code 1886 = .ok (.aload_n 0, 1) := ky_dc db_L_law_1847 27 rfl
theorem dc_L_law_1887 : decode code 1887 = .ok (.iload 4, 2) := ky_dc db_L_law_1847 28 rfl
theorem dc_L_law_1889 : decode code 1889 = .ok (.iconst 1, 1) := ky_dc db_L_law_1847 29 rfl
theorem dc_L_law_1890 : decode code 1890 = .ok (.iadd, 1) := ky_dc db_L_law_1847 30 rfl
theorem dc_L_law_1891 : decode code 1891 = .ok (.iaload, 1) := ky_dc db_L_law_1847 31 rfl
theorem dc_L_law_1892 : decode code 1892 = .ok (.aload_n 0, 1) := ky_dc db_L_law_1847 32 rfl
theorem dc_L_law_1893 : decode code 1893 = .ok (.iload 4, 2) := ky_dc db_L_law_1847 33 rfl
theorem dc_L_law_1895 : decode code 1895 = .ok (.iconst 2, 1) := ky_dc db_L_law_1847 34 rfl
theorem dc_L_law_1896 : decode code 1896 = .ok (.iadd, 1) := ky_dc db_L_law_1847 35 rfl
theorem dc_L_law_1897 : decode code 1897 = .ok (.iaload, 1) := ky_dc db_L_law_1847 36 rfl
theorem dc_L_law_1898 : decode code 1898 = .ok (.aload_n 3, 1) := ky_dc db_L_law_1847 37 rfl
theorem dc_L_law_1899 : decode code 1899 = .ok (.invokestatic 307, 3) := ky_dc db_L_law_1847 38 rfl
theorem dc_L_law_1902 : decode code 1902 = .ok (.istore 5, 2) := ky_dc db_L_law_1847 39 rfl
theorem dc_L_law_1904 : decode code 1904 = .ok (.aload_n 2, 1) := ky_dc db_L_law_1847 40 rfl
theorem dc_L_law_1905 : decode code 1905 = .ok (.aload_n 0, 1) := ky_dc db_L_law_1847 41 rfl
theorem dc_L_law_1906 : decode code 1906 = .ok (.iload 4, 2) := ky_dc db_L_law_1847 42 rfl
theorem dc_L_law_1908 : decode code 1908 = .ok (.iconst 1, 1) := ky_dc db_L_law_1847 43 rfl
theorem dc_L_law_1909 : decode code 1909 = .ok (.iadd, 1) := ky_dc db_L_law_1847 44 rfl
theorem dc_L_law_1910 : decode code 1910 = .ok (.iaload, 1) := ky_dc db_L_law_1847 45 rfl
theorem dc_L_law_1911 : decode code 1911 = .ok (.aload_n 0, 1) := ky_dc db_L_law_1847 46 rfl
theorem dc_L_law_1912 : decode code 1912 = .ok (.iload 4, 2) := ky_dc db_L_law_1847 47 rfl
theorem dc_L_law_1914 : decode code 1914 = .ok (.iconst 2, 1) := ky_dc db_L_law_1847 48 rfl
theorem dc_L_law_1915 : decode code 1915 = .ok (.iadd, 1) := ky_dc db_L_law_1847 49 rfl
theorem dc_L_law_1916 : decode code 1916 = .ok (.iaload, 1) := ky_dc db_L_law_1847 50 rfl
theorem dc_L_law_1917 : decode code 1917 = .ok (.invokevirtual 309, 3) := ky_dc db_L_law_1847 51 rfl
theorem dc_L_law_1920 : decode code 1920 = .ok (.istore 6, 2) := ky_dc db_L_law_1847 52 rfl
theorem dc_L_law_1922 : decode code 1922 = .ok (.goto 372, 3) := ky_dc db_L_law_1847 53 rfl
theorem dc_L_law_1925 : decode code 1925 = .ok (.aload_n 1, 1) := ky_dc db_L_law_1847 54 rfl
theorem dc_L_law_1926 : decode code 1926 = .ok (.aload_n 0, 1) := ky_dc db_L_law_1847 55 rfl
theorem dc_L_law_1927 : decode code 1927 = .ok (.iload 4, 2) := ky_dc db_L_law_1847 56 rfl
theorem dc_L_law_1929 : decode code 1929 = .ok (.iconst 1, 1) := ky_dc db_L_law_1847 57 rfl
theorem dc_L_law_1930 : decode code 1930 = .ok (.iadd, 1) := ky_dc db_L_law_1847 58 rfl
theorem dc_L_law_1931 : decode code 1931 = .ok (.iaload, 1) := ky_dc db_L_law_1847 59 rfl
def dl_L_law_1932 : List (ByteArray × Nat × Jvm.ClassFile.Instr × Nat) := [(code, 1932, .aload_n 3, 1), (code, 1933, .invokestatic 310, 3), (code, 1936, .istore 5, 2), (code, 1938, .aload_n 2, 1), (code, 1939, .aload_n 0, 1), (code, 1940, .iload 4, 2), (code, 1942, .iconst 1, 1), (code, 1943, .iadd, 1), (code, 1944, .iaload, 1), (code, 1945, .invokevirtual 312, 3), (code, 1948, .istore 6, 2), (code, 1950, .goto 344, 3), (code, 1953, .aload_n 1, 1), (code, 1954, .aload_n 0, 1), (code, 1955, .iload 4, 2), (code, 1957, .iconst 1, 1), (code, 1958, .iadd, 1), (code, 1959, .iaload, 1), (code, 1960, .aload_n 3, 1), (code, 1961, .invokestatic 313, 3), (code, 1964, .istore 5, 2), (code, 1966, .aload_n 2, 1), (code, 1967, .aload_n 0, 1), (code, 1968, .iload 4, 2), (code, 1970, .iconst 1, 1), (code, 1971, .iadd, 1), (code, 1972, .iaload, 1), (code, 1973, .invokevirtual 315, 3), (code, 1976, .astore 6, 2), (code, 1978, .goto 316, 3), (code, 1981, .aload_n 1, 1), (code, 1982, .aload_n 0, 1), (code, 1983, .iload 4, 2), (code, 1985, .iconst 1, 1), (code, 1986, .iadd, 1), (code, 1987, .iaload, 1), (code, 1988, .aload_n 3, 1), (code, 1989, .invokestatic 316, 3), (code, 1992, .istore 5, 2), (code, 1994, .aload_n 2, 1), (code, 1995, .aload_n 0, 1), (code, 1996, .iload 4, 2), (code, 1998, .iconst 1, 1), (code, 1999, .iadd, 1), (code, 2000, .iaload, 1), (code, 2001, .invokevirtual 318, 3), (code, 2004, .astore 6, 2), (code, 2006, .goto 288, 3), (code, 2009, .aload_n 1, 1), (code, 2010, .aload_n 0, 1), (code, 2011, .iload 4, 2), (code, 2013, .iconst 1, 1), (code, 2014, .iadd, 1), (code, 2015, .iaload, 1), (code, 2016, .aload_n 3, 1), (code, 2017, .invokestatic 319, 3), (code, 2020, .istore 5, 2), (code, 2022, .aload_n 2, 1), (code, 2023, .aload_n 0, 1), (code, 2024, .iload 4, 2)]
theorem db_L_law_1932 : dl_L_law_1932.all (fun x => decide (decode x.1 x.2.1 = .ok x.2.2)) = true := by decide +kernel
theorem dc_L_law_1932 : decode code 1932 = .ok (.aload_n 3, 1) := ky_dc db_L_law_1932 0 rfl
theorem dc_L_law_1933 : decode code 1933 = .ok (.invokestatic 310, 3) := ky_dc db_L_law_1932 1 rfl
theorem dc_L_law_1936 : decode code 1936 = .ok (.istore 5, 2) := ky_dc db_L_law_1932 2 rfl
theorem dc_L_law_1938 : decode code 1938 = .ok (.aload_n 2, 1) := ky_dc db_L_law_1932 3 rfl
theorem dc_L_law_1939 : decode code 1939 = .ok (.aload_n 0, 1) := ky_dc db_L_law_1932 4 rfl
theorem dc_L_law_1940 : decode code 1940 = .ok (.iload 4, 2) := ky_dc db_L_law_1932 5 rfl
theorem dc_L_law_1942 : decode code 1942 = .ok (.iconst 1, 1) := ky_dc db_L_law_1932 6 rfl
theorem dc_L_law_1943 : decode code 1943 = .ok (.iadd, 1) := ky_dc db_L_law_1932 7 rfl
theorem dc_L_law_1944 : decode code 1944 = .ok (.iaload, 1) := ky_dc db_L_law_1932 8 rfl
theorem dc_L_law_1945 : decode code 1945 = .ok (.invokevirtual 312, 3) := ky_dc db_L_law_1932 9 rfl
theorem dc_L_law_1948 : decode code 1948 = .ok (.istore 6, 2) := ky_dc db_L_law_1932 10 rfl
theorem dc_L_law_1950 : decode code 1950 = .ok (.goto 344, 3) := ky_dc db_L_law_1932 11 rfl
theorem dc_L_law_1953 : decode code 1953 = .ok (.aload_n 1, 1) := ky_dc db_L_law_1932 12 rfl
theorem dc_L_law_1954 : decode code 1954 = .ok (.aload_n 0, 1) := ky_dc db_L_law_1932 13 rfl
theorem dc_L_law_1955 : decode code 1955 = .ok (.iload 4, 2) := ky_dc db_L_law_1932 14 rfl
theorem dc_L_law_1957 : decode code 1957 = .ok (.iconst 1, 1) := ky_dc db_L_law_1932 15 rfl
theorem dc_L_law_1958 : decode code 1958 = .ok (.iadd, 1) := ky_dc db_L_law_1932 16 rfl
theorem dc_L_law_1959 : decode code 1959 = .ok (.iaload, 1) := ky_dc db_L_law_1932 17 rfl
theorem dc_L_law_1960 : decode code 1960 = .ok (.aload_n 3, 1) := ky_dc db_L_law_1932 18 rfl
theorem dc_L_law_1961 : decode code 1961 = .ok (.invokestatic 313, 3) := ky_dc db_L_law_1932 19 rfl
theorem dc_L_law_1964 : decode code 1964 = .ok (.istore 5, 2) := ky_dc db_L_law_1932 20 rfl
theorem dc_L_law_1966 : decode code 1966 = .ok (.aload_n 2, 1) := ky_dc db_L_law_1932 21 rfl
theorem dc_L_law_1967 : decode code 1967 = .ok (.aload_n 0, 1) := ky_dc db_L_law_1932 22 rfl
theorem dc_L_law_1968 : decode code 1968 = .ok (.iload 4, 2) := ky_dc db_L_law_1932 23 rfl
theorem dc_L_law_1970 : decode code 1970 = .ok (.iconst 1, 1) := ky_dc db_L_law_1932 24 rfl
theorem dc_L_law_1971 : decode code 1971 = .ok (.iadd, 1) := ky_dc db_L_law_1932 25 rfl
theorem dc_L_law_1972 : decode code 1972 = .ok (.iaload, 1) := ky_dc db_L_law_1932 26 rfl
theorem dc_L_law_1973 : decode code 1973 = .ok (.invokevirtual 315, 3) := ky_dc db_L_law_1932 27 rfl
theorem dc_L_law_1976 : decode code 1976 = .ok (.astore 6, 2) := ky_dc db_L_law_1932 28 rfl
theorem dc_L_law_1978 : decode code 1978 = .ok (.goto 316, 3) := ky_dc db_L_law_1932 29 rfl
theorem dc_L_law_1981 : decode code 1981 = .ok (.aload_n 1, 1) := ky_dc db_L_law_1932 30 rfl
theorem dc_L_law_1982 : decode code 1982 = .ok (.aload_n 0, 1) := ky_dc db_L_law_1932 31 rfl
theorem dc_L_law_1983 : decode code 1983 = .ok (.iload 4, 2) := ky_dc db_L_law_1932 32 rfl
theorem dc_L_law_1985 : decode code 1985 = .ok (.iconst 1, 1) := ky_dc db_L_law_1932 33 rfl
theorem dc_L_law_1986 : decode code 1986 = .ok (.iadd, 1) := ky_dc db_L_law_1932 34 rfl
theorem dc_L_law_1987 : decode code 1987 = .ok (.iaload, 1) := ky_dc db_L_law_1932 35 rfl
theorem dc_L_law_1988 : decode code 1988 = .ok (.aload_n 3, 1) := ky_dc db_L_law_1932 36 rfl
theorem dc_L_law_1989 : decode code 1989 = .ok (.invokestatic 316, 3) := ky_dc db_L_law_1932 37 rfl
theorem dc_L_law_1992 : decode code 1992 = .ok (.istore 5, 2) := ky_dc db_L_law_1932 38 rfl
theorem dc_L_law_1994 : decode code 1994 = .ok (.aload_n 2, 1) := ky_dc db_L_law_1932 39 rfl
theorem dc_L_law_1995 : decode code 1995 = .ok (.aload_n 0, 1) := ky_dc db_L_law_1932 40 rfl
theorem dc_L_law_1996 : decode code 1996 = .ok (.iload 4, 2) := ky_dc db_L_law_1932 41 rfl
theorem dc_L_law_1998 : decode code 1998 = .ok (.iconst 1, 1) := ky_dc db_L_law_1932 42 rfl
theorem dc_L_law_1999 : decode code 1999 = .ok (.iadd, 1) := ky_dc db_L_law_1932 43 rfl
theorem dc_L_law_2000 : decode code 2000 = .ok (.iaload, 1) := ky_dc db_L_law_1932 44 rfl
theorem dc_L_law_2001 : decode code 2001 = .ok (.invokevirtual 318, 3) := ky_dc db_L_law_1932 45 rfl
theorem dc_L_law_2004 : decode code 2004 = .ok (.astore 6, 2) := ky_dc db_L_law_1932 46 rfl
theorem dc_L_law_2006 : decode code 2006 = .ok (.goto 288, 3) := ky_dc db_L_law_1932 47 rfl
theorem dc_L_law_2009 : decode code 2009 = .ok (.aload_n 1, 1) := ky_dc db_L_law_1932 48 rfl
theorem dc_L_law_2010 : decode code 2010 = .ok (.aload_n 0, 1) := ky_dc db_L_law_1932 49 rfl
theorem dc_L_law_2011 : decode code 2011 = .ok (.iload 4, 2) := ky_dc db_L_law_1932 50 rfl
theorem dc_L_law_2013 : decode code 2013 = .ok (.iconst 1, 1) := ky_dc db_L_law_1932 51 rfl
theorem dc_L_law_2014 : decode code 2014 = .ok (.iadd, 1) := ky_dc db_L_law_1932 52 rfl
theorem dc_L_law_2015 : decode code 2015 = .ok (.iaload, 1) := ky_dc db_L_law_1932 53 rfl
theorem dc_L_law_2016 : decode code 2016 = .ok (.aload_n 3, 1) := ky_dc db_L_law_1932 54 rfl
theorem dc_L_law_2017 : decode code 2017 = .ok (.invokestatic 319, 3) := ky_dc db_L_law_1932 55 rfl
theorem dc_L_law_2020 : decode code 2020 = .ok (.istore 5, 2) := ky_dc db_L_law_1932 56 rfl
theorem dc_L_law_2022 : decode code 2022 = .ok (.aload_n 2, 1) := ky_dc db_L_law_1932 57 rfl
theorem dc_L_law_2023 : decode code 2023 = .ok (.aload_n 0, 1) := ky_dc db_L_law_1932 58 rfl
theorem dc_L_law_2024 : decode code 2024 = .ok (.iload 4, 2) := ky_dc db_L_law_1932 59 rfl
def dl_L_law_2026 : List (ByteArray × Nat × Jvm.ClassFile.Instr × Nat) := [(code, 2026, .iconst 1, 1), (code, 2027, .iadd, 1), (code, 2028, .iaload, 1), (code, 2029, .invokevirtual 321, 3), (code, 2032, .astore 6, 2), (code, 2034, .goto 260, 3), (code, 2037, .aload_n 1, 1), (code, 2038, .aload_n 0, 1), (code, 2039, .iload 4, 2), (code, 2041, .iconst 1, 1), (code, 2042, .iadd, 1), (code, 2043, .iaload, 1), (code, 2044, .aload_n 3, 1), (code, 2045, .invokestatic 322, 3), (code, 2048, .istore 5, 2), (code, 2050, .aload_n 2, 1), (code, 2051, .aload_n 0, 1), (code, 2052, .iload 4, 2), (code, 2054, .iconst 1, 1), (code, 2055, .iadd, 1), (code, 2056, .iaload, 1), (code, 2057, .invokevirtual 324, 3), (code, 2060, .astore 6, 2), (code, 2062, .goto 232, 3), (code, 2065, .aload_n 1, 1), (code, 2066, .aload_n 0, 1), (code, 2067, .iload 4, 2), (code, 2069, .iconst 1, 1), (code, 2070, .iadd, 1), (code, 2071, .iaload, 1), (code, 2072, .aload_n 0, 1), (code, 2073, .iload 4, 2), (code, 2075, .iconst 2, 1), (code, 2076, .iadd, 1), (code, 2077, .iaload, 1), (code, 2078, .ifCond .eq 7, 3), (code, 2085, .iconst 0, 1), (code, 2086, .aload_n 3, 1), (code, 2087, .invokestatic 325, 3), (code, 2090, .istore 5, 2), (code, 2092, .aload_n 2, 1), (code, 2093, .aload_n 0, 1), (code, 2094, .iload 4, 2), (code, 2096, .iconst 1, 1), (code, 2097, .iadd, 1), (code, 2098, .iaload, 1), (code, 2099, .aload_n 0, 1), (code, 2100, .iload 4, 2), (code, 2102, .iconst 2, 1), (code, 2103, .iadd, 1), (code, 2104, .iaload, 1), (code, 2105, .ifCond .eq 7, 3), (code, 2112, .iconst 0, 1), (code, 2113, .invokevirtual 327, 3), (code, 2116, .astore 6, 2), (code, 2118, .goto 176, 3), (code, 2081, .iconst 1, 1), (code, 2082, .goto 4, 3), (code, 2108, .iconst 1, 1), (code, 2109, .goto 4, 3)]
theorem db_L_law_2026 : dl_L_law_2026.all (fun x => decide (decode x.1 x.2.1 = .ok x.2.2)) = true := by decide +kernel
theorem dc_L_law_2026 : decode code 2026 = .ok (.iconst 1, 1) := ky_dc db_L_law_2026 0 rfl
theorem dc_L_law_2027 : decode code 2027 = .ok (.iadd, 1) := ky_dc db_L_law_2026 1 rfl
theorem dc_L_law_2028 : decode code 2028 = .ok (.iaload, 1) := ky_dc db_L_law_2026 2 rfl
theorem dc_L_law_2029 : decode code 2029 = .ok (.invokevirtual 321, 3) := ky_dc db_L_law_2026 3 rfl
theorem dc_L_law_2032 : decode code 2032 = .ok (.astore 6, 2) := ky_dc db_L_law_2026 4 rfl
theorem dc_L_law_2034 : decode code 2034 = .ok (.goto 260, 3) := ky_dc db_L_law_2026 5 rfl
theorem dc_L_law_2037 : decode code 2037 = .ok (.aload_n 1, 1) := ky_dc db_L_law_2026 6 rfl
theorem dc_L_law_2038 : decode code 2038 = .ok (.aload_n 0, 1) := ky_dc db_L_law_2026 7 rfl
theorem dc_L_law_2039 : decode code 2039 = .ok (.iload 4, 2) := ky_dc db_L_law_2026 8 rfl
theorem dc_L_law_2041 : decode code 2041 = .ok (.iconst 1, 1) := ky_dc db_L_law_2026 9 rfl
theorem dc_L_law_2042 : decode code 2042 = .ok (.iadd, 1) := ky_dc db_L_law_2026 10 rfl
theorem dc_L_law_2043 : decode code 2043 = .ok (.iaload, 1) := ky_dc db_L_law_2026 11 rfl
theorem dc_L_law_2044 : decode code 2044 = .ok (.aload_n 3, 1) := ky_dc db_L_law_2026 12 rfl
theorem dc_L_law_2045 : decode code 2045 = .ok (.invokestatic 322, 3) := ky_dc db_L_law_2026 13 rfl
theorem dc_L_law_2048 : decode code 2048 = .ok (.istore 5, 2) := ky_dc db_L_law_2026 14 rfl
theorem dc_L_law_2050 : decode code 2050 = .ok (.aload_n 2, 1) := ky_dc db_L_law_2026 15 rfl
theorem dc_L_law_2051 : decode code 2051 = .ok (.aload_n 0, 1) := ky_dc db_L_law_2026 16 rfl
theorem dc_L_law_2052 : decode code 2052 = .ok (.iload 4, 2) := ky_dc db_L_law_2026 17 rfl
theorem dc_L_law_2054 : decode code 2054 = .ok (.iconst 1, 1) := ky_dc db_L_law_2026 18 rfl
theorem dc_L_law_2055 : decode code 2055 = .ok (.iadd, 1) := ky_dc db_L_law_2026 19 rfl
theorem dc_L_law_2056 : decode code 2056 = .ok (.iaload, 1) := ky_dc db_L_law_2026 20 rfl
theorem dc_L_law_2057 : decode code 2057 = .ok (.invokevirtual 324, 3) := ky_dc db_L_law_2026 21 rfl
theorem dc_L_law_2060 : decode code 2060 = .ok (.astore 6, 2) := ky_dc db_L_law_2026 22 rfl
theorem dc_L_law_2062 : decode code 2062 = .ok (.goto 232, 3) := ky_dc db_L_law_2026 23 rfl
theorem dc_L_law_2065 : decode code 2065 = .ok (.aload_n 1, 1) := ky_dc db_L_law_2026 24 rfl
theorem dc_L_law_2066 : decode code 2066 = .ok (.aload_n 0, 1) := ky_dc db_L_law_2026 25 rfl
theorem dc_L_law_2067 : decode code 2067 = .ok (.iload 4, 2) := ky_dc db_L_law_2026 26 rfl
theorem dc_L_law_2069 : decode code 2069 = .ok (.iconst 1, 1) := ky_dc db_L_law_2026 27 rfl
theorem dc_L_law_2070 : decode code 2070 = .ok (.iadd, 1) := ky_dc db_L_law_2026 28 rfl
theorem dc_L_law_2071 : decode code 2071 = .ok (.iaload, 1) := ky_dc db_L_law_2026 29 rfl
theorem dc_L_law_2072 : decode code 2072 = .ok (.aload_n 0, 1) := ky_dc db_L_law_2026 30 rfl
theorem dc_L_law_2073 : decode code 2073 = .ok (.iload 4, 2) := ky_dc db_L_law_2026 31 rfl
theorem dc_L_law_2075 : decode code 2075 = .ok (.iconst 2, 1) := ky_dc db_L_law_2026 32 rfl
theorem dc_L_law_2076 : decode code 2076 = .ok (.iadd, 1) := ky_dc db_L_law_2026 33 rfl
theorem dc_L_law_2077 : decode code 2077 = .ok (.iaload, 1) := ky_dc db_L_law_2026 34 rfl
theorem dc_L_law_2078 : decode code 2078 = .ok (.ifCond .eq 7, 3) := ky_dc db_L_law_2026 35 rfl
theorem dc_L_law_2085 : decode code 2085 = .ok (.iconst 0, 1) := ky_dc db_L_law_2026 36 rfl
theorem dc_L_law_2086 : decode code 2086 = .ok (.aload_n 3, 1) := ky_dc db_L_law_2026 37 rfl
theorem dc_L_law_2087 : decode code 2087 = .ok (.invokestatic 325, 3) := ky_dc db_L_law_2026 38 rfl
theorem dc_L_law_2090 : decode code 2090 = .ok (.istore 5, 2) := ky_dc db_L_law_2026 39 rfl
theorem dc_L_law_2092 : decode code 2092 = .ok (.aload_n 2, 1) := ky_dc db_L_law_2026 40 rfl
theorem dc_L_law_2093 : decode code 2093 = .ok (.aload_n 0, 1) := ky_dc db_L_law_2026 41 rfl
theorem dc_L_law_2094 : decode code 2094 = .ok (.iload 4, 2) := ky_dc db_L_law_2026 42 rfl
theorem dc_L_law_2096 : decode code 2096 = .ok (.iconst 1, 1) := ky_dc db_L_law_2026 43 rfl
theorem dc_L_law_2097 : decode code 2097 = .ok (.iadd, 1) := ky_dc db_L_law_2026 44 rfl
theorem dc_L_law_2098 : decode code 2098 = .ok (.iaload, 1) := ky_dc db_L_law_2026 45 rfl
theorem dc_L_law_2099 : decode code 2099 = .ok (.aload_n 0, 1) := ky_dc db_L_law_2026 46 rfl
theorem dc_L_law_2100 : decode code 2100 = .ok (.iload 4, 2) := ky_dc db_L_law_2026 47 rfl
theorem dc_L_law_2102 : decode code 2102 = .ok (.iconst 2, 1) := ky_dc db_L_law_2026 48 rfl
theorem dc_L_law_2103 : decode code 2103 = .ok (.iadd, 1) := ky_dc db_L_law_2026 49 rfl
theorem dc_L_law_2104 : decode code 2104 = .ok (.iaload, 1) := ky_dc db_L_law_2026 50 rfl
theorem dc_L_law_2105 : decode code 2105 = .ok (.ifCond .eq 7, 3) := ky_dc db_L_law_2026 51 rfl
theorem dc_L_law_2112 : decode code 2112 = .ok (.iconst 0, 1) := ky_dc db_L_law_2026 52 rfl
theorem dc_L_law_2113 : decode code 2113 = .ok (.invokevirtual 327, 3) := ky_dc db_L_law_2026 53 rfl
theorem dc_L_law_2116 : decode code 2116 = .ok (.astore 6, 2) := ky_dc db_L_law_2026 54 rfl
theorem dc_L_law_2118 : decode code 2118 = .ok (.goto 176, 3) := ky_dc db_L_law_2026 55 rfl
theorem dc_L_law_2081 : decode code 2081 = .ok (.iconst 1, 1) := ky_dc db_L_law_2026 56 rfl
theorem dc_L_law_2082 : decode code 2082 = .ok (.goto 4, 3) := ky_dc db_L_law_2026 57 rfl
theorem dc_L_law_2108 : decode code 2108 = .ok (.iconst 1, 1) := ky_dc db_L_law_2026 58 rfl
theorem dc_L_law_2109 : decode code 2109 = .ok (.goto 4, 3) := ky_dc db_L_law_2026 59 rfl
def dl_L_law_2121 : List (ByteArray × Nat × Jvm.ClassFile.Instr × Nat) := [(code, 2121, .aload_n 1, 1), (code, 2122, .aload_n 0, 1), (code, 2123, .iload 4, 2), (code, 2125, .iconst 1, 1), (code, 2126, .iadd, 1), (code, 2127, .iaload, 1), (code, 2128, .aload_n 0, 1), (code, 2129, .iload 4, 2), (code, 2131, .iconst 2, 1), (code, 2132, .iadd, 1), (code, 2133, .iaload, 1), (code, 2134, .aload_n 3, 1), (code, 2135, .invokestatic 328, 3), (code, 2138, .istore 5, 2), (code, 2140, .aload_n 2, 1), (code, 2141, .aload_n 0, 1), (code, 2142, .iload 4, 2), (code, 2144, .iconst 1, 1), (code, 2145, .iadd, 1), (code, 2146, .iaload, 1), (code, 2147, .aload_n 0, 1), (code, 2148, .iload 4, 2), (code, 2150, .iconst 2, 1), (code, 2151, .iadd, 1), (code, 2152, .iaload, 1), (code, 2153, .invokevirtual 330, 3), (code, 2156, .astore 6, 2), (code, 2158, .goto 136, 3), (code, 2161, .aload_n 1, 1), (code, 2162, .aload_n 0, 1), (code, 2163, .iload 4, 2), (code, 2165, .iconst 1, 1), (code, 2166, .iadd, 1), (code, 2167, .iaload, 1), (code, 2168, .aload_n 0, 1), (code, 2169, .iload 4, 2), (code, 2171, .iconst 2, 1), (code, 2172, .iadd, 1), (code, 2173, .iaload, 1), (code, 2174, .aload_n 3, 1), (code, 2175, .invokestatic 331, 3), (code, 2178, .istore 5, 2), (code, 2180, .aload_n 2, 1), (code, 2181, .aload_n 0, 1), (code, 2182, .iload 4, 2), (code, 2184, .iconst 1, 1), (code, 2185, .iadd, 1), (code, 2186, .iaload, 1), (code, 2187, .aload_n 0, 1), (code, 2188, .iload 4, 2), (code, 2190, .iconst 2, 1), (code, 2191, .iadd, 1), (code, 2192, .iaload, 1), (code, 2193, .invokevirtual 333, 3), (code, 2196, .istore 6, 2), (code, 2198, .goto 96, 3), (code, 2201, .aload_n 1, 1), (code, 2202, .invokevirtual 334, 3), (code, 2205, .pop, 1), (code, 2206, .aload_n 2, 1)]
theorem db_L_law_2121 : dl_L_law_2121.all (fun x => decide (decode x.1 x.2.1 = .ok x.2.2)) = true := by decide +kernel
theorem dc_L_law_2121 : decode code 2121 = .ok (.aload_n 1, 1) := ky_dc db_L_law_2121 0 rfl
theorem dc_L_law_2122 : decode code 2122 = .ok (.aload_n 0, 1) := ky_dc db_L_law_2121 1 rfl
theorem dc_L_law_2123 : decode code 2123 = .ok (.iload 4, 2) := ky_dc db_L_law_2121 2 rfl
theorem dc_L_law_2125 : decode code 2125 = .ok (.iconst 1, 1) := ky_dc db_L_law_2121 3 rfl
theorem dc_L_law_2126 : decode code 2126 = .ok (.iadd, 1) := ky_dc db_L_law_2121 4 rfl
theorem dc_L_law_2127 : decode code 2127 = .ok (.iaload, 1) := ky_dc db_L_law_2121 5 rfl
theorem dc_L_law_2128 : decode code 2128 = .ok (.aload_n 0, 1) := ky_dc db_L_law_2121 6 rfl
theorem dc_L_law_2129 : decode code 2129 = .ok (.iload 4, 2) := ky_dc db_L_law_2121 7 rfl
theorem dc_L_law_2131 : decode code 2131 = .ok (.iconst 2, 1) := ky_dc db_L_law_2121 8 rfl
theorem dc_L_law_2132 : decode code 2132 = .ok (.iadd, 1) := ky_dc db_L_law_2121 9 rfl
theorem dc_L_law_2133 : decode code 2133 = .ok (.iaload, 1) := ky_dc db_L_law_2121 10 rfl
theorem dc_L_law_2134 : decode code 2134 = .ok (.aload_n 3, 1) := ky_dc db_L_law_2121 11 rfl
theorem dc_L_law_2135 : decode code 2135 = .ok (.invokestatic 328, 3) := ky_dc db_L_law_2121 12 rfl
theorem dc_L_law_2138 : decode code 2138 = .ok (.istore 5, 2) := ky_dc db_L_law_2121 13 rfl
theorem dc_L_law_2140 : decode code 2140 = .ok (.aload_n 2, 1) := ky_dc db_L_law_2121 14 rfl
theorem dc_L_law_2141 : decode code 2141 = .ok (.aload_n 0, 1) := ky_dc db_L_law_2121 15 rfl
theorem dc_L_law_2142 : decode code 2142 = .ok (.iload 4, 2) := ky_dc db_L_law_2121 16 rfl
theorem dc_L_law_2144 : decode code 2144 = .ok (.iconst 1, 1) := ky_dc db_L_law_2121 17 rfl
theorem dc_L_law_2145 : decode code 2145 = .ok (.iadd, 1) := ky_dc db_L_law_2121 18 rfl
theorem dc_L_law_2146 : decode code 2146 = .ok (.iaload, 1) := ky_dc db_L_law_2121 19 rfl
theorem dc_L_law_2147 : decode code 2147 = .ok (.aload_n 0, 1) := ky_dc db_L_law_2121 20 rfl
theorem dc_L_law_2148 : decode code 2148 = .ok (.iload 4, 2) := ky_dc db_L_law_2121 21 rfl
theorem dc_L_law_2150 : decode code 2150 = .ok (.iconst 2, 1) := ky_dc db_L_law_2121 22 rfl
theorem dc_L_law_2151 : decode code 2151 = .ok (.iadd, 1) := ky_dc db_L_law_2121 23 rfl
theorem dc_L_law_2152 : decode code 2152 = .ok (.iaload, 1) := ky_dc db_L_law_2121 24 rfl
theorem dc_L_law_2153 : decode code 2153 = .ok (.invokevirtual 330, 3) := ky_dc db_L_law_2121 25 rfl
theorem dc_L_law_2156 : decode code 2156 = .ok (.astore 6, 2) := ky_dc db_L_law_2121 26 rfl
theorem dc_L_law_2158 : decode code 2158 = .ok (.goto 136, 3) := ky_dc db_L_law_2121 27 rfl
theorem dc_L_law_2161 : decode code 2161 = .ok (.aload_n 1, 1) := ky_dc db_L_law_2121 28 rfl
theorem dc_L_law_2162 : decode code 2162 = .ok (.aload_n 0, 1) := ky_dc db_L_law_2121 29 rfl
theorem dc_L_law_2163 : decode code 2163 = .ok (.iload 4, 2) := ky_dc db_L_law_2121 30 rfl
theorem dc_L_law_2165 : decode code 2165 = .ok (.iconst 1, 1) := ky_dc db_L_law_2121 31 rfl
theorem dc_L_law_2166 : decode code 2166 = .ok (.iadd, 1) := ky_dc db_L_law_2121 32 rfl
theorem dc_L_law_2167 : decode code 2167 = .ok (.iaload, 1) := ky_dc db_L_law_2121 33 rfl
theorem dc_L_law_2168 : decode code 2168 = .ok (.aload_n 0, 1) := ky_dc db_L_law_2121 34 rfl
theorem dc_L_law_2169 : decode code 2169 = .ok (.iload 4, 2) := ky_dc db_L_law_2121 35 rfl
theorem dc_L_law_2171 : decode code 2171 = .ok (.iconst 2, 1) := ky_dc db_L_law_2121 36 rfl
theorem dc_L_law_2172 : decode code 2172 = .ok (.iadd, 1) := ky_dc db_L_law_2121 37 rfl
theorem dc_L_law_2173 : decode code 2173 = .ok (.iaload, 1) := ky_dc db_L_law_2121 38 rfl
theorem dc_L_law_2174 : decode code 2174 = .ok (.aload_n 3, 1) := ky_dc db_L_law_2121 39 rfl
theorem dc_L_law_2175 : decode code 2175 = .ok (.invokestatic 331, 3) := ky_dc db_L_law_2121 40 rfl
theorem dc_L_law_2178 : decode code 2178 = .ok (.istore 5, 2) := ky_dc db_L_law_2121 41 rfl
theorem dc_L_law_2180 : decode code 2180 = .ok (.aload_n 2, 1) := ky_dc db_L_law_2121 42 rfl
theorem dc_L_law_2181 : decode code 2181 = .ok (.aload_n 0, 1) := ky_dc db_L_law_2121 43 rfl
theorem dc_L_law_2182 : decode code 2182 = .ok (.iload 4, 2) := ky_dc db_L_law_2121 44 rfl
theorem dc_L_law_2184 : decode code 2184 = .ok (.iconst 1, 1) := ky_dc db_L_law_2121 45 rfl
theorem dc_L_law_2185 : decode code 2185 = .ok (.iadd, 1) := ky_dc db_L_law_2121 46 rfl
theorem dc_L_law_2186 : decode code 2186 = .ok (.iaload, 1) := ky_dc db_L_law_2121 47 rfl
theorem dc_L_law_2187 : decode code 2187 = .ok (.aload_n 0, 1) := ky_dc db_L_law_2121 48 rfl
theorem dc_L_law_2188 : decode code 2188 = .ok (.iload 4, 2) := ky_dc db_L_law_2121 49 rfl
theorem dc_L_law_2190 : decode code 2190 = .ok (.iconst 2, 1) := ky_dc db_L_law_2121 50 rfl
theorem dc_L_law_2191 : decode code 2191 = .ok (.iadd, 1) := ky_dc db_L_law_2121 51 rfl
theorem dc_L_law_2192 : decode code 2192 = .ok (.iaload, 1) := ky_dc db_L_law_2121 52 rfl
theorem dc_L_law_2193 : decode code 2193 = .ok (.invokevirtual 333, 3) := ky_dc db_L_law_2121 53 rfl
theorem dc_L_law_2196 : decode code 2196 = .ok (.istore 6, 2) := ky_dc db_L_law_2121 54 rfl
theorem dc_L_law_2198 : decode code 2198 = .ok (.goto 96, 3) := ky_dc db_L_law_2121 55 rfl
theorem dc_L_law_2201 : decode code 2201 = .ok (.aload_n 1, 1) := ky_dc db_L_law_2121 56 rfl
theorem dc_L_law_2202 : decode code 2202 = .ok (.invokevirtual 334, 3) := ky_dc db_L_law_2121 57 rfl
theorem dc_L_law_2205 : decode code 2205 = .ok (.pop, 1) := ky_dc db_L_law_2121 58 rfl
theorem dc_L_law_2206 : decode code 2206 = .ok (.aload_n 2, 1) := ky_dc db_L_law_2121 59 rfl
def dl_L_law_2207 : List (ByteArray × Nat × Jvm.ClassFile.Instr × Nat) := [(code, 2207, .invokevirtual 338, 3), (code, 2210, .pop, 1), (code, 2211, .goto 83, 3), (code, 2214, .aload_n 1, 1), (code, 2215, .invokevirtual 339, 3), (code, 2218, .pop, 1), (code, 2219, .aload_n 2, 1), (code, 2220, .invokevirtual 342, 3), (code, 2223, .pop, 1), (code, 2224, .goto 70, 3), (code, 2227, .aload_n 1, 1), (code, 2228, .invokevirtual 343, 3), (code, 2231, .pop, 1), (code, 2232, .aload_n 2, 1), (code, 2233, .invokevirtual 346, 3), (code, 2236, .pop, 1), (code, 2237, .goto 57, 3), (code, 2240, .aload_n 1, 1), (code, 2241, .aload_n 0, 1), (code, 2242, .iload 4, 2), (code, 2244, .iconst 1, 1), (code, 2245, .iadd, 1), (code, 2246, .iaload, 1), (code, 2247, .aload_n 3, 1), (code, 2248, .invokestatic 347, 3), (code, 2251, .istore 5, 2), (code, 2253, .aload_n 2, 1), (code, 2254, .aload_n 0, 1), (code, 2255, .iload 4, 2), (code, 2257, .iconst 1, 1), (code, 2258, .iadd, 1), (code, 2259, .iaload, 1), (code, 2260, .invokevirtual 349, 3), (code, 2263, .istore 6, 2), (code, 2265, .goto 29, 3), (code, 2268, .aload_n 1, 1), (code, 2269, .invokevirtual 350, 3), (code, 2272, .pop, 1), (code, 2273, .aload_n 2, 1), (code, 2274, .invokevirtual 354, 3), (code, 2277, .pop, 1), (code, 2278, .goto 16, 3), (code, 2281, .aload_n 1, 1), (code, 2282, .invokevirtual 355, 3), (code, 2285, .pop2, 1), (code, 2286, .aload_n 2, 1), (code, 2287, .invokevirtual 359, 3), (code, 2290, .pop2, 1), (code, 2291, .goto 3, 3)]
theorem db_L_law_2207 : dl_L_law_2207.all (fun x => decide (decode x.1 x.2.1 = .ok x.2.2)) = true := by decide +kernel
theorem dc_L_law_2207 : decode code 2207 = .ok (.invokevirtual 338, 3) := ky_dc db_L_law_2207 0 rfl
theorem dc_L_law_2210 : decode code 2210 = .ok (.pop, 1) := ky_dc db_L_law_2207 1 rfl
theorem dc_L_law_2211 : decode code 2211 = .ok (.goto 83, 3) := ky_dc db_L_law_2207 2 rfl
theorem dc_L_law_2214 : decode code 2214 = .ok (.aload_n 1, 1) := ky_dc db_L_law_2207 3 rfl
theorem dc_L_law_2215 : decode code 2215 = .ok (.invokevirtual 339, 3) := ky_dc db_L_law_2207 4 rfl
theorem dc_L_law_2218 : decode code 2218 = .ok (.pop, 1) := ky_dc db_L_law_2207 5 rfl
theorem dc_L_law_2219 : decode code 2219 = .ok (.aload_n 2, 1) := ky_dc db_L_law_2207 6 rfl
theorem dc_L_law_2220 : decode code 2220 = .ok (.invokevirtual 342, 3) := ky_dc db_L_law_2207 7 rfl
theorem dc_L_law_2223 : decode code 2223 = .ok (.pop, 1) := ky_dc db_L_law_2207 8 rfl
theorem dc_L_law_2224 : decode code 2224 = .ok (.goto 70, 3) := ky_dc db_L_law_2207 9 rfl
theorem dc_L_law_2227 : decode code 2227 = .ok (.aload_n 1, 1) := ky_dc db_L_law_2207 10 rfl
theorem dc_L_law_2228 : decode code 2228 = .ok (.invokevirtual 343, 3) := ky_dc db_L_law_2207 11 rfl
theorem dc_L_law_2231 : decode code 2231 = .ok (.pop, 1) := ky_dc db_L_law_2207 12 rfl
theorem dc_L_law_2232 : decode code 2232 = .ok (.aload_n 2, 1) := ky_dc db_L_law_2207 13 rfl
theorem dc_L_law_2233 : decode code 2233 = .ok (.invokevirtual 346, 3) := ky_dc db_L_law_2207 14 rfl
theorem dc_L_law_2236 : decode code 2236 = .ok (.pop, 1) := ky_dc db_L_law_2207 15 rfl
theorem dc_L_law_2237 : decode code 2237 = .ok (.goto 57, 3) := ky_dc db_L_law_2207 16 rfl
theorem dc_L_law_2240 : decode code 2240 = .ok (.aload_n 1, 1) := ky_dc db_L_law_2207 17 rfl
theorem dc_L_law_2241 : decode code 2241 = .ok (.aload_n 0, 1) := ky_dc db_L_law_2207 18 rfl
theorem dc_L_law_2242 : decode code 2242 = .ok (.iload 4, 2) := ky_dc db_L_law_2207 19 rfl
theorem dc_L_law_2244 : decode code 2244 = .ok (.iconst 1, 1) := ky_dc db_L_law_2207 20 rfl
theorem dc_L_law_2245 : decode code 2245 = .ok (.iadd, 1) := ky_dc db_L_law_2207 21 rfl
theorem dc_L_law_2246 : decode code 2246 = .ok (.iaload, 1) := ky_dc db_L_law_2207 22 rfl
theorem dc_L_law_2247 : decode code 2247 = .ok (.aload_n 3, 1) := ky_dc db_L_law_2207 23 rfl
theorem dc_L_law_2248 : decode code 2248 = .ok (.invokestatic 347, 3) := ky_dc db_L_law_2207 24 rfl
theorem dc_L_law_2251 : decode code 2251 = .ok (.istore 5, 2) := ky_dc db_L_law_2207 25 rfl
theorem dc_L_law_2253 : decode code 2253 = .ok (.aload_n 2, 1) := ky_dc db_L_law_2207 26 rfl
theorem dc_L_law_2254 : decode code 2254 = .ok (.aload_n 0, 1) := ky_dc db_L_law_2207 27 rfl
theorem dc_L_law_2255 : decode code 2255 = .ok (.iload 4, 2) := ky_dc db_L_law_2207 28 rfl
theorem dc_L_law_2257 : decode code 2257 = .ok (.iconst 1, 1) := ky_dc db_L_law_2207 29 rfl
theorem dc_L_law_2258 : decode code 2258 = .ok (.iadd, 1) := ky_dc db_L_law_2207 30 rfl
theorem dc_L_law_2259 : decode code 2259 = .ok (.iaload, 1) := ky_dc db_L_law_2207 31 rfl
theorem dc_L_law_2260 : decode code 2260 = .ok (.invokevirtual 349, 3) := ky_dc db_L_law_2207 32 rfl
theorem dc_L_law_2263 : decode code 2263 = .ok (.istore 6, 2) := ky_dc db_L_law_2207 33 rfl
theorem dc_L_law_2265 : decode code 2265 = .ok (.goto 29, 3) := ky_dc db_L_law_2207 34 rfl
theorem dc_L_law_2268 : decode code 2268 = .ok (.aload_n 1, 1) := ky_dc db_L_law_2207 35 rfl
theorem dc_L_law_2269 : decode code 2269 = .ok (.invokevirtual 350, 3) := ky_dc db_L_law_2207 36 rfl
theorem dc_L_law_2272 : decode code 2272 = .ok (.pop, 1) := ky_dc db_L_law_2207 37 rfl
theorem dc_L_law_2273 : decode code 2273 = .ok (.aload_n 2, 1) := ky_dc db_L_law_2207 38 rfl
theorem dc_L_law_2274 : decode code 2274 = .ok (.invokevirtual 354, 3) := ky_dc db_L_law_2207 39 rfl
theorem dc_L_law_2277 : decode code 2277 = .ok (.pop, 1) := ky_dc db_L_law_2207 40 rfl
theorem dc_L_law_2278 : decode code 2278 = .ok (.goto 16, 3) := ky_dc db_L_law_2207 41 rfl
theorem dc_L_law_2281 : decode code 2281 = .ok (.aload_n 1, 1) := ky_dc db_L_law_2207 42 rfl
theorem dc_L_law_2282 : decode code 2282 = .ok (.invokevirtual 355, 3) := ky_dc db_L_law_2207 43 rfl
theorem dc_L_law_2285 : decode code 2285 = .ok (.pop2, 1) := ky_dc db_L_law_2207 44 rfl
theorem dc_L_law_2286 : decode code 2286 = .ok (.aload_n 2, 1) := ky_dc db_L_law_2207 45 rfl
theorem dc_L_law_2287 : decode code 2287 = .ok (.invokevirtual 359, 3) := ky_dc db_L_law_2207 46 rfl
theorem dc_L_law_2290 : decode code 2290 = .ok (.pop2, 1) := ky_dc db_L_law_2207 47 rfl
theorem dc_L_law_2291 : decode code 2291 = .ok (.goto 3, 3) := ky_dc db_L_law_2207 48 rfl
