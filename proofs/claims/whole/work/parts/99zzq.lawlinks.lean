/-! ===== printed: the law: links, rows ===== -/
theorem dL_law_0 : decode cL_law 0 = .ok (.new 7, 3) := by decide +kernel
theorem dL_law_3 : decode cL_law 3 = .ok (.dup, 1) := by decide +kernel
theorem dL_law_4 : decode cL_law 4 = .ok (.invokespecial 9, 3) := by decide +kernel
theorem dL_law_7 : decode cL_law 7 = .ok (.astore_n 1, 1) := by decide +kernel
theorem dL_law_8 : decode cL_law 8 = .ok (.new 10, 3) := by decide +kernel
theorem dL_law_11 : decode cL_law 11 = .ok (.dup, 1) := by decide +kernel
theorem dL_law_12 : decode cL_law 12 = .ok (.invokespecial 12, 3) := by decide +kernel
theorem dL_law_15 : decode cL_law 15 = .ok (.astore_n 2, 1) := by decide +kernel
theorem dL_law_16 : decode cL_law 16 = .ok (.iconst 0, 1) := by decide +kernel
theorem dL_law_17 : decode cL_law 17 = .ok (.istore_n 3, 1) := by decide +kernel
theorem dL_law_18 : decode cL_law 18 = .ok (.iload_n 3, 1) := by decide +kernel
theorem dL_law_19 : decode cL_law 19 = .ok (.aload_n 0, 1) := by decide +kernel
theorem dL_law_20 : decode cL_law 20 = .ok (.arraylength, 1) := by decide +kernel
theorem dL_law_21 : decode cL_law 21 = .ok (.bipush 6, 2) := by decide +kernel
theorem dL_law_23 : decode cL_law 23 = .ok (.isub, 1) := by decide +kernel
theorem dL_law_24 : decode cL_law 24 = .ok (.if_icmp .gt 1507, 3) := by decide +kernel
theorem dL_law_27 : decode cL_law 27 = .ok (.aload_n 0, 1) := by decide +kernel
theorem dL_law_28 : decode cL_law 28 = .ok (.iload_n 3, 1) := by decide +kernel
theorem dL_law_29 : decode cL_law 29 = .ok (.iaload, 1) := by decide +kernel
theorem dL_law_30 : decode cL_law 30 = .ok (.bipush 63, 2) := by decide +kernel
theorem dL_law_32 : decode cL_law 32 = .ok (.iand, 1) := by decide +kernel
theorem dL_law_33 : decode cL_law 33 = .ok (.tableswitch 1492 0 45 #[199, 232, 265, 328, 351, 364, 387, 410, 453, 486, 519, 542, 565, 598, 611, 644, 677, 700, 733, 776, 799, 832, 865, 908, 931, 964, 987, 1001, 1024, 1057, 1096, 1109, 1148, 1171, 1184, 1233, 1276, 1325, 1358, 1371, 1384, 1397, 1420, 1443, 1456, 1469], 199) := by decide +kernel
theorem dL_law_232 : decode cL_law 232 = .ok (.aload_n 1, 1) := by decide +kernel
theorem dL_law_233 : decode cL_law 233 = .ok (.aload_n 0, 1) := by decide +kernel
theorem dL_law_234 : decode cL_law 234 = .ok (.iload_n 3, 1) := by decide +kernel
theorem dL_law_235 : decode cL_law 235 = .ok (.iconst 1, 1) := by decide +kernel
theorem dL_law_236 : decode cL_law 236 = .ok (.iadd, 1) := by decide +kernel
theorem dL_law_237 : decode cL_law 237 = .ok (.iaload, 1) := by decide +kernel
theorem dL_law_238 : decode cL_law 238 = .ok (.aload_n 0, 1) := by decide +kernel
theorem dL_law_239 : decode cL_law 239 = .ok (.iload_n 3, 1) := by decide +kernel
theorem dL_law_240 : decode cL_law 240 = .ok (.iconst 2, 1) := by decide +kernel
theorem dL_law_241 : decode cL_law 241 = .ok (.iadd, 1) := by decide +kernel
theorem dL_law_242 : decode cL_law 242 = .ok (.iaload, 1) := by decide +kernel
theorem dL_law_243 : decode cL_law 243 = .ok (.invokevirtual 13, 3) := by decide +kernel
theorem dL_law_246 : decode cL_law 246 = .ok (.aload_n 2, 1) := by decide +kernel
theorem dL_law_247 : decode cL_law 247 = .ok (.aload_n 0, 1) := by decide +kernel
theorem dL_law_248 : decode cL_law 248 = .ok (.iload_n 3, 1) := by decide +kernel
theorem dL_law_249 : decode cL_law 249 = .ok (.iconst 1, 1) := by decide +kernel
theorem dL_law_250 : decode cL_law 250 = .ok (.iadd, 1) := by decide +kernel
theorem dL_law_251 : decode cL_law 251 = .ok (.iaload, 1) := by decide +kernel
theorem dL_law_252 : decode cL_law 252 = .ok (.aload_n 0, 1) := by decide +kernel
theorem dL_law_253 : decode cL_law 253 = .ok (.iload_n 3, 1) := by decide +kernel
theorem dL_law_254 : decode cL_law 254 = .ok (.iconst 2, 1) := by decide +kernel
theorem dL_law_255 : decode cL_law 255 = .ok (.iadd, 1) := by decide +kernel
theorem dL_law_256 : decode cL_law 256 = .ok (.iaload, 1) := by decide +kernel
theorem dL_law_257 : decode cL_law 257 = .ok (.invokevirtual 17, 3) := by decide +kernel
theorem dL_law_260 : decode cL_law 260 = .ok (.if_icmp .eq 1265, 3) := by decide +kernel
theorem dL_law_263 : decode cL_law 263 = .ok (.iconst 0, 1) := by decide +kernel
theorem dL_law_264 : decode cL_law 264 = .ok (.ireturn, 1) := by decide +kernel
theorem dL_law_265 : decode cL_law 265 = .ok (.aload_n 1, 1) := by decide +kernel
theorem dL_law_266 : decode cL_law 266 = .ok (.aload_n 0, 1) := by decide +kernel
theorem dL_law_267 : decode cL_law 267 = .ok (.iload_n 3, 1) := by decide +kernel
theorem dL_law_268 : decode cL_law 268 = .ok (.iconst 1, 1) := by decide +kernel
theorem dL_law_269 : decode cL_law 269 = .ok (.iadd, 1) := by decide +kernel
theorem dL_law_270 : decode cL_law 270 = .ok (.iaload, 1) := by decide +kernel
theorem dL_law_271 : decode cL_law 271 = .ok (.aload_n 0, 1) := by decide +kernel
theorem dL_law_272 : decode cL_law 272 = .ok (.iload_n 3, 1) := by decide +kernel
theorem dL_law_273 : decode cL_law 273 = .ok (.iconst 2, 1) := by decide +kernel
theorem dL_law_274 : decode cL_law 274 = .ok (.iadd, 1) := by decide +kernel
theorem dL_law_275 : decode cL_law 275 = .ok (.iaload, 1) := by decide +kernel
theorem dL_law_276 : decode cL_law 276 = .ok (.invokevirtual 18, 3) := by decide +kernel
theorem dL_law_279 : decode cL_law 279 = .ok (.aload_n 2, 1) := by decide +kernel
theorem dL_law_280 : decode cL_law 280 = .ok (.aload_n 0, 1) := by decide +kernel
theorem dL_law_281 : decode cL_law 281 = .ok (.iload_n 3, 1) := by decide +kernel
theorem dL_law_282 : decode cL_law 282 = .ok (.iconst 1, 1) := by decide +kernel
theorem dL_law_283 : decode cL_law 283 = .ok (.iadd, 1) := by decide +kernel
theorem dL_law_284 : decode cL_law 284 = .ok (.iaload, 1) := by decide +kernel
theorem dL_law_285 : decode cL_law 285 = .ok (.aload_n 0, 1) := by decide +kernel
theorem dL_law_286 : decode cL_law 286 = .ok (.iload_n 3, 1) := by decide +kernel
theorem dL_law_287 : decode cL_law 287 = .ok (.iconst 2, 1) := by decide +kernel
theorem dL_law_288 : decode cL_law 288 = .ok (.iadd, 1) := by decide +kernel
theorem dL_law_289 : decode cL_law 289 = .ok (.iaload, 1) := by decide +kernel
theorem dL_law_290 : decode cL_law 290 = .ok (.invokevirtual 22, 3) := by decide +kernel
theorem dL_law_293 : decode cL_law 293 = .ok (.if_icmp .eq 1232, 3) := by decide +kernel
theorem dL_law_296 : decode cL_law 296 = .ok (.iconst 0, 1) := by decide +kernel
theorem dL_law_297 : decode cL_law 297 = .ok (.ireturn, 1) := by decide +kernel
theorem dL_law_298 : decode cL_law 298 = .ok (.aload_n 1, 1) := by decide +kernel
theorem dL_law_299 : decode cL_law 299 = .ok (.aload_n 0, 1) := by decide +kernel
theorem dL_law_300 : decode cL_law 300 = .ok (.iload_n 3, 1) := by decide +kernel
theorem dL_law_301 : decode cL_law 301 = .ok (.iconst 1, 1) := by decide +kernel
theorem dL_law_302 : decode cL_law 302 = .ok (.iadd, 1) := by decide +kernel
theorem dL_law_303 : decode cL_law 303 = .ok (.iaload, 1) := by decide +kernel
theorem dL_law_304 : decode cL_law 304 = .ok (.aload_n 0, 1) := by decide +kernel
theorem dL_law_305 : decode cL_law 305 = .ok (.iload_n 3, 1) := by decide +kernel
theorem dL_law_306 : decode cL_law 306 = .ok (.iconst 2, 1) := by decide +kernel
theorem dL_law_307 : decode cL_law 307 = .ok (.iadd, 1) := by decide +kernel
theorem dL_law_308 : decode cL_law 308 = .ok (.iaload, 1) := by decide +kernel
theorem dL_law_309 : decode cL_law 309 = .ok (.aload_n 0, 1) := by decide +kernel
theorem dL_law_310 : decode cL_law 310 = .ok (.iload_n 3, 1) := by decide +kernel
theorem dL_law_311 : decode cL_law 311 = .ok (.iconst 3, 1) := by decide +kernel
theorem dL_law_312 : decode cL_law 312 = .ok (.iadd, 1) := by decide +kernel
theorem dL_law_313 : decode cL_law 313 = .ok (.iaload, 1) := by decide +kernel
theorem dL_law_314 : decode cL_law 314 = .ok (.aload_n 0, 1) := by decide +kernel
theorem dL_law_315 : decode cL_law 315 = .ok (.iload_n 3, 1) := by decide +kernel
theorem dL_law_316 : decode cL_law 316 = .ok (.iconst 4, 1) := by decide +kernel
theorem dL_law_317 : decode cL_law 317 = .ok (.iadd, 1) := by decide +kernel
theorem dL_law_318 : decode cL_law 318 = .ok (.iaload, 1) := by decide +kernel
theorem dL_law_319 : decode cL_law 319 = .ok (.aload_n 0, 1) := by decide +kernel
theorem dL_law_320 : decode cL_law 320 = .ok (.iload_n 3, 1) := by decide +kernel
theorem dL_law_321 : decode cL_law 321 = .ok (.iconst 5, 1) := by decide +kernel
theorem dL_law_322 : decode cL_law 322 = .ok (.iadd, 1) := by decide +kernel
theorem dL_law_323 : decode cL_law 323 = .ok (.iaload, 1) := by decide +kernel
theorem dL_law_324 : decode cL_law 324 = .ok (.invokevirtual 23, 3) := by decide +kernel
theorem dL_law_327 : decode cL_law 327 = .ok (.aload_n 2, 1) := by decide +kernel
theorem dL_law_328 : decode cL_law 328 = .ok (.aload_n 0, 1) := by decide +kernel
theorem dL_law_329 : decode cL_law 329 = .ok (.iload_n 3, 1) := by decide +kernel
theorem dL_law_330 : decode cL_law 330 = .ok (.iconst 1, 1) := by decide +kernel
theorem dL_law_331 : decode cL_law 331 = .ok (.iadd, 1) := by decide +kernel
theorem dL_law_332 : decode cL_law 332 = .ok (.iaload, 1) := by decide +kernel
theorem dL_law_333 : decode cL_law 333 = .ok (.aload_n 0, 1) := by decide +kernel
theorem dL_law_334 : decode cL_law 334 = .ok (.iload_n 3, 1) := by decide +kernel
theorem dL_law_335 : decode cL_law 335 = .ok (.iconst 2, 1) := by decide +kernel
theorem dL_law_336 : decode cL_law 336 = .ok (.iadd, 1) := by decide +kernel
theorem dL_law_337 : decode cL_law 337 = .ok (.iaload, 1) := by decide +kernel
theorem dL_law_338 : decode cL_law 338 = .ok (.aload_n 0, 1) := by decide +kernel
theorem dL_law_339 : decode cL_law 339 = .ok (.iload_n 3, 1) := by decide +kernel
theorem dL_law_340 : decode cL_law 340 = .ok (.iconst 3, 1) := by decide +kernel
theorem dL_law_341 : decode cL_law 341 = .ok (.iadd, 1) := by decide +kernel
theorem dL_law_342 : decode cL_law 342 = .ok (.iaload, 1) := by decide +kernel
theorem dL_law_343 : decode cL_law 343 = .ok (.aload_n 0, 1) := by decide +kernel
theorem dL_law_344 : decode cL_law 344 = .ok (.iload_n 3, 1) := by decide +kernel
theorem dL_law_345 : decode cL_law 345 = .ok (.iconst 4, 1) := by decide +kernel
theorem dL_law_346 : decode cL_law 346 = .ok (.iadd, 1) := by decide +kernel
theorem dL_law_347 : decode cL_law 347 = .ok (.iaload, 1) := by decide +kernel
theorem dL_law_348 : decode cL_law 348 = .ok (.aload_n 0, 1) := by decide +kernel
theorem dL_law_349 : decode cL_law 349 = .ok (.iload_n 3, 1) := by decide +kernel
theorem dL_law_350 : decode cL_law 350 = .ok (.iconst 5, 1) := by decide +kernel
theorem dL_law_351 : decode cL_law 351 = .ok (.iadd, 1) := by decide +kernel
theorem dL_law_352 : decode cL_law 352 = .ok (.iaload, 1) := by decide +kernel
theorem dL_law_353 : decode cL_law 353 = .ok (.invokevirtual 27, 3) := by decide +kernel
theorem dL_law_356 : decode cL_law 356 = .ok (.if_icmp .eq 1169, 3) := by decide +kernel
theorem dL_law_359 : decode cL_law 359 = .ok (.iconst 0, 1) := by decide +kernel
theorem dL_law_360 : decode cL_law 360 = .ok (.ireturn, 1) := by decide +kernel
theorem dL_law_361 : decode cL_law 361 = .ok (.aload_n 1, 1) := by decide +kernel
theorem dL_law_362 : decode cL_law 362 = .ok (.aload_n 0, 1) := by decide +kernel
theorem dL_law_363 : decode cL_law 363 = .ok (.iload_n 3, 1) := by decide +kernel
theorem dL_law_364 : decode cL_law 364 = .ok (.iconst 1, 1) := by decide +kernel
theorem dL_law_365 : decode cL_law 365 = .ok (.iadd, 1) := by decide +kernel
theorem dL_law_366 : decode cL_law 366 = .ok (.iaload, 1) := by decide +kernel
theorem dL_law_367 : decode cL_law 367 = .ok (.invokevirtual 28, 3) := by decide +kernel
theorem dL_law_370 : decode cL_law 370 = .ok (.aload_n 2, 1) := by decide +kernel
theorem dL_law_371 : decode cL_law 371 = .ok (.aload_n 0, 1) := by decide +kernel
theorem dL_law_372 : decode cL_law 372 = .ok (.iload_n 3, 1) := by decide +kernel
theorem dL_law_373 : decode cL_law 373 = .ok (.iconst 1, 1) := by decide +kernel
theorem dL_law_374 : decode cL_law 374 = .ok (.iadd, 1) := by decide +kernel
theorem dL_law_375 : decode cL_law 375 = .ok (.iaload, 1) := by decide +kernel
theorem dL_law_376 : decode cL_law 376 = .ok (.invokevirtual 32, 3) := by decide +kernel
theorem dL_law_379 : decode cL_law 379 = .ok (.if_icmp .eq 1146, 3) := by decide +kernel
theorem dL_law_382 : decode cL_law 382 = .ok (.iconst 0, 1) := by decide +kernel
theorem dL_law_383 : decode cL_law 383 = .ok (.ireturn, 1) := by decide +kernel
theorem dL_law_384 : decode cL_law 384 = .ok (.aload_n 1, 1) := by decide +kernel
theorem dL_law_385 : decode cL_law 385 = .ok (.invokevirtual 33, 3) := by decide +kernel
theorem dL_law_388 : decode cL_law 388 = .ok (.aload_n 2, 1) := by decide +kernel
theorem dL_law_389 : decode cL_law 389 = .ok (.invokevirtual 37, 3) := by decide +kernel
theorem dL_law_392 : decode cL_law 392 = .ok (.if_icmp .eq 1133, 3) := by decide +kernel
theorem dL_law_395 : decode cL_law 395 = .ok (.iconst 0, 1) := by decide +kernel
theorem dL_law_396 : decode cL_law 396 = .ok (.ireturn, 1) := by decide +kernel
theorem dL_law_397 : decode cL_law 397 = .ok (.aload_n 1, 1) := by decide +kernel
theorem dL_law_398 : decode cL_law 398 = .ok (.aload_n 0, 1) := by decide +kernel
theorem dL_law_399 : decode cL_law 399 = .ok (.iload_n 3, 1) := by decide +kernel
theorem dL_law_400 : decode cL_law 400 = .ok (.iconst 1, 1) := by decide +kernel
theorem dL_law_401 : decode cL_law 401 = .ok (.iadd, 1) := by decide +kernel
theorem dL_law_402 : decode cL_law 402 = .ok (.iaload, 1) := by decide +kernel
theorem dL_law_403 : decode cL_law 403 = .ok (.invokevirtual 38, 3) := by decide +kernel
theorem dL_law_406 : decode cL_law 406 = .ok (.aload_n 2, 1) := by decide +kernel
theorem dL_law_407 : decode cL_law 407 = .ok (.aload_n 0, 1) := by decide +kernel
theorem dL_law_408 : decode cL_law 408 = .ok (.iload_n 3, 1) := by decide +kernel
theorem dL_law_409 : decode cL_law 409 = .ok (.iconst 1, 1) := by decide +kernel
theorem dL_law_410 : decode cL_law 410 = .ok (.iadd, 1) := by decide +kernel
theorem dL_law_411 : decode cL_law 411 = .ok (.iaload, 1) := by decide +kernel
theorem dL_law_412 : decode cL_law 412 = .ok (.invokevirtual 41, 3) := by decide +kernel
theorem dL_law_415 : decode cL_law 415 = .ok (.if_icmp .eq 1110, 3) := by decide +kernel
theorem dL_law_418 : decode cL_law 418 = .ok (.iconst 0, 1) := by decide +kernel
theorem dL_law_419 : decode cL_law 419 = .ok (.ireturn, 1) := by decide +kernel
theorem dL_law_420 : decode cL_law 420 = .ok (.aload_n 1, 1) := by decide +kernel
theorem dL_law_421 : decode cL_law 421 = .ok (.aload_n 0, 1) := by decide +kernel
theorem dL_law_422 : decode cL_law 422 = .ok (.iload_n 3, 1) := by decide +kernel
theorem dL_law_423 : decode cL_law 423 = .ok (.iconst 1, 1) := by decide +kernel
theorem dL_law_424 : decode cL_law 424 = .ok (.iadd, 1) := by decide +kernel
theorem dL_law_425 : decode cL_law 425 = .ok (.iaload, 1) := by decide +kernel
theorem dL_law_426 : decode cL_law 426 = .ok (.invokevirtual 42, 3) := by decide +kernel
theorem dL_law_429 : decode cL_law 429 = .ok (.aload_n 2, 1) := by decide +kernel
theorem dL_law_430 : decode cL_law 430 = .ok (.aload_n 0, 1) := by decide +kernel
theorem dL_law_431 : decode cL_law 431 = .ok (.iload_n 3, 1) := by decide +kernel
theorem dL_law_432 : decode cL_law 432 = .ok (.iconst 1, 1) := by decide +kernel
theorem dL_law_433 : decode cL_law 433 = .ok (.iadd, 1) := by decide +kernel
theorem dL_law_434 : decode cL_law 434 = .ok (.iaload, 1) := by decide +kernel
theorem dL_law_435 : decode cL_law 435 = .ok (.invokevirtual 46, 3) := by decide +kernel
theorem dL_law_438 : decode cL_law 438 = .ok (.if_icmp .eq 1087, 3) := by decide +kernel
theorem dL_law_441 : decode cL_law 441 = .ok (.iconst 0, 1) := by decide +kernel
theorem dL_law_442 : decode cL_law 442 = .ok (.ireturn, 1) := by decide +kernel
theorem dL_law_443 : decode cL_law 443 = .ok (.aload_n 1, 1) := by decide +kernel
theorem dL_law_444 : decode cL_law 444 = .ok (.aload_n 0, 1) := by decide +kernel
theorem dL_law_445 : decode cL_law 445 = .ok (.iload_n 3, 1) := by decide +kernel
theorem dL_law_446 : decode cL_law 446 = .ok (.iconst 1, 1) := by decide +kernel
theorem dL_law_447 : decode cL_law 447 = .ok (.iadd, 1) := by decide +kernel
theorem dL_law_448 : decode cL_law 448 = .ok (.iaload, 1) := by decide +kernel
theorem dL_law_449 : decode cL_law 449 = .ok (.aload_n 0, 1) := by decide +kernel
theorem dL_law_450 : decode cL_law 450 = .ok (.iload_n 3, 1) := by decide +kernel
theorem dL_law_451 : decode cL_law 451 = .ok (.iconst 2, 1) := by decide +kernel
theorem dL_law_452 : decode cL_law 452 = .ok (.iadd, 1) := by decide +kernel
theorem dL_law_453 : decode cL_law 453 = .ok (.iaload, 1) := by decide +kernel
theorem dL_law_454 : decode cL_law 454 = .ok (.aload_n 0, 1) := by decide +kernel
theorem dL_law_455 : decode cL_law 455 = .ok (.iload_n 3, 1) := by decide +kernel
theorem dL_law_456 : decode cL_law 456 = .ok (.iconst 3, 1) := by decide +kernel
theorem dL_law_457 : decode cL_law 457 = .ok (.iadd, 1) := by decide +kernel
theorem dL_law_458 : decode cL_law 458 = .ok (.iaload, 1) := by decide +kernel
theorem dL_law_459 : decode cL_law 459 = .ok (.invokevirtual 47, 3) := by decide +kernel
theorem dL_law_462 : decode cL_law 462 = .ok (.aload_n 2, 1) := by decide +kernel
theorem dL_law_463 : decode cL_law 463 = .ok (.aload_n 0, 1) := by decide +kernel
theorem dL_law_464 : decode cL_law 464 = .ok (.iload_n 3, 1) := by decide +kernel
theorem dL_law_465 : decode cL_law 465 = .ok (.iconst 1, 1) := by decide +kernel
theorem dL_law_466 : decode cL_law 466 = .ok (.iadd, 1) := by decide +kernel
theorem dL_law_467 : decode cL_law 467 = .ok (.iaload, 1) := by decide +kernel
theorem dL_law_468 : decode cL_law 468 = .ok (.aload_n 0, 1) := by decide +kernel
theorem dL_law_469 : decode cL_law 469 = .ok (.iload_n 3, 1) := by decide +kernel
theorem dL_law_470 : decode cL_law 470 = .ok (.iconst 2, 1) := by decide +kernel
theorem dL_law_471 : decode cL_law 471 = .ok (.iadd, 1) := by decide +kernel
theorem dL_law_472 : decode cL_law 472 = .ok (.iaload, 1) := by decide +kernel
theorem dL_law_473 : decode cL_law 473 = .ok (.aload_n 0, 1) := by decide +kernel
theorem dL_law_474 : decode cL_law 474 = .ok (.iload_n 3, 1) := by decide +kernel
theorem dL_law_475 : decode cL_law 475 = .ok (.iconst 3, 1) := by decide +kernel
theorem dL_law_476 : decode cL_law 476 = .ok (.iadd, 1) := by decide +kernel
theorem dL_law_477 : decode cL_law 477 = .ok (.iaload, 1) := by decide +kernel
theorem dL_law_478 : decode cL_law 478 = .ok (.invokevirtual 51, 3) := by decide +kernel
theorem dL_law_481 : decode cL_law 481 = .ok (.if_icmp .eq 1044, 3) := by decide +kernel
theorem dL_law_484 : decode cL_law 484 = .ok (.iconst 0, 1) := by decide +kernel
theorem dL_law_485 : decode cL_law 485 = .ok (.ireturn, 1) := by decide +kernel
theorem dL_law_486 : decode cL_law 486 = .ok (.aload_n 1, 1) := by decide +kernel
theorem dL_law_487 : decode cL_law 487 = .ok (.aload_n 0, 1) := by decide +kernel
theorem dL_law_488 : decode cL_law 488 = .ok (.iload_n 3, 1) := by decide +kernel
theorem dL_law_489 : decode cL_law 489 = .ok (.iconst 1, 1) := by decide +kernel
theorem dL_law_490 : decode cL_law 490 = .ok (.iadd, 1) := by decide +kernel
theorem dL_law_491 : decode cL_law 491 = .ok (.iaload, 1) := by decide +kernel
theorem dL_law_492 : decode cL_law 492 = .ok (.aload_n 0, 1) := by decide +kernel
theorem dL_law_493 : decode cL_law 493 = .ok (.iload_n 3, 1) := by decide +kernel
theorem dL_law_494 : decode cL_law 494 = .ok (.iconst 2, 1) := by decide +kernel
theorem dL_law_495 : decode cL_law 495 = .ok (.iadd, 1) := by decide +kernel
theorem dL_law_496 : decode cL_law 496 = .ok (.iaload, 1) := by decide +kernel
theorem dL_law_497 : decode cL_law 497 = .ok (.invokevirtual 52, 3) := by decide +kernel
theorem dL_law_500 : decode cL_law 500 = .ok (.aload_n 2, 1) := by decide +kernel
theorem dL_law_501 : decode cL_law 501 = .ok (.aload_n 0, 1) := by decide +kernel
theorem dL_law_502 : decode cL_law 502 = .ok (.iload_n 3, 1) := by decide +kernel
theorem dL_law_503 : decode cL_law 503 = .ok (.iconst 1, 1) := by decide +kernel
theorem dL_law_504 : decode cL_law 504 = .ok (.iadd, 1) := by decide +kernel
theorem dL_law_505 : decode cL_law 505 = .ok (.iaload, 1) := by decide +kernel
theorem dL_law_506 : decode cL_law 506 = .ok (.aload_n 0, 1) := by decide +kernel
theorem dL_law_507 : decode cL_law 507 = .ok (.iload_n 3, 1) := by decide +kernel
theorem dL_law_508 : decode cL_law 508 = .ok (.iconst 2, 1) := by decide +kernel
theorem dL_law_509 : decode cL_law 509 = .ok (.iadd, 1) := by decide +kernel
theorem dL_law_510 : decode cL_law 510 = .ok (.iaload, 1) := by decide +kernel
theorem dL_law_511 : decode cL_law 511 = .ok (.invokevirtual 55, 3) := by decide +kernel
theorem dL_law_514 : decode cL_law 514 = .ok (.if_icmp .eq 1011, 3) := by decide +kernel
theorem dL_law_517 : decode cL_law 517 = .ok (.iconst 0, 1) := by decide +kernel
theorem dL_law_518 : decode cL_law 518 = .ok (.ireturn, 1) := by decide +kernel
theorem dL_law_519 : decode cL_law 519 = .ok (.aload_n 1, 1) := by decide +kernel
theorem dL_law_520 : decode cL_law 520 = .ok (.aload_n 0, 1) := by decide +kernel
theorem dL_law_521 : decode cL_law 521 = .ok (.iload_n 3, 1) := by decide +kernel
theorem dL_law_522 : decode cL_law 522 = .ok (.iconst 1, 1) := by decide +kernel
theorem dL_law_523 : decode cL_law 523 = .ok (.iadd, 1) := by decide +kernel
theorem dL_law_524 : decode cL_law 524 = .ok (.iaload, 1) := by decide +kernel
theorem dL_law_525 : decode cL_law 525 = .ok (.aload_n 0, 1) := by decide +kernel
theorem dL_law_526 : decode cL_law 526 = .ok (.iload_n 3, 1) := by decide +kernel
theorem dL_law_527 : decode cL_law 527 = .ok (.iconst 2, 1) := by decide +kernel
theorem dL_law_528 : decode cL_law 528 = .ok (.iadd, 1) := by decide +kernel
theorem dL_law_529 : decode cL_law 529 = .ok (.iaload, 1) := by decide +kernel
theorem dL_law_530 : decode cL_law 530 = .ok (.invokevirtual 56, 3) := by decide +kernel
theorem dL_law_533 : decode cL_law 533 = .ok (.aload_n 2, 1) := by decide +kernel
theorem dL_law_534 : decode cL_law 534 = .ok (.aload_n 0, 1) := by decide +kernel
theorem dL_law_535 : decode cL_law 535 = .ok (.iload_n 3, 1) := by decide +kernel
theorem dL_law_536 : decode cL_law 536 = .ok (.iconst 1, 1) := by decide +kernel
theorem dL_law_537 : decode cL_law 537 = .ok (.iadd, 1) := by decide +kernel
theorem dL_law_538 : decode cL_law 538 = .ok (.iaload, 1) := by decide +kernel
theorem dL_law_539 : decode cL_law 539 = .ok (.aload_n 0, 1) := by decide +kernel
theorem dL_law_540 : decode cL_law 540 = .ok (.iload_n 3, 1) := by decide +kernel
theorem dL_law_541 : decode cL_law 541 = .ok (.iconst 2, 1) := by decide +kernel
theorem dL_law_542 : decode cL_law 542 = .ok (.iadd, 1) := by decide +kernel
theorem dL_law_543 : decode cL_law 543 = .ok (.iaload, 1) := by decide +kernel
theorem dL_law_544 : decode cL_law 544 = .ok (.invokevirtual 59, 3) := by decide +kernel
theorem dL_law_547 : decode cL_law 547 = .ok (.if_icmp .eq 978, 3) := by decide +kernel
theorem dL_law_550 : decode cL_law 550 = .ok (.iconst 0, 1) := by decide +kernel
theorem dL_law_551 : decode cL_law 551 = .ok (.ireturn, 1) := by decide +kernel
theorem dL_law_552 : decode cL_law 552 = .ok (.aload_n 1, 1) := by decide +kernel
theorem dL_law_553 : decode cL_law 553 = .ok (.aload_n 0, 1) := by decide +kernel
theorem dL_law_554 : decode cL_law 554 = .ok (.iload_n 3, 1) := by decide +kernel
theorem dL_law_555 : decode cL_law 555 = .ok (.iconst 1, 1) := by decide +kernel
theorem dL_law_556 : decode cL_law 556 = .ok (.iadd, 1) := by decide +kernel
theorem dL_law_557 : decode cL_law 557 = .ok (.iaload, 1) := by decide +kernel
theorem dL_law_558 : decode cL_law 558 = .ok (.invokevirtual 60, 3) := by decide +kernel
theorem dL_law_561 : decode cL_law 561 = .ok (.aload_n 2, 1) := by decide +kernel
theorem dL_law_562 : decode cL_law 562 = .ok (.aload_n 0, 1) := by decide +kernel
theorem dL_law_563 : decode cL_law 563 = .ok (.iload_n 3, 1) := by decide +kernel
theorem dL_law_564 : decode cL_law 564 = .ok (.iconst 1, 1) := by decide +kernel
theorem dL_law_565 : decode cL_law 565 = .ok (.iadd, 1) := by decide +kernel
theorem dL_law_566 : decode cL_law 566 = .ok (.iaload, 1) := by decide +kernel
theorem dL_law_567 : decode cL_law 567 = .ok (.invokevirtual 63, 3) := by decide +kernel
theorem dL_law_570 : decode cL_law 570 = .ok (.if_icmp .eq 955, 3) := by decide +kernel
theorem dL_law_573 : decode cL_law 573 = .ok (.iconst 0, 1) := by decide +kernel
theorem dL_law_574 : decode cL_law 574 = .ok (.ireturn, 1) := by decide +kernel
theorem dL_law_575 : decode cL_law 575 = .ok (.aload_n 1, 1) := by decide +kernel
theorem dL_law_576 : decode cL_law 576 = .ok (.aload_n 0, 1) := by decide +kernel
theorem dL_law_577 : decode cL_law 577 = .ok (.iload_n 3, 1) := by decide +kernel
theorem dL_law_578 : decode cL_law 578 = .ok (.iconst 1, 1) := by decide +kernel
theorem dL_law_579 : decode cL_law 579 = .ok (.iadd, 1) := by decide +kernel
theorem dL_law_580 : decode cL_law 580 = .ok (.iaload, 1) := by decide +kernel
theorem dL_law_581 : decode cL_law 581 = .ok (.invokevirtual 64, 3) := by decide +kernel
theorem dL_law_584 : decode cL_law 584 = .ok (.aload_n 2, 1) := by decide +kernel
theorem dL_law_585 : decode cL_law 585 = .ok (.aload_n 0, 1) := by decide +kernel
theorem dL_law_586 : decode cL_law 586 = .ok (.iload_n 3, 1) := by decide +kernel
theorem dL_law_587 : decode cL_law 587 = .ok (.iconst 1, 1) := by decide +kernel
theorem dL_law_588 : decode cL_law 588 = .ok (.iadd, 1) := by decide +kernel
theorem dL_law_589 : decode cL_law 589 = .ok (.iaload, 1) := by decide +kernel
theorem dL_law_590 : decode cL_law 590 = .ok (.invokevirtual 67, 3) := by decide +kernel
theorem dL_law_593 : decode cL_law 593 = .ok (.if_icmp .eq 932, 3) := by decide +kernel
theorem dL_law_596 : decode cL_law 596 = .ok (.iconst 0, 1) := by decide +kernel
theorem dL_law_597 : decode cL_law 597 = .ok (.ireturn, 1) := by decide +kernel
theorem dL_law_598 : decode cL_law 598 = .ok (.aload_n 1, 1) := by decide +kernel
theorem dL_law_599 : decode cL_law 599 = .ok (.aload_n 0, 1) := by decide +kernel
theorem dL_law_600 : decode cL_law 600 = .ok (.iload_n 3, 1) := by decide +kernel
theorem dL_law_601 : decode cL_law 601 = .ok (.iconst 1, 1) := by decide +kernel
theorem dL_law_602 : decode cL_law 602 = .ok (.iadd, 1) := by decide +kernel
theorem dL_law_603 : decode cL_law 603 = .ok (.iaload, 1) := by decide +kernel
theorem dL_law_604 : decode cL_law 604 = .ok (.aload_n 0, 1) := by decide +kernel
theorem dL_law_605 : decode cL_law 605 = .ok (.iload_n 3, 1) := by decide +kernel
theorem dL_law_606 : decode cL_law 606 = .ok (.iconst 2, 1) := by decide +kernel
theorem dL_law_607 : decode cL_law 607 = .ok (.iadd, 1) := by decide +kernel
theorem dL_law_608 : decode cL_law 608 = .ok (.iaload, 1) := by decide +kernel
theorem dL_law_609 : decode cL_law 609 = .ok (.invokevirtual 68, 3) := by decide +kernel
theorem dL_law_612 : decode cL_law 612 = .ok (.aload_n 2, 1) := by decide +kernel
theorem dL_law_613 : decode cL_law 613 = .ok (.aload_n 0, 1) := by decide +kernel
theorem dL_law_614 : decode cL_law 614 = .ok (.iload_n 3, 1) := by decide +kernel
theorem dL_law_615 : decode cL_law 615 = .ok (.iconst 1, 1) := by decide +kernel
theorem dL_law_616 : decode cL_law 616 = .ok (.iadd, 1) := by decide +kernel
theorem dL_law_617 : decode cL_law 617 = .ok (.iaload, 1) := by decide +kernel
theorem dL_law_618 : decode cL_law 618 = .ok (.aload_n 0, 1) := by decide +kernel
theorem dL_law_619 : decode cL_law 619 = .ok (.iload_n 3, 1) := by decide +kernel
theorem dL_law_620 : decode cL_law 620 = .ok (.iconst 2, 1) := by decide +kernel
theorem dL_law_621 : decode cL_law 621 = .ok (.iadd, 1) := by decide +kernel
theorem dL_law_622 : decode cL_law 622 = .ok (.iaload, 1) := by decide +kernel
theorem dL_law_623 : decode cL_law 623 = .ok (.invokevirtual 71, 3) := by decide +kernel
theorem dL_law_626 : decode cL_law 626 = .ok (.if_icmp .eq 899, 3) := by decide +kernel
theorem dL_law_629 : decode cL_law 629 = .ok (.iconst 0, 1) := by decide +kernel
theorem dL_law_630 : decode cL_law 630 = .ok (.ireturn, 1) := by decide +kernel
theorem dL_law_631 : decode cL_law 631 = .ok (.aload_n 1, 1) := by decide +kernel
theorem dL_law_632 : decode cL_law 632 = .ok (.invokevirtual 72, 3) := by decide +kernel
theorem dL_law_635 : decode cL_law 635 = .ok (.aload_n 2, 1) := by decide +kernel
theorem dL_law_636 : decode cL_law 636 = .ok (.invokevirtual 75, 3) := by decide +kernel
theorem dL_law_639 : decode cL_law 639 = .ok (.if_icmp .eq 886, 3) := by decide +kernel
theorem dL_law_642 : decode cL_law 642 = .ok (.iconst 0, 1) := by decide +kernel
theorem dL_law_643 : decode cL_law 643 = .ok (.ireturn, 1) := by decide +kernel
theorem dL_law_644 : decode cL_law 644 = .ok (.aload_n 1, 1) := by decide +kernel
theorem dL_law_645 : decode cL_law 645 = .ok (.aload_n 0, 1) := by decide +kernel
theorem dL_law_646 : decode cL_law 646 = .ok (.iload_n 3, 1) := by decide +kernel
theorem dL_law_647 : decode cL_law 647 = .ok (.iconst 1, 1) := by decide +kernel
theorem dL_law_648 : decode cL_law 648 = .ok (.iadd, 1) := by decide +kernel
theorem dL_law_649 : decode cL_law 649 = .ok (.iaload, 1) := by decide +kernel
theorem dL_law_650 : decode cL_law 650 = .ok (.aload_n 0, 1) := by decide +kernel
theorem dL_law_651 : decode cL_law 651 = .ok (.iload_n 3, 1) := by decide +kernel
theorem dL_law_652 : decode cL_law 652 = .ok (.iconst 2, 1) := by decide +kernel
theorem dL_law_653 : decode cL_law 653 = .ok (.iadd, 1) := by decide +kernel
theorem dL_law_654 : decode cL_law 654 = .ok (.iaload, 1) := by decide +kernel
theorem dL_law_655 : decode cL_law 655 = .ok (.invokevirtual 76, 3) := by decide +kernel
theorem dL_law_658 : decode cL_law 658 = .ok (.aload_n 2, 1) := by decide +kernel
theorem dL_law_659 : decode cL_law 659 = .ok (.aload_n 0, 1) := by decide +kernel
theorem dL_law_660 : decode cL_law 660 = .ok (.iload_n 3, 1) := by decide +kernel
theorem dL_law_661 : decode cL_law 661 = .ok (.iconst 1, 1) := by decide +kernel
theorem dL_law_662 : decode cL_law 662 = .ok (.iadd, 1) := by decide +kernel
theorem dL_law_663 : decode cL_law 663 = .ok (.iaload, 1) := by decide +kernel
theorem dL_law_664 : decode cL_law 664 = .ok (.aload_n 0, 1) := by decide +kernel
theorem dL_law_665 : decode cL_law 665 = .ok (.iload_n 3, 1) := by decide +kernel
theorem dL_law_666 : decode cL_law 666 = .ok (.iconst 2, 1) := by decide +kernel
theorem dL_law_667 : decode cL_law 667 = .ok (.iadd, 1) := by decide +kernel
theorem dL_law_668 : decode cL_law 668 = .ok (.iaload, 1) := by decide +kernel
theorem dL_law_669 : decode cL_law 669 = .ok (.invokevirtual 79, 3) := by decide +kernel
theorem dL_law_672 : decode cL_law 672 = .ok (.if_icmp .eq 853, 3) := by decide +kernel
theorem dL_law_675 : decode cL_law 675 = .ok (.iconst 0, 1) := by decide +kernel
theorem dL_law_676 : decode cL_law 676 = .ok (.ireturn, 1) := by decide +kernel
theorem dL_law_677 : decode cL_law 677 = .ok (.aload_n 1, 1) := by decide +kernel
theorem dL_law_678 : decode cL_law 678 = .ok (.aload_n 0, 1) := by decide +kernel
theorem dL_law_679 : decode cL_law 679 = .ok (.iload_n 3, 1) := by decide +kernel
theorem dL_law_680 : decode cL_law 680 = .ok (.iconst 1, 1) := by decide +kernel
theorem dL_law_681 : decode cL_law 681 = .ok (.iadd, 1) := by decide +kernel
theorem dL_law_682 : decode cL_law 682 = .ok (.iaload, 1) := by decide +kernel
theorem dL_law_683 : decode cL_law 683 = .ok (.aload_n 0, 1) := by decide +kernel
theorem dL_law_684 : decode cL_law 684 = .ok (.iload_n 3, 1) := by decide +kernel
theorem dL_law_685 : decode cL_law 685 = .ok (.iconst 2, 1) := by decide +kernel
theorem dL_law_686 : decode cL_law 686 = .ok (.iadd, 1) := by decide +kernel
theorem dL_law_687 : decode cL_law 687 = .ok (.iaload, 1) := by decide +kernel
theorem dL_law_688 : decode cL_law 688 = .ok (.invokevirtual 80, 3) := by decide +kernel
theorem dL_law_691 : decode cL_law 691 = .ok (.aload_n 2, 1) := by decide +kernel
theorem dL_law_692 : decode cL_law 692 = .ok (.aload_n 0, 1) := by decide +kernel
theorem dL_law_693 : decode cL_law 693 = .ok (.iload_n 3, 1) := by decide +kernel
theorem dL_law_694 : decode cL_law 694 = .ok (.iconst 1, 1) := by decide +kernel
theorem dL_law_695 : decode cL_law 695 = .ok (.iadd, 1) := by decide +kernel
theorem dL_law_696 : decode cL_law 696 = .ok (.iaload, 1) := by decide +kernel
theorem dL_law_697 : decode cL_law 697 = .ok (.aload_n 0, 1) := by decide +kernel
theorem dL_law_698 : decode cL_law 698 = .ok (.iload_n 3, 1) := by decide +kernel
theorem dL_law_699 : decode cL_law 699 = .ok (.iconst 2, 1) := by decide +kernel
theorem dL_law_700 : decode cL_law 700 = .ok (.iadd, 1) := by decide +kernel
theorem dL_law_701 : decode cL_law 701 = .ok (.iaload, 1) := by decide +kernel
theorem dL_law_702 : decode cL_law 702 = .ok (.invokevirtual 83, 3) := by decide +kernel
theorem dL_law_705 : decode cL_law 705 = .ok (.if_icmp .eq 820, 3) := by decide +kernel
theorem dL_law_708 : decode cL_law 708 = .ok (.iconst 0, 1) := by decide +kernel
theorem dL_law_709 : decode cL_law 709 = .ok (.ireturn, 1) := by decide +kernel
theorem dL_law_710 : decode cL_law 710 = .ok (.aload_n 1, 1) := by decide +kernel
theorem dL_law_711 : decode cL_law 711 = .ok (.aload_n 0, 1) := by decide +kernel
theorem dL_law_712 : decode cL_law 712 = .ok (.iload_n 3, 1) := by decide +kernel
theorem dL_law_713 : decode cL_law 713 = .ok (.iconst 1, 1) := by decide +kernel
theorem dL_law_714 : decode cL_law 714 = .ok (.iadd, 1) := by decide +kernel
theorem dL_law_715 : decode cL_law 715 = .ok (.iaload, 1) := by decide +kernel
theorem dL_law_716 : decode cL_law 716 = .ok (.invokevirtual 84, 3) := by decide +kernel
theorem dL_law_719 : decode cL_law 719 = .ok (.aload_n 2, 1) := by decide +kernel
theorem dL_law_720 : decode cL_law 720 = .ok (.aload_n 0, 1) := by decide +kernel
theorem dL_law_721 : decode cL_law 721 = .ok (.iload_n 3, 1) := by decide +kernel
theorem dL_law_722 : decode cL_law 722 = .ok (.iconst 1, 1) := by decide +kernel
theorem dL_law_723 : decode cL_law 723 = .ok (.iadd, 1) := by decide +kernel
theorem dL_law_724 : decode cL_law 724 = .ok (.iaload, 1) := by decide +kernel
theorem dL_law_725 : decode cL_law 725 = .ok (.invokevirtual 87, 3) := by decide +kernel
theorem dL_law_728 : decode cL_law 728 = .ok (.if_icmp .eq 797, 3) := by decide +kernel
theorem dL_law_731 : decode cL_law 731 = .ok (.iconst 0, 1) := by decide +kernel
theorem dL_law_732 : decode cL_law 732 = .ok (.ireturn, 1) := by decide +kernel
theorem dL_law_733 : decode cL_law 733 = .ok (.aload_n 1, 1) := by decide +kernel
theorem dL_law_734 : decode cL_law 734 = .ok (.aload_n 0, 1) := by decide +kernel
theorem dL_law_735 : decode cL_law 735 = .ok (.iload_n 3, 1) := by decide +kernel
theorem dL_law_736 : decode cL_law 736 = .ok (.iconst 1, 1) := by decide +kernel
theorem dL_law_737 : decode cL_law 737 = .ok (.iadd, 1) := by decide +kernel
theorem dL_law_738 : decode cL_law 738 = .ok (.iaload, 1) := by decide +kernel
theorem dL_law_739 : decode cL_law 739 = .ok (.aload_n 0, 1) := by decide +kernel
theorem dL_law_740 : decode cL_law 740 = .ok (.iload_n 3, 1) := by decide +kernel
theorem dL_law_741 : decode cL_law 741 = .ok (.iconst 2, 1) := by decide +kernel
theorem dL_law_742 : decode cL_law 742 = .ok (.iadd, 1) := by decide +kernel
theorem dL_law_743 : decode cL_law 743 = .ok (.iaload, 1) := by decide +kernel
theorem dL_law_744 : decode cL_law 744 = .ok (.invokevirtual 88, 3) := by decide +kernel
theorem dL_law_747 : decode cL_law 747 = .ok (.aload_n 2, 1) := by decide +kernel
theorem dL_law_748 : decode cL_law 748 = .ok (.aload_n 0, 1) := by decide +kernel
theorem dL_law_749 : decode cL_law 749 = .ok (.iload_n 3, 1) := by decide +kernel
theorem dL_law_750 : decode cL_law 750 = .ok (.iconst 1, 1) := by decide +kernel
theorem dL_law_751 : decode cL_law 751 = .ok (.iadd, 1) := by decide +kernel
theorem dL_law_752 : decode cL_law 752 = .ok (.iaload, 1) := by decide +kernel
theorem dL_law_753 : decode cL_law 753 = .ok (.aload_n 0, 1) := by decide +kernel
theorem dL_law_754 : decode cL_law 754 = .ok (.iload_n 3, 1) := by decide +kernel
theorem dL_law_755 : decode cL_law 755 = .ok (.iconst 2, 1) := by decide +kernel
theorem dL_law_756 : decode cL_law 756 = .ok (.iadd, 1) := by decide +kernel
theorem dL_law_757 : decode cL_law 757 = .ok (.iaload, 1) := by decide +kernel
theorem dL_law_758 : decode cL_law 758 = .ok (.invokevirtual 91, 3) := by decide +kernel
theorem dL_law_761 : decode cL_law 761 = .ok (.if_icmp .eq 764, 3) := by decide +kernel
theorem dL_law_764 : decode cL_law 764 = .ok (.iconst 0, 1) := by decide +kernel
theorem dL_law_765 : decode cL_law 765 = .ok (.ireturn, 1) := by decide +kernel
theorem dL_law_766 : decode cL_law 766 = .ok (.aload_n 1, 1) := by decide +kernel
theorem dL_law_767 : decode cL_law 767 = .ok (.aload_n 0, 1) := by decide +kernel
theorem dL_law_768 : decode cL_law 768 = .ok (.iload_n 3, 1) := by decide +kernel
theorem dL_law_769 : decode cL_law 769 = .ok (.iconst 1, 1) := by decide +kernel
theorem dL_law_770 : decode cL_law 770 = .ok (.iadd, 1) := by decide +kernel
theorem dL_law_771 : decode cL_law 771 = .ok (.iaload, 1) := by decide +kernel
theorem dL_law_772 : decode cL_law 772 = .ok (.aload_n 0, 1) := by decide +kernel
theorem dL_law_773 : decode cL_law 773 = .ok (.iload_n 3, 1) := by decide +kernel
theorem dL_law_774 : decode cL_law 774 = .ok (.iconst 2, 1) := by decide +kernel
theorem dL_law_775 : decode cL_law 775 = .ok (.iadd, 1) := by decide +kernel
theorem dL_law_776 : decode cL_law 776 = .ok (.iaload, 1) := by decide +kernel
theorem dL_law_777 : decode cL_law 777 = .ok (.aload_n 0, 1) := by decide +kernel
theorem dL_law_778 : decode cL_law 778 = .ok (.iload_n 3, 1) := by decide +kernel
theorem dL_law_779 : decode cL_law 779 = .ok (.iconst 3, 1) := by decide +kernel
theorem dL_law_780 : decode cL_law 780 = .ok (.iadd, 1) := by decide +kernel
theorem dL_law_781 : decode cL_law 781 = .ok (.iaload, 1) := by decide +kernel
theorem dL_law_782 : decode cL_law 782 = .ok (.invokevirtual 92, 3) := by decide +kernel
theorem dL_law_785 : decode cL_law 785 = .ok (.aload_n 2, 1) := by decide +kernel
theorem dL_law_786 : decode cL_law 786 = .ok (.aload_n 0, 1) := by decide +kernel
theorem dL_law_787 : decode cL_law 787 = .ok (.iload_n 3, 1) := by decide +kernel
theorem dL_law_788 : decode cL_law 788 = .ok (.iconst 1, 1) := by decide +kernel
theorem dL_law_789 : decode cL_law 789 = .ok (.iadd, 1) := by decide +kernel
theorem dL_law_790 : decode cL_law 790 = .ok (.iaload, 1) := by decide +kernel
theorem dL_law_791 : decode cL_law 791 = .ok (.aload_n 0, 1) := by decide +kernel
theorem dL_law_792 : decode cL_law 792 = .ok (.iload_n 3, 1) := by decide +kernel
theorem dL_law_793 : decode cL_law 793 = .ok (.iconst 2, 1) := by decide +kernel
theorem dL_law_794 : decode cL_law 794 = .ok (.iadd, 1) := by decide +kernel
theorem dL_law_795 : decode cL_law 795 = .ok (.iaload, 1) := by decide +kernel
theorem dL_law_796 : decode cL_law 796 = .ok (.aload_n 0, 1) := by decide +kernel
theorem dL_law_797 : decode cL_law 797 = .ok (.iload_n 3, 1) := by decide +kernel
theorem dL_law_798 : decode cL_law 798 = .ok (.iconst 3, 1) := by decide +kernel
theorem dL_law_799 : decode cL_law 799 = .ok (.iadd, 1) := by decide +kernel
theorem dL_law_800 : decode cL_law 800 = .ok (.iaload, 1) := by decide +kernel
theorem dL_law_801 : decode cL_law 801 = .ok (.invokevirtual 95, 3) := by decide +kernel
theorem dL_law_804 : decode cL_law 804 = .ok (.if_icmp .eq 721, 3) := by decide +kernel
theorem dL_law_807 : decode cL_law 807 = .ok (.iconst 0, 1) := by decide +kernel
theorem dL_law_808 : decode cL_law 808 = .ok (.ireturn, 1) := by decide +kernel
theorem dL_law_809 : decode cL_law 809 = .ok (.aload_n 1, 1) := by decide +kernel
theorem dL_law_810 : decode cL_law 810 = .ok (.aload_n 0, 1) := by decide +kernel
theorem dL_law_811 : decode cL_law 811 = .ok (.iload_n 3, 1) := by decide +kernel
theorem dL_law_812 : decode cL_law 812 = .ok (.iconst 1, 1) := by decide +kernel
theorem dL_law_813 : decode cL_law 813 = .ok (.iadd, 1) := by decide +kernel
theorem dL_law_814 : decode cL_law 814 = .ok (.iaload, 1) := by decide +kernel
theorem dL_law_815 : decode cL_law 815 = .ok (.invokevirtual 96, 3) := by decide +kernel
theorem dL_law_818 : decode cL_law 818 = .ok (.aload_n 2, 1) := by decide +kernel
theorem dL_law_819 : decode cL_law 819 = .ok (.aload_n 0, 1) := by decide +kernel
theorem dL_law_820 : decode cL_law 820 = .ok (.iload_n 3, 1) := by decide +kernel
theorem dL_law_821 : decode cL_law 821 = .ok (.iconst 1, 1) := by decide +kernel
theorem dL_law_822 : decode cL_law 822 = .ok (.iadd, 1) := by decide +kernel
theorem dL_law_823 : decode cL_law 823 = .ok (.iaload, 1) := by decide +kernel
theorem dL_law_824 : decode cL_law 824 = .ok (.invokevirtual 99, 3) := by decide +kernel
theorem dL_law_827 : decode cL_law 827 = .ok (.if_icmp .eq 698, 3) := by decide +kernel
theorem dL_law_830 : decode cL_law 830 = .ok (.iconst 0, 1) := by decide +kernel
theorem dL_law_831 : decode cL_law 831 = .ok (.ireturn, 1) := by decide +kernel
theorem dL_law_832 : decode cL_law 832 = .ok (.aload_n 1, 1) := by decide +kernel
theorem dL_law_833 : decode cL_law 833 = .ok (.aload_n 0, 1) := by decide +kernel
theorem dL_law_834 : decode cL_law 834 = .ok (.iload_n 3, 1) := by decide +kernel
theorem dL_law_835 : decode cL_law 835 = .ok (.iconst 1, 1) := by decide +kernel
theorem dL_law_836 : decode cL_law 836 = .ok (.iadd, 1) := by decide +kernel
theorem dL_law_837 : decode cL_law 837 = .ok (.iaload, 1) := by decide +kernel
theorem dL_law_838 : decode cL_law 838 = .ok (.aload_n 0, 1) := by decide +kernel
theorem dL_law_839 : decode cL_law 839 = .ok (.iload_n 3, 1) := by decide +kernel
theorem dL_law_840 : decode cL_law 840 = .ok (.iconst 2, 1) := by decide +kernel
theorem dL_law_841 : decode cL_law 841 = .ok (.iadd, 1) := by decide +kernel
theorem dL_law_842 : decode cL_law 842 = .ok (.iaload, 1) := by decide +kernel
theorem dL_law_843 : decode cL_law 843 = .ok (.invokevirtual 100, 3) := by decide +kernel
theorem dL_law_846 : decode cL_law 846 = .ok (.aload_n 2, 1) := by decide +kernel
theorem dL_law_847 : decode cL_law 847 = .ok (.aload_n 0, 1) := by decide +kernel
theorem dL_law_848 : decode cL_law 848 = .ok (.iload_n 3, 1) := by decide +kernel
theorem dL_law_849 : decode cL_law 849 = .ok (.iconst 1, 1) := by decide +kernel
theorem dL_law_850 : decode cL_law 850 = .ok (.iadd, 1) := by decide +kernel
theorem dL_law_851 : decode cL_law 851 = .ok (.iaload, 1) := by decide +kernel
theorem dL_law_852 : decode cL_law 852 = .ok (.aload_n 0, 1) := by decide +kernel
theorem dL_law_853 : decode cL_law 853 = .ok (.iload_n 3, 1) := by decide +kernel
theorem dL_law_854 : decode cL_law 854 = .ok (.iconst 2, 1) := by decide +kernel
theorem dL_law_855 : decode cL_law 855 = .ok (.iadd, 1) := by decide +kernel
theorem dL_law_856 : decode cL_law 856 = .ok (.iaload, 1) := by decide +kernel
theorem dL_law_857 : decode cL_law 857 = .ok (.invokevirtual 103, 3) := by decide +kernel
theorem dL_law_860 : decode cL_law 860 = .ok (.if_icmp .eq 665, 3) := by decide +kernel
theorem dL_law_863 : decode cL_law 863 = .ok (.iconst 0, 1) := by decide +kernel
theorem dL_law_864 : decode cL_law 864 = .ok (.ireturn, 1) := by decide +kernel
theorem dL_law_865 : decode cL_law 865 = .ok (.aload_n 1, 1) := by decide +kernel
theorem dL_law_866 : decode cL_law 866 = .ok (.aload_n 0, 1) := by decide +kernel
theorem dL_law_867 : decode cL_law 867 = .ok (.iload_n 3, 1) := by decide +kernel
theorem dL_law_868 : decode cL_law 868 = .ok (.iconst 1, 1) := by decide +kernel
theorem dL_law_869 : decode cL_law 869 = .ok (.iadd, 1) := by decide +kernel
theorem dL_law_870 : decode cL_law 870 = .ok (.iaload, 1) := by decide +kernel
theorem dL_law_871 : decode cL_law 871 = .ok (.aload_n 0, 1) := by decide +kernel
theorem dL_law_872 : decode cL_law 872 = .ok (.iload_n 3, 1) := by decide +kernel
theorem dL_law_873 : decode cL_law 873 = .ok (.iconst 2, 1) := by decide +kernel
theorem dL_law_874 : decode cL_law 874 = .ok (.iadd, 1) := by decide +kernel
theorem dL_law_875 : decode cL_law 875 = .ok (.iaload, 1) := by decide +kernel
theorem dL_law_876 : decode cL_law 876 = .ok (.invokevirtual 104, 3) := by decide +kernel
theorem dL_law_879 : decode cL_law 879 = .ok (.aload_n 2, 1) := by decide +kernel
theorem dL_law_880 : decode cL_law 880 = .ok (.aload_n 0, 1) := by decide +kernel
theorem dL_law_881 : decode cL_law 881 = .ok (.iload_n 3, 1) := by decide +kernel
theorem dL_law_882 : decode cL_law 882 = .ok (.iconst 1, 1) := by decide +kernel
theorem dL_law_883 : decode cL_law 883 = .ok (.iadd, 1) := by decide +kernel
theorem dL_law_884 : decode cL_law 884 = .ok (.iaload, 1) := by decide +kernel
theorem dL_law_885 : decode cL_law 885 = .ok (.aload_n 0, 1) := by decide +kernel
theorem dL_law_886 : decode cL_law 886 = .ok (.iload_n 3, 1) := by decide +kernel
theorem dL_law_887 : decode cL_law 887 = .ok (.iconst 2, 1) := by decide +kernel
theorem dL_law_888 : decode cL_law 888 = .ok (.iadd, 1) := by decide +kernel
theorem dL_law_889 : decode cL_law 889 = .ok (.iaload, 1) := by decide +kernel
theorem dL_law_890 : decode cL_law 890 = .ok (.invokevirtual 107, 3) := by decide +kernel
theorem dL_law_893 : decode cL_law 893 = .ok (.if_icmp .eq 632, 3) := by decide +kernel
theorem dL_law_896 : decode cL_law 896 = .ok (.iconst 0, 1) := by decide +kernel
theorem dL_law_897 : decode cL_law 897 = .ok (.ireturn, 1) := by decide +kernel
theorem dL_law_898 : decode cL_law 898 = .ok (.aload_n 1, 1) := by decide +kernel
theorem dL_law_899 : decode cL_law 899 = .ok (.aload_n 0, 1) := by decide +kernel
theorem dL_law_900 : decode cL_law 900 = .ok (.iload_n 3, 1) := by decide +kernel
theorem dL_law_901 : decode cL_law 901 = .ok (.iconst 1, 1) := by decide +kernel
theorem dL_law_902 : decode cL_law 902 = .ok (.iadd, 1) := by decide +kernel
theorem dL_law_903 : decode cL_law 903 = .ok (.iaload, 1) := by decide +kernel
theorem dL_law_904 : decode cL_law 904 = .ok (.aload_n 0, 1) := by decide +kernel
theorem dL_law_905 : decode cL_law 905 = .ok (.iload_n 3, 1) := by decide +kernel
theorem dL_law_906 : decode cL_law 906 = .ok (.iconst 2, 1) := by decide +kernel
theorem dL_law_907 : decode cL_law 907 = .ok (.iadd, 1) := by decide +kernel
theorem dL_law_908 : decode cL_law 908 = .ok (.iaload, 1) := by decide +kernel
theorem dL_law_909 : decode cL_law 909 = .ok (.aload_n 0, 1) := by decide +kernel
theorem dL_law_910 : decode cL_law 910 = .ok (.iload_n 3, 1) := by decide +kernel
theorem dL_law_911 : decode cL_law 911 = .ok (.iconst 3, 1) := by decide +kernel
theorem dL_law_912 : decode cL_law 912 = .ok (.iadd, 1) := by decide +kernel
theorem dL_law_913 : decode cL_law 913 = .ok (.iaload, 1) := by decide +kernel
theorem dL_law_914 : decode cL_law 914 = .ok (.invokevirtual 108, 3) := by decide +kernel
theorem dL_law_917 : decode cL_law 917 = .ok (.aload_n 2, 1) := by decide +kernel
theorem dL_law_918 : decode cL_law 918 = .ok (.aload_n 0, 1) := by decide +kernel
theorem dL_law_919 : decode cL_law 919 = .ok (.iload_n 3, 1) := by decide +kernel
theorem dL_law_920 : decode cL_law 920 = .ok (.iconst 1, 1) := by decide +kernel
theorem dL_law_921 : decode cL_law 921 = .ok (.iadd, 1) := by decide +kernel
theorem dL_law_922 : decode cL_law 922 = .ok (.iaload, 1) := by decide +kernel
theorem dL_law_923 : decode cL_law 923 = .ok (.aload_n 0, 1) := by decide +kernel
theorem dL_law_924 : decode cL_law 924 = .ok (.iload_n 3, 1) := by decide +kernel
theorem dL_law_925 : decode cL_law 925 = .ok (.iconst 2, 1) := by decide +kernel
theorem dL_law_926 : decode cL_law 926 = .ok (.iadd, 1) := by decide +kernel
theorem dL_law_927 : decode cL_law 927 = .ok (.iaload, 1) := by decide +kernel
theorem dL_law_928 : decode cL_law 928 = .ok (.aload_n 0, 1) := by decide +kernel
theorem dL_law_929 : decode cL_law 929 = .ok (.iload_n 3, 1) := by decide +kernel
theorem dL_law_930 : decode cL_law 930 = .ok (.iconst 3, 1) := by decide +kernel
theorem dL_law_931 : decode cL_law 931 = .ok (.iadd, 1) := by decide +kernel
theorem dL_law_932 : decode cL_law 932 = .ok (.iaload, 1) := by decide +kernel
theorem dL_law_933 : decode cL_law 933 = .ok (.invokevirtual 111, 3) := by decide +kernel
theorem dL_law_936 : decode cL_law 936 = .ok (.if_icmp .eq 589, 3) := by decide +kernel
theorem dL_law_939 : decode cL_law 939 = .ok (.iconst 0, 1) := by decide +kernel
theorem dL_law_940 : decode cL_law 940 = .ok (.ireturn, 1) := by decide +kernel
theorem dL_law_941 : decode cL_law 941 = .ok (.aload_n 1, 1) := by decide +kernel
theorem dL_law_942 : decode cL_law 942 = .ok (.aload_n 0, 1) := by decide +kernel
theorem dL_law_943 : decode cL_law 943 = .ok (.iload_n 3, 1) := by decide +kernel
theorem dL_law_944 : decode cL_law 944 = .ok (.iconst 1, 1) := by decide +kernel
theorem dL_law_945 : decode cL_law 945 = .ok (.iadd, 1) := by decide +kernel
theorem dL_law_946 : decode cL_law 946 = .ok (.iaload, 1) := by decide +kernel
theorem dL_law_947 : decode cL_law 947 = .ok (.invokevirtual 112, 3) := by decide +kernel
theorem dL_law_950 : decode cL_law 950 = .ok (.aload_n 2, 1) := by decide +kernel
theorem dL_law_951 : decode cL_law 951 = .ok (.aload_n 0, 1) := by decide +kernel
theorem dL_law_952 : decode cL_law 952 = .ok (.iload_n 3, 1) := by decide +kernel
theorem dL_law_953 : decode cL_law 953 = .ok (.iconst 1, 1) := by decide +kernel
theorem dL_law_954 : decode cL_law 954 = .ok (.iadd, 1) := by decide +kernel
theorem dL_law_955 : decode cL_law 955 = .ok (.iaload, 1) := by decide +kernel
theorem dL_law_956 : decode cL_law 956 = .ok (.invokevirtual 115, 3) := by decide +kernel
theorem dL_law_959 : decode cL_law 959 = .ok (.if_icmp .eq 566, 3) := by decide +kernel
theorem dL_law_962 : decode cL_law 962 = .ok (.iconst 0, 1) := by decide +kernel
theorem dL_law_963 : decode cL_law 963 = .ok (.ireturn, 1) := by decide +kernel
theorem dL_law_964 : decode cL_law 964 = .ok (.aload_n 1, 1) := by decide +kernel
theorem dL_law_965 : decode cL_law 965 = .ok (.aload_n 0, 1) := by decide +kernel
theorem dL_law_966 : decode cL_law 966 = .ok (.iload_n 3, 1) := by decide +kernel
theorem dL_law_967 : decode cL_law 967 = .ok (.iconst 1, 1) := by decide +kernel
theorem dL_law_968 : decode cL_law 968 = .ok (.iadd, 1) := by decide +kernel
theorem dL_law_969 : decode cL_law 969 = .ok (.iaload, 1) := by decide +kernel
theorem dL_law_970 : decode cL_law 970 = .ok (.aload_n 0, 1) := by decide +kernel
theorem dL_law_971 : decode cL_law 971 = .ok (.iload_n 3, 1) := by decide +kernel
theorem dL_law_972 : decode cL_law 972 = .ok (.iconst 2, 1) := by decide +kernel
theorem dL_law_973 : decode cL_law 973 = .ok (.iadd, 1) := by decide +kernel
theorem dL_law_974 : decode cL_law 974 = .ok (.iaload, 1) := by decide +kernel
theorem dL_law_975 : decode cL_law 975 = .ok (.invokevirtual 116, 3) := by decide +kernel
theorem dL_law_978 : decode cL_law 978 = .ok (.aload_n 2, 1) := by decide +kernel
theorem dL_law_979 : decode cL_law 979 = .ok (.aload_n 0, 1) := by decide +kernel
theorem dL_law_980 : decode cL_law 980 = .ok (.iload_n 3, 1) := by decide +kernel
theorem dL_law_981 : decode cL_law 981 = .ok (.iconst 1, 1) := by decide +kernel
theorem dL_law_982 : decode cL_law 982 = .ok (.iadd, 1) := by decide +kernel
theorem dL_law_983 : decode cL_law 983 = .ok (.iaload, 1) := by decide +kernel
theorem dL_law_984 : decode cL_law 984 = .ok (.aload_n 0, 1) := by decide +kernel
theorem dL_law_985 : decode cL_law 985 = .ok (.iload_n 3, 1) := by decide +kernel
theorem dL_law_986 : decode cL_law 986 = .ok (.iconst 2, 1) := by decide +kernel
theorem dL_law_987 : decode cL_law 987 = .ok (.iadd, 1) := by decide +kernel
theorem dL_law_988 : decode cL_law 988 = .ok (.iaload, 1) := by decide +kernel
theorem dL_law_989 : decode cL_law 989 = .ok (.invokevirtual 119, 3) := by decide +kernel
theorem dL_law_992 : decode cL_law 992 = .ok (.if_icmp .eq 533, 3) := by decide +kernel
theorem dL_law_995 : decode cL_law 995 = .ok (.iconst 0, 1) := by decide +kernel
theorem dL_law_996 : decode cL_law 996 = .ok (.ireturn, 1) := by decide +kernel
theorem dL_law_997 : decode cL_law 997 = .ok (.aload_n 1, 1) := by decide +kernel
theorem dL_law_998 : decode cL_law 998 = .ok (.aload_n 0, 1) := by decide +kernel
theorem dL_law_999 : decode cL_law 999 = .ok (.iload_n 3, 1) := by decide +kernel
theorem dL_law_1000 : decode cL_law 1000 = .ok (.iconst 1, 1) := by decide +kernel
theorem dL_law_1001 : decode cL_law 1001 = .ok (.iadd, 1) := by decide +kernel
theorem dL_law_1002 : decode cL_law 1002 = .ok (.iaload, 1) := by decide +kernel
theorem dL_law_1003 : decode cL_law 1003 = .ok (.invokevirtual 120, 3) := by decide +kernel
theorem dL_law_1006 : decode cL_law 1006 = .ok (.aload_n 2, 1) := by decide +kernel
theorem dL_law_1007 : decode cL_law 1007 = .ok (.aload_n 0, 1) := by decide +kernel
theorem dL_law_1008 : decode cL_law 1008 = .ok (.iload_n 3, 1) := by decide +kernel
theorem dL_law_1009 : decode cL_law 1009 = .ok (.iconst 1, 1) := by decide +kernel
theorem dL_law_1010 : decode cL_law 1010 = .ok (.iadd, 1) := by decide +kernel
theorem dL_law_1011 : decode cL_law 1011 = .ok (.iaload, 1) := by decide +kernel
theorem dL_law_1012 : decode cL_law 1012 = .ok (.invokevirtual 123, 3) := by decide +kernel
theorem dL_law_1015 : decode cL_law 1015 = .ok (.if_icmp .eq 510, 3) := by decide +kernel
theorem dL_law_1018 : decode cL_law 1018 = .ok (.iconst 0, 1) := by decide +kernel
theorem dL_law_1019 : decode cL_law 1019 = .ok (.ireturn, 1) := by decide +kernel
theorem dL_law_1020 : decode cL_law 1020 = .ok (.aload_n 1, 1) := by decide +kernel
theorem dL_law_1021 : decode cL_law 1021 = .ok (.invokevirtual 124, 3) := by decide +kernel
theorem dL_law_1024 : decode cL_law 1024 = .ok (.aload_n 2, 1) := by decide +kernel
theorem dL_law_1025 : decode cL_law 1025 = .ok (.invokevirtual 128, 3) := by decide +kernel
theorem dL_law_1028 : decode cL_law 1028 = .ok (.lcmp, 1) := by decide +kernel
theorem dL_law_1029 : decode cL_law 1029 = .ok (.ifCond .eq 496, 3) := by decide +kernel
theorem dL_law_1032 : decode cL_law 1032 = .ok (.iconst 0, 1) := by decide +kernel
theorem dL_law_1033 : decode cL_law 1033 = .ok (.ireturn, 1) := by decide +kernel
theorem dL_law_1034 : decode cL_law 1034 = .ok (.aload_n 1, 1) := by decide +kernel
theorem dL_law_1035 : decode cL_law 1035 = .ok (.aload_n 0, 1) := by decide +kernel
theorem dL_law_1036 : decode cL_law 1036 = .ok (.iload_n 3, 1) := by decide +kernel
theorem dL_law_1037 : decode cL_law 1037 = .ok (.iconst 1, 1) := by decide +kernel
theorem dL_law_1038 : decode cL_law 1038 = .ok (.iadd, 1) := by decide +kernel
theorem dL_law_1039 : decode cL_law 1039 = .ok (.iaload, 1) := by decide +kernel
theorem dL_law_1040 : decode cL_law 1040 = .ok (.invokevirtual 129, 3) := by decide +kernel
theorem dL_law_1043 : decode cL_law 1043 = .ok (.aload_n 2, 1) := by decide +kernel
theorem dL_law_1044 : decode cL_law 1044 = .ok (.aload_n 0, 1) := by decide +kernel
theorem dL_law_1045 : decode cL_law 1045 = .ok (.iload_n 3, 1) := by decide +kernel
theorem dL_law_1046 : decode cL_law 1046 = .ok (.iconst 1, 1) := by decide +kernel
theorem dL_law_1047 : decode cL_law 1047 = .ok (.iadd, 1) := by decide +kernel
theorem dL_law_1048 : decode cL_law 1048 = .ok (.iaload, 1) := by decide +kernel
theorem dL_law_1049 : decode cL_law 1049 = .ok (.invokevirtual 132, 3) := by decide +kernel
theorem dL_law_1052 : decode cL_law 1052 = .ok (.if_icmp .eq 473, 3) := by decide +kernel
theorem dL_law_1055 : decode cL_law 1055 = .ok (.iconst 0, 1) := by decide +kernel
theorem dL_law_1056 : decode cL_law 1056 = .ok (.ireturn, 1) := by decide +kernel
theorem dL_law_1057 : decode cL_law 1057 = .ok (.aload_n 1, 1) := by decide +kernel
theorem dL_law_1058 : decode cL_law 1058 = .ok (.aload_n 0, 1) := by decide +kernel
theorem dL_law_1059 : decode cL_law 1059 = .ok (.iload_n 3, 1) := by decide +kernel
theorem dL_law_1060 : decode cL_law 1060 = .ok (.iconst 1, 1) := by decide +kernel
theorem dL_law_1061 : decode cL_law 1061 = .ok (.iadd, 1) := by decide +kernel
theorem dL_law_1062 : decode cL_law 1062 = .ok (.iaload, 1) := by decide +kernel
theorem dL_law_1063 : decode cL_law 1063 = .ok (.aload_n 0, 1) := by decide +kernel
theorem dL_law_1064 : decode cL_law 1064 = .ok (.iload_n 3, 1) := by decide +kernel
theorem dL_law_1065 : decode cL_law 1065 = .ok (.iconst 2, 1) := by decide +kernel
theorem dL_law_1066 : decode cL_law 1066 = .ok (.iadd, 1) := by decide +kernel
theorem dL_law_1067 : decode cL_law 1067 = .ok (.iaload, 1) := by decide +kernel
theorem dL_law_1068 : decode cL_law 1068 = .ok (.invokevirtual 133, 3) := by decide +kernel
theorem dL_law_1071 : decode cL_law 1071 = .ok (.aload_n 2, 1) := by decide +kernel
theorem dL_law_1072 : decode cL_law 1072 = .ok (.aload_n 0, 1) := by decide +kernel
theorem dL_law_1073 : decode cL_law 1073 = .ok (.iload_n 3, 1) := by decide +kernel
theorem dL_law_1074 : decode cL_law 1074 = .ok (.iconst 1, 1) := by decide +kernel
theorem dL_law_1075 : decode cL_law 1075 = .ok (.iadd, 1) := by decide +kernel
theorem dL_law_1076 : decode cL_law 1076 = .ok (.iaload, 1) := by decide +kernel
theorem dL_law_1077 : decode cL_law 1077 = .ok (.aload_n 0, 1) := by decide +kernel
theorem dL_law_1078 : decode cL_law 1078 = .ok (.iload_n 3, 1) := by decide +kernel
theorem dL_law_1079 : decode cL_law 1079 = .ok (.iconst 2, 1) := by decide +kernel
theorem dL_law_1080 : decode cL_law 1080 = .ok (.iadd, 1) := by decide +kernel
theorem dL_law_1081 : decode cL_law 1081 = .ok (.iaload, 1) := by decide +kernel
theorem dL_law_1082 : decode cL_law 1082 = .ok (.invokevirtual 136, 3) := by decide +kernel
theorem dL_law_1085 : decode cL_law 1085 = .ok (.if_icmp .eq 440, 3) := by decide +kernel
theorem dL_law_1088 : decode cL_law 1088 = .ok (.iconst 0, 1) := by decide +kernel
theorem dL_law_1089 : decode cL_law 1089 = .ok (.ireturn, 1) := by decide +kernel
theorem dL_law_1090 : decode cL_law 1090 = .ok (.aload_n 1, 1) := by decide +kernel
theorem dL_law_1091 : decode cL_law 1091 = .ok (.aload_n 0, 1) := by decide +kernel
theorem dL_law_1092 : decode cL_law 1092 = .ok (.iload_n 3, 1) := by decide +kernel
theorem dL_law_1093 : decode cL_law 1093 = .ok (.iconst 1, 1) := by decide +kernel
theorem dL_law_1094 : decode cL_law 1094 = .ok (.iadd, 1) := by decide +kernel
theorem dL_law_1095 : decode cL_law 1095 = .ok (.iaload, 1) := by decide +kernel
theorem dL_law_1096 : decode cL_law 1096 = .ok (.ifCond .eq 7, 3) := by decide +kernel
theorem dL_law_1099 : decode cL_law 1099 = .ok (.iconst 1, 1) := by decide +kernel
theorem dL_law_1100 : decode cL_law 1100 = .ok (.goto 4, 3) := by decide +kernel
theorem dL_law_1103 : decode cL_law 1103 = .ok (.iconst 0, 1) := by decide +kernel
theorem dL_law_1104 : decode cL_law 1104 = .ok (.invokevirtual 137, 3) := by decide +kernel
theorem dL_law_1107 : decode cL_law 1107 = .ok (.aload_n 2, 1) := by decide +kernel
theorem dL_law_1108 : decode cL_law 1108 = .ok (.aload_n 0, 1) := by decide +kernel
theorem dL_law_1109 : decode cL_law 1109 = .ok (.iload_n 3, 1) := by decide +kernel
theorem dL_law_1110 : decode cL_law 1110 = .ok (.iconst 1, 1) := by decide +kernel
theorem dL_law_1111 : decode cL_law 1111 = .ok (.iadd, 1) := by decide +kernel
theorem dL_law_1112 : decode cL_law 1112 = .ok (.iaload, 1) := by decide +kernel
theorem dL_law_1113 : decode cL_law 1113 = .ok (.ifCond .eq 7, 3) := by decide +kernel
theorem dL_law_1116 : decode cL_law 1116 = .ok (.iconst 1, 1) := by decide +kernel
theorem dL_law_1117 : decode cL_law 1117 = .ok (.goto 4, 3) := by decide +kernel
theorem dL_law_1120 : decode cL_law 1120 = .ok (.iconst 0, 1) := by decide +kernel
theorem dL_law_1121 : decode cL_law 1121 = .ok (.invokevirtual 141, 3) := by decide +kernel
theorem dL_law_1124 : decode cL_law 1124 = .ok (.if_icmp .eq 401, 3) := by decide +kernel
theorem dL_law_1127 : decode cL_law 1127 = .ok (.iconst 0, 1) := by decide +kernel
theorem dL_law_1128 : decode cL_law 1128 = .ok (.ireturn, 1) := by decide +kernel
theorem dL_law_1129 : decode cL_law 1129 = .ok (.aload_n 1, 1) := by decide +kernel
theorem dL_law_1130 : decode cL_law 1130 = .ok (.invokevirtual 142, 3) := by decide +kernel
theorem dL_law_1133 : decode cL_law 1133 = .ok (.aload_n 2, 1) := by decide +kernel
theorem dL_law_1134 : decode cL_law 1134 = .ok (.invokevirtual 145, 3) := by decide +kernel
theorem dL_law_1137 : decode cL_law 1137 = .ok (.if_icmp .eq 388, 3) := by decide +kernel
theorem dL_law_1140 : decode cL_law 1140 = .ok (.iconst 0, 1) := by decide +kernel
theorem dL_law_1141 : decode cL_law 1141 = .ok (.ireturn, 1) := by decide +kernel
theorem dL_law_1142 : decode cL_law 1142 = .ok (.aload_n 1, 1) := by decide +kernel
theorem dL_law_1143 : decode cL_law 1143 = .ok (.aload_n 0, 1) := by decide +kernel
theorem dL_law_1144 : decode cL_law 1144 = .ok (.iload_n 3, 1) := by decide +kernel
theorem dL_law_1145 : decode cL_law 1145 = .ok (.iconst 1, 1) := by decide +kernel
theorem dL_law_1146 : decode cL_law 1146 = .ok (.iadd, 1) := by decide +kernel
theorem dL_law_1147 : decode cL_law 1147 = .ok (.iaload, 1) := by decide +kernel
theorem dL_law_1148 : decode cL_law 1148 = .ok (.ifCond .eq 7, 3) := by decide +kernel
theorem dL_law_1151 : decode cL_law 1151 = .ok (.iconst 1, 1) := by decide +kernel
theorem dL_law_1152 : decode cL_law 1152 = .ok (.goto 4, 3) := by decide +kernel
theorem dL_law_1155 : decode cL_law 1155 = .ok (.iconst 0, 1) := by decide +kernel
theorem dL_law_1156 : decode cL_law 1156 = .ok (.invokevirtual 146, 3) := by decide +kernel
theorem dL_law_1159 : decode cL_law 1159 = .ok (.aload_n 2, 1) := by decide +kernel
theorem dL_law_1160 : decode cL_law 1160 = .ok (.aload_n 0, 1) := by decide +kernel
theorem dL_law_1161 : decode cL_law 1161 = .ok (.iload_n 3, 1) := by decide +kernel
theorem dL_law_1162 : decode cL_law 1162 = .ok (.iconst 1, 1) := by decide +kernel
theorem dL_law_1163 : decode cL_law 1163 = .ok (.iadd, 1) := by decide +kernel
theorem dL_law_1164 : decode cL_law 1164 = .ok (.iaload, 1) := by decide +kernel
theorem dL_law_1165 : decode cL_law 1165 = .ok (.ifCond .eq 7, 3) := by decide +kernel
theorem dL_law_1168 : decode cL_law 1168 = .ok (.iconst 1, 1) := by decide +kernel
theorem dL_law_1169 : decode cL_law 1169 = .ok (.goto 4, 3) := by decide +kernel
theorem dL_law_1172 : decode cL_law 1172 = .ok (.iconst 0, 1) := by decide +kernel
theorem dL_law_1173 : decode cL_law 1173 = .ok (.invokevirtual 149, 3) := by decide +kernel
theorem dL_law_1176 : decode cL_law 1176 = .ok (.if_icmp .eq 349, 3) := by decide +kernel
theorem dL_law_1179 : decode cL_law 1179 = .ok (.iconst 0, 1) := by decide +kernel
theorem dL_law_1180 : decode cL_law 1180 = .ok (.ireturn, 1) := by decide +kernel
theorem dL_law_1181 : decode cL_law 1181 = .ok (.aload_n 1, 1) := by decide +kernel
theorem dL_law_1182 : decode cL_law 1182 = .ok (.aload_n 0, 1) := by decide +kernel
theorem dL_law_1183 : decode cL_law 1183 = .ok (.iload_n 3, 1) := by decide +kernel
theorem dL_law_1184 : decode cL_law 1184 = .ok (.iconst 1, 1) := by decide +kernel
theorem dL_law_1185 : decode cL_law 1185 = .ok (.iadd, 1) := by decide +kernel
theorem dL_law_1186 : decode cL_law 1186 = .ok (.iaload, 1) := by decide +kernel
theorem dL_law_1187 : decode cL_law 1187 = .ok (.invokevirtual 150, 3) := by decide +kernel
theorem dL_law_1190 : decode cL_law 1190 = .ok (.aload_n 2, 1) := by decide +kernel
theorem dL_law_1191 : decode cL_law 1191 = .ok (.aload_n 0, 1) := by decide +kernel
theorem dL_law_1192 : decode cL_law 1192 = .ok (.iload_n 3, 1) := by decide +kernel
theorem dL_law_1193 : decode cL_law 1193 = .ok (.iconst 1, 1) := by decide +kernel
theorem dL_law_1194 : decode cL_law 1194 = .ok (.iadd, 1) := by decide +kernel
theorem dL_law_1195 : decode cL_law 1195 = .ok (.iaload, 1) := by decide +kernel
theorem dL_law_1196 : decode cL_law 1196 = .ok (.invokevirtual 153, 3) := by decide +kernel
theorem dL_law_1199 : decode cL_law 1199 = .ok (.if_icmp .eq 326, 3) := by decide +kernel
theorem dL_law_1202 : decode cL_law 1202 = .ok (.iconst 0, 1) := by decide +kernel
theorem dL_law_1203 : decode cL_law 1203 = .ok (.ireturn, 1) := by decide +kernel
theorem dL_law_1204 : decode cL_law 1204 = .ok (.aload_n 1, 1) := by decide +kernel
theorem dL_law_1205 : decode cL_law 1205 = .ok (.invokevirtual 154, 3) := by decide +kernel
theorem dL_law_1208 : decode cL_law 1208 = .ok (.aload_n 2, 1) := by decide +kernel
theorem dL_law_1209 : decode cL_law 1209 = .ok (.invokevirtual 157, 3) := by decide +kernel
theorem dL_law_1212 : decode cL_law 1212 = .ok (.if_icmp .eq 313, 3) := by decide +kernel
theorem dL_law_1215 : decode cL_law 1215 = .ok (.iconst 0, 1) := by decide +kernel
theorem dL_law_1216 : decode cL_law 1216 = .ok (.ireturn, 1) := by decide +kernel
theorem dL_law_1217 : decode cL_law 1217 = .ok (.aload_n 1, 1) := by decide +kernel
theorem dL_law_1218 : decode cL_law 1218 = .ok (.aload_n 0, 1) := by decide +kernel
theorem dL_law_1219 : decode cL_law 1219 = .ok (.iload_n 3, 1) := by decide +kernel
theorem dL_law_1220 : decode cL_law 1220 = .ok (.iconst 1, 1) := by decide +kernel
theorem dL_law_1221 : decode cL_law 1221 = .ok (.iadd, 1) := by decide +kernel
theorem dL_law_1222 : decode cL_law 1222 = .ok (.iaload, 1) := by decide +kernel
theorem dL_law_1223 : decode cL_law 1223 = .ok (.aload_n 0, 1) := by decide +kernel
theorem dL_law_1224 : decode cL_law 1224 = .ok (.iload_n 3, 1) := by decide +kernel
theorem dL_law_1225 : decode cL_law 1225 = .ok (.iconst 2, 1) := by decide +kernel
theorem dL_law_1226 : decode cL_law 1226 = .ok (.iadd, 1) := by decide +kernel
theorem dL_law_1227 : decode cL_law 1227 = .ok (.iaload, 1) := by decide +kernel
theorem dL_law_1228 : decode cL_law 1228 = .ok (.ifCond .eq 7, 3) := by decide +kernel
theorem dL_law_1231 : decode cL_law 1231 = .ok (.iconst 1, 1) := by decide +kernel
theorem dL_law_1232 : decode cL_law 1232 = .ok (.goto 4, 3) := by decide +kernel
theorem dL_law_1235 : decode cL_law 1235 = .ok (.iconst 0, 1) := by decide +kernel
theorem dL_law_1236 : decode cL_law 1236 = .ok (.invokevirtual 158, 3) := by decide +kernel
theorem dL_law_1239 : decode cL_law 1239 = .ok (.aload_n 2, 1) := by decide +kernel
theorem dL_law_1240 : decode cL_law 1240 = .ok (.aload_n 0, 1) := by decide +kernel
theorem dL_law_1241 : decode cL_law 1241 = .ok (.iload_n 3, 1) := by decide +kernel
theorem dL_law_1242 : decode cL_law 1242 = .ok (.iconst 1, 1) := by decide +kernel
theorem dL_law_1243 : decode cL_law 1243 = .ok (.iadd, 1) := by decide +kernel
theorem dL_law_1244 : decode cL_law 1244 = .ok (.iaload, 1) := by decide +kernel
theorem dL_law_1245 : decode cL_law 1245 = .ok (.aload_n 0, 1) := by decide +kernel
theorem dL_law_1246 : decode cL_law 1246 = .ok (.iload_n 3, 1) := by decide +kernel
theorem dL_law_1247 : decode cL_law 1247 = .ok (.iconst 2, 1) := by decide +kernel
theorem dL_law_1248 : decode cL_law 1248 = .ok (.iadd, 1) := by decide +kernel
theorem dL_law_1249 : decode cL_law 1249 = .ok (.iaload, 1) := by decide +kernel
theorem dL_law_1250 : decode cL_law 1250 = .ok (.ifCond .eq 7, 3) := by decide +kernel
theorem dL_law_1253 : decode cL_law 1253 = .ok (.iconst 1, 1) := by decide +kernel
theorem dL_law_1254 : decode cL_law 1254 = .ok (.goto 4, 3) := by decide +kernel
theorem dL_law_1257 : decode cL_law 1257 = .ok (.iconst 0, 1) := by decide +kernel
theorem dL_law_1258 : decode cL_law 1258 = .ok (.invokevirtual 162, 3) := by decide +kernel
theorem dL_law_1261 : decode cL_law 1261 = .ok (.if_icmp .eq 264, 3) := by decide +kernel
theorem dL_law_1264 : decode cL_law 1264 = .ok (.iconst 0, 1) := by decide +kernel
theorem dL_law_1265 : decode cL_law 1265 = .ok (.ireturn, 1) := by decide +kernel
theorem dL_law_1266 : decode cL_law 1266 = .ok (.aload_n 1, 1) := by decide +kernel
theorem dL_law_1267 : decode cL_law 1267 = .ok (.aload_n 0, 1) := by decide +kernel
theorem dL_law_1268 : decode cL_law 1268 = .ok (.iload_n 3, 1) := by decide +kernel
theorem dL_law_1269 : decode cL_law 1269 = .ok (.iconst 1, 1) := by decide +kernel
theorem dL_law_1270 : decode cL_law 1270 = .ok (.iadd, 1) := by decide +kernel
theorem dL_law_1271 : decode cL_law 1271 = .ok (.iaload, 1) := by decide +kernel
theorem dL_law_1272 : decode cL_law 1272 = .ok (.aload_n 0, 1) := by decide +kernel
theorem dL_law_1273 : decode cL_law 1273 = .ok (.iload_n 3, 1) := by decide +kernel
theorem dL_law_1274 : decode cL_law 1274 = .ok (.iconst 2, 1) := by decide +kernel
theorem dL_law_1275 : decode cL_law 1275 = .ok (.iadd, 1) := by decide +kernel
theorem dL_law_1276 : decode cL_law 1276 = .ok (.iaload, 1) := by decide +kernel
theorem dL_law_1277 : decode cL_law 1277 = .ok (.aload_n 0, 1) := by decide +kernel
theorem dL_law_1278 : decode cL_law 1278 = .ok (.iload_n 3, 1) := by decide +kernel
theorem dL_law_1279 : decode cL_law 1279 = .ok (.iconst 3, 1) := by decide +kernel
theorem dL_law_1280 : decode cL_law 1280 = .ok (.iadd, 1) := by decide +kernel
theorem dL_law_1281 : decode cL_law 1281 = .ok (.iaload, 1) := by decide +kernel
theorem dL_law_1282 : decode cL_law 1282 = .ok (.invokevirtual 163, 3) := by decide +kernel
theorem dL_law_1285 : decode cL_law 1285 = .ok (.aload_n 2, 1) := by decide +kernel
theorem dL_law_1286 : decode cL_law 1286 = .ok (.aload_n 0, 1) := by decide +kernel
theorem dL_law_1287 : decode cL_law 1287 = .ok (.iload_n 3, 1) := by decide +kernel
theorem dL_law_1288 : decode cL_law 1288 = .ok (.iconst 1, 1) := by decide +kernel
theorem dL_law_1289 : decode cL_law 1289 = .ok (.iadd, 1) := by decide +kernel
theorem dL_law_1290 : decode cL_law 1290 = .ok (.iaload, 1) := by decide +kernel
theorem dL_law_1291 : decode cL_law 1291 = .ok (.aload_n 0, 1) := by decide +kernel
theorem dL_law_1292 : decode cL_law 1292 = .ok (.iload_n 3, 1) := by decide +kernel
theorem dL_law_1293 : decode cL_law 1293 = .ok (.iconst 2, 1) := by decide +kernel
theorem dL_law_1294 : decode cL_law 1294 = .ok (.iadd, 1) := by decide +kernel
theorem dL_law_1295 : decode cL_law 1295 = .ok (.iaload, 1) := by decide +kernel
theorem dL_law_1296 : decode cL_law 1296 = .ok (.aload_n 0, 1) := by decide +kernel
theorem dL_law_1297 : decode cL_law 1297 = .ok (.iload_n 3, 1) := by decide +kernel
theorem dL_law_1298 : decode cL_law 1298 = .ok (.iconst 3, 1) := by decide +kernel
theorem dL_law_1299 : decode cL_law 1299 = .ok (.iadd, 1) := by decide +kernel
theorem dL_law_1300 : decode cL_law 1300 = .ok (.iaload, 1) := by decide +kernel
theorem dL_law_1301 : decode cL_law 1301 = .ok (.invokevirtual 167, 3) := by decide +kernel
theorem dL_law_1304 : decode cL_law 1304 = .ok (.if_icmp .eq 221, 3) := by decide +kernel
theorem dL_law_1307 : decode cL_law 1307 = .ok (.iconst 0, 1) := by decide +kernel
theorem dL_law_1308 : decode cL_law 1308 = .ok (.ireturn, 1) := by decide +kernel
theorem dL_law_1309 : decode cL_law 1309 = .ok (.aload_n 1, 1) := by decide +kernel
theorem dL_law_1310 : decode cL_law 1310 = .ok (.aload_n 0, 1) := by decide +kernel
theorem dL_law_1311 : decode cL_law 1311 = .ok (.iload_n 3, 1) := by decide +kernel
theorem dL_law_1312 : decode cL_law 1312 = .ok (.iconst 1, 1) := by decide +kernel
theorem dL_law_1313 : decode cL_law 1313 = .ok (.iadd, 1) := by decide +kernel
theorem dL_law_1314 : decode cL_law 1314 = .ok (.iaload, 1) := by decide +kernel
theorem dL_law_1315 : decode cL_law 1315 = .ok (.aload_n 0, 1) := by decide +kernel
theorem dL_law_1316 : decode cL_law 1316 = .ok (.iload_n 3, 1) := by decide +kernel
theorem dL_law_1317 : decode cL_law 1317 = .ok (.iconst 2, 1) := by decide +kernel
theorem dL_law_1318 : decode cL_law 1318 = .ok (.iadd, 1) := by decide +kernel
theorem dL_law_1319 : decode cL_law 1319 = .ok (.iaload, 1) := by decide +kernel
theorem dL_law_1320 : decode cL_law 1320 = .ok (.ifCond .eq 7, 3) := by decide +kernel
theorem dL_law_1323 : decode cL_law 1323 = .ok (.iconst 1, 1) := by decide +kernel
theorem dL_law_1324 : decode cL_law 1324 = .ok (.goto 4, 3) := by decide +kernel
theorem dL_law_1327 : decode cL_law 1327 = .ok (.iconst 0, 1) := by decide +kernel
theorem dL_law_1328 : decode cL_law 1328 = .ok (.invokevirtual 168, 3) := by decide +kernel
theorem dL_law_1331 : decode cL_law 1331 = .ok (.aload_n 2, 1) := by decide +kernel
theorem dL_law_1332 : decode cL_law 1332 = .ok (.aload_n 0, 1) := by decide +kernel
theorem dL_law_1333 : decode cL_law 1333 = .ok (.iload_n 3, 1) := by decide +kernel
theorem dL_law_1334 : decode cL_law 1334 = .ok (.iconst 1, 1) := by decide +kernel
theorem dL_law_1335 : decode cL_law 1335 = .ok (.iadd, 1) := by decide +kernel
theorem dL_law_1336 : decode cL_law 1336 = .ok (.iaload, 1) := by decide +kernel
theorem dL_law_1337 : decode cL_law 1337 = .ok (.aload_n 0, 1) := by decide +kernel
theorem dL_law_1338 : decode cL_law 1338 = .ok (.iload_n 3, 1) := by decide +kernel
theorem dL_law_1339 : decode cL_law 1339 = .ok (.iconst 2, 1) := by decide +kernel
theorem dL_law_1340 : decode cL_law 1340 = .ok (.iadd, 1) := by decide +kernel
theorem dL_law_1341 : decode cL_law 1341 = .ok (.iaload, 1) := by decide +kernel
theorem dL_law_1342 : decode cL_law 1342 = .ok (.ifCond .eq 7, 3) := by decide +kernel
theorem dL_law_1345 : decode cL_law 1345 = .ok (.iconst 1, 1) := by decide +kernel
theorem dL_law_1346 : decode cL_law 1346 = .ok (.goto 4, 3) := by decide +kernel
theorem dL_law_1349 : decode cL_law 1349 = .ok (.iconst 0, 1) := by decide +kernel
theorem dL_law_1350 : decode cL_law 1350 = .ok (.invokevirtual 171, 3) := by decide +kernel
theorem dL_law_1353 : decode cL_law 1353 = .ok (.if_icmp .eq 172, 3) := by decide +kernel
theorem dL_law_1356 : decode cL_law 1356 = .ok (.iconst 0, 1) := by decide +kernel
theorem dL_law_1357 : decode cL_law 1357 = .ok (.ireturn, 1) := by decide +kernel
theorem dL_law_1358 : decode cL_law 1358 = .ok (.aload_n 1, 1) := by decide +kernel
theorem dL_law_1359 : decode cL_law 1359 = .ok (.aload_n 0, 1) := by decide +kernel
theorem dL_law_1360 : decode cL_law 1360 = .ok (.iload_n 3, 1) := by decide +kernel
theorem dL_law_1361 : decode cL_law 1361 = .ok (.iconst 1, 1) := by decide +kernel
theorem dL_law_1362 : decode cL_law 1362 = .ok (.iadd, 1) := by decide +kernel
theorem dL_law_1363 : decode cL_law 1363 = .ok (.iaload, 1) := by decide +kernel
theorem dL_law_1364 : decode cL_law 1364 = .ok (.aload_n 0, 1) := by decide +kernel
theorem dL_law_1365 : decode cL_law 1365 = .ok (.iload_n 3, 1) := by decide +kernel
theorem dL_law_1366 : decode cL_law 1366 = .ok (.iconst 2, 1) := by decide +kernel
theorem dL_law_1367 : decode cL_law 1367 = .ok (.iadd, 1) := by decide +kernel
theorem dL_law_1368 : decode cL_law 1368 = .ok (.iaload, 1) := by decide +kernel
theorem dL_law_1369 : decode cL_law 1369 = .ok (.invokevirtual 172, 3) := by decide +kernel
theorem dL_law_1372 : decode cL_law 1372 = .ok (.aload_n 2, 1) := by decide +kernel
theorem dL_law_1373 : decode cL_law 1373 = .ok (.aload_n 0, 1) := by decide +kernel
theorem dL_law_1374 : decode cL_law 1374 = .ok (.iload_n 3, 1) := by decide +kernel
theorem dL_law_1375 : decode cL_law 1375 = .ok (.iconst 1, 1) := by decide +kernel
theorem dL_law_1376 : decode cL_law 1376 = .ok (.iadd, 1) := by decide +kernel
theorem dL_law_1377 : decode cL_law 1377 = .ok (.iaload, 1) := by decide +kernel
theorem dL_law_1378 : decode cL_law 1378 = .ok (.aload_n 0, 1) := by decide +kernel
theorem dL_law_1379 : decode cL_law 1379 = .ok (.iload_n 3, 1) := by decide +kernel
theorem dL_law_1380 : decode cL_law 1380 = .ok (.iconst 2, 1) := by decide +kernel
theorem dL_law_1381 : decode cL_law 1381 = .ok (.iadd, 1) := by decide +kernel
theorem dL_law_1382 : decode cL_law 1382 = .ok (.iaload, 1) := by decide +kernel
theorem dL_law_1383 : decode cL_law 1383 = .ok (.invokevirtual 175, 3) := by decide +kernel
theorem dL_law_1386 : decode cL_law 1386 = .ok (.if_icmp .eq 139, 3) := by decide +kernel
theorem dL_law_1389 : decode cL_law 1389 = .ok (.iconst 0, 1) := by decide +kernel
theorem dL_law_1390 : decode cL_law 1390 = .ok (.ireturn, 1) := by decide +kernel
theorem dL_law_1391 : decode cL_law 1391 = .ok (.aload_n 1, 1) := by decide +kernel
theorem dL_law_1392 : decode cL_law 1392 = .ok (.invokevirtual 176, 3) := by decide +kernel
theorem dL_law_1395 : decode cL_law 1395 = .ok (.aload_n 2, 1) := by decide +kernel
theorem dL_law_1396 : decode cL_law 1396 = .ok (.invokevirtual 179, 3) := by decide +kernel
theorem dL_law_1399 : decode cL_law 1399 = .ok (.if_icmp .eq 126, 3) := by decide +kernel
theorem dL_law_1402 : decode cL_law 1402 = .ok (.iconst 0, 1) := by decide +kernel
theorem dL_law_1403 : decode cL_law 1403 = .ok (.ireturn, 1) := by decide +kernel
theorem dL_law_1404 : decode cL_law 1404 = .ok (.aload_n 1, 1) := by decide +kernel
theorem dL_law_1405 : decode cL_law 1405 = .ok (.invokevirtual 180, 3) := by decide +kernel
theorem dL_law_1408 : decode cL_law 1408 = .ok (.aload_n 2, 1) := by decide +kernel
theorem dL_law_1409 : decode cL_law 1409 = .ok (.invokevirtual 183, 3) := by decide +kernel
theorem dL_law_1412 : decode cL_law 1412 = .ok (.if_icmp .eq 113, 3) := by decide +kernel
theorem dL_law_1415 : decode cL_law 1415 = .ok (.iconst 0, 1) := by decide +kernel
theorem dL_law_1416 : decode cL_law 1416 = .ok (.ireturn, 1) := by decide +kernel
theorem dL_law_1417 : decode cL_law 1417 = .ok (.aload_n 1, 1) := by decide +kernel
theorem dL_law_1418 : decode cL_law 1418 = .ok (.invokevirtual 184, 3) := by decide +kernel
theorem dL_law_1421 : decode cL_law 1421 = .ok (.aload_n 2, 1) := by decide +kernel
theorem dL_law_1422 : decode cL_law 1422 = .ok (.invokevirtual 187, 3) := by decide +kernel
theorem dL_law_1425 : decode cL_law 1425 = .ok (.if_icmp .eq 100, 3) := by decide +kernel
theorem dL_law_1428 : decode cL_law 1428 = .ok (.iconst 0, 1) := by decide +kernel
theorem dL_law_1429 : decode cL_law 1429 = .ok (.ireturn, 1) := by decide +kernel
theorem dL_law_1430 : decode cL_law 1430 = .ok (.aload_n 1, 1) := by decide +kernel
theorem dL_law_1431 : decode cL_law 1431 = .ok (.aload_n 0, 1) := by decide +kernel
theorem dL_law_1432 : decode cL_law 1432 = .ok (.iload_n 3, 1) := by decide +kernel
theorem dL_law_1433 : decode cL_law 1433 = .ok (.iconst 1, 1) := by decide +kernel
theorem dL_law_1434 : decode cL_law 1434 = .ok (.iadd, 1) := by decide +kernel
theorem dL_law_1435 : decode cL_law 1435 = .ok (.iaload, 1) := by decide +kernel
theorem dL_law_1436 : decode cL_law 1436 = .ok (.invokevirtual 188, 3) := by decide +kernel
theorem dL_law_1439 : decode cL_law 1439 = .ok (.aload_n 2, 1) := by decide +kernel
theorem dL_law_1440 : decode cL_law 1440 = .ok (.aload_n 0, 1) := by decide +kernel
theorem dL_law_1441 : decode cL_law 1441 = .ok (.iload_n 3, 1) := by decide +kernel
theorem dL_law_1442 : decode cL_law 1442 = .ok (.iconst 1, 1) := by decide +kernel
theorem dL_law_1443 : decode cL_law 1443 = .ok (.iadd, 1) := by decide +kernel
theorem dL_law_1444 : decode cL_law 1444 = .ok (.iaload, 1) := by decide +kernel
theorem dL_law_1445 : decode cL_law 1445 = .ok (.invokevirtual 191, 3) := by decide +kernel
theorem dL_law_1448 : decode cL_law 1448 = .ok (.if_icmp .eq 77, 3) := by decide +kernel
theorem dL_law_1451 : decode cL_law 1451 = .ok (.iconst 0, 1) := by decide +kernel
theorem dL_law_1452 : decode cL_law 1452 = .ok (.ireturn, 1) := by decide +kernel
theorem dL_law_1453 : decode cL_law 1453 = .ok (.aload_n 1, 1) := by decide +kernel
theorem dL_law_1454 : decode cL_law 1454 = .ok (.aload_n 0, 1) := by decide +kernel
theorem dL_law_1455 : decode cL_law 1455 = .ok (.iload_n 3, 1) := by decide +kernel
theorem dL_law_1456 : decode cL_law 1456 = .ok (.iconst 1, 1) := by decide +kernel
theorem dL_law_1457 : decode cL_law 1457 = .ok (.iadd, 1) := by decide +kernel
theorem dL_law_1458 : decode cL_law 1458 = .ok (.iaload, 1) := by decide +kernel
theorem dL_law_1459 : decode cL_law 1459 = .ok (.invokevirtual 192, 3) := by decide +kernel
theorem dL_law_1462 : decode cL_law 1462 = .ok (.aload_n 2, 1) := by decide +kernel
theorem dL_law_1463 : decode cL_law 1463 = .ok (.aload_n 0, 1) := by decide +kernel
theorem dL_law_1464 : decode cL_law 1464 = .ok (.iload_n 3, 1) := by decide +kernel
theorem dL_law_1465 : decode cL_law 1465 = .ok (.iconst 1, 1) := by decide +kernel
theorem dL_law_1466 : decode cL_law 1466 = .ok (.iadd, 1) := by decide +kernel
theorem dL_law_1467 : decode cL_law 1467 = .ok (.iaload, 1) := by decide +kernel
theorem dL_law_1468 : decode cL_law 1468 = .ok (.invokevirtual 195, 3) := by decide +kernel
theorem dL_law_1471 : decode cL_law 1471 = .ok (.if_icmp .eq 54, 3) := by decide +kernel
theorem dL_law_1474 : decode cL_law 1474 = .ok (.iconst 0, 1) := by decide +kernel
theorem dL_law_1475 : decode cL_law 1475 = .ok (.ireturn, 1) := by decide +kernel
theorem dL_law_1476 : decode cL_law 1476 = .ok (.aload_n 1, 1) := by decide +kernel
theorem dL_law_1477 : decode cL_law 1477 = .ok (.invokevirtual 196, 3) := by decide +kernel
theorem dL_law_1480 : decode cL_law 1480 = .ok (.aload_n 2, 1) := by decide +kernel
theorem dL_law_1481 : decode cL_law 1481 = .ok (.invokevirtual 199, 3) := by decide +kernel
theorem dL_law_1484 : decode cL_law 1484 = .ok (.if_icmp .eq 41, 3) := by decide +kernel
theorem dL_law_1487 : decode cL_law 1487 = .ok (.iconst 0, 1) := by decide +kernel
theorem dL_law_1488 : decode cL_law 1488 = .ok (.ireturn, 1) := by decide +kernel
theorem dL_law_1489 : decode cL_law 1489 = .ok (.aload_n 1, 1) := by decide +kernel
theorem dL_law_1490 : decode cL_law 1490 = .ok (.invokevirtual 200, 3) := by decide +kernel
theorem dL_law_1493 : decode cL_law 1493 = .ok (.aload_n 2, 1) := by decide +kernel
theorem dL_law_1494 : decode cL_law 1494 = .ok (.invokevirtual 203, 3) := by decide +kernel
theorem dL_law_1497 : decode cL_law 1497 = .ok (.if_icmp .eq 28, 3) := by decide +kernel
theorem dL_law_1500 : decode cL_law 1500 = .ok (.iconst 0, 1) := by decide +kernel
theorem dL_law_1501 : decode cL_law 1501 = .ok (.ireturn, 1) := by decide +kernel
theorem dL_law_1502 : decode cL_law 1502 = .ok (.aload_n 1, 1) := by decide +kernel
theorem dL_law_1503 : decode cL_law 1503 = .ok (.aload_n 0, 1) := by decide +kernel
theorem dL_law_1504 : decode cL_law 1504 = .ok (.iload_n 3, 1) := by decide +kernel
theorem dL_law_1505 : decode cL_law 1505 = .ok (.iconst 1, 1) := by decide +kernel
theorem dL_law_1506 : decode cL_law 1506 = .ok (.iadd, 1) := by decide +kernel
theorem dL_law_1507 : decode cL_law 1507 = .ok (.iaload, 1) := by decide +kernel
theorem dL_law_1508 : decode cL_law 1508 = .ok (.invokevirtual 204, 3) := by decide +kernel
theorem dL_law_1511 : decode cL_law 1511 = .ok (.aload_n 2, 1) := by decide +kernel
theorem dL_law_1512 : decode cL_law 1512 = .ok (.aload_n 0, 1) := by decide +kernel
theorem dL_law_1513 : decode cL_law 1513 = .ok (.iload_n 3, 1) := by decide +kernel
theorem dL_law_1514 : decode cL_law 1514 = .ok (.iconst 1, 1) := by decide +kernel
theorem dL_law_1515 : decode cL_law 1515 = .ok (.iadd, 1) := by decide +kernel
theorem dL_law_1516 : decode cL_law 1516 = .ok (.iaload, 1) := by decide +kernel
theorem dL_law_1517 : decode cL_law 1517 = .ok (.invokevirtual 207, 3) := by decide +kernel
theorem dL_law_1520 : decode cL_law 1520 = .ok (.if_icmp .eq 5, 3) := by decide +kernel
theorem dL_law_1523 : decode cL_law 1523 = .ok (.iconst 0, 1) := by decide +kernel
theorem dL_law_1524 : decode cL_law 1524 = .ok (.ireturn, 1) := by decide +kernel
theorem dL_law_1525 : decode cL_law 1525 = .ok (.iinc 3 6, 3) := by decide +kernel
theorem dL_law_1528 : decode cL_law 1528 = .ok (.goto (-1510), 3) := by decide +kernel
theorem dL_law_1531 : decode cL_law 1531 = .ok (.iconst 1, 1) := by decide +kernel
theorem dL_law_1532 : decode cL_law 1532 = .ok (.ireturn, 1) := by decide +kernel
theorem zq_c11_officer : zy_mc 2 mX11_officer := ⟨zy_mem (zy_t2 (List.mem_of_getElem? (i := 217) (by decide +kernel))) rfl, zy_mem (zy_t1 (List.mem_of_getElem? (i := 1) (by decide +kernel))) rfl, by decide +kernel, by decide +kernel⟩
theorem zq_l11_officer : Cond.methodLink RL 13 mX11_officer.1 ∈ zy_T := zy_mem (zy_t2 (List.mem_of_getElem? (i := 214) (by decide +kernel))) rfl
theorem zq_i11_officer : Cond.instanceMethod mX11_officer.1 ∈ zy_T := zy_mem (zy_t2 (List.mem_of_getElem? (i := 215) (by decide +kernel))) rfl
theorem zq_s11_officer : Cond.selects mX11_officer.1.cls mX11_officer.1 mX11_officer.1 ∈ zy_T := zy_mem (zy_t2 (List.mem_of_getElem? (i := 216) (by decide +kernel))) rfl
theorem zq_c12_officer : zy_mc 2 mX12_officer := ⟨zy_mem (zy_t6 (List.mem_of_getElem? (i := 115) (by decide +kernel))) rfl, zy_mem (zy_t1 (List.mem_of_getElem? (i := 14) (by decide +kernel))) rfl, by decide +kernel, by decide +kernel⟩
theorem zq_l12_officer : Cond.methodLink RL 17 mX12_officer.1 ∈ zy_T := zy_mem (zy_t6 (List.mem_of_getElem? (i := 112) (by decide +kernel))) rfl
theorem zq_i12_officer : Cond.instanceMethod mX12_officer.1 ∈ zy_T := zy_mem (zy_t6 (List.mem_of_getElem? (i := 113) (by decide +kernel))) rfl
theorem zq_s12_officer : Cond.selects mX12_officer.1.cls mX12_officer.1 mX12_officer.1 ∈ zy_T := zy_mem (zy_t6 (List.mem_of_getElem? (i := 114) (by decide +kernel))) rfl
theorem zq_c11_cousin : zy_mc 2 mX11_cousin := ⟨zy_mem (zy_t2 (List.mem_of_getElem? (i := 233) (by decide +kernel))) rfl, zy_mem (zy_t1 (List.mem_of_getElem? (i := 1) (by decide +kernel))) rfl, by decide +kernel, by decide +kernel⟩
theorem zq_l11_cousin : Cond.methodLink RL 18 mX11_cousin.1 ∈ zy_T := zy_mem (zy_t2 (List.mem_of_getElem? (i := 230) (by decide +kernel))) rfl
theorem zq_i11_cousin : Cond.instanceMethod mX11_cousin.1 ∈ zy_T := zy_mem (zy_t2 (List.mem_of_getElem? (i := 231) (by decide +kernel))) rfl
theorem zq_s11_cousin : Cond.selects mX11_cousin.1.cls mX11_cousin.1 mX11_cousin.1 ∈ zy_T := zy_mem (zy_t2 (List.mem_of_getElem? (i := 232) (by decide +kernel))) rfl
theorem zq_c12_cousin : zy_mc 2 mX12_cousin := ⟨zy_mem (zy_t6 (List.mem_of_getElem? (i := 126) (by decide +kernel))) rfl, zy_mem (zy_t1 (List.mem_of_getElem? (i := 14) (by decide +kernel))) rfl, by decide +kernel, by decide +kernel⟩
theorem zq_l12_cousin : Cond.methodLink RL 22 mX12_cousin.1 ∈ zy_T := zy_mem (zy_t6 (List.mem_of_getElem? (i := 123) (by decide +kernel))) rfl
theorem zq_i12_cousin : Cond.instanceMethod mX12_cousin.1 ∈ zy_T := zy_mem (zy_t6 (List.mem_of_getElem? (i := 124) (by decide +kernel))) rfl
theorem zq_s12_cousin : Cond.selects mX12_cousin.1.cls mX12_cousin.1 mX12_cousin.1 ∈ zy_T := zy_mem (zy_t6 (List.mem_of_getElem? (i := 125) (by decide +kernel))) rfl
theorem zq_c11_feed : zy_mc 5 mX11_feed := ⟨zy_mem (zy_t3 (List.mem_of_getElem? (i := 1) (by decide +kernel))) rfl, zy_mem (zy_t1 (List.mem_of_getElem? (i := 1) (by decide +kernel))) rfl, by decide +kernel, by decide +kernel⟩
theorem zq_l11_feed : Cond.methodLink RL 23 mX11_feed.1 ∈ zy_T := zy_mem (zy_t2 (List.mem_of_getElem? (i := 238) (by decide +kernel))) rfl
theorem zq_i11_feed : Cond.instanceMethod mX11_feed.1 ∈ zy_T := zy_mem (zy_t2 (List.mem_of_getElem? (i := 239) (by decide +kernel))) rfl
theorem zq_s11_feed : Cond.selects mX11_feed.1.cls mX11_feed.1 mX11_feed.1 ∈ zy_T := zy_mem (zy_t3 (List.mem_of_getElem? (i := 0) (by decide +kernel))) rfl
theorem zq_c12_feed : zy_mc 5 mX12_feed := ⟨zy_mem (zy_t6 (List.mem_of_getElem? (i := 133) (by decide +kernel))) rfl, zy_mem (zy_t1 (List.mem_of_getElem? (i := 14) (by decide +kernel))) rfl, by decide +kernel, by decide +kernel⟩
theorem zq_l12_feed : Cond.methodLink RL 27 mX12_feed.1 ∈ zy_T := zy_mem (zy_t6 (List.mem_of_getElem? (i := 130) (by decide +kernel))) rfl
theorem zq_i12_feed : Cond.instanceMethod mX12_feed.1 ∈ zy_T := zy_mem (zy_t6 (List.mem_of_getElem? (i := 131) (by decide +kernel))) rfl
theorem zq_s12_feed : Cond.selects mX12_feed.1.cls mX12_feed.1 mX12_feed.1 ∈ zy_T := zy_mem (zy_t6 (List.mem_of_getElem? (i := 132) (by decide +kernel))) rfl
theorem zq_c11_end : zy_mc 1 mX11_end := ⟨zy_mem (zy_t3 (List.mem_of_getElem? (i := 9) (by decide +kernel))) rfl, zy_mem (zy_t1 (List.mem_of_getElem? (i := 1) (by decide +kernel))) rfl, by decide +kernel, by decide +kernel⟩
theorem zq_l11_end : Cond.methodLink RL 28 mX11_end.1 ∈ zy_T := zy_mem (zy_t3 (List.mem_of_getElem? (i := 6) (by decide +kernel))) rfl
theorem zq_i11_end : Cond.instanceMethod mX11_end.1 ∈ zy_T := zy_mem (zy_t3 (List.mem_of_getElem? (i := 7) (by decide +kernel))) rfl
theorem zq_s11_end : Cond.selects mX11_end.1.cls mX11_end.1 mX11_end.1 ∈ zy_T := zy_mem (zy_t3 (List.mem_of_getElem? (i := 8) (by decide +kernel))) rfl
theorem zq_c12_end : zy_mc 1 mX12_end := ⟨zy_mem (zy_t6 (List.mem_of_getElem? (i := 141) (by decide +kernel))) rfl, zy_mem (zy_t1 (List.mem_of_getElem? (i := 14) (by decide +kernel))) rfl, by decide +kernel, by decide +kernel⟩
theorem zq_l12_end : Cond.methodLink RL 32 mX12_end.1 ∈ zy_T := zy_mem (zy_t6 (List.mem_of_getElem? (i := 138) (by decide +kernel))) rfl
theorem zq_i12_end : Cond.instanceMethod mX12_end.1 ∈ zy_T := zy_mem (zy_t6 (List.mem_of_getElem? (i := 139) (by decide +kernel))) rfl
theorem zq_s12_end : Cond.selects mX12_end.1.cls mX12_end.1 mX12_end.1 ∈ zy_T := zy_mem (zy_t6 (List.mem_of_getElem? (i := 140) (by decide +kernel))) rfl
theorem zq_c11_text : zy_mc 0 mX11_text := ⟨zy_mem (zy_t3 (List.mem_of_getElem? (i := 13) (by decide +kernel))) rfl, zy_mem (zy_t1 (List.mem_of_getElem? (i := 1) (by decide +kernel))) rfl, by decide +kernel, by decide +kernel⟩
theorem zq_l11_text : Cond.methodLink RL 33 mX11_text.1 ∈ zy_T := zy_mem (zy_t3 (List.mem_of_getElem? (i := 10) (by decide +kernel))) rfl
theorem zq_i11_text : Cond.instanceMethod mX11_text.1 ∈ zy_T := zy_mem (zy_t3 (List.mem_of_getElem? (i := 11) (by decide +kernel))) rfl
theorem zq_s11_text : Cond.selects mX11_text.1.cls mX11_text.1 mX11_text.1 ∈ zy_T := zy_mem (zy_t3 (List.mem_of_getElem? (i := 12) (by decide +kernel))) rfl
theorem zq_c12_text : zy_mc 0 mX12_text := ⟨zy_mem (zy_t6 (List.mem_of_getElem? (i := 145) (by decide +kernel))) rfl, zy_mem (zy_t1 (List.mem_of_getElem? (i := 14) (by decide +kernel))) rfl, by decide +kernel, by decide +kernel⟩
theorem zq_l12_text : Cond.methodLink RL 37 mX12_text.1 ∈ zy_T := zy_mem (zy_t6 (List.mem_of_getElem? (i := 142) (by decide +kernel))) rfl
theorem zq_i12_text : Cond.instanceMethod mX12_text.1 ∈ zy_T := zy_mem (zy_t6 (List.mem_of_getElem? (i := 143) (by decide +kernel))) rfl
theorem zq_s12_text : Cond.selects mX12_text.1.cls mX12_text.1 mX12_text.1 ∈ zy_T := zy_mem (zy_t6 (List.mem_of_getElem? (i := 144) (by decide +kernel))) rfl
theorem zq_c11_fault : zy_mc 1 mX11_fault := ⟨zy_mem (zy_t3 (List.mem_of_getElem? (i := 237) (by decide +kernel))) rfl, zy_mem (zy_t1 (List.mem_of_getElem? (i := 1) (by decide +kernel))) rfl, by decide +kernel, by decide +kernel⟩
theorem zq_l11_fault : Cond.methodLink RL 38 mX11_fault.1 ∈ zy_T := zy_mem (zy_t3 (List.mem_of_getElem? (i := 234) (by decide +kernel))) rfl
theorem zq_i11_fault : Cond.instanceMethod mX11_fault.1 ∈ zy_T := zy_mem (zy_t3 (List.mem_of_getElem? (i := 235) (by decide +kernel))) rfl
theorem zq_s11_fault : Cond.selects mX11_fault.1.cls mX11_fault.1 mX11_fault.1 ∈ zy_T := zy_mem (zy_t3 (List.mem_of_getElem? (i := 236) (by decide +kernel))) rfl
theorem zq_c12_fault : zy_mc 1 mX12_fault := ⟨zy_mem (zy_t7 (List.mem_of_getElem? (i := 50) (by decide +kernel))) rfl, zy_mem (zy_t1 (List.mem_of_getElem? (i := 14) (by decide +kernel))) rfl, by decide +kernel, by decide +kernel⟩
theorem zq_l12_fault : Cond.methodLink RL 41 mX12_fault.1 ∈ zy_T := zy_mem (zy_t7 (List.mem_of_getElem? (i := 47) (by decide +kernel))) rfl
theorem zq_i12_fault : Cond.instanceMethod mX12_fault.1 ∈ zy_T := zy_mem (zy_t7 (List.mem_of_getElem? (i := 48) (by decide +kernel))) rfl
theorem zq_s12_fault : Cond.selects mX12_fault.1.cls mX12_fault.1 mX12_fault.1 ∈ zy_T := zy_mem (zy_t7 (List.mem_of_getElem? (i := 49) (by decide +kernel))) rfl
theorem zq_c11_by : zy_mc 1 mX11_by := ⟨zy_mem (zy_t4 (List.mem_of_getElem? (i := 1) (by decide +kernel))) rfl, zy_mem (zy_t1 (List.mem_of_getElem? (i := 1) (by decide +kernel))) rfl, by decide +kernel, by decide +kernel⟩
theorem zq_l11_by : Cond.methodLink RL 42 mX11_by.1 ∈ zy_T := zy_mem (zy_t3 (List.mem_of_getElem? (i := 238) (by decide +kernel))) rfl
theorem zq_i11_by : Cond.instanceMethod mX11_by.1 ∈ zy_T := zy_mem (zy_t3 (List.mem_of_getElem? (i := 239) (by decide +kernel))) rfl
theorem zq_s11_by : Cond.selects mX11_by.1.cls mX11_by.1 mX11_by.1 ∈ zy_T := zy_mem (zy_t4 (List.mem_of_getElem? (i := 0) (by decide +kernel))) rfl
theorem zq_c12_by : zy_mc 1 mX12_by := ⟨zy_mem (zy_t7 (List.mem_of_getElem? (i := 54) (by decide +kernel))) rfl, zy_mem (zy_t1 (List.mem_of_getElem? (i := 14) (by decide +kernel))) rfl, by decide +kernel, by decide +kernel⟩
theorem zq_l12_by : Cond.methodLink RL 46 mX12_by.1 ∈ zy_T := zy_mem (zy_t7 (List.mem_of_getElem? (i := 51) (by decide +kernel))) rfl
theorem zq_i12_by : Cond.instanceMethod mX12_by.1 ∈ zy_T := zy_mem (zy_t7 (List.mem_of_getElem? (i := 52) (by decide +kernel))) rfl
theorem zq_s12_by : Cond.selects mX12_by.1.cls mX12_by.1 mX12_by.1 ∈ zy_T := zy_mem (zy_t7 (List.mem_of_getElem? (i := 53) (by decide +kernel))) rfl
theorem zq_c11_wrong : zy_mc 3 mX11_wrong := ⟨zy_mem (zy_t4 (List.mem_of_getElem? (i := 5) (by decide +kernel))) rfl, zy_mem (zy_t1 (List.mem_of_getElem? (i := 1) (by decide +kernel))) rfl, by decide +kernel, by decide +kernel⟩
theorem zq_l11_wrong : Cond.methodLink RL 47 mX11_wrong.1 ∈ zy_T := zy_mem (zy_t4 (List.mem_of_getElem? (i := 2) (by decide +kernel))) rfl
theorem zq_i11_wrong : Cond.instanceMethod mX11_wrong.1 ∈ zy_T := zy_mem (zy_t4 (List.mem_of_getElem? (i := 3) (by decide +kernel))) rfl
theorem zq_s11_wrong : Cond.selects mX11_wrong.1.cls mX11_wrong.1 mX11_wrong.1 ∈ zy_T := zy_mem (zy_t4 (List.mem_of_getElem? (i := 4) (by decide +kernel))) rfl
theorem zq_c12_wrong : zy_mc 3 mX12_wrong := ⟨zy_mem (zy_t7 (List.mem_of_getElem? (i := 62) (by decide +kernel))) rfl, zy_mem (zy_t1 (List.mem_of_getElem? (i := 14) (by decide +kernel))) rfl, by decide +kernel, by decide +kernel⟩
theorem zq_l12_wrong : Cond.methodLink RL 51 mX12_wrong.1 ∈ zy_T := zy_mem (zy_t7 (List.mem_of_getElem? (i := 59) (by decide +kernel))) rfl
theorem zq_i12_wrong : Cond.instanceMethod mX12_wrong.1 ∈ zy_T := zy_mem (zy_t7 (List.mem_of_getElem? (i := 60) (by decide +kernel))) rfl
theorem zq_s12_wrong : Cond.selects mX12_wrong.1.cls mX12_wrong.1 mX12_wrong.1 ∈ zy_T := zy_mem (zy_t7 (List.mem_of_getElem? (i := 61) (by decide +kernel))) rfl
theorem zq_c11_away : zy_mc 2 mX11_away := ⟨zy_mem (zy_t4 (List.mem_of_getElem? (i := 37) (by decide +kernel))) rfl, zy_mem (zy_t1 (List.mem_of_getElem? (i := 1) (by decide +kernel))) rfl, by decide +kernel, by decide +kernel⟩
theorem zq_l11_away : Cond.methodLink RL 52 mX11_away.1 ∈ zy_T := zy_mem (zy_t4 (List.mem_of_getElem? (i := 34) (by decide +kernel))) rfl
theorem zq_i11_away : Cond.instanceMethod mX11_away.1 ∈ zy_T := zy_mem (zy_t4 (List.mem_of_getElem? (i := 35) (by decide +kernel))) rfl
theorem zq_s11_away : Cond.selects mX11_away.1.cls mX11_away.1 mX11_away.1 ∈ zy_T := zy_mem (zy_t4 (List.mem_of_getElem? (i := 36) (by decide +kernel))) rfl
theorem zq_c12_away : zy_mc 2 mX12_away := ⟨zy_mem (zy_t7 (List.mem_of_getElem? (i := 86) (by decide +kernel))) rfl, zy_mem (zy_t1 (List.mem_of_getElem? (i := 14) (by decide +kernel))) rfl, by decide +kernel, by decide +kernel⟩
theorem zq_l12_away : Cond.methodLink RL 55 mX12_away.1 ∈ zy_T := zy_mem (zy_t7 (List.mem_of_getElem? (i := 83) (by decide +kernel))) rfl
theorem zq_i12_away : Cond.instanceMethod mX12_away.1 ∈ zy_T := zy_mem (zy_t7 (List.mem_of_getElem? (i := 84) (by decide +kernel))) rfl
theorem zq_s12_away : Cond.selects mX12_away.1.cls mX12_away.1 mX12_away.1 ∈ zy_T := zy_mem (zy_t7 (List.mem_of_getElem? (i := 85) (by decide +kernel))) rfl
theorem zq_c11_sideways : zy_mc 2 mX11_sideways := ⟨zy_mem (zy_t4 (List.mem_of_getElem? (i := 45) (by decide +kernel))) rfl, zy_mem (zy_t1 (List.mem_of_getElem? (i := 1) (by decide +kernel))) rfl, by decide +kernel, by decide +kernel⟩
theorem zq_l11_sideways : Cond.methodLink RL 56 mX11_sideways.1 ∈ zy_T := zy_mem (zy_t4 (List.mem_of_getElem? (i := 42) (by decide +kernel))) rfl
theorem zq_i11_sideways : Cond.instanceMethod mX11_sideways.1 ∈ zy_T := zy_mem (zy_t4 (List.mem_of_getElem? (i := 43) (by decide +kernel))) rfl
theorem zq_s11_sideways : Cond.selects mX11_sideways.1.cls mX11_sideways.1 mX11_sideways.1 ∈ zy_T := zy_mem (zy_t4 (List.mem_of_getElem? (i := 44) (by decide +kernel))) rfl
theorem zq_c12_sideways : zy_mc 2 mX12_sideways := ⟨zy_mem (zy_t7 (List.mem_of_getElem? (i := 90) (by decide +kernel))) rfl, zy_mem (zy_t1 (List.mem_of_getElem? (i := 14) (by decide +kernel))) rfl, by decide +kernel, by decide +kernel⟩
theorem zq_l12_sideways : Cond.methodLink RL 59 mX12_sideways.1 ∈ zy_T := zy_mem (zy_t7 (List.mem_of_getElem? (i := 87) (by decide +kernel))) rfl
theorem zq_i12_sideways : Cond.instanceMethod mX12_sideways.1 ∈ zy_T := zy_mem (zy_t7 (List.mem_of_getElem? (i := 88) (by decide +kernel))) rfl
theorem zq_s12_sideways : Cond.selects mX12_sideways.1.cls mX12_sideways.1 mX12_sideways.1 ∈ zy_T := zy_mem (zy_t7 (List.mem_of_getElem? (i := 89) (by decide +kernel))) rfl
theorem zq_c11_day : zy_mc 1 mX11_day := ⟨zy_mem (zy_t4 (List.mem_of_getElem? (i := 57) (by decide +kernel))) rfl, zy_mem (zy_t1 (List.mem_of_getElem? (i := 1) (by decide +kernel))) rfl, by decide +kernel, by decide +kernel⟩
theorem zq_l11_day : Cond.methodLink RL 60 mX11_day.1 ∈ zy_T := zy_mem (zy_t4 (List.mem_of_getElem? (i := 54) (by decide +kernel))) rfl
theorem zq_i11_day : Cond.instanceMethod mX11_day.1 ∈ zy_T := zy_mem (zy_t4 (List.mem_of_getElem? (i := 55) (by decide +kernel))) rfl
theorem zq_s11_day : Cond.selects mX11_day.1.cls mX11_day.1 mX11_day.1 ∈ zy_T := zy_mem (zy_t4 (List.mem_of_getElem? (i := 56) (by decide +kernel))) rfl
theorem zq_c12_day : zy_mc 1 mX12_day := ⟨zy_mem (zy_t7 (List.mem_of_getElem? (i := 106) (by decide +kernel))) rfl, zy_mem (zy_t1 (List.mem_of_getElem? (i := 14) (by decide +kernel))) rfl, by decide +kernel, by decide +kernel⟩
theorem zq_l12_day : Cond.methodLink RL 63 mX12_day.1 ∈ zy_T := zy_mem (zy_t7 (List.mem_of_getElem? (i := 103) (by decide +kernel))) rfl
theorem zq_i12_day : Cond.instanceMethod mX12_day.1 ∈ zy_T := zy_mem (zy_t7 (List.mem_of_getElem? (i := 104) (by decide +kernel))) rfl
theorem zq_s12_day : Cond.selects mX12_day.1.cls mX12_day.1 mX12_day.1 ∈ zy_T := zy_mem (zy_t7 (List.mem_of_getElem? (i := 105) (by decide +kernel))) rfl
theorem zq_c11_played : zy_mc 1 mX11_played := ⟨zy_mem (zy_t4 (List.mem_of_getElem? (i := 159) (by decide +kernel))) rfl, zy_mem (zy_t1 (List.mem_of_getElem? (i := 1) (by decide +kernel))) rfl, by decide +kernel, by decide +kernel⟩
theorem zq_l11_played : Cond.methodLink RL 64 mX11_played.1 ∈ zy_T := zy_mem (zy_t4 (List.mem_of_getElem? (i := 156) (by decide +kernel))) rfl
theorem zq_i11_played : Cond.instanceMethod mX11_played.1 ∈ zy_T := zy_mem (zy_t4 (List.mem_of_getElem? (i := 157) (by decide +kernel))) rfl
theorem zq_s11_played : Cond.selects mX11_played.1.cls mX11_played.1 mX11_played.1 ∈ zy_T := zy_mem (zy_t4 (List.mem_of_getElem? (i := 158) (by decide +kernel))) rfl
theorem zq_c12_played : zy_mc 1 mX12_played := ⟨zy_mem (zy_t7 (List.mem_of_getElem? (i := 202) (by decide +kernel))) rfl, zy_mem (zy_t1 (List.mem_of_getElem? (i := 14) (by decide +kernel))) rfl, by decide +kernel, by decide +kernel⟩
theorem zq_l12_played : Cond.methodLink RL 67 mX12_played.1 ∈ zy_T := zy_mem (zy_t7 (List.mem_of_getElem? (i := 199) (by decide +kernel))) rfl
theorem zq_i12_played : Cond.instanceMethod mX12_played.1 ∈ zy_T := zy_mem (zy_t7 (List.mem_of_getElem? (i := 200) (by decide +kernel))) rfl
theorem zq_s12_played : Cond.selects mX12_played.1.cls mX12_played.1 mX12_played.1 ∈ zy_T := zy_mem (zy_t7 (List.mem_of_getElem? (i := 201) (by decide +kernel))) rfl
theorem zq_c11_years : zy_mc 2 mX11_years := ⟨zy_mem (zy_t4 (List.mem_of_getElem? (i := 172) (by decide +kernel))) rfl, zy_mem (zy_t1 (List.mem_of_getElem? (i := 1) (by decide +kernel))) rfl, by decide +kernel, by decide +kernel⟩
theorem zq_l11_years : Cond.methodLink RL 68 mX11_years.1 ∈ zy_T := zy_mem (zy_t4 (List.mem_of_getElem? (i := 169) (by decide +kernel))) rfl
theorem zq_i11_years : Cond.instanceMethod mX11_years.1 ∈ zy_T := zy_mem (zy_t4 (List.mem_of_getElem? (i := 170) (by decide +kernel))) rfl
theorem zq_s11_years : Cond.selects mX11_years.1.cls mX11_years.1 mX11_years.1 ∈ zy_T := zy_mem (zy_t4 (List.mem_of_getElem? (i := 171) (by decide +kernel))) rfl
theorem zq_c12_years : zy_mc 2 mX12_years := ⟨zy_mem (zy_t7 (List.mem_of_getElem? (i := 215) (by decide +kernel))) rfl, zy_mem (zy_t1 (List.mem_of_getElem? (i := 14) (by decide +kernel))) rfl, by decide +kernel, by decide +kernel⟩
theorem zq_l12_years : Cond.methodLink RL 71 mX12_years.1 ∈ zy_T := zy_mem (zy_t7 (List.mem_of_getElem? (i := 212) (by decide +kernel))) rfl
theorem zq_i12_years : Cond.instanceMethod mX12_years.1 ∈ zy_T := zy_mem (zy_t7 (List.mem_of_getElem? (i := 213) (by decide +kernel))) rfl
theorem zq_s12_years : Cond.selects mX12_years.1.cls mX12_years.1 mX12_years.1 ∈ zy_T := zy_mem (zy_t7 (List.mem_of_getElem? (i := 214) (by decide +kernel))) rfl
theorem zq_c11_undo : zy_mc 0 mX11_undo := ⟨zy_mem (zy_t4 (List.mem_of_getElem? (i := 181) (by decide +kernel))) rfl, zy_mem (zy_t1 (List.mem_of_getElem? (i := 1) (by decide +kernel))) rfl, by decide +kernel, by decide +kernel⟩
theorem zq_l11_undo : Cond.methodLink RL 72 mX11_undo.1 ∈ zy_T := zy_mem (zy_t4 (List.mem_of_getElem? (i := 178) (by decide +kernel))) rfl
theorem zq_i11_undo : Cond.instanceMethod mX11_undo.1 ∈ zy_T := zy_mem (zy_t4 (List.mem_of_getElem? (i := 179) (by decide +kernel))) rfl
theorem zq_s11_undo : Cond.selects mX11_undo.1.cls mX11_undo.1 mX11_undo.1 ∈ zy_T := zy_mem (zy_t4 (List.mem_of_getElem? (i := 180) (by decide +kernel))) rfl
theorem zq_c12_undo : zy_mc 0 mX12_undo := ⟨zy_mem (zy_t7 (List.mem_of_getElem? (i := 58) (by decide +kernel))) rfl, zy_mem (zy_t1 (List.mem_of_getElem? (i := 14) (by decide +kernel))) rfl, by decide +kernel, by decide +kernel⟩
theorem zq_l12_undo : Cond.methodLink RL 75 mX12_undo.1 ∈ zy_T := zy_mem (zy_t7 (List.mem_of_getElem? (i := 55) (by decide +kernel))) rfl
theorem zq_i12_undo : Cond.instanceMethod mX12_undo.1 ∈ zy_T := zy_mem (zy_t7 (List.mem_of_getElem? (i := 56) (by decide +kernel))) rfl
theorem zq_s12_undo : Cond.selects mX12_undo.1.cls mX12_undo.1 mX12_undo.1 ∈ zy_T := zy_mem (zy_t7 (List.mem_of_getElem? (i := 57) (by decide +kernel))) rfl
theorem zq_c11_of : zy_mc 2 mX11_of := ⟨zy_mem (zy_t4 (List.mem_of_getElem? (i := 189) (by decide +kernel))) rfl, zy_mem (zy_t1 (List.mem_of_getElem? (i := 1) (by decide +kernel))) rfl, by decide +kernel, by decide +kernel⟩
theorem zq_l11_of : Cond.methodLink RL 76 mX11_of.1 ∈ zy_T := zy_mem (zy_t4 (List.mem_of_getElem? (i := 186) (by decide +kernel))) rfl
theorem zq_i11_of : Cond.instanceMethod mX11_of.1 ∈ zy_T := zy_mem (zy_t4 (List.mem_of_getElem? (i := 187) (by decide +kernel))) rfl
theorem zq_s11_of : Cond.selects mX11_of.1.cls mX11_of.1 mX11_of.1 ∈ zy_T := zy_mem (zy_t4 (List.mem_of_getElem? (i := 188) (by decide +kernel))) rfl
theorem zq_c12_of : zy_mc 2 mX12_of := ⟨zy_mem (zy_t7 (List.mem_of_getElem? (i := 223) (by decide +kernel))) rfl, zy_mem (zy_t1 (List.mem_of_getElem? (i := 14) (by decide +kernel))) rfl, by decide +kernel, by decide +kernel⟩
theorem zq_l12_of : Cond.methodLink RL 79 mX12_of.1 ∈ zy_T := zy_mem (zy_t7 (List.mem_of_getElem? (i := 220) (by decide +kernel))) rfl
theorem zq_i12_of : Cond.instanceMethod mX12_of.1 ∈ zy_T := zy_mem (zy_t7 (List.mem_of_getElem? (i := 221) (by decide +kernel))) rfl
theorem zq_s12_of : Cond.selects mX12_of.1.cls mX12_of.1 mX12_of.1 ∈ zy_T := zy_mem (zy_t7 (List.mem_of_getElem? (i := 222) (by decide +kernel))) rfl
theorem zq_c11_ofApology : zy_mc 2 mX11_ofApology := ⟨zy_mem (zy_t4 (List.mem_of_getElem? (i := 204) (by decide +kernel))) rfl, zy_mem (zy_t1 (List.mem_of_getElem? (i := 1) (by decide +kernel))) rfl, by decide +kernel, by decide +kernel⟩
theorem zq_l11_ofApology : Cond.methodLink RL 80 mX11_ofApology.1 ∈ zy_T := zy_mem (zy_t4 (List.mem_of_getElem? (i := 201) (by decide +kernel))) rfl
theorem zq_i11_ofApology : Cond.instanceMethod mX11_ofApology.1 ∈ zy_T := zy_mem (zy_t4 (List.mem_of_getElem? (i := 202) (by decide +kernel))) rfl
theorem zq_s11_ofApology : Cond.selects mX11_ofApology.1.cls mX11_ofApology.1 mX11_ofApology.1 ∈ zy_T := zy_mem (zy_t4 (List.mem_of_getElem? (i := 203) (by decide +kernel))) rfl
theorem zq_c12_ofApology : zy_mc 2 mX12_ofApology := ⟨zy_mem (zy_t7 (List.mem_of_getElem? (i := 235) (by decide +kernel))) rfl, zy_mem (zy_t1 (List.mem_of_getElem? (i := 14) (by decide +kernel))) rfl, by decide +kernel, by decide +kernel⟩
theorem zq_l12_ofApology : Cond.methodLink RL 83 mX12_ofApology.1 ∈ zy_T := zy_mem (zy_t7 (List.mem_of_getElem? (i := 232) (by decide +kernel))) rfl
theorem zq_i12_ofApology : Cond.instanceMethod mX12_ofApology.1 ∈ zy_T := zy_mem (zy_t7 (List.mem_of_getElem? (i := 233) (by decide +kernel))) rfl
theorem zq_s12_ofApology : Cond.selects mX12_ofApology.1.cls mX12_ofApology.1 mX12_ofApology.1 ∈ zy_T := zy_mem (zy_t7 (List.mem_of_getElem? (i := 234) (by decide +kernel))) rfl
theorem zq_c11_is : zy_mc 1 mX11_is := ⟨zy_mem (zy_t4 (List.mem_of_getElem? (i := 208) (by decide +kernel))) rfl, zy_mem (zy_t1 (List.mem_of_getElem? (i := 1) (by decide +kernel))) rfl, by decide +kernel, by decide +kernel⟩
theorem zq_l11_is : Cond.methodLink RL 84 mX11_is.1 ∈ zy_T := zy_mem (zy_t4 (List.mem_of_getElem? (i := 205) (by decide +kernel))) rfl
theorem zq_i11_is : Cond.instanceMethod mX11_is.1 ∈ zy_T := zy_mem (zy_t4 (List.mem_of_getElem? (i := 206) (by decide +kernel))) rfl
theorem zq_s11_is : Cond.selects mX11_is.1.cls mX11_is.1 mX11_is.1 ∈ zy_T := zy_mem (zy_t4 (List.mem_of_getElem? (i := 207) (by decide +kernel))) rfl
theorem zq_c12_is : zy_mc 1 mX12_is := ⟨zy_mem (zy_t7 (List.mem_of_getElem? (i := 239) (by decide +kernel))) rfl, zy_mem (zy_t1 (List.mem_of_getElem? (i := 14) (by decide +kernel))) rfl, by decide +kernel, by decide +kernel⟩
theorem zq_l12_is : Cond.methodLink RL 87 mX12_is.1 ∈ zy_T := zy_mem (zy_t7 (List.mem_of_getElem? (i := 236) (by decide +kernel))) rfl
theorem zq_i12_is : Cond.instanceMethod mX12_is.1 ∈ zy_T := zy_mem (zy_t7 (List.mem_of_getElem? (i := 237) (by decide +kernel))) rfl
theorem zq_s12_is : Cond.selects mX12_is.1.cls mX12_is.1 mX12_is.1 ∈ zy_T := zy_mem (zy_t7 (List.mem_of_getElem? (i := 238) (by decide +kernel))) rfl
theorem zq_c11_book : zy_mc 2 mX11_book := ⟨zy_mem (zy_t4 (List.mem_of_getElem? (i := 212) (by decide +kernel))) rfl, zy_mem (zy_t1 (List.mem_of_getElem? (i := 1) (by decide +kernel))) rfl, by decide +kernel, by decide +kernel⟩
theorem zq_l11_book : Cond.methodLink RL 88 mX11_book.1 ∈ zy_T := zy_mem (zy_t4 (List.mem_of_getElem? (i := 209) (by decide +kernel))) rfl
theorem zq_i11_book : Cond.instanceMethod mX11_book.1 ∈ zy_T := zy_mem (zy_t4 (List.mem_of_getElem? (i := 210) (by decide +kernel))) rfl
theorem zq_s11_book : Cond.selects mX11_book.1.cls mX11_book.1 mX11_book.1 ∈ zy_T := zy_mem (zy_t4 (List.mem_of_getElem? (i := 211) (by decide +kernel))) rfl
theorem zq_c12_book : zy_mc 2 mX12_book := ⟨zy_mem (zy_t8 (List.mem_of_getElem? (i := 3) (by decide +kernel))) rfl, zy_mem (zy_t1 (List.mem_of_getElem? (i := 14) (by decide +kernel))) rfl, by decide +kernel, by decide +kernel⟩
theorem zq_l12_book : Cond.methodLink RL 91 mX12_book.1 ∈ zy_T := zy_mem (zy_t8 (List.mem_of_getElem? (i := 0) (by decide +kernel))) rfl
theorem zq_i12_book : Cond.instanceMethod mX12_book.1 ∈ zy_T := zy_mem (zy_t8 (List.mem_of_getElem? (i := 1) (by decide +kernel))) rfl
theorem zq_s12_book : Cond.selects mX12_book.1.cls mX12_book.1 mX12_book.1 ∈ zy_T := zy_mem (zy_t8 (List.mem_of_getElem? (i := 2) (by decide +kernel))) rfl
theorem zq_c11_foretold : zy_mc 3 mX11_foretold := ⟨zy_mem (zy_t4 (List.mem_of_getElem? (i := 216) (by decide +kernel))) rfl, zy_mem (zy_t1 (List.mem_of_getElem? (i := 1) (by decide +kernel))) rfl, by decide +kernel, by decide +kernel⟩
theorem zq_l11_foretold : Cond.methodLink RL 92 mX11_foretold.1 ∈ zy_T := zy_mem (zy_t4 (List.mem_of_getElem? (i := 213) (by decide +kernel))) rfl
theorem zq_i11_foretold : Cond.instanceMethod mX11_foretold.1 ∈ zy_T := zy_mem (zy_t4 (List.mem_of_getElem? (i := 214) (by decide +kernel))) rfl
theorem zq_s11_foretold : Cond.selects mX11_foretold.1.cls mX11_foretold.1 mX11_foretold.1 ∈ zy_T := zy_mem (zy_t4 (List.mem_of_getElem? (i := 215) (by decide +kernel))) rfl
theorem zq_c12_foretold : zy_mc 3 mX12_foretold := ⟨zy_mem (zy_t8 (List.mem_of_getElem? (i := 29) (by decide +kernel))) rfl, zy_mem (zy_t1 (List.mem_of_getElem? (i := 14) (by decide +kernel))) rfl, by decide +kernel, by decide +kernel⟩
theorem zq_l12_foretold : Cond.methodLink RL 95 mX12_foretold.1 ∈ zy_T := zy_mem (zy_t8 (List.mem_of_getElem? (i := 26) (by decide +kernel))) rfl
theorem zq_i12_foretold : Cond.instanceMethod mX12_foretold.1 ∈ zy_T := zy_mem (zy_t8 (List.mem_of_getElem? (i := 27) (by decide +kernel))) rfl
theorem zq_s12_foretold : Cond.selects mX12_foretold.1.cls mX12_foretold.1 mX12_foretold.1 ∈ zy_T := zy_mem (zy_t8 (List.mem_of_getElem? (i := 28) (by decide +kernel))) rfl
theorem zq_c11_pardoned : zy_mc 1 mX11_pardoned := ⟨zy_mem (zy_t4 (List.mem_of_getElem? (i := 221) (by decide +kernel))) rfl, zy_mem (zy_t1 (List.mem_of_getElem? (i := 1) (by decide +kernel))) rfl, by decide +kernel, by decide +kernel⟩
theorem zq_l11_pardoned : Cond.methodLink RL 96 mX11_pardoned.1 ∈ zy_T := zy_mem (zy_t4 (List.mem_of_getElem? (i := 218) (by decide +kernel))) rfl
theorem zq_i11_pardoned : Cond.instanceMethod mX11_pardoned.1 ∈ zy_T := zy_mem (zy_t4 (List.mem_of_getElem? (i := 219) (by decide +kernel))) rfl
theorem zq_s11_pardoned : Cond.selects mX11_pardoned.1.cls mX11_pardoned.1 mX11_pardoned.1 ∈ zy_T := zy_mem (zy_t4 (List.mem_of_getElem? (i := 220) (by decide +kernel))) rfl
theorem zq_c12_pardoned : zy_mc 1 mX12_pardoned := ⟨zy_mem (zy_t8 (List.mem_of_getElem? (i := 41) (by decide +kernel))) rfl, zy_mem (zy_t1 (List.mem_of_getElem? (i := 14) (by decide +kernel))) rfl, by decide +kernel, by decide +kernel⟩
theorem zq_l12_pardoned : Cond.methodLink RL 99 mX12_pardoned.1 ∈ zy_T := zy_mem (zy_t8 (List.mem_of_getElem? (i := 38) (by decide +kernel))) rfl
theorem zq_i12_pardoned : Cond.instanceMethod mX12_pardoned.1 ∈ zy_T := zy_mem (zy_t8 (List.mem_of_getElem? (i := 39) (by decide +kernel))) rfl
theorem zq_s12_pardoned : Cond.selects mX12_pardoned.1.cls mX12_pardoned.1 mX12_pardoned.1 ∈ zy_T := zy_mem (zy_t8 (List.mem_of_getElem? (i := 40) (by decide +kernel))) rfl
theorem zq_c11_meets : zy_mc 2 mX11_meets := ⟨zy_mem (zy_t4 (List.mem_of_getElem? (i := 225) (by decide +kernel))) rfl, zy_mem (zy_t1 (List.mem_of_getElem? (i := 1) (by decide +kernel))) rfl, by decide +kernel, by decide +kernel⟩
theorem zq_l11_meets : Cond.methodLink RL 100 mX11_meets.1 ∈ zy_T := zy_mem (zy_t4 (List.mem_of_getElem? (i := 222) (by decide +kernel))) rfl
theorem zq_i11_meets : Cond.instanceMethod mX11_meets.1 ∈ zy_T := zy_mem (zy_t4 (List.mem_of_getElem? (i := 223) (by decide +kernel))) rfl
theorem zq_s11_meets : Cond.selects mX11_meets.1.cls mX11_meets.1 mX11_meets.1 ∈ zy_T := zy_mem (zy_t4 (List.mem_of_getElem? (i := 224) (by decide +kernel))) rfl
theorem zq_c12_meets : zy_mc 2 mX12_meets := ⟨zy_mem (zy_t8 (List.mem_of_getElem? (i := 45) (by decide +kernel))) rfl, zy_mem (zy_t1 (List.mem_of_getElem? (i := 14) (by decide +kernel))) rfl, by decide +kernel, by decide +kernel⟩
theorem zq_l12_meets : Cond.methodLink RL 103 mX12_meets.1 ∈ zy_T := zy_mem (zy_t8 (List.mem_of_getElem? (i := 42) (by decide +kernel))) rfl
theorem zq_i12_meets : Cond.instanceMethod mX12_meets.1 ∈ zy_T := zy_mem (zy_t8 (List.mem_of_getElem? (i := 43) (by decide +kernel))) rfl
theorem zq_s12_meets : Cond.selects mX12_meets.1.cls mX12_meets.1 mX12_meets.1 ∈ zy_T := zy_mem (zy_t8 (List.mem_of_getElem? (i := 44) (by decide +kernel))) rfl
theorem zq_c11_steps : zy_mc 2 mX11_steps := ⟨zy_mem (zy_t4 (List.mem_of_getElem? (i := 233) (by decide +kernel))) rfl, zy_mem (zy_t1 (List.mem_of_getElem? (i := 1) (by decide +kernel))) rfl, by decide +kernel, by decide +kernel⟩
theorem zq_l11_steps : Cond.methodLink RL 104 mX11_steps.1 ∈ zy_T := zy_mem (zy_t4 (List.mem_of_getElem? (i := 230) (by decide +kernel))) rfl
theorem zq_i11_steps : Cond.instanceMethod mX11_steps.1 ∈ zy_T := zy_mem (zy_t4 (List.mem_of_getElem? (i := 231) (by decide +kernel))) rfl
theorem zq_s11_steps : Cond.selects mX11_steps.1.cls mX11_steps.1 mX11_steps.1 ∈ zy_T := zy_mem (zy_t4 (List.mem_of_getElem? (i := 232) (by decide +kernel))) rfl
theorem zq_c12_steps : zy_mc 2 mX12_steps := ⟨zy_mem (zy_t8 (List.mem_of_getElem? (i := 53) (by decide +kernel))) rfl, zy_mem (zy_t1 (List.mem_of_getElem? (i := 14) (by decide +kernel))) rfl, by decide +kernel, by decide +kernel⟩
theorem zq_l12_steps : Cond.methodLink RL 107 mX12_steps.1 ∈ zy_T := zy_mem (zy_t8 (List.mem_of_getElem? (i := 50) (by decide +kernel))) rfl
theorem zq_i12_steps : Cond.instanceMethod mX12_steps.1 ∈ zy_T := zy_mem (zy_t8 (List.mem_of_getElem? (i := 51) (by decide +kernel))) rfl
theorem zq_s12_steps : Cond.selects mX12_steps.1.cls mX12_steps.1 mX12_steps.1 ∈ zy_T := zy_mem (zy_t8 (List.mem_of_getElem? (i := 52) (by decide +kernel))) rfl
theorem zq_c11_route : zy_mc 3 mX11_route := ⟨zy_mem (zy_t5 (List.mem_of_getElem? (i := 2) (by decide +kernel))) rfl, zy_mem (zy_t1 (List.mem_of_getElem? (i := 1) (by decide +kernel))) rfl, by decide +kernel, by decide +kernel⟩
theorem zq_l11_route : Cond.methodLink RL 108 mX11_route.1 ∈ zy_T := zy_mem (zy_t4 (List.mem_of_getElem? (i := 239) (by decide +kernel))) rfl
theorem zq_i11_route : Cond.instanceMethod mX11_route.1 ∈ zy_T := zy_mem (zy_t5 (List.mem_of_getElem? (i := 0) (by decide +kernel))) rfl
theorem zq_s11_route : Cond.selects mX11_route.1.cls mX11_route.1 mX11_route.1 ∈ zy_T := zy_mem (zy_t5 (List.mem_of_getElem? (i := 1) (by decide +kernel))) rfl
theorem zq_c12_route : zy_mc 3 mX12_route := ⟨zy_mem (zy_t8 (List.mem_of_getElem? (i := 61) (by decide +kernel))) rfl, zy_mem (zy_t1 (List.mem_of_getElem? (i := 14) (by decide +kernel))) rfl, by decide +kernel, by decide +kernel⟩
theorem zq_l12_route : Cond.methodLink RL 111 mX12_route.1 ∈ zy_T := zy_mem (zy_t8 (List.mem_of_getElem? (i := 58) (by decide +kernel))) rfl
theorem zq_i12_route : Cond.instanceMethod mX12_route.1 ∈ zy_T := zy_mem (zy_t8 (List.mem_of_getElem? (i := 59) (by decide +kernel))) rfl
theorem zq_s12_route : Cond.selects mX12_route.1.cls mX12_route.1 mX12_route.1 ∈ zy_T := zy_mem (zy_t8 (List.mem_of_getElem? (i := 60) (by decide +kernel))) rfl
theorem zq_c11_pile : zy_mc 1 mX11_pile := ⟨zy_mem (zy_t5 (List.mem_of_getElem? (i := 37) (by decide +kernel))) rfl, zy_mem (zy_t1 (List.mem_of_getElem? (i := 1) (by decide +kernel))) rfl, by decide +kernel, by decide +kernel⟩
theorem zq_l11_pile : Cond.methodLink RL 112 mX11_pile.1 ∈ zy_T := zy_mem (zy_t5 (List.mem_of_getElem? (i := 34) (by decide +kernel))) rfl
theorem zq_i11_pile : Cond.instanceMethod mX11_pile.1 ∈ zy_T := zy_mem (zy_t5 (List.mem_of_getElem? (i := 35) (by decide +kernel))) rfl
theorem zq_s11_pile : Cond.selects mX11_pile.1.cls mX11_pile.1 mX11_pile.1 ∈ zy_T := zy_mem (zy_t5 (List.mem_of_getElem? (i := 36) (by decide +kernel))) rfl
theorem zq_c12_pile : zy_mc 1 mX12_pile := ⟨zy_mem (zy_t8 (List.mem_of_getElem? (i := 90) (by decide +kernel))) rfl, zy_mem (zy_t1 (List.mem_of_getElem? (i := 14) (by decide +kernel))) rfl, by decide +kernel, by decide +kernel⟩
theorem zq_l12_pile : Cond.methodLink RL 115 mX12_pile.1 ∈ zy_T := zy_mem (zy_t8 (List.mem_of_getElem? (i := 87) (by decide +kernel))) rfl
theorem zq_i12_pile : Cond.instanceMethod mX12_pile.1 ∈ zy_T := zy_mem (zy_t8 (List.mem_of_getElem? (i := 88) (by decide +kernel))) rfl
theorem zq_s12_pile : Cond.selects mX12_pile.1.cls mX12_pile.1 mX12_pile.1 ∈ zy_T := zy_mem (zy_t8 (List.mem_of_getElem? (i := 89) (by decide +kernel))) rfl
theorem zq_c11_piles : zy_mc 2 mX11_piles := ⟨zy_mem (zy_t5 (List.mem_of_getElem? (i := 45) (by decide +kernel))) rfl, zy_mem (zy_t1 (List.mem_of_getElem? (i := 1) (by decide +kernel))) rfl, by decide +kernel, by decide +kernel⟩
theorem zq_l11_piles : Cond.methodLink RL 116 mX11_piles.1 ∈ zy_T := zy_mem (zy_t5 (List.mem_of_getElem? (i := 42) (by decide +kernel))) rfl
theorem zq_i11_piles : Cond.instanceMethod mX11_piles.1 ∈ zy_T := zy_mem (zy_t5 (List.mem_of_getElem? (i := 43) (by decide +kernel))) rfl
theorem zq_s11_piles : Cond.selects mX11_piles.1.cls mX11_piles.1 mX11_piles.1 ∈ zy_T := zy_mem (zy_t5 (List.mem_of_getElem? (i := 44) (by decide +kernel))) rfl
theorem zq_c12_piles : zy_mc 2 mX12_piles := ⟨zy_mem (zy_t8 (List.mem_of_getElem? (i := 94) (by decide +kernel))) rfl, zy_mem (zy_t1 (List.mem_of_getElem? (i := 14) (by decide +kernel))) rfl, by decide +kernel, by decide +kernel⟩
theorem zq_l12_piles : Cond.methodLink RL 119 mX12_piles.1 ∈ zy_T := zy_mem (zy_t8 (List.mem_of_getElem? (i := 91) (by decide +kernel))) rfl
theorem zq_i12_piles : Cond.instanceMethod mX12_piles.1 ∈ zy_T := zy_mem (zy_t8 (List.mem_of_getElem? (i := 92) (by decide +kernel))) rfl
theorem zq_s12_piles : Cond.selects mX12_piles.1.cls mX12_piles.1 mX12_piles.1 ∈ zy_T := zy_mem (zy_t8 (List.mem_of_getElem? (i := 93) (by decide +kernel))) rfl
theorem zq_c11_ask : zy_mc 1 mX11_ask := ⟨zy_mem (zy_t5 (List.mem_of_getElem? (i := 62) (by decide +kernel))) rfl, zy_mem (zy_t1 (List.mem_of_getElem? (i := 1) (by decide +kernel))) rfl, by decide +kernel, by decide +kernel⟩
theorem zq_l11_ask : Cond.methodLink RL 120 mX11_ask.1 ∈ zy_T := zy_mem (zy_t5 (List.mem_of_getElem? (i := 59) (by decide +kernel))) rfl
theorem zq_i11_ask : Cond.instanceMethod mX11_ask.1 ∈ zy_T := zy_mem (zy_t5 (List.mem_of_getElem? (i := 60) (by decide +kernel))) rfl
theorem zq_s11_ask : Cond.selects mX11_ask.1.cls mX11_ask.1 mX11_ask.1 ∈ zy_T := zy_mem (zy_t5 (List.mem_of_getElem? (i := 61) (by decide +kernel))) rfl
theorem zq_c12_ask : zy_mc 1 mX12_ask := ⟨zy_mem (zy_t8 (List.mem_of_getElem? (i := 102) (by decide +kernel))) rfl, zy_mem (zy_t1 (List.mem_of_getElem? (i := 14) (by decide +kernel))) rfl, by decide +kernel, by decide +kernel⟩
theorem zq_l12_ask : Cond.methodLink RL 123 mX12_ask.1 ∈ zy_T := zy_mem (zy_t8 (List.mem_of_getElem? (i := 99) (by decide +kernel))) rfl
theorem zq_i12_ask : Cond.instanceMethod mX12_ask.1 ∈ zy_T := zy_mem (zy_t8 (List.mem_of_getElem? (i := 100) (by decide +kernel))) rfl
theorem zq_s12_ask : Cond.selects mX12_ask.1.cls mX12_ask.1 mX12_ask.1 ∈ zy_T := zy_mem (zy_t8 (List.mem_of_getElem? (i := 101) (by decide +kernel))) rfl
theorem zq_c11_orders : zy_mc 0 mX11_orders := ⟨zy_mem (zy_t5 (List.mem_of_getElem? (i := 73) (by decide +kernel))) rfl, zy_mem (zy_t1 (List.mem_of_getElem? (i := 1) (by decide +kernel))) rfl, by decide +kernel, by decide +kernel⟩
theorem zq_l11_orders : Cond.methodLink RL 124 mX11_orders.1 ∈ zy_T := zy_mem (zy_t5 (List.mem_of_getElem? (i := 70) (by decide +kernel))) rfl
theorem zq_i11_orders : Cond.instanceMethod mX11_orders.1 ∈ zy_T := zy_mem (zy_t5 (List.mem_of_getElem? (i := 71) (by decide +kernel))) rfl
theorem zq_s11_orders : Cond.selects mX11_orders.1.cls mX11_orders.1 mX11_orders.1 ∈ zy_T := zy_mem (zy_t5 (List.mem_of_getElem? (i := 72) (by decide +kernel))) rfl
theorem zq_c12_orders : zy_mc 0 mX12_orders := ⟨zy_mem (zy_t8 (List.mem_of_getElem? (i := 106) (by decide +kernel))) rfl, zy_mem (zy_t1 (List.mem_of_getElem? (i := 14) (by decide +kernel))) rfl, by decide +kernel, by decide +kernel⟩
theorem zq_l12_orders : Cond.methodLink RL 128 mX12_orders.1 ∈ zy_T := zy_mem (zy_t8 (List.mem_of_getElem? (i := 103) (by decide +kernel))) rfl
theorem zq_i12_orders : Cond.instanceMethod mX12_orders.1 ∈ zy_T := zy_mem (zy_t8 (List.mem_of_getElem? (i := 104) (by decide +kernel))) rfl
theorem zq_s12_orders : Cond.selects mX12_orders.1.cls mX12_orders.1 mX12_orders.1 ∈ zy_T := zy_mem (zy_t8 (List.mem_of_getElem? (i := 105) (by decide +kernel))) rfl
theorem zq_c11_first : zy_mc 1 mX11_first := ⟨zy_mem (zy_t5 (List.mem_of_getElem? (i := 86) (by decide +kernel))) rfl, zy_mem (zy_t1 (List.mem_of_getElem? (i := 1) (by decide +kernel))) rfl, by decide +kernel, by decide +kernel⟩
theorem zq_l11_first : Cond.methodLink RL 129 mX11_first.1 ∈ zy_T := zy_mem (zy_t5 (List.mem_of_getElem? (i := 83) (by decide +kernel))) rfl
theorem zq_i11_first : Cond.instanceMethod mX11_first.1 ∈ zy_T := zy_mem (zy_t5 (List.mem_of_getElem? (i := 84) (by decide +kernel))) rfl
theorem zq_s11_first : Cond.selects mX11_first.1.cls mX11_first.1 mX11_first.1 ∈ zy_T := zy_mem (zy_t5 (List.mem_of_getElem? (i := 85) (by decide +kernel))) rfl
theorem zq_c12_first : zy_mc 1 mX12_first := ⟨zy_mem (zy_t8 (List.mem_of_getElem? (i := 113) (by decide +kernel))) rfl, zy_mem (zy_t1 (List.mem_of_getElem? (i := 14) (by decide +kernel))) rfl, by decide +kernel, by decide +kernel⟩
theorem zq_l12_first : Cond.methodLink RL 132 mX12_first.1 ∈ zy_T := zy_mem (zy_t8 (List.mem_of_getElem? (i := 110) (by decide +kernel))) rfl
theorem zq_i12_first : Cond.instanceMethod mX12_first.1 ∈ zy_T := zy_mem (zy_t8 (List.mem_of_getElem? (i := 111) (by decide +kernel))) rfl
theorem zq_s12_first : Cond.selects mX12_first.1.cls mX12_first.1 mX12_first.1 ∈ zy_T := zy_mem (zy_t8 (List.mem_of_getElem? (i := 112) (by decide +kernel))) rfl
theorem zq_c11_weigh : zy_mc 2 mX11_weigh := ⟨zy_mem (zy_t5 (List.mem_of_getElem? (i := 98) (by decide +kernel))) rfl, zy_mem (zy_t1 (List.mem_of_getElem? (i := 1) (by decide +kernel))) rfl, by decide +kernel, by decide +kernel⟩
theorem zq_l11_weigh : Cond.methodLink RL 133 mX11_weigh.1 ∈ zy_T := zy_mem (zy_t5 (List.mem_of_getElem? (i := 95) (by decide +kernel))) rfl
theorem zq_i11_weigh : Cond.instanceMethod mX11_weigh.1 ∈ zy_T := zy_mem (zy_t5 (List.mem_of_getElem? (i := 96) (by decide +kernel))) rfl
theorem zq_s11_weigh : Cond.selects mX11_weigh.1.cls mX11_weigh.1 mX11_weigh.1 ∈ zy_T := zy_mem (zy_t5 (List.mem_of_getElem? (i := 97) (by decide +kernel))) rfl
theorem zq_c12_weigh : zy_mc 2 mX12_weigh := ⟨zy_mem (zy_t8 (List.mem_of_getElem? (i := 117) (by decide +kernel))) rfl, zy_mem (zy_t1 (List.mem_of_getElem? (i := 14) (by decide +kernel))) rfl, by decide +kernel, by decide +kernel⟩
theorem zq_l12_weigh : Cond.methodLink RL 136 mX12_weigh.1 ∈ zy_T := zy_mem (zy_t8 (List.mem_of_getElem? (i := 114) (by decide +kernel))) rfl
theorem zq_i12_weigh : Cond.instanceMethod mX12_weigh.1 ∈ zy_T := zy_mem (zy_t8 (List.mem_of_getElem? (i := 115) (by decide +kernel))) rfl
theorem zq_s12_weigh : Cond.selects mX12_weigh.1.cls mX12_weigh.1 mX12_weigh.1 ∈ zy_T := zy_mem (zy_t8 (List.mem_of_getElem? (i := 116) (by decide +kernel))) rfl
theorem zq_c11_apart : zy_mc 1 mX11_apart := ⟨zy_mem (zy_t5 (List.mem_of_getElem? (i := 102) (by decide +kernel))) rfl, zy_mem (zy_t1 (List.mem_of_getElem? (i := 1) (by decide +kernel))) rfl, by decide +kernel, by decide +kernel⟩
theorem zq_l11_apart : Cond.methodLink RL 137 mX11_apart.1 ∈ zy_T := zy_mem (zy_t5 (List.mem_of_getElem? (i := 99) (by decide +kernel))) rfl
theorem zq_i11_apart : Cond.instanceMethod mX11_apart.1 ∈ zy_T := zy_mem (zy_t5 (List.mem_of_getElem? (i := 100) (by decide +kernel))) rfl
theorem zq_s11_apart : Cond.selects mX11_apart.1.cls mX11_apart.1 mX11_apart.1 ∈ zy_T := zy_mem (zy_t5 (List.mem_of_getElem? (i := 101) (by decide +kernel))) rfl
theorem zq_c12_apart : zy_mc 1 mX12_apart := ⟨zy_mem (zy_t8 (List.mem_of_getElem? (i := 121) (by decide +kernel))) rfl, zy_mem (zy_t1 (List.mem_of_getElem? (i := 14) (by decide +kernel))) rfl, by decide +kernel, by decide +kernel⟩
theorem zq_l12_apart : Cond.methodLink RL 141 mX12_apart.1 ∈ zy_T := zy_mem (zy_t8 (List.mem_of_getElem? (i := 118) (by decide +kernel))) rfl
theorem zq_i12_apart : Cond.instanceMethod mX12_apart.1 ∈ zy_T := zy_mem (zy_t8 (List.mem_of_getElem? (i := 119) (by decide +kernel))) rfl
theorem zq_s12_apart : Cond.selects mX12_apart.1.cls mX12_apart.1 mX12_apart.1 ∈ zy_T := zy_mem (zy_t8 (List.mem_of_getElem? (i := 120) (by decide +kernel))) rfl
theorem zq_c11_middle : zy_mc 0 mX11_middle := ⟨zy_mem (zy_t5 (List.mem_of_getElem? (i := 115) (by decide +kernel))) rfl, zy_mem (zy_t1 (List.mem_of_getElem? (i := 1) (by decide +kernel))) rfl, by decide +kernel, by decide +kernel⟩
theorem zq_l11_middle : Cond.methodLink RL 142 mX11_middle.1 ∈ zy_T := zy_mem (zy_t5 (List.mem_of_getElem? (i := 112) (by decide +kernel))) rfl
theorem zq_i11_middle : Cond.instanceMethod mX11_middle.1 ∈ zy_T := zy_mem (zy_t5 (List.mem_of_getElem? (i := 113) (by decide +kernel))) rfl
theorem zq_s11_middle : Cond.selects mX11_middle.1.cls mX11_middle.1 mX11_middle.1 ∈ zy_T := zy_mem (zy_t5 (List.mem_of_getElem? (i := 114) (by decide +kernel))) rfl
theorem zq_c12_middle : zy_mc 0 mX12_middle := ⟨zy_mem (zy_t8 (List.mem_of_getElem? (i := 133) (by decide +kernel))) rfl, zy_mem (zy_t1 (List.mem_of_getElem? (i := 14) (by decide +kernel))) rfl, by decide +kernel, by decide +kernel⟩
theorem zq_l12_middle : Cond.methodLink RL 145 mX12_middle.1 ∈ zy_T := zy_mem (zy_t8 (List.mem_of_getElem? (i := 130) (by decide +kernel))) rfl
theorem zq_i12_middle : Cond.instanceMethod mX12_middle.1 ∈ zy_T := zy_mem (zy_t8 (List.mem_of_getElem? (i := 131) (by decide +kernel))) rfl
theorem zq_s12_middle : Cond.selects mX12_middle.1.cls mX12_middle.1 mX12_middle.1 ∈ zy_T := zy_mem (zy_t8 (List.mem_of_getElem? (i := 132) (by decide +kernel))) rfl
theorem zq_c11_longest : zy_mc 1 mX11_longest := ⟨zy_mem (zy_t5 (List.mem_of_getElem? (i := 125) (by decide +kernel))) rfl, zy_mem (zy_t1 (List.mem_of_getElem? (i := 1) (by decide +kernel))) rfl, by decide +kernel, by decide +kernel⟩
theorem zq_l11_longest : Cond.methodLink RL 146 mX11_longest.1 ∈ zy_T := zy_mem (zy_t5 (List.mem_of_getElem? (i := 122) (by decide +kernel))) rfl
theorem zq_i11_longest : Cond.instanceMethod mX11_longest.1 ∈ zy_T := zy_mem (zy_t5 (List.mem_of_getElem? (i := 123) (by decide +kernel))) rfl
theorem zq_s11_longest : Cond.selects mX11_longest.1.cls mX11_longest.1 mX11_longest.1 ∈ zy_T := zy_mem (zy_t5 (List.mem_of_getElem? (i := 124) (by decide +kernel))) rfl
theorem zq_c12_longest : zy_mc 1 mX12_longest := ⟨zy_mem (zy_t8 (List.mem_of_getElem? (i := 137) (by decide +kernel))) rfl, zy_mem (zy_t1 (List.mem_of_getElem? (i := 14) (by decide +kernel))) rfl, by decide +kernel, by decide +kernel⟩
theorem zq_l12_longest : Cond.methodLink RL 149 mX12_longest.1 ∈ zy_T := zy_mem (zy_t8 (List.mem_of_getElem? (i := 134) (by decide +kernel))) rfl
theorem zq_i12_longest : Cond.instanceMethod mX12_longest.1 ∈ zy_T := zy_mem (zy_t8 (List.mem_of_getElem? (i := 135) (by decide +kernel))) rfl
theorem zq_s12_longest : Cond.selects mX12_longest.1.cls mX12_longest.1 mX12_longest.1 ∈ zy_T := zy_mem (zy_t8 (List.mem_of_getElem? (i := 136) (by decide +kernel))) rfl
theorem zq_c11_parts : zy_mc 1 mX11_parts := ⟨zy_mem (zy_t5 (List.mem_of_getElem? (i := 141) (by decide +kernel))) rfl, zy_mem (zy_t1 (List.mem_of_getElem? (i := 1) (by decide +kernel))) rfl, by decide +kernel, by decide +kernel⟩
theorem zq_l11_parts : Cond.methodLink RL 150 mX11_parts.1 ∈ zy_T := zy_mem (zy_t5 (List.mem_of_getElem? (i := 138) (by decide +kernel))) rfl
theorem zq_i11_parts : Cond.instanceMethod mX11_parts.1 ∈ zy_T := zy_mem (zy_t5 (List.mem_of_getElem? (i := 139) (by decide +kernel))) rfl
theorem zq_s11_parts : Cond.selects mX11_parts.1.cls mX11_parts.1 mX11_parts.1 ∈ zy_T := zy_mem (zy_t5 (List.mem_of_getElem? (i := 140) (by decide +kernel))) rfl
theorem zq_c12_parts : zy_mc 1 mX12_parts := ⟨zy_mem (zy_t8 (List.mem_of_getElem? (i := 141) (by decide +kernel))) rfl, zy_mem (zy_t1 (List.mem_of_getElem? (i := 14) (by decide +kernel))) rfl, by decide +kernel, by decide +kernel⟩
theorem zq_l12_parts : Cond.methodLink RL 153 mX12_parts.1 ∈ zy_T := zy_mem (zy_t8 (List.mem_of_getElem? (i := 138) (by decide +kernel))) rfl
theorem zq_i12_parts : Cond.instanceMethod mX12_parts.1 ∈ zy_T := zy_mem (zy_t8 (List.mem_of_getElem? (i := 139) (by decide +kernel))) rfl
theorem zq_s12_parts : Cond.selects mX12_parts.1.cls mX12_parts.1 mX12_parts.1 ∈ zy_T := zy_mem (zy_t8 (List.mem_of_getElem? (i := 140) (by decide +kernel))) rfl
theorem zq_c11_deputies : zy_mc 0 mX11_deputies := ⟨zy_mem (zy_t5 (List.mem_of_getElem? (i := 149) (by decide +kernel))) rfl, zy_mem (zy_t1 (List.mem_of_getElem? (i := 1) (by decide +kernel))) rfl, by decide +kernel, by decide +kernel⟩
theorem zq_l11_deputies : Cond.methodLink RL 154 mX11_deputies.1 ∈ zy_T := zy_mem (zy_t5 (List.mem_of_getElem? (i := 146) (by decide +kernel))) rfl
theorem zq_i11_deputies : Cond.instanceMethod mX11_deputies.1 ∈ zy_T := zy_mem (zy_t5 (List.mem_of_getElem? (i := 147) (by decide +kernel))) rfl
theorem zq_s11_deputies : Cond.selects mX11_deputies.1.cls mX11_deputies.1 mX11_deputies.1 ∈ zy_T := zy_mem (zy_t5 (List.mem_of_getElem? (i := 148) (by decide +kernel))) rfl
theorem zq_c12_deputies : zy_mc 0 mX12_deputies := ⟨zy_mem (zy_t8 (List.mem_of_getElem? (i := 145) (by decide +kernel))) rfl, zy_mem (zy_t1 (List.mem_of_getElem? (i := 14) (by decide +kernel))) rfl, by decide +kernel, by decide +kernel⟩
theorem zq_l12_deputies : Cond.methodLink RL 157 mX12_deputies.1 ∈ zy_T := zy_mem (zy_t8 (List.mem_of_getElem? (i := 142) (by decide +kernel))) rfl
theorem zq_i12_deputies : Cond.instanceMethod mX12_deputies.1 ∈ zy_T := zy_mem (zy_t8 (List.mem_of_getElem? (i := 143) (by decide +kernel))) rfl
theorem zq_s12_deputies : Cond.selects mX12_deputies.1.cls mX12_deputies.1 mX12_deputies.1 ∈ zy_T := zy_mem (zy_t8 (List.mem_of_getElem? (i := 144) (by decide +kernel))) rfl
theorem zq_c11_ranked : zy_mc 2 mX11_ranked := ⟨zy_mem (zy_t5 (List.mem_of_getElem? (i := 158) (by decide +kernel))) rfl, zy_mem (zy_t1 (List.mem_of_getElem? (i := 1) (by decide +kernel))) rfl, by decide +kernel, by decide +kernel⟩
theorem zq_l11_ranked : Cond.methodLink RL 158 mX11_ranked.1 ∈ zy_T := zy_mem (zy_t5 (List.mem_of_getElem? (i := 155) (by decide +kernel))) rfl
theorem zq_i11_ranked : Cond.instanceMethod mX11_ranked.1 ∈ zy_T := zy_mem (zy_t5 (List.mem_of_getElem? (i := 156) (by decide +kernel))) rfl
theorem zq_s11_ranked : Cond.selects mX11_ranked.1.cls mX11_ranked.1 mX11_ranked.1 ∈ zy_T := zy_mem (zy_t5 (List.mem_of_getElem? (i := 157) (by decide +kernel))) rfl
theorem zq_c12_ranked : zy_mc 2 mX12_ranked := ⟨zy_mem (zy_t8 (List.mem_of_getElem? (i := 25) (by decide +kernel))) rfl, zy_mem (zy_t1 (List.mem_of_getElem? (i := 14) (by decide +kernel))) rfl, by decide +kernel, by decide +kernel⟩
theorem zq_l12_ranked : Cond.methodLink RL 162 mX12_ranked.1 ∈ zy_T := zy_mem (zy_t8 (List.mem_of_getElem? (i := 22) (by decide +kernel))) rfl
theorem zq_i12_ranked : Cond.instanceMethod mX12_ranked.1 ∈ zy_T := zy_mem (zy_t8 (List.mem_of_getElem? (i := 23) (by decide +kernel))) rfl
theorem zq_s12_ranked : Cond.selects mX12_ranked.1.cls mX12_ranked.1 mX12_ranked.1 ∈ zy_T := zy_mem (zy_t8 (List.mem_of_getElem? (i := 24) (by decide +kernel))) rfl
theorem zq_c11_owes : zy_mc 3 mX11_owes := ⟨zy_mem (zy_t5 (List.mem_of_getElem? (i := 166) (by decide +kernel))) rfl, zy_mem (zy_t1 (List.mem_of_getElem? (i := 1) (by decide +kernel))) rfl, by decide +kernel, by decide +kernel⟩
theorem zq_l11_owes : Cond.methodLink RL 163 mX11_owes.1 ∈ zy_T := zy_mem (zy_t5 (List.mem_of_getElem? (i := 163) (by decide +kernel))) rfl
theorem zq_i11_owes : Cond.instanceMethod mX11_owes.1 ∈ zy_T := zy_mem (zy_t5 (List.mem_of_getElem? (i := 164) (by decide +kernel))) rfl
theorem zq_s11_owes : Cond.selects mX11_owes.1.cls mX11_owes.1 mX11_owes.1 ∈ zy_T := zy_mem (zy_t5 (List.mem_of_getElem? (i := 165) (by decide +kernel))) rfl
theorem zq_c12_owes : zy_mc 3 mX12_owes := ⟨zy_mem (zy_t8 (List.mem_of_getElem? (i := 153) (by decide +kernel))) rfl, zy_mem (zy_t1 (List.mem_of_getElem? (i := 14) (by decide +kernel))) rfl, by decide +kernel, by decide +kernel⟩
theorem zq_l12_owes : Cond.methodLink RL 167 mX12_owes.1 ∈ zy_T := zy_mem (zy_t8 (List.mem_of_getElem? (i := 150) (by decide +kernel))) rfl
theorem zq_i12_owes : Cond.instanceMethod mX12_owes.1 ∈ zy_T := zy_mem (zy_t8 (List.mem_of_getElem? (i := 151) (by decide +kernel))) rfl
theorem zq_s12_owes : Cond.selects mX12_owes.1.cls mX12_owes.1 mX12_owes.1 ∈ zy_T := zy_mem (zy_t8 (List.mem_of_getElem? (i := 152) (by decide +kernel))) rfl
theorem zq_c11_play : zy_mc 2 mX11_play := ⟨zy_mem (zy_t5 (List.mem_of_getElem? (i := 170) (by decide +kernel))) rfl, zy_mem (zy_t1 (List.mem_of_getElem? (i := 1) (by decide +kernel))) rfl, by decide +kernel, by decide +kernel⟩
theorem zq_l11_play : Cond.methodLink RL 168 mX11_play.1 ∈ zy_T := zy_mem (zy_t5 (List.mem_of_getElem? (i := 167) (by decide +kernel))) rfl
theorem zq_i11_play : Cond.instanceMethod mX11_play.1 ∈ zy_T := zy_mem (zy_t5 (List.mem_of_getElem? (i := 168) (by decide +kernel))) rfl
theorem zq_s11_play : Cond.selects mX11_play.1.cls mX11_play.1 mX11_play.1 ∈ zy_T := zy_mem (zy_t5 (List.mem_of_getElem? (i := 169) (by decide +kernel))) rfl
theorem zq_c12_play : zy_mc 2 mX12_play := ⟨zy_mem (zy_t8 (List.mem_of_getElem? (i := 157) (by decide +kernel))) rfl, zy_mem (zy_t1 (List.mem_of_getElem? (i := 14) (by decide +kernel))) rfl, by decide +kernel, by decide +kernel⟩
theorem zq_l12_play : Cond.methodLink RL 171 mX12_play.1 ∈ zy_T := zy_mem (zy_t8 (List.mem_of_getElem? (i := 154) (by decide +kernel))) rfl
theorem zq_i12_play : Cond.instanceMethod mX12_play.1 ∈ zy_T := zy_mem (zy_t8 (List.mem_of_getElem? (i := 155) (by decide +kernel))) rfl
theorem zq_s12_play : Cond.selects mX12_play.1.cls mX12_play.1 mX12_play.1 ∈ zy_T := zy_mem (zy_t8 (List.mem_of_getElem? (i := 156) (by decide +kernel))) rfl
theorem zq_c11_added : zy_mc 2 mX11_added := ⟨zy_mem (zy_t5 (List.mem_of_getElem? (i := 174) (by decide +kernel))) rfl, zy_mem (zy_t1 (List.mem_of_getElem? (i := 1) (by decide +kernel))) rfl, by decide +kernel, by decide +kernel⟩
theorem zq_l11_added : Cond.methodLink RL 172 mX11_added.1 ∈ zy_T := zy_mem (zy_t5 (List.mem_of_getElem? (i := 171) (by decide +kernel))) rfl
theorem zq_i11_added : Cond.instanceMethod mX11_added.1 ∈ zy_T := zy_mem (zy_t5 (List.mem_of_getElem? (i := 172) (by decide +kernel))) rfl
theorem zq_s11_added : Cond.selects mX11_added.1.cls mX11_added.1 mX11_added.1 ∈ zy_T := zy_mem (zy_t5 (List.mem_of_getElem? (i := 173) (by decide +kernel))) rfl
theorem zq_c12_added : zy_mc 2 mX12_added := ⟨zy_mem (zy_t8 (List.mem_of_getElem? (i := 161) (by decide +kernel))) rfl, zy_mem (zy_t1 (List.mem_of_getElem? (i := 14) (by decide +kernel))) rfl, by decide +kernel, by decide +kernel⟩
theorem zq_l12_added : Cond.methodLink RL 175 mX12_added.1 ∈ zy_T := zy_mem (zy_t8 (List.mem_of_getElem? (i := 158) (by decide +kernel))) rfl
theorem zq_i12_added : Cond.instanceMethod mX12_added.1 ∈ zy_T := zy_mem (zy_t8 (List.mem_of_getElem? (i := 159) (by decide +kernel))) rfl
theorem zq_s12_added : Cond.selects mX12_added.1.cls mX12_added.1 mX12_added.1 ∈ zy_T := zy_mem (zy_t8 (List.mem_of_getElem? (i := 160) (by decide +kernel))) rfl
theorem zq_c11_whose : zy_mc 0 mX11_whose := ⟨zy_mem (zy_t5 (List.mem_of_getElem? (i := 178) (by decide +kernel))) rfl, zy_mem (zy_t1 (List.mem_of_getElem? (i := 1) (by decide +kernel))) rfl, by decide +kernel, by decide +kernel⟩
theorem zq_l11_whose : Cond.methodLink RL 176 mX11_whose.1 ∈ zy_T := zy_mem (zy_t5 (List.mem_of_getElem? (i := 175) (by decide +kernel))) rfl
theorem zq_i11_whose : Cond.instanceMethod mX11_whose.1 ∈ zy_T := zy_mem (zy_t5 (List.mem_of_getElem? (i := 176) (by decide +kernel))) rfl
theorem zq_s11_whose : Cond.selects mX11_whose.1.cls mX11_whose.1 mX11_whose.1 ∈ zy_T := zy_mem (zy_t5 (List.mem_of_getElem? (i := 177) (by decide +kernel))) rfl
theorem zq_c12_whose : zy_mc 0 mX12_whose := ⟨zy_mem (zy_t8 (List.mem_of_getElem? (i := 165) (by decide +kernel))) rfl, zy_mem (zy_t1 (List.mem_of_getElem? (i := 14) (by decide +kernel))) rfl, by decide +kernel, by decide +kernel⟩
theorem zq_l12_whose : Cond.methodLink RL 179 mX12_whose.1 ∈ zy_T := zy_mem (zy_t8 (List.mem_of_getElem? (i := 162) (by decide +kernel))) rfl
theorem zq_i12_whose : Cond.instanceMethod mX12_whose.1 ∈ zy_T := zy_mem (zy_t8 (List.mem_of_getElem? (i := 163) (by decide +kernel))) rfl
theorem zq_s12_whose : Cond.selects mX12_whose.1.cls mX12_whose.1 mX12_whose.1 ∈ zy_T := zy_mem (zy_t8 (List.mem_of_getElem? (i := 164) (by decide +kernel))) rfl
theorem zq_c11_stuck : zy_mc 0 mX11_stuck := ⟨zy_mem (zy_t5 (List.mem_of_getElem? (i := 186) (by decide +kernel))) rfl, zy_mem (zy_t1 (List.mem_of_getElem? (i := 1) (by decide +kernel))) rfl, by decide +kernel, by decide +kernel⟩
theorem zq_l11_stuck : Cond.methodLink RL 180 mX11_stuck.1 ∈ zy_T := zy_mem (zy_t5 (List.mem_of_getElem? (i := 183) (by decide +kernel))) rfl
theorem zq_i11_stuck : Cond.instanceMethod mX11_stuck.1 ∈ zy_T := zy_mem (zy_t5 (List.mem_of_getElem? (i := 184) (by decide +kernel))) rfl
theorem zq_s11_stuck : Cond.selects mX11_stuck.1.cls mX11_stuck.1 mX11_stuck.1 ∈ zy_T := zy_mem (zy_t5 (List.mem_of_getElem? (i := 185) (by decide +kernel))) rfl
theorem zq_c12_stuck : zy_mc 0 mX12_stuck := ⟨zy_mem (zy_t8 (List.mem_of_getElem? (i := 13) (by decide +kernel))) rfl, zy_mem (zy_t1 (List.mem_of_getElem? (i := 14) (by decide +kernel))) rfl, by decide +kernel, by decide +kernel⟩
theorem zq_l12_stuck : Cond.methodLink RL 183 mX12_stuck.1 ∈ zy_T := zy_mem (zy_t8 (List.mem_of_getElem? (i := 10) (by decide +kernel))) rfl
theorem zq_i12_stuck : Cond.instanceMethod mX12_stuck.1 ∈ zy_T := zy_mem (zy_t8 (List.mem_of_getElem? (i := 11) (by decide +kernel))) rfl
theorem zq_s12_stuck : Cond.selects mX12_stuck.1.cls mX12_stuck.1 mX12_stuck.1 ∈ zy_T := zy_mem (zy_t8 (List.mem_of_getElem? (i := 12) (by decide +kernel))) rfl
theorem zq_c11_eldest : zy_mc 0 mX11_eldest := ⟨zy_mem (zy_t5 (List.mem_of_getElem? (i := 190) (by decide +kernel))) rfl, zy_mem (zy_t1 (List.mem_of_getElem? (i := 1) (by decide +kernel))) rfl, by decide +kernel, by decide +kernel⟩
theorem zq_l11_eldest : Cond.methodLink RL 184 mX11_eldest.1 ∈ zy_T := zy_mem (zy_t5 (List.mem_of_getElem? (i := 187) (by decide +kernel))) rfl
theorem zq_i11_eldest : Cond.instanceMethod mX11_eldest.1 ∈ zy_T := zy_mem (zy_t5 (List.mem_of_getElem? (i := 188) (by decide +kernel))) rfl
theorem zq_s11_eldest : Cond.selects mX11_eldest.1.cls mX11_eldest.1 mX11_eldest.1 ∈ zy_T := zy_mem (zy_t5 (List.mem_of_getElem? (i := 189) (by decide +kernel))) rfl
theorem zq_c12_eldest : zy_mc 0 mX12_eldest := ⟨zy_mem (zy_t8 (List.mem_of_getElem? (i := 17) (by decide +kernel))) rfl, zy_mem (zy_t1 (List.mem_of_getElem? (i := 14) (by decide +kernel))) rfl, by decide +kernel, by decide +kernel⟩
theorem zq_l12_eldest : Cond.methodLink RL 187 mX12_eldest.1 ∈ zy_T := zy_mem (zy_t8 (List.mem_of_getElem? (i := 14) (by decide +kernel))) rfl
theorem zq_i12_eldest : Cond.instanceMethod mX12_eldest.1 ∈ zy_T := zy_mem (zy_t8 (List.mem_of_getElem? (i := 15) (by decide +kernel))) rfl
theorem zq_s12_eldest : Cond.selects mX12_eldest.1.cls mX12_eldest.1 mX12_eldest.1 ∈ zy_T := zy_mem (zy_t8 (List.mem_of_getElem? (i := 16) (by decide +kernel))) rfl
theorem zq_c11_sry : zy_mc 1 mX11_sorry := ⟨zy_mem (zy_t5 (List.mem_of_getElem? (i := 194) (by decide +kernel))) rfl, zy_mem (zy_t1 (List.mem_of_getElem? (i := 1) (by decide +kernel))) rfl, by decide +kernel, by decide +kernel⟩
theorem zq_l11_sry : Cond.methodLink RL 188 mX11_sorry.1 ∈ zy_T := zy_mem (zy_t5 (List.mem_of_getElem? (i := 191) (by decide +kernel))) rfl
theorem zq_i11_sry : Cond.instanceMethod mX11_sorry.1 ∈ zy_T := zy_mem (zy_t5 (List.mem_of_getElem? (i := 192) (by decide +kernel))) rfl
theorem zq_s11_sry : Cond.selects mX11_sorry.1.cls mX11_sorry.1 mX11_sorry.1 ∈ zy_T := zy_mem (zy_t5 (List.mem_of_getElem? (i := 193) (by decide +kernel))) rfl
theorem zq_c12_sry : zy_mc 1 mX12_sorry := ⟨zy_mem (zy_t8 (List.mem_of_getElem? (i := 21) (by decide +kernel))) rfl, zy_mem (zy_t1 (List.mem_of_getElem? (i := 14) (by decide +kernel))) rfl, by decide +kernel, by decide +kernel⟩
theorem zq_l12_sry : Cond.methodLink RL 191 mX12_sorry.1 ∈ zy_T := zy_mem (zy_t8 (List.mem_of_getElem? (i := 18) (by decide +kernel))) rfl
theorem zq_i12_sry : Cond.instanceMethod mX12_sorry.1 ∈ zy_T := zy_mem (zy_t8 (List.mem_of_getElem? (i := 19) (by decide +kernel))) rfl
theorem zq_s12_sry : Cond.selects mX12_sorry.1.cls mX12_sorry.1 mX12_sorry.1 ∈ zy_T := zy_mem (zy_t8 (List.mem_of_getElem? (i := 20) (by decide +kernel))) rfl
theorem zq_c11_befell : zy_mc 1 mX11_befell := ⟨zy_mem (zy_t5 (List.mem_of_getElem? (i := 198) (by decide +kernel))) rfl, zy_mem (zy_t1 (List.mem_of_getElem? (i := 1) (by decide +kernel))) rfl, by decide +kernel, by decide +kernel⟩
theorem zq_l11_befell : Cond.methodLink RL 192 mX11_befell.1 ∈ zy_T := zy_mem (zy_t5 (List.mem_of_getElem? (i := 195) (by decide +kernel))) rfl
theorem zq_i11_befell : Cond.instanceMethod mX11_befell.1 ∈ zy_T := zy_mem (zy_t5 (List.mem_of_getElem? (i := 196) (by decide +kernel))) rfl
theorem zq_s11_befell : Cond.selects mX11_befell.1.cls mX11_befell.1 mX11_befell.1 ∈ zy_T := zy_mem (zy_t5 (List.mem_of_getElem? (i := 197) (by decide +kernel))) rfl
theorem zq_c12_befell : zy_mc 1 mX12_befell := ⟨zy_mem (zy_t8 (List.mem_of_getElem? (i := 8) (by decide +kernel))) rfl, zy_mem (zy_t1 (List.mem_of_getElem? (i := 14) (by decide +kernel))) rfl, by decide +kernel, by decide +kernel⟩
theorem zq_l12_befell : Cond.methodLink RL 195 mX12_befell.1 ∈ zy_T := zy_mem (zy_t8 (List.mem_of_getElem? (i := 5) (by decide +kernel))) rfl
theorem zq_i12_befell : Cond.instanceMethod mX12_befell.1 ∈ zy_T := zy_mem (zy_t8 (List.mem_of_getElem? (i := 6) (by decide +kernel))) rfl
theorem zq_s12_befell : Cond.selects mX12_befell.1.cls mX12_befell.1 mX12_befell.1 ∈ zy_T := zy_mem (zy_t8 (List.mem_of_getElem? (i := 7) (by decide +kernel))) rfl
theorem zq_c11_image : zy_mc 0 mX11_image := ⟨zy_mem (zy_t5 (List.mem_of_getElem? (i := 206) (by decide +kernel))) rfl, zy_mem (zy_t1 (List.mem_of_getElem? (i := 1) (by decide +kernel))) rfl, by decide +kernel, by decide +kernel⟩
theorem zq_l11_image : Cond.methodLink RL 196 mX11_image.1 ∈ zy_T := zy_mem (zy_t5 (List.mem_of_getElem? (i := 203) (by decide +kernel))) rfl
theorem zq_i11_image : Cond.instanceMethod mX11_image.1 ∈ zy_T := zy_mem (zy_t5 (List.mem_of_getElem? (i := 204) (by decide +kernel))) rfl
theorem zq_s11_image : Cond.selects mX11_image.1.cls mX11_image.1 mX11_image.1 ∈ zy_T := zy_mem (zy_t5 (List.mem_of_getElem? (i := 205) (by decide +kernel))) rfl
theorem zq_c12_image : zy_mc 0 mX12_image := ⟨zy_mem (zy_t8 (List.mem_of_getElem? (i := 169) (by decide +kernel))) rfl, zy_mem (zy_t1 (List.mem_of_getElem? (i := 14) (by decide +kernel))) rfl, by decide +kernel, by decide +kernel⟩
theorem zq_l12_image : Cond.methodLink RL 199 mX12_image.1 ∈ zy_T := zy_mem (zy_t8 (List.mem_of_getElem? (i := 166) (by decide +kernel))) rfl
theorem zq_i12_image : Cond.instanceMethod mX12_image.1 ∈ zy_T := zy_mem (zy_t8 (List.mem_of_getElem? (i := 167) (by decide +kernel))) rfl
theorem zq_s12_image : Cond.selects mX12_image.1.cls mX12_image.1 mX12_image.1 ∈ zy_T := zy_mem (zy_t8 (List.mem_of_getElem? (i := 168) (by decide +kernel))) rfl
theorem zq_c11_back : zy_mc 0 mX11_back := ⟨zy_mem (zy_t5 (List.mem_of_getElem? (i := 230) (by decide +kernel))) rfl, zy_mem (zy_t1 (List.mem_of_getElem? (i := 1) (by decide +kernel))) rfl, by decide +kernel, by decide +kernel⟩
theorem zq_l11_back : Cond.methodLink RL 200 mX11_back.1 ∈ zy_T := zy_mem (zy_t5 (List.mem_of_getElem? (i := 227) (by decide +kernel))) rfl
theorem zq_i11_back : Cond.instanceMethod mX11_back.1 ∈ zy_T := zy_mem (zy_t5 (List.mem_of_getElem? (i := 228) (by decide +kernel))) rfl
theorem zq_s11_back : Cond.selects mX11_back.1.cls mX11_back.1 mX11_back.1 ∈ zy_T := zy_mem (zy_t5 (List.mem_of_getElem? (i := 229) (by decide +kernel))) rfl
theorem zq_c12_back : zy_mc 0 mX12_back := ⟨zy_mem (zy_t8 (List.mem_of_getElem? (i := 173) (by decide +kernel))) rfl, zy_mem (zy_t1 (List.mem_of_getElem? (i := 14) (by decide +kernel))) rfl, by decide +kernel, by decide +kernel⟩
theorem zq_l12_back : Cond.methodLink RL 203 mX12_back.1 ∈ zy_T := zy_mem (zy_t8 (List.mem_of_getElem? (i := 170) (by decide +kernel))) rfl
theorem zq_i12_back : Cond.instanceMethod mX12_back.1 ∈ zy_T := zy_mem (zy_t8 (List.mem_of_getElem? (i := 171) (by decide +kernel))) rfl
theorem zq_s12_back : Cond.selects mX12_back.1.cls mX12_back.1 mX12_back.1 ∈ zy_T := zy_mem (zy_t8 (List.mem_of_getElem? (i := 172) (by decide +kernel))) rfl
theorem zq_c11_about : zy_mc 1 mX11_about := ⟨zy_mem (zy_t5 (List.mem_of_getElem? (i := 234) (by decide +kernel))) rfl, zy_mem (zy_t1 (List.mem_of_getElem? (i := 1) (by decide +kernel))) rfl, by decide +kernel, by decide +kernel⟩
theorem zq_l11_about : Cond.methodLink RL 204 mX11_about.1 ∈ zy_T := zy_mem (zy_t5 (List.mem_of_getElem? (i := 231) (by decide +kernel))) rfl
theorem zq_i11_about : Cond.instanceMethod mX11_about.1 ∈ zy_T := zy_mem (zy_t5 (List.mem_of_getElem? (i := 232) (by decide +kernel))) rfl
theorem zq_s11_about : Cond.selects mX11_about.1.cls mX11_about.1 mX11_about.1 ∈ zy_T := zy_mem (zy_t5 (List.mem_of_getElem? (i := 233) (by decide +kernel))) rfl
theorem zq_c12_about : zy_mc 1 mX12_about := ⟨zy_mem (zy_t8 (List.mem_of_getElem? (i := 177) (by decide +kernel))) rfl, zy_mem (zy_t1 (List.mem_of_getElem? (i := 14) (by decide +kernel))) rfl, by decide +kernel, by decide +kernel⟩
theorem zq_l12_about : Cond.methodLink RL 207 mX12_about.1 ∈ zy_T := zy_mem (zy_t8 (List.mem_of_getElem? (i := 174) (by decide +kernel))) rfl
theorem zq_i12_about : Cond.instanceMethod mX12_about.1 ∈ zy_T := zy_mem (zy_t8 (List.mem_of_getElem? (i := 175) (by decide +kernel))) rfl
theorem zq_s12_about : Cond.selects mX12_about.1.cls mX12_about.1 mX12_about.1 ∈ zy_T := zy_mem (zy_t8 (List.mem_of_getElem? (i := 176) (by decide +kernel))) rfl
