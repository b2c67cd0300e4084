theorem dL_law_0 : decode code 0 = .ok (.new 7, 3) := by decide +kernel
theorem dL_law_3 : decode code 3 = .ok (.dup, 1) := by decide +kernel
theorem dL_law_4 : decode code 4 = .ok (.invokespecial 9, 3) := by decide +kernel
theorem dL_law_7 : decode code 7 = .ok (.astore_n 1, 1) := by decide +kernel
theorem dL_law_8 : decode code 8 = .ok (.new 10, 3) := by decide +kernel
theorem dL_law_11 : decode code 11 = .ok (.dup, 1) := by decide +kernel
theorem dL_law_12 : decode code 12 = .ok (.invokespecial 12, 3) := by decide +kernel
theorem dL_law_15 : decode code 15 = .ok (.astore_n 2, 1) := by decide +kernel
theorem dL_law_16 : decode code 16 = .ok (.iconst 0, 1) := by decide +kernel
theorem dL_law_17 : decode code 17 = .ok (.istore_n 3, 1) := by decide +kernel
theorem dL_law_18 : decode code 18 = .ok (.iload_n 3, 1) := by decide +kernel
theorem dL_law_19 : decode code 19 = .ok (.aload_n 0, 1) := by decide +kernel
theorem dL_law_20 : decode code 20 = .ok (.arraylength, 1) := by decide +kernel
theorem dL_law_21 : decode code 21 = .ok (.bipush 6, 2) := by decide +kernel
theorem dL_law_23 : decode code 23 = .ok (.isub, 1) := by decide +kernel
theorem dL_law_24 : decode code 24 = .ok (.if_icmp .gt 1532, 3) := by decide +kernel
theorem dL_law_27 : decode code 27 = .ok (.aload_n 0, 1) := by decide +kernel
theorem dL_law_28 : decode code 28 = .ok (.iload_n 3, 1) := by decide +kernel
theorem dL_law_29 : decode code 29 = .ok (.iaload, 1) := by decide +kernel
theorem dL_law_30 : decode code 30 = .ok (.bipush 63, 2) := by decide +kernel
theorem dL_law_32 : decode code 32 = .ok (.iand, 1) := by decide +kernel
theorem dL_law_33 : decode code 33 = .ok (.tableswitch 1517 0 35 #[159, 182, 215, 258, 281, 304, 327, 380, 423, 466, 499, 532, 565, 618, 671, 714, 757, 820, 873, 906, 929, 972, 1015, 1068, 1111, 1174, 1217, 1270, 1293, 1316, 1359, 1382, 1415, 1438, 1471, 1494], 159) := by decide +kernel
theorem dL_law_192 : decode code 192 = .ok (.aload_n 1, 1) := by decide +kernel
theorem dL_law_193 : decode code 193 = .ok (.aload_n 0, 1) := by decide +kernel
theorem dL_law_194 : decode code 194 = .ok (.iload_n 3, 1) := by decide +kernel
theorem dL_law_195 : decode code 195 = .ok (.iconst 1, 1) := by decide +kernel
theorem dL_law_196 : decode code 196 = .ok (.iadd, 1) := by decide +kernel
theorem dL_law_197 : decode code 197 = .ok (.iaload, 1) := by decide +kernel
theorem dL_law_198 : decode code 198 = .ok (.invokevirtual 13, 3) := by decide +kernel
theorem dL_law_201 : decode code 201 = .ok (.aload_n 2, 1) := by decide +kernel
theorem dL_law_202 : decode code 202 = .ok (.aload_n 0, 1) := by decide +kernel
theorem dL_law_203 : decode code 203 = .ok (.iload_n 3, 1) := by decide +kernel
theorem dL_law_204 : decode code 204 = .ok (.iconst 1, 1) := by decide +kernel
theorem dL_law_205 : decode code 205 = .ok (.iadd, 1) := by decide +kernel
theorem dL_law_206 : decode code 206 = .ok (.iaload, 1) := by decide +kernel
theorem dL_law_207 : decode code 207 = .ok (.invokevirtual 17, 3) := by decide +kernel
theorem dL_law_210 : decode code 210 = .ok (.if_icmp .eq 1340, 3) := by decide +kernel
theorem dL_law_215 : decode code 215 = .ok (.aload_n 1, 1) := by decide +kernel
theorem dL_law_216 : decode code 216 = .ok (.aload_n 0, 1) := by decide +kernel
theorem dL_law_217 : decode code 217 = .ok (.iload_n 3, 1) := by decide +kernel
theorem dL_law_218 : decode code 218 = .ok (.iconst 1, 1) := by decide +kernel
theorem dL_law_219 : decode code 219 = .ok (.iadd, 1) := by decide +kernel
theorem dL_law_220 : decode code 220 = .ok (.iaload, 1) := by decide +kernel
theorem dL_law_221 : decode code 221 = .ok (.aload_n 0, 1) := by decide +kernel
theorem dL_law_222 : decode code 222 = .ok (.iload_n 3, 1) := by decide +kernel
theorem dL_law_223 : decode code 223 = .ok (.iconst 2, 1) := by decide +kernel
theorem dL_law_224 : decode code 224 = .ok (.iadd, 1) := by decide +kernel
theorem dL_law_225 : decode code 225 = .ok (.iaload, 1) := by decide +kernel
theorem dL_law_226 : decode code 226 = .ok (.invokevirtual 18, 3) := by decide +kernel
theorem dL_law_229 : decode code 229 = .ok (.aload_n 2, 1) := by decide +kernel
theorem dL_law_230 : decode code 230 = .ok (.aload_n 0, 1) := by decide +kernel
theorem dL_law_231 : decode code 231 = .ok (.iload_n 3, 1) := by decide +kernel
theorem dL_law_232 : decode code 232 = .ok (.iconst 1, 1) := by decide +kernel
theorem dL_law_233 : decode code 233 = .ok (.iadd, 1) := by decide +kernel
theorem dL_law_234 : decode code 234 = .ok (.iaload, 1) := by decide +kernel
theorem dL_law_235 : decode code 235 = .ok (.aload_n 0, 1) := by decide +kernel
theorem dL_law_236 : decode code 236 = .ok (.iload_n 3, 1) := by decide +kernel
theorem dL_law_237 : decode code 237 = .ok (.iconst 2, 1) := by decide +kernel
theorem dL_law_238 : decode code 238 = .ok (.iadd, 1) := by decide +kernel
theorem dL_law_239 : decode code 239 = .ok (.iaload, 1) := by decide +kernel
theorem dL_law_240 : decode code 240 = .ok (.invokevirtual 22, 3) := by decide +kernel
theorem dL_law_243 : decode code 243 = .ok (.if_icmp .eq 1307, 3) := by decide +kernel
theorem dL_law_248 : decode code 248 = .ok (.aload_n 1, 1) := by decide +kernel
theorem dL_law_249 : decode code 249 = .ok (.aload_n 0, 1) := by decide +kernel
theorem dL_law_250 : decode code 250 = .ok (.iload_n 3, 1) := by decide +kernel
theorem dL_law_251 : decode code 251 = .ok (.iconst 1, 1) := by decide +kernel
theorem dL_law_252 : decode code 252 = .ok (.iadd, 1) := by decide +kernel
theorem dL_law_253 : decode code 253 = .ok (.iaload, 1) := by decide +kernel
theorem dL_law_254 : decode code 254 = .ok (.aload_n 0, 1) := by decide +kernel
theorem dL_law_255 : decode code 255 = .ok (.iload_n 3, 1) := by decide +kernel
theorem dL_law_256 : decode code 256 = .ok (.iconst 2, 1) := by decide +kernel
theorem dL_law_257 : decode code 257 = .ok (.iadd, 1) := by decide +kernel
theorem dL_law_258 : decode code 258 = .ok (.iaload, 1) := by decide +kernel
theorem dL_law_259 : decode code 259 = .ok (.aload_n 0, 1) := by decide +kernel
theorem dL_law_260 : decode code 260 = .ok (.iload_n 3, 1) := by decide +kernel
theorem dL_law_261 : decode code 261 = .ok (.iconst 3, 1) := by decide +kernel
theorem dL_law_262 : decode code 262 = .ok (.iadd, 1) := by decide +kernel
theorem dL_law_263 : decode code 263 = .ok (.iaload, 1) := by decide +kernel
theorem dL_law_264 : decode code 264 = .ok (.invokevirtual 23, 3) := by decide +kernel
theorem dL_law_267 : decode code 267 = .ok (.aload_n 2, 1) := by decide +kernel
theorem dL_law_268 : decode code 268 = .ok (.aload_n 0, 1) := by decide +kernel
theorem dL_law_269 : decode code 269 = .ok (.iload_n 3, 1) := by decide +kernel
theorem dL_law_270 : decode code 270 = .ok (.iconst 1, 1) := by decide +kernel
theorem dL_law_271 : decode code 271 = .ok (.iadd, 1) := by decide +kernel
theorem dL_law_272 : decode code 272 = .ok (.iaload, 1) := by decide +kernel
theorem dL_law_273 : decode code 273 = .ok (.aload_n 0, 1) := by decide +kernel
theorem dL_law_274 : decode code 274 = .ok (.iload_n 3, 1) := by decide +kernel
theorem dL_law_275 : decode code 275 = .ok (.iconst 2, 1) := by decide +kernel
theorem dL_law_276 : decode code 276 = .ok (.iadd, 1) := by decide +kernel
theorem dL_law_277 : decode code 277 = .ok (.iaload, 1) := by decide +kernel
theorem dL_law_278 : decode code 278 = .ok (.aload_n 0, 1) := by decide +kernel
theorem dL_law_279 : decode code 279 = .ok (.iload_n 3, 1) := by decide +kernel
theorem dL_law_280 : decode code 280 = .ok (.iconst 3, 1) := by decide +kernel
theorem dL_law_281 : decode code 281 = .ok (.iadd, 1) := by decide +kernel
theorem dL_law_282 : decode code 282 = .ok (.iaload, 1) := by decide +kernel
theorem dL_law_283 : decode code 283 = .ok (.invokevirtual 27, 3) := by decide +kernel
theorem dL_law_286 : decode code 286 = .ok (.if_icmp .eq 1264, 3) := by decide +kernel
theorem dL_law_291 : decode code 291 = .ok (.aload_n 1, 1) := by decide +kernel
theorem dL_law_292 : decode code 292 = .ok (.aload_n 0, 1) := by decide +kernel
theorem dL_law_293 : decode code 293 = .ok (.iload_n 3, 1) := by decide +kernel
theorem dL_law_294 : decode code 294 = .ok (.iconst 1, 1) := by decide +kernel
theorem dL_law_295 : decode code 295 = .ok (.iadd, 1) := by decide +kernel
theorem dL_law_296 : decode code 296 = .ok (.iaload, 1) := by decide +kernel
theorem dL_law_297 : decode code 297 = .ok (.invokevirtual 28, 3) := by decide +kernel
theorem dL_law_300 : decode code 300 = .ok (.aload_n 2, 1) := by decide +kernel
theorem dL_law_301 : decode code 301 = .ok (.aload_n 0, 1) := by decide +kernel
theorem dL_law_302 : decode code 302 = .ok (.iload_n 3, 1) := by decide +kernel
theorem dL_law_303 : decode code 303 = .ok (.iconst 1, 1) := by decide +kernel
theorem dL_law_304 : decode code 304 = .ok (.iadd, 1) := by decide +kernel
theorem dL_law_305 : decode code 305 = .ok (.iaload, 1) := by decide +kernel
theorem dL_law_306 : decode code 306 = .ok (.invokevirtual 31, 3) := by decide +kernel
theorem dL_law_309 : decode code 309 = .ok (.if_icmp .eq 1241, 3) := by decide +kernel
theorem dL_law_314 : decode code 314 = .ok (.aload_n 1, 1) := by decide +kernel
theorem dL_law_315 : decode code 315 = .ok (.aload_n 0, 1) := by decide +kernel
theorem dL_law_316 : decode code 316 = .ok (.iload_n 3, 1) := by decide +kernel
theorem dL_law_317 : decode code 317 = .ok (.iconst 1, 1) := by decide +kernel
theorem dL_law_318 : decode code 318 = .ok (.iadd, 1) := by decide +kernel
theorem dL_law_319 : decode code 319 = .ok (.iaload, 1) := by decide +kernel
theorem dL_law_320 : decode code 320 = .ok (.invokevirtual 32, 3) := by decide +kernel
theorem dL_law_323 : decode code 323 = .ok (.aload_n 2, 1) := by decide +kernel
theorem dL_law_324 : decode code 324 = .ok (.aload_n 0, 1) := by decide +kernel
theorem dL_law_325 : decode code 325 = .ok (.iload_n 3, 1) := by decide +kernel
theorem dL_law_326 : decode code 326 = .ok (.iconst 1, 1) := by decide +kernel
theorem dL_law_327 : decode code 327 = .ok (.iadd, 1) := by decide +kernel
theorem dL_law_328 : decode code 328 = .ok (.iaload, 1) := by decide +kernel
theorem dL_law_329 : decode code 329 = .ok (.invokevirtual 35, 3) := by decide +kernel
theorem dL_law_332 : decode code 332 = .ok (.if_icmp .eq 1218, 3) := by decide +kernel
theorem dL_law_337 : decode code 337 = .ok (.aload_n 1, 1) := by decide +kernel
theorem dL_law_338 : decode code 338 = .ok (.aload_n 0, 1) := by decide +kernel
theorem dL_law_339 : decode code 339 = .ok (.iload_n 3, 1) := by decide +kernel
theorem dL_law_340 : decode code 340 = .ok (.iconst 1, 1) := by decide +kernel
theorem dL_law_341 : decode code 341 = .ok (.iadd, 1) := by decide +kernel
theorem dL_law_342 : decode code 342 = .ok (.iaload, 1) := by decide +kernel
theorem dL_law_343 : decode code 343 = .ok (.invokevirtual 36, 3) := by decide +kernel
theorem dL_law_346 : decode code 346 = .ok (.aload_n 2, 1) := by decide +kernel
theorem dL_law_347 : decode code 347 = .ok (.aload_n 0, 1) := by decide +kernel
theorem dL_law_348 : decode code 348 = .ok (.iload_n 3, 1) := by decide +kernel
theorem dL_law_349 : decode code 349 = .ok (.iconst 1, 1) := by decide +kernel
theorem dL_law_350 : decode code 350 = .ok (.iadd, 1) := by decide +kernel
theorem dL_law_351 : decode code 351 = .ok (.iaload, 1) := by decide +kernel
theorem dL_law_352 : decode code 352 = .ok (.invokevirtual 39, 3) := by decide +kernel
theorem dL_law_355 : decode code 355 = .ok (.if_icmp .eq 1195, 3) := by decide +kernel
theorem dL_law_360 : decode code 360 = .ok (.aload_n 1, 1) := by decide +kernel
theorem dL_law_361 : decode code 361 = .ok (.aload_n 0, 1) := by decide +kernel
theorem dL_law_362 : decode code 362 = .ok (.iload_n 3, 1) := by decide +kernel
theorem dL_law_363 : decode code 363 = .ok (.iconst 1, 1) := by decide +kernel
theorem dL_law_364 : decode code 364 = .ok (.iadd, 1) := by decide +kernel
theorem dL_law_365 : decode code 365 = .ok (.iaload, 1) := by decide +kernel
theorem dL_law_366 : decode code 366 = .ok (.aload_n 0, 1) := by decide +kernel
theorem dL_law_367 : decode code 367 = .ok (.iload_n 3, 1) := by decide +kernel
theorem dL_law_368 : decode code 368 = .ok (.iconst 2, 1) := by decide +kernel
theorem dL_law_369 : decode code 369 = .ok (.iadd, 1) := by decide +kernel
theorem dL_law_370 : decode code 370 = .ok (.iaload, 1) := by decide +kernel
theorem dL_law_371 : decode code 371 = .ok (.aload_n 0, 1) := by decide +kernel
theorem dL_law_372 : decode code 372 = .ok (.iload_n 3, 1) := by decide +kernel
theorem dL_law_373 : decode code 373 = .ok (.iconst 3, 1) := by decide +kernel
theorem dL_law_374 : decode code 374 = .ok (.iadd, 1) := by decide +kernel
theorem dL_law_375 : decode code 375 = .ok (.iaload, 1) := by decide +kernel
theorem dL_law_376 : decode code 376 = .ok (.aload_n 0, 1) := by decide +kernel
theorem dL_law_377 : decode code 377 = .ok (.iload_n 3, 1) := by decide +kernel
theorem dL_law_378 : decode code 378 = .ok (.iconst 4, 1) := by decide +kernel
theorem dL_law_379 : decode code 379 = .ok (.iadd, 1) := by decide +kernel
theorem dL_law_380 : decode code 380 = .ok (.iaload, 1) := by decide +kernel
theorem dL_law_381 : decode code 381 = .ok (.invokevirtual 40, 3) := by decide +kernel
theorem dL_law_384 : decode code 384 = .ok (.aload_n 2, 1) := by decide +kernel
theorem dL_law_385 : decode code 385 = .ok (.aload_n 0, 1) := by decide +kernel
theorem dL_law_386 : decode code 386 = .ok (.iload_n 3, 1) := by decide +kernel
theorem dL_law_387 : decode code 387 = .ok (.iconst 1, 1) := by decide +kernel
theorem dL_law_388 : decode code 388 = .ok (.iadd, 1) := by decide +kernel
theorem dL_law_389 : decode code 389 = .ok (.iaload, 1) := by decide +kernel
theorem dL_law_390 : decode code 390 = .ok (.aload_n 0, 1) := by decide +kernel
theorem dL_law_391 : decode code 391 = .ok (.iload_n 3, 1) := by decide +kernel
theorem dL_law_392 : decode code 392 = .ok (.iconst 2, 1) := by decide +kernel
theorem dL_law_393 : decode code 393 = .ok (.iadd, 1) := by decide +kernel
theorem dL_law_394 : decode code 394 = .ok (.iaload, 1) := by decide +kernel
theorem dL_law_395 : decode code 395 = .ok (.aload_n 0, 1) := by decide +kernel
theorem dL_law_396 : decode code 396 = .ok (.iload_n 3, 1) := by decide +kernel
theorem dL_law_397 : decode code 397 = .ok (.iconst 3, 1) := by decide +kernel
theorem dL_law_398 : decode code 398 = .ok (.iadd, 1) := by decide +kernel
theorem dL_law_399 : decode code 399 = .ok (.iaload, 1) := by decide +kernel
theorem dL_law_400 : decode code 400 = .ok (.aload_n 0, 1) := by decide +kernel
theorem dL_law_401 : decode code 401 = .ok (.iload_n 3, 1) := by decide +kernel
theorem dL_law_402 : decode code 402 = .ok (.iconst 4, 1) := by decide +kernel
theorem dL_law_403 : decode code 403 = .ok (.iadd, 1) := by decide +kernel
theorem dL_law_404 : decode code 404 = .ok (.iaload, 1) := by decide +kernel
theorem dL_law_405 : decode code 405 = .ok (.invokevirtual 44, 3) := by decide +kernel
theorem dL_law_408 : decode code 408 = .ok (.if_icmp .eq 1142, 3) := by decide +kernel
theorem dL_law_413 : decode code 413 = .ok (.aload_n 1, 1) := by decide +kernel
theorem dL_law_414 : decode code 414 = .ok (.aload_n 0, 1) := by decide +kernel
theorem dL_law_415 : decode code 415 = .ok (.iload_n 3, 1) := by decide +kernel
theorem dL_law_416 : decode code 416 = .ok (.iconst 1, 1) := by decide +kernel
theorem dL_law_417 : decode code 417 = .ok (.iadd, 1) := by decide +kernel
theorem dL_law_418 : decode code 418 = .ok (.iaload, 1) := by decide +kernel
theorem dL_law_419 : decode code 419 = .ok (.aload_n 0, 1) := by decide +kernel
theorem dL_law_420 : decode code 420 = .ok (.iload_n 3, 1) := by decide +kernel
theorem dL_law_421 : decode code 421 = .ok (.iconst 2, 1) := by decide +kernel
theorem dL_law_422 : decode code 422 = .ok (.iadd, 1) := by decide +kernel
theorem dL_law_423 : decode code 423 = .ok (.iaload, 1) := by decide +kernel
theorem dL_law_424 : decode code 424 = .ok (.aload_n 0, 1) := by decide +kernel
theorem dL_law_425 : decode code 425 = .ok (.iload_n 3, 1) := by decide +kernel
theorem dL_law_426 : decode code 426 = .ok (.iconst 3, 1) := by decide +kernel
theorem dL_law_427 : decode code 427 = .ok (.iadd, 1) := by decide +kernel
theorem dL_law_428 : decode code 428 = .ok (.iaload, 1) := by decide +kernel
theorem dL_law_429 : decode code 429 = .ok (.invokevirtual 45, 3) := by decide +kernel
theorem dL_law_432 : decode code 432 = .ok (.aload_n 2, 1) := by decide +kernel
theorem dL_law_433 : decode code 433 = .ok (.aload_n 0, 1) := by decide +kernel
theorem dL_law_434 : decode code 434 = .ok (.iload_n 3, 1) := by decide +kernel
theorem dL_law_435 : decode code 435 = .ok (.iconst 1, 1) := by decide +kernel
theorem dL_law_436 : decode code 436 = .ok (.iadd, 1) := by decide +kernel
theorem dL_law_437 : decode code 437 = .ok (.iaload, 1) := by decide +kernel
theorem dL_law_438 : decode code 438 = .ok (.aload_n 0, 1) := by decide +kernel
theorem dL_law_439 : decode code 439 = .ok (.iload_n 3, 1) := by decide +kernel
theorem dL_law_440 : decode code 440 = .ok (.iconst 2, 1) := by decide +kernel
theorem dL_law_441 : decode code 441 = .ok (.iadd, 1) := by decide +kernel
theorem dL_law_442 : decode code 442 = .ok (.iaload, 1) := by decide +kernel
theorem dL_law_443 : decode code 443 = .ok (.aload_n 0, 1) := by decide +kernel
theorem dL_law_444 : decode code 444 = .ok (.iload_n 3, 1) := by decide +kernel
theorem dL_law_445 : decode code 445 = .ok (.iconst 3, 1) := by decide +kernel
theorem dL_law_446 : decode code 446 = .ok (.iadd, 1) := by decide +kernel
theorem dL_law_447 : decode code 447 = .ok (.iaload, 1) := by decide +kernel
theorem dL_law_448 : decode code 448 = .ok (.invokevirtual 48, 3) := by decide +kernel
theorem dL_law_451 : decode code 451 = .ok (.if_icmp .eq 1099, 3) := by decide +kernel
theorem dL_law_456 : decode code 456 = .ok (.aload_n 1, 1) := by decide +kernel
theorem dL_law_457 : decode code 457 = .ok (.aload_n 0, 1) := by decide +kernel
theorem dL_law_458 : decode code 458 = .ok (.iload_n 3, 1) := by decide +kernel
theorem dL_law_459 : decode code 459 = .ok (.iconst 1, 1) := by decide +kernel
theorem dL_law_460 : decode code 460 = .ok (.iadd, 1) := by decide +kernel
theorem dL_law_461 : decode code 461 = .ok (.iaload, 1) := by decide +kernel
theorem dL_law_462 : decode code 462 = .ok (.aload_n 0, 1) := by decide +kernel
theorem dL_law_463 : decode code 463 = .ok (.iload_n 3, 1) := by decide +kernel
theorem dL_law_464 : decode code 464 = .ok (.iconst 2, 1) := by decide +kernel
theorem dL_law_465 : decode code 465 = .ok (.iadd, 1) := by decide +kernel
theorem dL_law_466 : decode code 466 = .ok (.iaload, 1) := by decide +kernel
theorem dL_law_467 : decode code 467 = .ok (.aload_n 0, 1) := by decide +kernel
theorem dL_law_468 : decode code 468 = .ok (.iload_n 3, 1) := by decide +kernel
theorem dL_law_469 : decode code 469 = .ok (.iconst 3, 1) := by decide +kernel
theorem dL_law_470 : decode code 470 = .ok (.iadd, 1) := by decide +kernel
theorem dL_law_471 : decode code 471 = .ok (.iaload, 1) := by decide +kernel
theorem dL_law_472 : decode code 472 = .ok (.invokevirtual 49, 3) := by decide +kernel
theorem dL_law_475 : decode code 475 = .ok (.aload_n 2, 1) := by decide +kernel
theorem dL_law_476 : decode code 476 = .ok (.aload_n 0, 1) := by decide +kernel
theorem dL_law_477 : decode code 477 = .ok (.iload_n 3, 1) := by decide +kernel
theorem dL_law_478 : decode code 478 = .ok (.iconst 1, 1) := by decide +kernel
theorem dL_law_479 : decode code 479 = .ok (.iadd, 1) := by decide +kernel
theorem dL_law_480 : decode code 480 = .ok (.iaload, 1) := by decide +kernel
theorem dL_law_481 : decode code 481 = .ok (.aload_n 0, 1) := by decide +kernel
theorem dL_law_482 : decode code 482 = .ok (.iload_n 3, 1) := by decide +kernel
theorem dL_law_483 : decode code 483 = .ok (.iconst 2, 1) := by decide +kernel
theorem dL_law_484 : decode code 484 = .ok (.iadd, 1) := by decide +kernel
theorem dL_law_485 : decode code 485 = .ok (.iaload, 1) := by decide +kernel
theorem dL_law_486 : decode code 486 = .ok (.aload_n 0, 1) := by decide +kernel
theorem dL_law_487 : decode code 487 = .ok (.iload_n 3, 1) := by decide +kernel
theorem dL_law_488 : decode code 488 = .ok (.iconst 3, 1) := by decide +kernel
theorem dL_law_489 : decode code 489 = .ok (.iadd, 1) := by decide +kernel
theorem dL_law_490 : decode code 490 = .ok (.iaload, 1) := by decide +kernel
theorem dL_law_491 : decode code 491 = .ok (.invokevirtual 52, 3) := by decide +kernel
theorem dL_law_494 : decode code 494 = .ok (.if_icmp .eq 1056, 3) := by decide +kernel
theorem dL_law_499 : decode code 499 = .ok (.aload_n 1, 1) := by decide +kernel
theorem dL_law_500 : decode code 500 = .ok (.aload_n 0, 1) := by decide +kernel
theorem dL_law_501 : decode code 501 = .ok (.iload_n 3, 1) := by decide +kernel
theorem dL_law_502 : decode code 502 = .ok (.iconst 1, 1) := by decide +kernel
theorem dL_law_503 : decode code 503 = .ok (.iadd, 1) := by decide +kernel
theorem dL_law_504 : decode code 504 = .ok (.iaload, 1) := by decide +kernel
theorem dL_law_505 : decode code 505 = .ok (.aload_n 0, 1) := by decide +kernel
theorem dL_law_506 : decode code 506 = .ok (.iload_n 3, 1) := by decide +kernel
theorem dL_law_507 : decode code 507 = .ok (.iconst 2, 1) := by decide +kernel
theorem dL_law_508 : decode code 508 = .ok (.iadd, 1) := by decide +kernel
theorem dL_law_509 : decode code 509 = .ok (.iaload, 1) := by decide +kernel
theorem dL_law_510 : decode code 510 = .ok (.invokevirtual 53, 3) := by decide +kernel
theorem dL_law_513 : decode code 513 = .ok (.aload_n 2, 1) := by decide +kernel
theorem dL_law_514 : decode code 514 = .ok (.aload_n 0, 1) := by decide +kernel
theorem dL_law_515 : decode code 515 = .ok (.iload_n 3, 1) := by decide +kernel
theorem dL_law_516 : decode code 516 = .ok (.iconst 1, 1) := by decide +kernel
theorem dL_law_517 : decode code 517 = .ok (.iadd, 1) := by decide +kernel
theorem dL_law_518 : decode code 518 = .ok (.iaload, 1) := by decide +kernel
theorem dL_law_519 : decode code 519 = .ok (.aload_n 0, 1) := by decide +kernel
theorem dL_law_520 : decode code 520 = .ok (.iload_n 3, 1) := by decide +kernel
theorem dL_law_521 : decode code 521 = .ok (.iconst 2, 1) := by decide +kernel
theorem dL_law_522 : decode code 522 = .ok (.iadd, 1) := by decide +kernel
theorem dL_law_523 : decode code 523 = .ok (.iaload, 1) := by decide +kernel
theorem dL_law_524 : decode code 524 = .ok (.invokevirtual 56, 3) := by decide +kernel
theorem dL_law_527 : decode code 527 = .ok (.if_icmp .eq 1023, 3) := by decide +kernel
theorem dL_law_532 : decode code 532 = .ok (.aload_n 1, 1) := by decide +kernel
theorem dL_law_533 : decode code 533 = .ok (.aload_n 0, 1) := by decide +kernel
theorem dL_law_534 : decode code 534 = .ok (.iload_n 3, 1) := by decide +kernel
theorem dL_law_535 : decode code 535 = .ok (.iconst 1, 1) := by decide +kernel
theorem dL_law_536 : decode code 536 = .ok (.iadd, 1) := by decide +kernel
theorem dL_law_537 : decode code 537 = .ok (.iaload, 1) := by decide +kernel
theorem dL_law_538 : decode code 538 = .ok (.aload_n 0, 1) := by decide +kernel
theorem dL_law_539 : decode code 539 = .ok (.iload_n 3, 1) := by decide +kernel
theorem dL_law_540 : decode code 540 = .ok (.iconst 2, 1) := by decide +kernel
theorem dL_law_541 : decode code 541 = .ok (.iadd, 1) := by decide +kernel
theorem dL_law_542 : decode code 542 = .ok (.iaload, 1) := by decide +kernel
theorem dL_law_543 : decode code 543 = .ok (.invokevirtual 57, 3) := by decide +kernel
theorem dL_law_546 : decode code 546 = .ok (.aload_n 2, 1) := by decide +kernel
theorem dL_law_547 : decode code 547 = .ok (.aload_n 0, 1) := by decide +kernel
theorem dL_law_548 : decode code 548 = .ok (.iload_n 3, 1) := by decide +kernel
theorem dL_law_549 : decode code 549 = .ok (.iconst 1, 1) := by decide +kernel
theorem dL_law_550 : decode code 550 = .ok (.iadd, 1) := by decide +kernel
theorem dL_law_551 : decode code 551 = .ok (.iaload, 1) := by decide +kernel
theorem dL_law_552 : decode code 552 = .ok (.aload_n 0, 1) := by decide +kernel
theorem dL_law_553 : decode code 553 = .ok (.iload_n 3, 1) := by decide +kernel
theorem dL_law_554 : decode code 554 = .ok (.iconst 2, 1) := by decide +kernel
theorem dL_law_555 : decode code 555 = .ok (.iadd, 1) := by decide +kernel
theorem dL_law_556 : decode code 556 = .ok (.iaload, 1) := by decide +kernel
theorem dL_law_557 : decode code 557 = .ok (.invokevirtual 60, 3) := by decide +kernel
theorem dL_law_560 : decode code 560 = .ok (.if_icmp .eq 990, 3) := by decide +kernel
theorem dL_law_565 : decode code 565 = .ok (.aload_n 1, 1) := by decide +kernel
theorem dL_law_566 : decode code 566 = .ok (.aload_n 0, 1) := by decide +kernel
theorem dL_law_567 : decode code 567 = .ok (.iload_n 3, 1) := by decide +kernel
theorem dL_law_568 : decode code 568 = .ok (.iconst 1, 1) := by decide +kernel
theorem dL_law_569 : decode code 569 = .ok (.iadd, 1) := by decide +kernel
theorem dL_law_570 : decode code 570 = .ok (.iaload, 1) := by decide +kernel
theorem dL_law_571 : decode code 571 = .ok (.aload_n 0, 1) := by decide +kernel
theorem dL_law_572 : decode code 572 = .ok (.iload_n 3, 1) := by decide +kernel
theorem dL_law_573 : decode code 573 = .ok (.iconst 2, 1) := by decide +kernel
theorem dL_law_574 : decode code 574 = .ok (.iadd, 1) := by decide +kernel
theorem dL_law_575 : decode code 575 = .ok (.iaload, 1) := by decide +kernel
theorem dL_law_576 : decode code 576 = .ok (.invokevirtual 61, 3) := by decide +kernel
theorem dL_law_579 : decode code 579 = .ok (.aload_n 2, 1) := by decide +kernel
theorem dL_law_580 : decode code 580 = .ok (.aload_n 0, 1) := by decide +kernel
theorem dL_law_581 : decode code 581 = .ok (.iload_n 3, 1) := by decide +kernel
theorem dL_law_582 : decode code 582 = .ok (.iconst 1, 1) := by decide +kernel
theorem dL_law_583 : decode code 583 = .ok (.iadd, 1) := by decide +kernel
theorem dL_law_584 : decode code 584 = .ok (.iaload, 1) := by decide +kernel
theorem dL_law_585 : decode code 585 = .ok (.aload_n 0, 1) := by decide +kernel
theorem dL_law_586 : decode code 586 = .ok (.iload_n 3, 1) := by decide +kernel
theorem dL_law_587 : decode code 587 = .ok (.iconst 2, 1) := by decide +kernel
theorem dL_law_588 : decode code 588 = .ok (.iadd, 1) := by decide +kernel
theorem dL_law_589 : decode code 589 = .ok (.iaload, 1) := by decide +kernel
theorem dL_law_590 : decode code 590 = .ok (.invokevirtual 64, 3) := by decide +kernel
theorem dL_law_593 : decode code 593 = .ok (.if_icmp .eq 957, 3) := by decide +kernel
theorem dL_law_598 : decode code 598 = .ok (.aload_n 1, 1) := by decide +kernel
theorem dL_law_599 : decode code 599 = .ok (.aload_n 0, 1) := by decide +kernel
theorem dL_law_600 : decode code 600 = .ok (.iload_n 3, 1) := by decide +kernel
theorem dL_law_601 : decode code 601 = .ok (.iconst 1, 1) := by decide +kernel
theorem dL_law_602 : decode code 602 = .ok (.iadd, 1) := by decide +kernel
theorem dL_law_603 : decode code 603 = .ok (.iaload, 1) := by decide +kernel
theorem dL_law_604 : decode code 604 = .ok (.aload_n 0, 1) := by decide +kernel
theorem dL_law_605 : decode code 605 = .ok (.iload_n 3, 1) := by decide +kernel
theorem dL_law_606 : decode code 606 = .ok (.iconst 2, 1) := by decide +kernel
theorem dL_law_607 : decode code 607 = .ok (.iadd, 1) := by decide +kernel
theorem dL_law_608 : decode code 608 = .ok (.iaload, 1) := by decide +kernel
theorem dL_law_609 : decode code 609 = .ok (.aload_n 0, 1) := by decide +kernel
theorem dL_law_610 : decode code 610 = .ok (.iload_n 3, 1) := by decide +kernel
theorem dL_law_611 : decode code 611 = .ok (.iconst 3, 1) := by decide +kernel
theorem dL_law_612 : decode code 612 = .ok (.iadd, 1) := by decide +kernel
theorem dL_law_613 : decode code 613 = .ok (.iaload, 1) := by decide +kernel
theorem dL_law_614 : decode code 614 = .ok (.aload_n 0, 1) := by decide +kernel
theorem dL_law_615 : decode code 615 = .ok (.iload_n 3, 1) := by decide +kernel
theorem dL_law_616 : decode code 616 = .ok (.iconst 4, 1) := by decide +kernel
theorem dL_law_617 : decode code 617 = .ok (.iadd, 1) := by decide +kernel
theorem dL_law_618 : decode code 618 = .ok (.iaload, 1) := by decide +kernel
theorem dL_law_619 : decode code 619 = .ok (.invokevirtual 65, 3) := by decide +kernel
theorem dL_law_622 : decode code 622 = .ok (.aload_n 2, 1) := by decide +kernel
theorem dL_law_623 : decode code 623 = .ok (.aload_n 0, 1) := by decide +kernel
theorem dL_law_624 : decode code 624 = .ok (.iload_n 3, 1) := by decide +kernel
theorem dL_law_625 : decode code 625 = .ok (.iconst 1, 1) := by decide +kernel
theorem dL_law_626 : decode code 626 = .ok (.iadd, 1) := by decide +kernel
theorem dL_law_627 : decode code 627 = .ok (.iaload, 1) := by decide +kernel
theorem dL_law_628 : decode code 628 = .ok (.aload_n 0, 1) := by decide +kernel
theorem dL_law_629 : decode code 629 = .ok (.iload_n 3, 1) := by decide +kernel
theorem dL_law_630 : decode code 630 = .ok (.iconst 2, 1) := by decide +kernel
theorem dL_law_631 : decode code 631 = .ok (.iadd, 1) := by decide +kernel
theorem dL_law_632 : decode code 632 = .ok (.iaload, 1) := by decide +kernel
theorem dL_law_633 : decode code 633 = .ok (.aload_n 0, 1) := by decide +kernel
theorem dL_law_634 : decode code 634 = .ok (.iload_n 3, 1) := by decide +kernel
theorem dL_law_635 : decode code 635 = .ok (.iconst 3, 1) := by decide +kernel
theorem dL_law_636 : decode code 636 = .ok (.iadd, 1) := by decide +kernel
theorem dL_law_637 : decode code 637 = .ok (.iaload, 1) := by decide +kernel
theorem dL_law_638 : decode code 638 = .ok (.aload_n 0, 1) := by decide +kernel
theorem dL_law_639 : decode code 639 = .ok (.iload_n 3, 1) := by decide +kernel
theorem dL_law_640 : decode code 640 = .ok (.iconst 4, 1) := by decide +kernel
theorem dL_law_641 : decode code 641 = .ok (.iadd, 1) := by decide +kernel
theorem dL_law_642 : decode code 642 = .ok (.iaload, 1) := by decide +kernel
theorem dL_law_643 : decode code 643 = .ok (.invokevirtual 68, 3) := by decide +kernel
theorem dL_law_646 : decode code 646 = .ok (.if_icmp .eq 904, 3) := by decide +kernel
theorem dL_law_651 : decode code 651 = .ok (.aload_n 1, 1) := by decide +kernel
theorem dL_law_652 : decode code 652 = .ok (.aload_n 0, 1) := by decide +kernel
theorem dL_law_653 : decode code 653 = .ok (.iload_n 3, 1) := by decide +kernel
theorem dL_law_654 : decode code 654 = .ok (.iconst 1, 1) := by decide +kernel
theorem dL_law_655 : decode code 655 = .ok (.iadd, 1) := by decide +kernel
theorem dL_law_656 : decode code 656 = .ok (.iaload, 1) := by decide +kernel
theorem dL_law_657 : decode code 657 = .ok (.aload_n 0, 1) := by decide +kernel
theorem dL_law_658 : decode code 658 = .ok (.iload_n 3, 1) := by decide +kernel
theorem dL_law_659 : decode code 659 = .ok (.iconst 2, 1) := by decide +kernel
theorem dL_law_660 : decode code 660 = .ok (.iadd, 1) := by decide +kernel
theorem dL_law_661 : decode code 661 = .ok (.iaload, 1) := by decide +kernel
theorem dL_law_662 : decode code 662 = .ok (.aload_n 0, 1) := by decide +kernel
theorem dL_law_663 : decode code 663 = .ok (.iload_n 3, 1) := by decide +kernel
theorem dL_law_664 : decode code 664 = .ok (.iconst 3, 1) := by decide +kernel
theorem dL_law_665 : decode code 665 = .ok (.iadd, 1) := by decide +kernel
theorem dL_law_666 : decode code 666 = .ok (.iaload, 1) := by decide +kernel
theorem dL_law_667 : decode code 667 = .ok (.aload_n 0, 1) := by decide +kernel
theorem dL_law_668 : decode code 668 = .ok (.iload_n 3, 1) := by decide +kernel
theorem dL_law_669 : decode code 669 = .ok (.iconst 4, 1) := by decide +kernel
theorem dL_law_670 : decode code 670 = .ok (.iadd, 1) := by decide +kernel
theorem dL_law_671 : decode code 671 = .ok (.iaload, 1) := by decide +kernel
theorem dL_law_672 : decode code 672 = .ok (.invokevirtual 69, 3) := by decide +kernel
theorem dL_law_675 : decode code 675 = .ok (.aload_n 2, 1) := by decide +kernel
theorem dL_law_676 : decode code 676 = .ok (.aload_n 0, 1) := by decide +kernel
theorem dL_law_677 : decode code 677 = .ok (.iload_n 3, 1) := by decide +kernel
theorem dL_law_678 : decode code 678 = .ok (.iconst 1, 1) := by decide +kernel
theorem dL_law_679 : decode code 679 = .ok (.iadd, 1) := by decide +kernel
theorem dL_law_680 : decode code 680 = .ok (.iaload, 1) := by decide +kernel
theorem dL_law_681 : decode code 681 = .ok (.aload_n 0, 1) := by decide +kernel
theorem dL_law_682 : decode code 682 = .ok (.iload_n 3, 1) := by decide +kernel
theorem dL_law_683 : decode code 683 = .ok (.iconst 2, 1) := by decide +kernel
theorem dL_law_684 : decode code 684 = .ok (.iadd, 1) := by decide +kernel
theorem dL_law_685 : decode code 685 = .ok (.iaload, 1) := by decide +kernel
theorem dL_law_686 : decode code 686 = .ok (.aload_n 0, 1) := by decide +kernel
theorem dL_law_687 : decode code 687 = .ok (.iload_n 3, 1) := by decide +kernel
theorem dL_law_688 : decode code 688 = .ok (.iconst 3, 1) := by decide +kernel
theorem dL_law_689 : decode code 689 = .ok (.iadd, 1) := by decide +kernel
theorem dL_law_690 : decode code 690 = .ok (.iaload, 1) := by decide +kernel
theorem dL_law_691 : decode code 691 = .ok (.aload_n 0, 1) := by decide +kernel
theorem dL_law_692 : decode code 692 = .ok (.iload_n 3, 1) := by decide +kernel
theorem dL_law_693 : decode code 693 = .ok (.iconst 4, 1) := by decide +kernel
theorem dL_law_694 : decode code 694 = .ok (.iadd, 1) := by decide +kernel
theorem dL_law_695 : decode code 695 = .ok (.iaload, 1) := by decide +kernel
theorem dL_law_696 : decode code 696 = .ok (.invokevirtual 72, 3) := by decide +kernel
theorem dL_law_699 : decode code 699 = .ok (.if_icmp .eq 851, 3) := by decide +kernel
theorem dL_law_704 : decode code 704 = .ok (.aload_n 1, 1) := by decide +kernel
theorem dL_law_705 : decode code 705 = .ok (.aload_n 0, 1) := by decide +kernel
theorem dL_law_706 : decode code 706 = .ok (.iload_n 3, 1) := by decide +kernel
theorem dL_law_707 : decode code 707 = .ok (.iconst 1, 1) := by decide +kernel
theorem dL_law_708 : decode code 708 = .ok (.iadd, 1) := by decide +kernel
theorem dL_law_709 : decode code 709 = .ok (.iaload, 1) := by decide +kernel
theorem dL_law_710 : decode code 710 = .ok (.aload_n 0, 1) := by decide +kernel
theorem dL_law_711 : decode code 711 = .ok (.iload_n 3, 1) := by decide +kernel
theorem dL_law_712 : decode code 712 = .ok (.iconst 2, 1) := by decide +kernel
theorem dL_law_713 : decode code 713 = .ok (.iadd, 1) := by decide +kernel
theorem dL_law_714 : decode code 714 = .ok (.iaload, 1) := by decide +kernel
theorem dL_law_715 : decode code 715 = .ok (.aload_n 0, 1) := by decide +kernel
theorem dL_law_716 : decode code 716 = .ok (.iload_n 3, 1) := by decide +kernel
theorem dL_law_717 : decode code 717 = .ok (.iconst 3, 1) := by decide +kernel
theorem dL_law_718 : decode code 718 = .ok (.iadd, 1) := by decide +kernel
theorem dL_law_719 : decode code 719 = .ok (.iaload, 1) := by decide +kernel
theorem dL_law_720 : decode code 720 = .ok (.invokevirtual 73, 3) := by decide +kernel
theorem dL_law_723 : decode code 723 = .ok (.aload_n 2, 1) := by decide +kernel
theorem dL_law_724 : decode code 724 = .ok (.aload_n 0, 1) := by decide +kernel
theorem dL_law_725 : decode code 725 = .ok (.iload_n 3, 1) := by decide +kernel
theorem dL_law_726 : decode code 726 = .ok (.iconst 1, 1) := by decide +kernel
theorem dL_law_727 : decode code 727 = .ok (.iadd, 1) := by decide +kernel
theorem dL_law_728 : decode code 728 = .ok (.iaload, 1) := by decide +kernel
theorem dL_law_729 : decode code 729 = .ok (.aload_n 0, 1) := by decide +kernel
theorem dL_law_730 : decode code 730 = .ok (.iload_n 3, 1) := by decide +kernel
theorem dL_law_731 : decode code 731 = .ok (.iconst 2, 1) := by decide +kernel
theorem dL_law_732 : decode code 732 = .ok (.iadd, 1) := by decide +kernel
theorem dL_law_733 : decode code 733 = .ok (.iaload, 1) := by decide +kernel
theorem dL_law_734 : decode code 734 = .ok (.aload_n 0, 1) := by decide +kernel
theorem dL_law_735 : decode code 735 = .ok (.iload_n 3, 1) := by decide +kernel
theorem dL_law_736 : decode code 736 = .ok (.iconst 3, 1) := by decide +kernel
theorem dL_law_737 : decode code 737 = .ok (.iadd, 1) := by decide +kernel
theorem dL_law_738 : decode code 738 = .ok (.iaload, 1) := by decide +kernel
theorem dL_law_739 : decode code 739 = .ok (.invokevirtual 76, 3) := by decide +kernel
theorem dL_law_742 : decode code 742 = .ok (.if_icmp .eq 808, 3) := by decide +kernel
theorem dL_law_747 : decode code 747 = .ok (.aload_n 1, 1) := by decide +kernel
theorem dL_law_748 : decode code 748 = .ok (.aload_n 0, 1) := by decide +kernel
theorem dL_law_749 : decode code 749 = .ok (.iload_n 3, 1) := by decide +kernel
theorem dL_law_750 : decode code 750 = .ok (.iconst 1, 1) := by decide +kernel
theorem dL_law_751 : decode code 751 = .ok (.iadd, 1) := by decide +kernel
theorem dL_law_752 : decode code 752 = .ok (.iaload, 1) := by decide +kernel
theorem dL_law_753 : decode code 753 = .ok (.aload_n 0, 1) := by decide +kernel
theorem dL_law_754 : decode code 754 = .ok (.iload_n 3, 1) := by decide +kernel
theorem dL_law_755 : decode code 755 = .ok (.iconst 2, 1) := by decide +kernel
theorem dL_law_756 : decode code 756 = .ok (.iadd, 1) := by decide +kernel
theorem dL_law_757 : decode code 757 = .ok (.iaload, 1) := by decide +kernel
theorem dL_law_758 : decode code 758 = .ok (.aload_n 0, 1) := by decide +kernel
theorem dL_law_759 : decode code 759 = .ok (.iload_n 3, 1) := by decide +kernel
theorem dL_law_760 : decode code 760 = .ok (.iconst 3, 1) := by decide +kernel
theorem dL_law_761 : decode code 761 = .ok (.iadd, 1) := by decide +kernel
theorem dL_law_762 : decode code 762 = .ok (.iaload, 1) := by decide +kernel
theorem dL_law_763 : decode code 763 = .ok (.invokevirtual 77, 3) := by decide +kernel
theorem dL_law_766 : decode code 766 = .ok (.aload_n 2, 1) := by decide +kernel
theorem dL_law_767 : decode code 767 = .ok (.aload_n 0, 1) := by decide +kernel
theorem dL_law_768 : decode code 768 = .ok (.iload_n 3, 1) := by decide +kernel
theorem dL_law_769 : decode code 769 = .ok (.iconst 1, 1) := by decide +kernel
theorem dL_law_770 : decode code 770 = .ok (.iadd, 1) := by decide +kernel
theorem dL_law_771 : decode code 771 = .ok (.iaload, 1) := by decide +kernel
theorem dL_law_772 : decode code 772 = .ok (.aload_n 0, 1) := by decide +kernel
theorem dL_law_773 : decode code 773 = .ok (.iload_n 3, 1) := by decide +kernel
theorem dL_law_774 : decode code 774 = .ok (.iconst 2, 1) := by decide +kernel
theorem dL_law_775 : decode code 775 = .ok (.iadd, 1) := by decide +kernel
theorem dL_law_776 : decode code 776 = .ok (.iaload, 1) := by decide +kernel
theorem dL_law_777 : decode code 777 = .ok (.aload_n 0, 1) := by decide +kernel
theorem dL_law_778 : decode code 778 = .ok (.iload_n 3, 1) := by decide +kernel
theorem dL_law_779 : decode code 779 = .ok (.iconst 3, 1) := by decide +kernel
theorem dL_law_780 : decode code 780 = .ok (.iadd, 1) := by decide +kernel
theorem dL_law_781 : decode code 781 = .ok (.iaload, 1) := by decide +kernel
theorem dL_law_782 : decode code 782 = .ok (.invokevirtual 80, 3) := by decide +kernel
theorem dL_law_785 : decode code 785 = .ok (.if_icmp .eq 765, 3) := by decide +kernel
theorem dL_law_790 : decode code 790 = .ok (.aload_n 1, 1) := by decide +kernel
theorem dL_law_791 : decode code 791 = .ok (.aload_n 0, 1) := by decide +kernel
theorem dL_law_792 : decode code 792 = .ok (.iload_n 3, 1) := by decide +kernel
theorem dL_law_793 : decode code 793 = .ok (.iconst 1, 1) := by decide +kernel
theorem dL_law_794 : decode code 794 = .ok (.iadd, 1) := by decide +kernel
theorem dL_law_795 : decode code 795 = .ok (.iaload, 1) := by decide +kernel
theorem dL_law_796 : decode code 796 = .ok (.aload_n 0, 1) := by decide +kernel
theorem dL_law_797 : decode code 797 = .ok (.iload_n 3, 1) := by decide +kernel
theorem dL_law_798 : decode code 798 = .ok (.iconst 2, 1) := by decide +kernel
theorem dL_law_799 : decode code 799 = .ok (.iadd, 1) := by decide +kernel
theorem dL_law_800 : decode code 800 = .ok (.iaload, 1) := by decide +kernel
theorem dL_law_801 : decode code 801 = .ok (.aload_n 0, 1) := by decide +kernel
theorem dL_law_802 : decode code 802 = .ok (.iload_n 3, 1) := by decide +kernel
theorem dL_law_803 : decode code 803 = .ok (.iconst 3, 1) := by decide +kernel
theorem dL_law_804 : decode code 804 = .ok (.iadd, 1) := by decide +kernel
theorem dL_law_805 : decode code 805 = .ok (.iaload, 1) := by decide +kernel
theorem dL_law_806 : decode code 806 = .ok (.aload_n 0, 1) := by decide +kernel
theorem dL_law_807 : decode code 807 = .ok (.iload_n 3, 1) := by decide +kernel
theorem dL_law_808 : decode code 808 = .ok (.iconst 4, 1) := by decide +kernel
theorem dL_law_809 : decode code 809 = .ok (.iadd, 1) := by decide +kernel
theorem dL_law_810 : decode code 810 = .ok (.iaload, 1) := by decide +kernel
theorem dL_law_811 : decode code 811 = .ok (.aload_n 0, 1) := by decide +kernel
theorem dL_law_812 : decode code 812 = .ok (.iload_n 3, 1) := by decide +kernel
theorem dL_law_813 : decode code 813 = .ok (.iconst 5, 1) := by decide +kernel
theorem dL_law_814 : decode code 814 = .ok (.iadd, 1) := by decide +kernel
theorem dL_law_815 : decode code 815 = .ok (.iaload, 1) := by decide +kernel
theorem dL_law_816 : decode code 816 = .ok (.invokevirtual 81, 3) := by decide +kernel
theorem dL_law_819 : decode code 819 = .ok (.aload_n 2, 1) := by decide +kernel
theorem dL_law_820 : decode code 820 = .ok (.aload_n 0, 1) := by decide +kernel
theorem dL_law_821 : decode code 821 = .ok (.iload_n 3, 1) := by decide +kernel
theorem dL_law_822 : decode code 822 = .ok (.iconst 1, 1) := by decide +kernel
theorem dL_law_823 : decode code 823 = .ok (.iadd, 1) := by decide +kernel
theorem dL_law_824 : decode code 824 = .ok (.iaload, 1) := by decide +kernel
theorem dL_law_825 : decode code 825 = .ok (.aload_n 0, 1) := by decide +kernel
theorem dL_law_826 : decode code 826 = .ok (.iload_n 3, 1) := by decide +kernel
theorem dL_law_827 : decode code 827 = .ok (.iconst 2, 1) := by decide +kernel
theorem dL_law_828 : decode code 828 = .ok (.iadd, 1) := by decide +kernel
theorem dL_law_829 : decode code 829 = .ok (.iaload, 1) := by decide +kernel
theorem dL_law_830 : decode code 830 = .ok (.aload_n 0, 1) := by decide +kernel
theorem dL_law_831 : decode code 831 = .ok (.iload_n 3, 1) := by decide +kernel
theorem dL_law_832 : decode code 832 = .ok (.iconst 3, 1) := by decide +kernel
theorem dL_law_833 : decode code 833 = .ok (.iadd, 1) := by decide +kernel
theorem dL_law_834 : decode code 834 = .ok (.iaload, 1) := by decide +kernel
theorem dL_law_835 : decode code 835 = .ok (.aload_n 0, 1) := by decide +kernel
theorem dL_law_836 : decode code 836 = .ok (.iload_n 3, 1) := by decide +kernel
theorem dL_law_837 : decode code 837 = .ok (.iconst 4, 1) := by decide +kernel
theorem dL_law_838 : decode code 838 = .ok (.iadd, 1) := by decide +kernel
theorem dL_law_839 : decode code 839 = .ok (.iaload, 1) := by decide +kernel
theorem dL_law_840 : decode code 840 = .ok (.aload_n 0, 1) := by decide +kernel
theorem dL_law_841 : decode code 841 = .ok (.iload_n 3, 1) := by decide +kernel
theorem dL_law_842 : decode code 842 = .ok (.iconst 5, 1) := by decide +kernel
theorem dL_law_843 : decode code 843 = .ok (.iadd, 1) := by decide +kernel
theorem dL_law_844 : decode code 844 = .ok (.iaload, 1) := by decide +kernel
theorem dL_law_845 : decode code 845 = .ok (.invokevirtual 85, 3) := by decide +kernel
theorem dL_law_848 : decode code 848 = .ok (.if_icmp .eq 702, 3) := by decide +kernel
theorem dL_law_853 : decode code 853 = .ok (.aload_n 1, 1) := by decide +kernel
theorem dL_law_854 : decode code 854 = .ok (.aload_n 0, 1) := by decide +kernel
theorem dL_law_855 : decode code 855 = .ok (.iload_n 3, 1) := by decide +kernel
theorem dL_law_856 : decode code 856 = .ok (.iconst 1, 1) := by decide +kernel
theorem dL_law_857 : decode code 857 = .ok (.iadd, 1) := by decide +kernel
theorem dL_law_858 : decode code 858 = .ok (.iaload, 1) := by decide +kernel
theorem dL_law_859 : decode code 859 = .ok (.aload_n 0, 1) := by decide +kernel
theorem dL_law_860 : decode code 860 = .ok (.iload_n 3, 1) := by decide +kernel
theorem dL_law_861 : decode code 861 = .ok (.iconst 2, 1) := by decide +kernel
theorem dL_law_862 : decode code 862 = .ok (.iadd, 1) := by decide +kernel
theorem dL_law_863 : decode code 863 = .ok (.iaload, 1) := by decide +kernel
theorem dL_law_864 : decode code 864 = .ok (.aload_n 0, 1) := by decide +kernel
theorem dL_law_865 : decode code 865 = .ok (.iload_n 3, 1) := by decide +kernel
theorem dL_law_866 : decode code 866 = .ok (.iconst 3, 1) := by decide +kernel
theorem dL_law_867 : decode code 867 = .ok (.iadd, 1) := by decide +kernel
theorem dL_law_868 : decode code 868 = .ok (.iaload, 1) := by decide +kernel
theorem dL_law_869 : decode code 869 = .ok (.aload_n 0, 1) := by decide +kernel
theorem dL_law_870 : decode code 870 = .ok (.iload_n 3, 1) := by decide +kernel
theorem dL_law_871 : decode code 871 = .ok (.iconst 4, 1) := by decide +kernel
theorem dL_law_872 : decode code 872 = .ok (.iadd, 1) := by decide +kernel
theorem dL_law_873 : decode code 873 = .ok (.iaload, 1) := by decide +kernel
theorem dL_law_874 : decode code 874 = .ok (.invokevirtual 86, 3) := by decide +kernel
theorem dL_law_877 : decode code 877 = .ok (.aload_n 2, 1) := by decide +kernel
theorem dL_law_878 : decode code 878 = .ok (.aload_n 0, 1) := by decide +kernel
theorem dL_law_879 : decode code 879 = .ok (.iload_n 3, 1) := by decide +kernel
theorem dL_law_880 : decode code 880 = .ok (.iconst 1, 1) := by decide +kernel
theorem dL_law_881 : decode code 881 = .ok (.iadd, 1) := by decide +kernel
theorem dL_law_882 : decode code 882 = .ok (.iaload, 1) := by decide +kernel
theorem dL_law_883 : decode code 883 = .ok (.aload_n 0, 1) := by decide +kernel
theorem dL_law_884 : decode code 884 = .ok (.iload_n 3, 1) := by decide +kernel
theorem dL_law_885 : decode code 885 = .ok (.iconst 2, 1) := by decide +kernel
theorem dL_law_886 : decode code 886 = .ok (.iadd, 1) := by decide +kernel
theorem dL_law_887 : decode code 887 = .ok (.iaload, 1) := by decide +kernel
theorem dL_law_888 : decode code 888 = .ok (.aload_n 0, 1) := by decide +kernel
theorem dL_law_889 : decode code 889 = .ok (.iload_n 3, 1) := by decide +kernel
theorem dL_law_890 : decode code 890 = .ok (.iconst 3, 1) := by decide +kernel
theorem dL_law_891 : decode code 891 = .ok (.iadd, 1) := by decide +kernel
theorem dL_law_892 : decode code 892 = .ok (.iaload, 1) := by decide +kernel
theorem dL_law_893 : decode code 893 = .ok (.aload_n 0, 1) := by decide +kernel
theorem dL_law_894 : decode code 894 = .ok (.iload_n 3, 1) := by decide +kernel
theorem dL_law_895 : decode code 895 = .ok (.iconst 4, 1) := by decide +kernel
theorem dL_law_896 : decode code 896 = .ok (.iadd, 1) := by decide +kernel
theorem dL_law_897 : decode code 897 = .ok (.iaload, 1) := by decide +kernel
theorem dL_law_898 : decode code 898 = .ok (.invokevirtual 89, 3) := by decide +kernel
theorem dL_law_901 : decode code 901 = .ok (.if_icmp .eq 649, 3) := by decide +kernel
theorem dL_law_906 : decode code 906 = .ok (.aload_n 1, 1) := by decide +kernel
theorem dL_law_907 : decode code 907 = .ok (.aload_n 0, 1) := by decide +kernel
theorem dL_law_908 : decode code 908 = .ok (.iload_n 3, 1) := by decide +kernel
theorem dL_law_909 : decode code 909 = .ok (.iconst 1, 1) := by decide +kernel
theorem dL_law_910 : decode code 910 = .ok (.iadd, 1) := by decide +kernel
theorem dL_law_911 : decode code 911 = .ok (.iaload, 1) := by decide +kernel
theorem dL_law_912 : decode code 912 = .ok (.aload_n 0, 1) := by decide +kernel
theorem dL_law_913 : decode code 913 = .ok (.iload_n 3, 1) := by decide +kernel
theorem dL_law_914 : decode code 914 = .ok (.iconst 2, 1) := by decide +kernel
theorem dL_law_915 : decode code 915 = .ok (.iadd, 1) := by decide +kernel
theorem dL_law_916 : decode code 916 = .ok (.iaload, 1) := by decide +kernel
theorem dL_law_917 : decode code 917 = .ok (.invokevirtual 90, 3) := by decide +kernel
theorem dL_law_920 : decode code 920 = .ok (.aload_n 2, 1) := by decide +kernel
theorem dL_law_921 : decode code 921 = .ok (.aload_n 0, 1) := by decide +kernel
theorem dL_law_922 : decode code 922 = .ok (.iload_n 3, 1) := by decide +kernel
theorem dL_law_923 : decode code 923 = .ok (.iconst 1, 1) := by decide +kernel
theorem dL_law_924 : decode code 924 = .ok (.iadd, 1) := by decide +kernel
theorem dL_law_925 : decode code 925 = .ok (.iaload, 1) := by decide +kernel
theorem dL_law_926 : decode code 926 = .ok (.aload_n 0, 1) := by decide +kernel
theorem dL_law_927 : decode code 927 = .ok (.iload_n 3, 1) := by decide +kernel
theorem dL_law_928 : decode code 928 = .ok (.iconst 2, 1) := by decide +kernel
theorem dL_law_929 : decode code 929 = .ok (.iadd, 1) := by decide +kernel
theorem dL_law_930 : decode code 930 = .ok (.iaload, 1) := by decide +kernel
theorem dL_law_931 : decode code 931 = .ok (.invokevirtual 93, 3) := by decide +kernel
theorem dL_law_934 : decode code 934 = .ok (.if_icmp .eq 616, 3) := by decide +kernel
theorem dL_law_939 : decode code 939 = .ok (.aload_n 1, 1) := by decide +kernel
theorem dL_law_940 : decode code 940 = .ok (.aload_n 0, 1) := by decide +kernel
theorem dL_law_941 : decode code 941 = .ok (.iload_n 3, 1) := by decide +kernel
theorem dL_law_942 : decode code 942 = .ok (.iconst 1, 1) := by decide +kernel
theorem dL_law_943 : decode code 943 = .ok (.iadd, 1) := by decide +kernel
theorem dL_law_944 : decode code 944 = .ok (.iaload, 1) := by decide +kernel
theorem dL_law_945 : decode code 945 = .ok (.invokevirtual 94, 3) := by decide +kernel
theorem dL_law_948 : decode code 948 = .ok (.aload_n 2, 1) := by decide +kernel
theorem dL_law_949 : decode code 949 = .ok (.aload_n 0, 1) := by decide +kernel
theorem dL_law_950 : decode code 950 = .ok (.iload_n 3, 1) := by decide +kernel
theorem dL_law_951 : decode code 951 = .ok (.iconst 1, 1) := by decide +kernel
theorem dL_law_952 : decode code 952 = .ok (.iadd, 1) := by decide +kernel
theorem dL_law_953 : decode code 953 = .ok (.iaload, 1) := by decide +kernel
theorem dL_law_954 : decode code 954 = .ok (.invokevirtual 97, 3) := by decide +kernel
theorem dL_law_957 : decode code 957 = .ok (.if_icmp .eq 593, 3) := by decide +kernel
theorem dL_law_962 : decode code 962 = .ok (.aload_n 1, 1) := by decide +kernel
theorem dL_law_963 : decode code 963 = .ok (.aload_n 0, 1) := by decide +kernel
theorem dL_law_964 : decode code 964 = .ok (.iload_n 3, 1) := by decide +kernel
theorem dL_law_965 : decode code 965 = .ok (.iconst 1, 1) := by decide +kernel
theorem dL_law_966 : decode code 966 = .ok (.iadd, 1) := by decide +kernel
theorem dL_law_967 : decode code 967 = .ok (.iaload, 1) := by decide +kernel
theorem dL_law_968 : decode code 968 = .ok (.aload_n 0, 1) := by decide +kernel
theorem dL_law_969 : decode code 969 = .ok (.iload_n 3, 1) := by decide +kernel
theorem dL_law_970 : decode code 970 = .ok (.iconst 2, 1) := by decide +kernel
theorem dL_law_971 : decode code 971 = .ok (.iadd, 1) := by decide +kernel
theorem dL_law_972 : decode code 972 = .ok (.iaload, 1) := by decide +kernel
theorem dL_law_973 : decode code 973 = .ok (.aload_n 0, 1) := by decide +kernel
theorem dL_law_974 : decode code 974 = .ok (.iload_n 3, 1) := by decide +kernel
theorem dL_law_975 : decode code 975 = .ok (.iconst 3, 1) := by decide +kernel
theorem dL_law_976 : decode code 976 = .ok (.iadd, 1) := by decide +kernel
theorem dL_law_977 : decode code 977 = .ok (.iaload, 1) := by decide +kernel
theorem dL_law_978 : decode code 978 = .ok (.invokevirtual 98, 3) := by decide +kernel
theorem dL_law_981 : decode code 981 = .ok (.aload_n 2, 1) := by decide +kernel
theorem dL_law_982 : decode code 982 = .ok (.aload_n 0, 1) := by decide +kernel
theorem dL_law_983 : decode code 983 = .ok (.iload_n 3, 1) := by decide +kernel
theorem dL_law_984 : decode code 984 = .ok (.iconst 1, 1) := by decide +kernel
theorem dL_law_985 : decode code 985 = .ok (.iadd, 1) := by decide +kernel
theorem dL_law_986 : decode code 986 = .ok (.iaload, 1) := by decide +kernel
theorem dL_law_987 : decode code 987 = .ok (.aload_n 0, 1) := by decide +kernel
theorem dL_law_988 : decode code 988 = .ok (.iload_n 3, 1) := by decide +kernel
theorem dL_law_989 : decode code 989 = .ok (.iconst 2, 1) := by decide +kernel
theorem dL_law_990 : decode code 990 = .ok (.iadd, 1) := by decide +kernel
theorem dL_law_991 : decode code 991 = .ok (.iaload, 1) := by decide +kernel
theorem dL_law_992 : decode code 992 = .ok (.aload_n 0, 1) := by decide +kernel
theorem dL_law_993 : decode code 993 = .ok (.iload_n 3, 1) := by decide +kernel
theorem dL_law_994 : decode code 994 = .ok (.iconst 3, 1) := by decide +kernel
theorem dL_law_995 : decode code 995 = .ok (.iadd, 1) := by decide +kernel
theorem dL_law_996 : decode code 996 = .ok (.iaload, 1) := by decide +kernel
theorem dL_law_997 : decode code 997 = .ok (.invokevirtual 101, 3) := by decide +kernel
theorem dL_law_1000 : decode code 1000 = .ok (.if_icmp .eq 550, 3) := by decide +kernel
theorem dL_law_1005 : decode code 1005 = .ok (.aload_n 1, 1) := by decide +kernel
theorem dL_law_1006 : decode code 1006 = .ok (.aload_n 0, 1) := by decide +kernel
theorem dL_law_1007 : decode code 1007 = .ok (.iload_n 3, 1) := by decide +kernel
theorem dL_law_1008 : decode code 1008 = .ok (.iconst 1, 1) := by decide +kernel
theorem dL_law_1009 : decode code 1009 = .ok (.iadd, 1) := by decide +kernel
theorem dL_law_1010 : decode code 1010 = .ok (.iaload, 1) := by decide +kernel
theorem dL_law_1011 : decode code 1011 = .ok (.aload_n 0, 1) := by decide +kernel
theorem dL_law_1012 : decode code 1012 = .ok (.iload_n 3, 1) := by decide +kernel
theorem dL_law_1013 : decode code 1013 = .ok (.iconst 2, 1) := by decide +kernel
theorem dL_law_1014 : decode code 1014 = .ok (.iadd, 1) := by decide +kernel
theorem dL_law_1015 : decode code 1015 = .ok (.iaload, 1) := by decide +kernel
theorem dL_law_1016 : decode code 1016 = .ok (.aload_n 0, 1) := by decide +kernel
theorem dL_law_1017 : decode code 1017 = .ok (.iload_n 3, 1) := by decide +kernel
theorem dL_law_1018 : decode code 1018 = .ok (.iconst 3, 1) := by decide +kernel
theorem dL_law_1019 : decode code 1019 = .ok (.iadd, 1) := by decide +kernel
theorem dL_law_1020 : decode code 1020 = .ok (.iaload, 1) := by decide +kernel
theorem dL_law_1021 : decode code 1021 = .ok (.invokevirtual 102, 3) := by decide +kernel
theorem dL_law_1024 : decode code 1024 = .ok (.aload_n 2, 1) := by decide +kernel
theorem dL_law_1025 : decode code 1025 = .ok (.aload_n 0, 1) := by decide +kernel
theorem dL_law_1026 : decode code 1026 = .ok (.iload_n 3, 1) := by decide +kernel
theorem dL_law_1027 : decode code 1027 = .ok (.iconst 1, 1) := by decide +kernel
theorem dL_law_1028 : decode code 1028 = .ok (.iadd, 1) := by decide +kernel
theorem dL_law_1029 : decode code 1029 = .ok (.iaload, 1) := by decide +kernel
theorem dL_law_1030 : decode code 1030 = .ok (.aload_n 0, 1) := by decide +kernel
theorem dL_law_1031 : decode code 1031 = .ok (.iload_n 3, 1) := by decide +kernel
theorem dL_law_1032 : decode code 1032 = .ok (.iconst 2, 1) := by decide +kernel
theorem dL_law_1033 : decode code 1033 = .ok (.iadd, 1) := by decide +kernel
theorem dL_law_1034 : decode code 1034 = .ok (.iaload, 1) := by decide +kernel
theorem dL_law_1035 : decode code 1035 = .ok (.aload_n 0, 1) := by decide +kernel
theorem dL_law_1036 : decode code 1036 = .ok (.iload_n 3, 1) := by decide +kernel
theorem dL_law_1037 : decode code 1037 = .ok (.iconst 3, 1) := by decide +kernel
theorem dL_law_1038 : decode code 1038 = .ok (.iadd, 1) := by decide +kernel
theorem dL_law_1039 : decode code 1039 = .ok (.iaload, 1) := by decide +kernel
theorem dL_law_1040 : decode code 1040 = .ok (.invokevirtual 105, 3) := by decide +kernel
theorem dL_law_1043 : decode code 1043 = .ok (.if_icmp .eq 507, 3) := by decide +kernel
theorem dL_law_1048 : decode code 1048 = .ok (.aload_n 1, 1) := by decide +kernel
theorem dL_law_1049 : decode code 1049 = .ok (.aload_n 0, 1) := by decide +kernel
theorem dL_law_1050 : decode code 1050 = .ok (.iload_n 3, 1) := by decide +kernel
theorem dL_law_1051 : decode code 1051 = .ok (.iconst 1, 1) := by decide +kernel
theorem dL_law_1052 : decode code 1052 = .ok (.iadd, 1) := by decide +kernel
theorem dL_law_1053 : decode code 1053 = .ok (.iaload, 1) := by decide +kernel
theorem dL_law_1054 : decode code 1054 = .ok (.aload_n 0, 1) := by decide +kernel
theorem dL_law_1055 : decode code 1055 = .ok (.iload_n 3, 1) := by decide +kernel
theorem dL_law_1056 : decode code 1056 = .ok (.iconst 2, 1) := by decide +kernel
theorem dL_law_1057 : decode code 1057 = .ok (.iadd, 1) := by decide +kernel
theorem dL_law_1058 : decode code 1058 = .ok (.iaload, 1) := by decide +kernel
theorem dL_law_1059 : decode code 1059 = .ok (.aload_n 0, 1) := by decide +kernel
theorem dL_law_1060 : decode code 1060 = .ok (.iload_n 3, 1) := by decide +kernel
theorem dL_law_1061 : decode code 1061 = .ok (.iconst 3, 1) := by decide +kernel
theorem dL_law_1062 : decode code 1062 = .ok (.iadd, 1) := by decide +kernel
theorem dL_law_1063 : decode code 1063 = .ok (.iaload, 1) := by decide +kernel
theorem dL_law_1064 : decode code 1064 = .ok (.aload_n 0, 1) := by decide +kernel
theorem dL_law_1065 : decode code 1065 = .ok (.iload_n 3, 1) := by decide +kernel
theorem dL_law_1066 : decode code 1066 = .ok (.iconst 4, 1) := by decide +kernel
theorem dL_law_1067 : decode code 1067 = .ok (.iadd, 1) := by decide +kernel
theorem dL_law_1068 : decode code 1068 = .ok (.iaload, 1) := by decide +kernel
theorem dL_law_1069 : decode code 1069 = .ok (.invokevirtual 106, 3) := by decide +kernel
theorem dL_law_1072 : decode code 1072 = .ok (.aload_n 2, 1) := by decide +kernel
theorem dL_law_1073 : decode code 1073 = .ok (.aload_n 0, 1) := by decide +kernel
theorem dL_law_1074 : decode code 1074 = .ok (.iload_n 3, 1) := by decide +kernel
theorem dL_law_1075 : decode code 1075 = .ok (.iconst 1, 1) := by decide +kernel
theorem dL_law_1076 : decode code 1076 = .ok (.iadd, 1) := by decide +kernel
theorem dL_law_1077 : decode code 1077 = .ok (.iaload, 1) := by decide +kernel
theorem dL_law_1078 : decode code 1078 = .ok (.aload_n 0, 1) := by decide +kernel
theorem dL_law_1079 : decode code 1079 = .ok (.iload_n 3, 1) := by decide +kernel
theorem dL_law_1080 : decode code 1080 = .ok (.iconst 2, 1) := by decide +kernel
theorem dL_law_1081 : decode code 1081 = .ok (.iadd, 1) := by decide +kernel
theorem dL_law_1082 : decode code 1082 = .ok (.iaload, 1) := by decide +kernel
theorem dL_law_1083 : decode code 1083 = .ok (.aload_n 0, 1) := by decide +kernel
theorem dL_law_1084 : decode code 1084 = .ok (.iload_n 3, 1) := by decide +kernel
theorem dL_law_1085 : decode code 1085 = .ok (.iconst 3, 1) := by decide +kernel
theorem dL_law_1086 : decode code 1086 = .ok (.iadd, 1) := by decide +kernel
theorem dL_law_1087 : decode code 1087 = .ok (.iaload, 1) := by decide +kernel
theorem dL_law_1088 : decode code 1088 = .ok (.aload_n 0, 1) := by decide +kernel
theorem dL_law_1089 : decode code 1089 = .ok (.iload_n 3, 1) := by decide +kernel
theorem dL_law_1090 : decode code 1090 = .ok (.iconst 4, 1) := by decide +kernel
theorem dL_law_1091 : decode code 1091 = .ok (.iadd, 1) := by decide +kernel
theorem dL_law_1092 : decode code 1092 = .ok (.iaload, 1) := by decide +kernel
theorem dL_law_1093 : decode code 1093 = .ok (.invokevirtual 109, 3) := by decide +kernel
theorem dL_law_1096 : decode code 1096 = .ok (.if_icmp .eq 454, 3) := by decide +kernel
theorem dL_law_1101 : decode code 1101 = .ok (.aload_n 1, 1) := by decide +kernel
theorem dL_law_1102 : decode code 1102 = .ok (.aload_n 0, 1) := by decide +kernel
theorem dL_law_1103 : decode code 1103 = .ok (.iload_n 3, 1) := by decide +kernel
theorem dL_law_1104 : decode code 1104 = .ok (.iconst 1, 1) := by decide +kernel
theorem dL_law_1105 : decode code 1105 = .ok (.iadd, 1) := by decide +kernel
theorem dL_law_1106 : decode code 1106 = .ok (.iaload, 1) := by decide +kernel
theorem dL_law_1107 : decode code 1107 = .ok (.aload_n 0, 1) := by decide +kernel
theorem dL_law_1108 : decode code 1108 = .ok (.iload_n 3, 1) := by decide +kernel
theorem dL_law_1109 : decode code 1109 = .ok (.iconst 2, 1) := by decide +kernel
theorem dL_law_1110 : decode code 1110 = .ok (.iadd, 1) := by decide +kernel
theorem dL_law_1111 : decode code 1111 = .ok (.iaload, 1) := by decide +kernel
theorem dL_law_1112 : decode code 1112 = .ok (.aload_n 0, 1) := by decide +kernel
theorem dL_law_1113 : decode code 1113 = .ok (.iload_n 3, 1) := by decide +kernel
theorem dL_law_1114 : decode code 1114 = .ok (.iconst 3, 1) := by decide +kernel
theorem dL_law_1115 : decode code 1115 = .ok (.iadd, 1) := by decide +kernel
theorem dL_law_1116 : decode code 1116 = .ok (.iaload, 1) := by decide +kernel
theorem dL_law_1117 : decode code 1117 = .ok (.invokevirtual 110, 3) := by decide +kernel
theorem dL_law_1120 : decode code 1120 = .ok (.aload_n 2, 1) := by decide +kernel
theorem dL_law_1121 : decode code 1121 = .ok (.aload_n 0, 1) := by decide +kernel
theorem dL_law_1122 : decode code 1122 = .ok (.iload_n 3, 1) := by decide +kernel
theorem dL_law_1123 : decode code 1123 = .ok (.iconst 1, 1) := by decide +kernel
theorem dL_law_1124 : decode code 1124 = .ok (.iadd, 1) := by decide +kernel
theorem dL_law_1125 : decode code 1125 = .ok (.iaload, 1) := by decide +kernel
theorem dL_law_1126 : decode code 1126 = .ok (.aload_n 0, 1) := by decide +kernel
theorem dL_law_1127 : decode code 1127 = .ok (.iload_n 3, 1) := by decide +kernel
theorem dL_law_1128 : decode code 1128 = .ok (.iconst 2, 1) := by decide +kernel
theorem dL_law_1129 : decode code 1129 = .ok (.iadd, 1) := by decide +kernel
theorem dL_law_1130 : decode code 1130 = .ok (.iaload, 1) := by decide +kernel
theorem dL_law_1131 : decode code 1131 = .ok (.aload_n 0, 1) := by decide +kernel
theorem dL_law_1132 : decode code 1132 = .ok (.iload_n 3, 1) := by decide +kernel
theorem dL_law_1133 : decode code 1133 = .ok (.iconst 3, 1) := by decide +kernel
theorem dL_law_1134 : decode code 1134 = .ok (.iadd, 1) := by decide +kernel
theorem dL_law_1135 : decode code 1135 = .ok (.iaload, 1) := by decide +kernel
theorem dL_law_1136 : decode code 1136 = .ok (.invokevirtual 113, 3) := by decide +kernel
theorem dL_law_1139 : decode code 1139 = .ok (.if_icmp .eq 411, 3) := by decide +kernel
theorem dL_law_1144 : decode code 1144 = .ok (.aload_n 1, 1) := by decide +kernel
theorem dL_law_1145 : decode code 1145 = .ok (.aload_n 0, 1) := by decide +kernel
theorem dL_law_1146 : decode code 1146 = .ok (.iload_n 3, 1) := by decide +kernel
theorem dL_law_1147 : decode code 1147 = .ok (.iconst 1, 1) := by decide +kernel
theorem dL_law_1148 : decode code 1148 = .ok (.iadd, 1) := by decide +kernel
theorem dL_law_1149 : decode code 1149 = .ok (.iaload, 1) := by decide +kernel
theorem dL_law_1150 : decode code 1150 = .ok (.aload_n 0, 1) := by decide +kernel
theorem dL_law_1151 : decode code 1151 = .ok (.iload_n 3, 1) := by decide +kernel
theorem dL_law_1152 : decode code 1152 = .ok (.iconst 2, 1) := by decide +kernel
theorem dL_law_1153 : decode code 1153 = .ok (.iadd, 1) := by decide +kernel
theorem dL_law_1154 : decode code 1154 = .ok (.iaload, 1) := by decide +kernel
theorem dL_law_1155 : decode code 1155 = .ok (.aload_n 0, 1) := by decide +kernel
theorem dL_law_1156 : decode code 1156 = .ok (.iload_n 3, 1) := by decide +kernel
theorem dL_law_1157 : decode code 1157 = .ok (.iconst 3, 1) := by decide +kernel
theorem dL_law_1158 : decode code 1158 = .ok (.iadd, 1) := by decide +kernel
theorem dL_law_1159 : decode code 1159 = .ok (.iaload, 1) := by decide +kernel
theorem dL_law_1160 : decode code 1160 = .ok (.aload_n 0, 1) := by decide +kernel
theorem dL_law_1161 : decode code 1161 = .ok (.iload_n 3, 1) := by decide +kernel
theorem dL_law_1162 : decode code 1162 = .ok (.iconst 4, 1) := by decide +kernel
theorem dL_law_1163 : decode code 1163 = .ok (.iadd, 1) := by decide +kernel
theorem dL_law_1164 : decode code 1164 = .ok (.iaload, 1) := by decide +kernel
theorem dL_law_1165 : decode code 1165 = .ok (.aload_n 0, 1) := by decide +kernel
theorem dL_law_1166 : decode code 1166 = .ok (.iload_n 3, 1) := by decide +kernel
theorem dL_law_1167 : decode code 1167 = .ok (.iconst 5, 1) := by decide +kernel
theorem dL_law_1168 : decode code 1168 = .ok (.iadd, 1) := by decide +kernel
theorem dL_law_1169 : decode code 1169 = .ok (.iaload, 1) := by decide +kernel
theorem dL_law_1170 : decode code 1170 = .ok (.invokevirtual 114, 3) := by decide +kernel
theorem dL_law_1173 : decode code 1173 = .ok (.aload_n 2, 1) := by decide +kernel
theorem dL_law_1174 : decode code 1174 = .ok (.aload_n 0, 1) := by decide +kernel
theorem dL_law_1175 : decode code 1175 = .ok (.iload_n 3, 1) := by decide +kernel
theorem dL_law_1176 : decode code 1176 = .ok (.iconst 1, 1) := by decide +kernel
theorem dL_law_1177 : decode code 1177 = .ok (.iadd, 1) := by decide +kernel
theorem dL_law_1178 : decode code 1178 = .ok (.iaload, 1) := by decide +kernel
theorem dL_law_1179 : decode code 1179 = .ok (.aload_n 0, 1) := by decide +kernel
theorem dL_law_1180 : decode code 1180 = .ok (.iload_n 3, 1) := by decide +kernel
theorem dL_law_1181 : decode code 1181 = .ok (.iconst 2, 1) := by decide +kernel
theorem dL_law_1182 : decode code 1182 = .ok (.iadd, 1) := by decide +kernel
theorem dL_law_1183 : decode code 1183 = .ok (.iaload, 1) := by decide +kernel
theorem dL_law_1184 : decode code 1184 = .ok (.aload_n 0, 1) := by decide +kernel
theorem dL_law_1185 : decode code 1185 = .ok (.iload_n 3, 1) := by decide +kernel
theorem dL_law_1186 : decode code 1186 = .ok (.iconst 3, 1) := by decide +kernel
theorem dL_law_1187 : decode code 1187 = .ok (.iadd, 1) := by decide +kernel
theorem dL_law_1188 : decode code 1188 = .ok (.iaload, 1) := by decide +kernel
theorem dL_law_1189 : decode code 1189 = .ok (.aload_n 0, 1) := by decide +kernel
theorem dL_law_1190 : decode code 1190 = .ok (.iload_n 3, 1) := by decide +kernel
theorem dL_law_1191 : decode code 1191 = .ok (.iconst 4, 1) := by decide +kernel
theorem dL_law_1192 : decode code 1192 = .ok (.iadd, 1) := by decide +kernel
theorem dL_law_1193 : decode code 1193 = .ok (.iaload, 1) := by decide +kernel
theorem dL_law_1194 : decode code 1194 = .ok (.aload_n 0, 1) := by decide +kernel
theorem dL_law_1195 : decode code 1195 = .ok (.iload_n 3, 1) := by decide +kernel
theorem dL_law_1196 : decode code 1196 = .ok (.iconst 5, 1) := by decide +kernel
theorem dL_law_1197 : decode code 1197 = .ok (.iadd, 1) := by decide +kernel
theorem dL_law_1198 : decode code 1198 = .ok (.iaload, 1) := by decide +kernel
theorem dL_law_1199 : decode code 1199 = .ok (.invokevirtual 117, 3) := by decide +kernel
theorem dL_law_1202 : decode code 1202 = .ok (.if_icmp .eq 348, 3) := by decide +kernel
theorem dL_law_1207 : decode code 1207 = .ok (.aload_n 1, 1) := by decide +kernel
theorem dL_law_1208 : decode code 1208 = .ok (.aload_n 0, 1) := by decide +kernel
theorem dL_law_1209 : decode code 1209 = .ok (.iload_n 3, 1) := by decide +kernel
theorem dL_law_1210 : decode code 1210 = .ok (.iconst 1, 1) := by decide +kernel
theorem dL_law_1211 : decode code 1211 = .ok (.iadd, 1) := by decide +kernel
theorem dL_law_1212 : decode code 1212 = .ok (.iaload, 1) := by decide +kernel
theorem dL_law_1213 : decode code 1213 = .ok (.aload_n 0, 1) := by decide +kernel
theorem dL_law_1214 : decode code 1214 = .ok (.iload_n 3, 1) := by decide +kernel
theorem dL_law_1215 : decode code 1215 = .ok (.iconst 2, 1) := by decide +kernel
theorem dL_law_1216 : decode code 1216 = .ok (.iadd, 1) := by decide +kernel
theorem dL_law_1217 : decode code 1217 = .ok (.iaload, 1) := by decide +kernel
theorem dL_law_1218 : decode code 1218 = .ok (.aload_n 0, 1) := by decide +kernel
theorem dL_law_1219 : decode code 1219 = .ok (.iload_n 3, 1) := by decide +kernel
theorem dL_law_1220 : decode code 1220 = .ok (.iconst 3, 1) := by decide +kernel
theorem dL_law_1221 : decode code 1221 = .ok (.iadd, 1) := by decide +kernel
theorem dL_law_1222 : decode code 1222 = .ok (.iaload, 1) := by decide +kernel
theorem dL_law_1223 : decode code 1223 = .ok (.invokevirtual 118, 3) := by decide +kernel
theorem dL_law_1226 : decode code 1226 = .ok (.aload_n 2, 1) := by decide +kernel
theorem dL_law_1227 : decode code 1227 = .ok (.aload_n 0, 1) := by decide +kernel
theorem dL_law_1228 : decode code 1228 = .ok (.iload_n 3, 1) := by decide +kernel
theorem dL_law_1229 : decode code 1229 = .ok (.iconst 1, 1) := by decide +kernel
theorem dL_law_1230 : decode code 1230 = .ok (.iadd, 1) := by decide +kernel
theorem dL_law_1231 : decode code 1231 = .ok (.iaload, 1) := by decide +kernel
theorem dL_law_1232 : decode code 1232 = .ok (.aload_n 0, 1) := by decide +kernel
theorem dL_law_1233 : decode code 1233 = .ok (.iload_n 3, 1) := by decide +kernel
theorem dL_law_1234 : decode code 1234 = .ok (.iconst 2, 1) := by decide +kernel
theorem dL_law_1235 : decode code 1235 = .ok (.iadd, 1) := by decide +kernel
theorem dL_law_1236 : decode code 1236 = .ok (.iaload, 1) := by decide +kernel
theorem dL_law_1237 : decode code 1237 = .ok (.aload_n 0, 1) := by decide +kernel
theorem dL_law_1238 : decode code 1238 = .ok (.iload_n 3, 1) := by decide +kernel
theorem dL_law_1239 : decode code 1239 = .ok (.iconst 3, 1) := by decide +kernel
theorem dL_law_1240 : decode code 1240 = .ok (.iadd, 1) := by decide +kernel
theorem dL_law_1241 : decode code 1241 = .ok (.iaload, 1) := by decide +kernel
theorem dL_law_1242 : decode code 1242 = .ok (.invokevirtual 121, 3) := by decide +kernel
theorem dL_law_1245 : decode code 1245 = .ok (.if_icmp .eq 305, 3) := by decide +kernel
theorem dL_law_1250 : decode code 1250 = .ok (.aload_n 1, 1) := by decide +kernel
theorem dL_law_1251 : decode code 1251 = .ok (.aload_n 0, 1) := by decide +kernel
theorem dL_law_1252 : decode code 1252 = .ok (.iload_n 3, 1) := by decide +kernel
theorem dL_law_1253 : decode code 1253 = .ok (.iconst 1, 1) := by decide +kernel
theorem dL_law_1254 : decode code 1254 = .ok (.iadd, 1) := by decide +kernel
theorem dL_law_1255 : decode code 1255 = .ok (.iaload, 1) := by decide +kernel
theorem dL_law_1256 : decode code 1256 = .ok (.aload_n 0, 1) := by decide +kernel
theorem dL_law_1257 : decode code 1257 = .ok (.iload_n 3, 1) := by decide +kernel
theorem dL_law_1258 : decode code 1258 = .ok (.iconst 2, 1) := by decide +kernel
theorem dL_law_1259 : decode code 1259 = .ok (.iadd, 1) := by decide +kernel
theorem dL_law_1260 : decode code 1260 = .ok (.iaload, 1) := by decide +kernel
theorem dL_law_1261 : decode code 1261 = .ok (.aload_n 0, 1) := by decide +kernel
theorem dL_law_1262 : decode code 1262 = .ok (.iload_n 3, 1) := by decide +kernel
theorem dL_law_1263 : decode code 1263 = .ok (.iconst 3, 1) := by decide +kernel
theorem dL_law_1264 : decode code 1264 = .ok (.iadd, 1) := by decide +kernel
theorem dL_law_1265 : decode code 1265 = .ok (.iaload, 1) := by decide +kernel
theorem dL_law_1266 : decode code 1266 = .ok (.aload_n 0, 1) := by decide +kernel
theorem dL_law_1267 : decode code 1267 = .ok (.iload_n 3, 1) := by decide +kernel
theorem dL_law_1268 : decode code 1268 = .ok (.iconst 4, 1) := by decide +kernel
theorem dL_law_1269 : decode code 1269 = .ok (.iadd, 1) := by decide +kernel
theorem dL_law_1270 : decode code 1270 = .ok (.iaload, 1) := by decide +kernel
theorem dL_law_1271 : decode code 1271 = .ok (.invokevirtual 122, 3) := by decide +kernel
theorem dL_law_1274 : decode code 1274 = .ok (.aload_n 2, 1) := by decide +kernel
theorem dL_law_1275 : decode code 1275 = .ok (.aload_n 0, 1) := by decide +kernel
theorem dL_law_1276 : decode code 1276 = .ok (.iload_n 3, 1) := by decide +kernel
theorem dL_law_1277 : decode code 1277 = .ok (.iconst 1, 1) := by decide +kernel
theorem dL_law_1278 : decode code 1278 = .ok (.iadd, 1) := by decide +kernel
theorem dL_law_1279 : decode code 1279 = .ok (.iaload, 1) := by decide +kernel
theorem dL_law_1280 : decode code 1280 = .ok (.aload_n 0, 1) := by decide +kernel
theorem dL_law_1281 : decode code 1281 = .ok (.iload_n 3, 1) := by decide +kernel
theorem dL_law_1282 : decode code 1282 = .ok (.iconst 2, 1) := by decide +kernel
theorem dL_law_1283 : decode code 1283 = .ok (.iadd, 1) := by decide +kernel
theorem dL_law_1284 : decode code 1284 = .ok (.iaload, 1) := by decide +kernel
theorem dL_law_1285 : decode code 1285 = .ok (.aload_n 0, 1) := by decide +kernel
theorem dL_law_1286 : decode code 1286 = .ok (.iload_n 3, 1) := by decide +kernel
theorem dL_law_1287 : decode code 1287 = .ok (.iconst 3, 1) := by decide +kernel
theorem dL_law_1288 : decode code 1288 = .ok (.iadd, 1) := by decide +kernel
theorem dL_law_1289 : decode code 1289 = .ok (.iaload, 1) := by decide +kernel
theorem dL_law_1290 : decode code 1290 = .ok (.aload_n 0, 1) := by decide +kernel
theorem dL_law_1291 : decode code 1291 = .ok (.iload_n 3, 1) := by decide +kernel
theorem dL_law_1292 : decode code 1292 = .ok (.iconst 4, 1) := by decide +kernel
theorem dL_law_1293 : decode code 1293 = .ok (.iadd, 1) := by decide +kernel
theorem dL_law_1294 : decode code 1294 = .ok (.iaload, 1) := by decide +kernel
theorem dL_law_1295 : decode code 1295 = .ok (.invokevirtual 125, 3) := by decide +kernel
theorem dL_law_1298 : decode code 1298 = .ok (.if_icmp .eq 252, 3) := by decide +kernel
theorem dL_law_1303 : decode code 1303 = .ok (.aload_n 1, 1) := by decide +kernel
theorem dL_law_1304 : decode code 1304 = .ok (.aload_n 0, 1) := by decide +kernel
theorem dL_law_1305 : decode code 1305 = .ok (.iload_n 3, 1) := by decide +kernel
theorem dL_law_1306 : decode code 1306 = .ok (.iconst 1, 1) := by decide +kernel
theorem dL_law_1307 : decode code 1307 = .ok (.iadd, 1) := by decide +kernel
theorem dL_law_1308 : decode code 1308 = .ok (.iaload, 1) := by decide +kernel
theorem dL_law_1309 : decode code 1309 = .ok (.invokevirtual 126, 3) := by decide +kernel
theorem dL_law_1312 : decode code 1312 = .ok (.aload_n 2, 1) := by decide +kernel
theorem dL_law_1313 : decode code 1313 = .ok (.aload_n 0, 1) := by decide +kernel
theorem dL_law_1314 : decode code 1314 = .ok (.iload_n 3, 1) := by decide +kernel
theorem dL_law_1315 : decode code 1315 = .ok (.iconst 1, 1) := by decide +kernel
theorem dL_law_1316 : decode code 1316 = .ok (.iadd, 1) := by decide +kernel
theorem dL_law_1317 : decode code 1317 = .ok (.iaload, 1) := by decide +kernel
theorem dL_law_1318 : decode code 1318 = .ok (.invokevirtual 129, 3) := by decide +kernel
theorem dL_law_1321 : decode code 1321 = .ok (.if_icmp .eq 229, 3) := by decide +kernel
theorem dL_law_1326 : decode code 1326 = .ok (.aload_n 1, 1) := by decide +kernel
theorem dL_law_1327 : decode code 1327 = .ok (.aload_n 0, 1) := by decide +kernel
theorem dL_law_1328 : decode code 1328 = .ok (.iload_n 3, 1) := by decide +kernel
theorem dL_law_1329 : decode code 1329 = .ok (.iconst 1, 1) := by decide +kernel
theorem dL_law_1330 : decode code 1330 = .ok (.iadd, 1) := by decide +kernel
theorem dL_law_1331 : decode code 1331 = .ok (.iaload, 1) := by decide +kernel
theorem dL_law_1332 : decode code 1332 = .ok (.invokevirtual 130, 3) := by decide +kernel
theorem dL_law_1335 : decode code 1335 = .ok (.aload_n 2, 1) := by decide +kernel
theorem dL_law_1336 : decode code 1336 = .ok (.aload_n 0, 1) := by decide +kernel
theorem dL_law_1337 : decode code 1337 = .ok (.iload_n 3, 1) := by decide +kernel
theorem dL_law_1338 : decode code 1338 = .ok (.iconst 1, 1) := by decide +kernel
theorem dL_law_1339 : decode code 1339 = .ok (.iadd, 1) := by decide +kernel
theorem dL_law_1340 : decode code 1340 = .ok (.iaload, 1) := by decide +kernel
theorem dL_law_1341 : decode code 1341 = .ok (.invokevirtual 133, 3) := by decide +kernel
theorem dL_law_1344 : decode code 1344 = .ok (.if_icmp .eq 206, 3) := by decide +kernel
theorem dL_law_1349 : decode code 1349 = .ok (.aload_n 1, 1) := by decide +kernel
theorem dL_law_1350 : decode code 1350 = .ok (.aload_n 0, 1) := by decide +kernel
theorem dL_law_1351 : decode code 1351 = .ok (.iload_n 3, 1) := by decide +kernel
theorem dL_law_1352 : decode code 1352 = .ok (.iconst 1, 1) := by decide +kernel
theorem dL_law_1353 : decode code 1353 = .ok (.iadd, 1) := by decide +kernel
theorem dL_law_1354 : decode code 1354 = .ok (.iaload, 1) := by decide +kernel
theorem dL_law_1355 : decode code 1355 = .ok (.aload_n 0, 1) := by decide +kernel
theorem dL_law_1356 : decode code 1356 = .ok (.iload_n 3, 1) := by decide +kernel
theorem dL_law_1357 : decode code 1357 = .ok (.iconst 2, 1) := by decide +kernel
theorem dL_law_1358 : decode code 1358 = .ok (.iadd, 1) := by decide +kernel
theorem dL_law_1359 : decode code 1359 = .ok (.iaload, 1) := by decide +kernel
theorem dL_law_1360 : decode code 1360 = .ok (.aload_n 0, 1) := by decide +kernel
theorem dL_law_1361 : decode code 1361 = .ok (.iload_n 3, 1) := by decide +kernel
theorem dL_law_1362 : decode code 1362 = .ok (.iconst 3, 1) := by decide +kernel
theorem dL_law_1363 : decode code 1363 = .ok (.iadd, 1) := by decide +kernel
theorem dL_law_1364 : decode code 1364 = .ok (.iaload, 1) := by decide +kernel
theorem dL_law_1365 : decode code 1365 = .ok (.invokevirtual 134, 3) := by decide +kernel
theorem dL_law_1368 : decode code 1368 = .ok (.aload_n 2, 1) := by decide +kernel
theorem dL_law_1369 : decode code 1369 = .ok (.aload_n 0, 1) := by decide +kernel
theorem dL_law_1370 : decode code 1370 = .ok (.iload_n 3, 1) := by decide +kernel
theorem dL_law_1371 : decode code 1371 = .ok (.iconst 1, 1) := by decide +kernel
theorem dL_law_1372 : decode code 1372 = .ok (.iadd, 1) := by decide +kernel
theorem dL_law_1373 : decode code 1373 = .ok (.iaload, 1) := by decide +kernel
theorem dL_law_1374 : decode code 1374 = .ok (.aload_n 0, 1) := by decide +kernel
theorem dL_law_1375 : decode code 1375 = .ok (.iload_n 3, 1) := by decide +kernel
theorem dL_law_1376 : decode code 1376 = .ok (.iconst 2, 1) := by decide +kernel
theorem dL_law_1377 : decode code 1377 = .ok (.iadd, 1) := by decide +kernel
theorem dL_law_1378 : decode code 1378 = .ok (.iaload, 1) := by decide +kernel
theorem dL_law_1379 : decode code 1379 = .ok (.aload_n 0, 1) := by decide +kernel
theorem dL_law_1380 : decode code 1380 = .ok (.iload_n 3, 1) := by decide +kernel
theorem dL_law_1381 : decode code 1381 = .ok (.iconst 3, 1) := by decide +kernel
theorem dL_law_1382 : decode code 1382 = .ok (.iadd, 1) := by decide +kernel
theorem dL_law_1383 : decode code 1383 = .ok (.iaload, 1) := by decide +kernel
theorem dL_law_1384 : decode code 1384 = .ok (.invokevirtual 137, 3) := by decide +kernel
theorem dL_law_1387 : decode code 1387 = .ok (.if_icmp .eq 163, 3) := by decide +kernel
theorem dL_law_1392 : decode code 1392 = .ok (.aload_n 1, 1) := by decide +kernel
theorem dL_law_1393 : decode code 1393 = .ok (.aload_n 0, 1) := by decide +kernel
theorem dL_law_1394 : decode code 1394 = .ok (.iload_n 3, 1) := by decide +kernel
theorem dL_law_1395 : decode code 1395 = .ok (.iconst 1, 1) := by decide +kernel
theorem dL_law_1396 : decode code 1396 = .ok (.iadd, 1) := by decide +kernel
theorem dL_law_1397 : decode code 1397 = .ok (.iaload, 1) := by decide +kernel
theorem dL_law_1398 : decode code 1398 = .ok (.invokevirtual 138, 3) := by decide +kernel
theorem dL_law_1401 : decode code 1401 = .ok (.aload_n 2, 1) := by decide +kernel
theorem dL_law_1402 : decode code 1402 = .ok (.aload_n 0, 1) := by decide +kernel
theorem dL_law_1403 : decode code 1403 = .ok (.iload_n 3, 1) := by decide +kernel
theorem dL_law_1404 : decode code 1404 = .ok (.iconst 1, 1) := by decide +kernel
theorem dL_law_1405 : decode code 1405 = .ok (.iadd, 1) := by decide +kernel
theorem dL_law_1406 : decode code 1406 = .ok (.iaload, 1) := by decide +kernel
theorem dL_law_1407 : decode code 1407 = .ok (.invokevirtual 141, 3) := by decide +kernel
theorem dL_law_1410 : decode code 1410 = .ok (.if_icmp .eq 140, 3) := by decide +kernel
theorem dL_law_1415 : decode code 1415 = .ok (.aload_n 1, 1) := by decide +kernel
theorem dL_law_1416 : decode code 1416 = .ok (.aload_n 0, 1) := by decide +kernel
theorem dL_law_1417 : decode code 1417 = .ok (.iload_n 3, 1) := by decide +kernel
theorem dL_law_1418 : decode code 1418 = .ok (.iconst 1, 1) := by decide +kernel
theorem dL_law_1419 : decode code 1419 = .ok (.iadd, 1) := by decide +kernel
theorem dL_law_1420 : decode code 1420 = .ok (.iaload, 1) := by decide +kernel
theorem dL_law_1421 : decode code 1421 = .ok (.aload_n 0, 1) := by decide +kernel
theorem dL_law_1422 : decode code 1422 = .ok (.iload_n 3, 1) := by decide +kernel
theorem dL_law_1423 : decode code 1423 = .ok (.iconst 2, 1) := by decide +kernel
theorem dL_law_1424 : decode code 1424 = .ok (.iadd, 1) := by decide +kernel
theorem dL_law_1425 : decode code 1425 = .ok (.iaload, 1) := by decide +kernel
theorem dL_law_1426 : decode code 1426 = .ok (.invokevirtual 142, 3) := by decide +kernel
theorem dL_law_1429 : decode code 1429 = .ok (.aload_n 2, 1) := by decide +kernel
theorem dL_law_1430 : decode code 1430 = .ok (.aload_n 0, 1) := by decide +kernel
theorem dL_law_1431 : decode code 1431 = .ok (.iload_n 3, 1) := by decide +kernel
theorem dL_law_1432 : decode code 1432 = .ok (.iconst 1, 1) := by decide +kernel
theorem dL_law_1433 : decode code 1433 = .ok (.iadd, 1) := by decide +kernel
theorem dL_law_1434 : decode code 1434 = .ok (.iaload, 1) := by decide +kernel
theorem dL_law_1435 : decode code 1435 = .ok (.aload_n 0, 1) := by decide +kernel
theorem dL_law_1436 : decode code 1436 = .ok (.iload_n 3, 1) := by decide +kernel
theorem dL_law_1437 : decode code 1437 = .ok (.iconst 2, 1) := by decide +kernel
theorem dL_law_1438 : decode code 1438 = .ok (.iadd, 1) := by decide +kernel
theorem dL_law_1439 : decode code 1439 = .ok (.iaload, 1) := by decide +kernel
theorem dL_law_1440 : decode code 1440 = .ok (.invokevirtual 145, 3) := by decide +kernel
theorem dL_law_1443 : decode code 1443 = .ok (.if_icmp .eq 107, 3) := by decide +kernel
theorem dL_law_1448 : decode code 1448 = .ok (.aload_n 1, 1) := by decide +kernel
theorem dL_law_1449 : decode code 1449 = .ok (.aload_n 0, 1) := by decide +kernel
theorem dL_law_1450 : decode code 1450 = .ok (.iload_n 3, 1) := by decide +kernel
theorem dL_law_1451 : decode code 1451 = .ok (.iconst 1, 1) := by decide +kernel
theorem dL_law_1452 : decode code 1452 = .ok (.iadd, 1) := by decide +kernel
theorem dL_law_1453 : decode code 1453 = .ok (.iaload, 1) := by decide +kernel
theorem dL_law_1454 : decode code 1454 = .ok (.invokevirtual 146, 3) := by decide +kernel
theorem dL_law_1457 : decode code 1457 = .ok (.aload_n 2, 1) := by decide +kernel
theorem dL_law_1458 : decode code 1458 = .ok (.aload_n 0, 1) := by decide +kernel
theorem dL_law_1459 : decode code 1459 = .ok (.iload_n 3, 1) := by decide +kernel
theorem dL_law_1460 : decode code 1460 = .ok (.iconst 1, 1) := by decide +kernel
theorem dL_law_1461 : decode code 1461 = .ok (.iadd, 1) := by decide +kernel
theorem dL_law_1462 : decode code 1462 = .ok (.iaload, 1) := by decide +kernel
theorem dL_law_1463 : decode code 1463 = .ok (.invokevirtual 149, 3) := by decide +kernel
theorem dL_law_1466 : decode code 1466 = .ok (.if_icmp .eq 84, 3) := by decide +kernel
theorem dL_law_1471 : decode code 1471 = .ok (.aload_n 1, 1) := by decide +kernel
theorem dL_law_1472 : decode code 1472 = .ok (.aload_n 0, 1) := by decide +kernel
theorem dL_law_1473 : decode code 1473 = .ok (.iload_n 3, 1) := by decide +kernel
theorem dL_law_1474 : decode code 1474 = .ok (.iconst 1, 1) := by decide +kernel
theorem dL_law_1475 : decode code 1475 = .ok (.iadd, 1) := by decide +kernel
theorem dL_law_1476 : decode code 1476 = .ok (.iaload, 1) := by decide +kernel
theorem dL_law_1477 : decode code 1477 = .ok (.aload_n 0, 1) := by decide +kernel
theorem dL_law_1478 : decode code 1478 = .ok (.iload_n 3, 1) := by decide +kernel
theorem dL_law_1479 : decode code 1479 = .ok (.iconst 2, 1) := by decide +kernel
theorem dL_law_1480 : decode code 1480 = .ok (.iadd, 1) := by decide +kernel
theorem dL_law_1481 : decode code 1481 = .ok (.iaload, 1) := by decide +kernel
theorem dL_law_1482 : decode code 1482 = .ok (.invokevirtual 150, 3) := by decide +kernel
theorem dL_law_1485 : decode code 1485 = .ok (.aload_n 2, 1) := by decide +kernel
theorem dL_law_1486 : decode code 1486 = .ok (.aload_n 0, 1) := by decide +kernel
theorem dL_law_1487 : decode code 1487 = .ok (.iload_n 3, 1) := by decide +kernel
theorem dL_law_1488 : decode code 1488 = .ok (.iconst 1, 1) := by decide +kernel
theorem dL_law_1489 : decode code 1489 = .ok (.iadd, 1) := by decide +kernel
theorem dL_law_1490 : decode code 1490 = .ok (.iaload, 1) := by decide +kernel
theorem dL_law_1491 : decode code 1491 = .ok (.aload_n 0, 1) := by decide +kernel
theorem dL_law_1492 : decode code 1492 = .ok (.iload_n 3, 1) := by decide +kernel
theorem dL_law_1493 : decode code 1493 = .ok (.iconst 2, 1) := by decide +kernel
theorem dL_law_1494 : decode code 1494 = .ok (.iadd, 1) := by decide +kernel
theorem dL_law_1495 : decode code 1495 = .ok (.iaload, 1) := by decide +kernel
theorem dL_law_1496 : decode code 1496 = .ok (.invokevirtual 153, 3) := by decide +kernel
theorem dL_law_1499 : decode code 1499 = .ok (.if_icmp .eq 51, 3) := by decide +kernel
theorem dL_law_1504 : decode code 1504 = .ok (.aload_n 1, 1) := by decide +kernel
theorem dL_law_1505 : decode code 1505 = .ok (.aload_n 0, 1) := by decide +kernel
theorem dL_law_1506 : decode code 1506 = .ok (.iload_n 3, 1) := by decide +kernel
theorem dL_law_1507 : decode code 1507 = .ok (.iconst 1, 1) := by decide +kernel
theorem dL_law_1508 : decode code 1508 = .ok (.iadd, 1) := by decide +kernel
theorem dL_law_1509 : decode code 1509 = .ok (.iaload, 1) := by decide +kernel
theorem dL_law_1510 : decode code 1510 = .ok (.invokevirtual 154, 3) := by decide +kernel
theorem dL_law_1513 : decode code 1513 = .ok (.aload_n 2, 1) := by decide +kernel
theorem dL_law_1514 : decode code 1514 = .ok (.aload_n 0, 1) := by decide +kernel
theorem dL_law_1515 : decode code 1515 = .ok (.iload_n 3, 1) := by decide +kernel
theorem dL_law_1516 : decode code 1516 = .ok (.iconst 1, 1) := by decide +kernel
theorem dL_law_1517 : decode code 1517 = .ok (.iadd, 1) := by decide +kernel
theorem dL_law_1518 : decode code 1518 = .ok (.iaload, 1) := by decide +kernel
theorem dL_law_1519 : decode code 1519 = .ok (.invokevirtual 157, 3) := by decide +kernel
theorem dL_law_1522 : decode code 1522 = .ok (.if_icmp .eq 28, 3) := by decide +kernel
theorem dL_law_1527 : decode code 1527 = .ok (.aload_n 1, 1) := by decide +kernel
theorem dL_law_1528 : decode code 1528 = .ok (.aload_n 0, 1) := by decide +kernel
theorem dL_law_1529 : decode code 1529 = .ok (.iload_n 3, 1) := by decide +kernel
theorem dL_law_1530 : decode code 1530 = .ok (.iconst 1, 1) := by decide +kernel
theorem dL_law_1531 : decode code 1531 = .ok (.iadd, 1) := by decide +kernel
theorem dL_law_1532 : decode code 1532 = .ok (.iaload, 1) := by decide +kernel
theorem dL_law_1533 : decode code 1533 = .ok (.invokevirtual 158, 3) := by decide +kernel
theorem dL_law_1536 : decode code 1536 = .ok (.aload_n 2, 1) := by decide +kernel
theorem dL_law_1537 : decode code 1537 = .ok (.aload_n 0, 1) := by decide +kernel
theorem dL_law_1538 : decode code 1538 = .ok (.iload_n 3, 1) := by decide +kernel
theorem dL_law_1539 : decode code 1539 = .ok (.iconst 1, 1) := by decide +kernel
theorem dL_law_1540 : decode code 1540 = .ok (.iadd, 1) := by decide +kernel
theorem dL_law_1541 : decode code 1541 = .ok (.iaload, 1) := by decide +kernel
theorem dL_law_1542 : decode code 1542 = .ok (.invokevirtual 161, 3) := by decide +kernel
theorem dL_law_1545 : decode code 1545 = .ok (.if_icmp .eq 5, 3) := by decide +kernel
theorem dL_law_1550 : decode code 1550 = .ok (.iinc 3 6, 3) := by decide +kernel
theorem dL_law_1553 : decode code 1553 = .ok (.goto (-1535), 3) := by decide +kernel
theorem dL_law_1556 : decode code 1556 = .ok (.iconst 1, 1) := by decide +kernel
theorem dL_law_1557 : decode code 1557 = .ok (.ireturn, 1) := by decide +kernel
theorem dX0_add_0 : decode cX0_add 0 = .ok (.aload_n 0, 1) := by decide +kernel
theorem dX0_add_1 : decode cX0_add 1 = .ok (.getfield 27, 3) := by decide +kernel
theorem dX0_add_4 : decode cX0_add 4 = .ok (.bipush 9, 2) := by decide +kernel
theorem dX0_add_6 : decode cX0_add 6 = .ok (.if_icmp .ge 23, 3) := by decide +kernel
theorem dX0_add_9 : decode cX0_add 9 = .ok (.aload_n 0, 1) := by decide +kernel
theorem dX0_add_10 : decode cX0_add 10 = .ok (.getfield 9, 3) := by decide +kernel
theorem dX0_add_13 : decode cX0_add 13 = .ok (.aload_n 0, 1) := by decide +kernel
theorem dX0_add_14 : decode cX0_add 14 = .ok (.getfield 27, 3) := by decide +kernel
theorem dX0_add_17 : decode cX0_add 17 = .ok (.iload_n 1, 1) := by decide +kernel
theorem dX0_add_18 : decode cX0_add 18 = .ok (.iastore, 1) := by decide +kernel
theorem dX0_add_19 : decode cX0_add 19 = .ok (.aload_n 0, 1) := by decide +kernel
theorem dX0_add_20 : decode cX0_add 20 = .ok (.dup, 1) := by decide +kernel
theorem dX0_add_21 : decode cX0_add 21 = .ok (.getfield 27, 3) := by decide +kernel
theorem dX0_add_24 : decode cX0_add 24 = .ok (.iconst 1, 1) := by decide +kernel
theorem dX0_add_25 : decode cX0_add 25 = .ok (.iadd, 1) := by decide +kernel
theorem dX0_add_26 : decode cX0_add 26 = .ok (.putfield 27, 3) := by decide +kernel
theorem dX0_add_29 : decode cX0_add 29 = .ok (.return_, 1) := by decide +kernel
theorem dX0_init_0 : decode cX0_init 0 = .ok (.aload_n 0, 1) := by decide +kernel
theorem dX0_init_1 : decode cX0_init 1 = .ok (.invokespecial 3, 3) := by decide +kernel
theorem dX0_init_4 : decode cX0_init 4 = .ok (.aload_n 0, 1) := by decide +kernel
theorem dX0_init_5 : decode cX0_init 5 = .ok (.bipush 9, 2) := by decide +kernel
theorem dX0_init_7 : decode cX0_init 7 = .ok (.newarray .int, 2) := by decide +kernel
theorem dX0_init_9 : decode cX0_init 9 = .ok (.putfield 9, 3) := by decide +kernel
theorem dX0_init_12 : decode cX0_init 12 = .ok (.aload_n 0, 1) := by decide +kernel
theorem dX0_init_13 : decode cX0_init 13 = .ok (.bipush 9, 2) := by decide +kernel
theorem dX0_init_15 : decode cX0_init 15 = .ok (.newarray .int, 2) := by decide +kernel
theorem dX0_init_17 : decode cX0_init 17 = .ok (.putfield 15, 3) := by decide +kernel
theorem dX0_init_20 : decode cX0_init 20 = .ok (.aload_n 0, 1) := by decide +kernel
theorem dX0_init_21 : decode cX0_init 21 = .ok (.bipush 9, 2) := by decide +kernel
theorem dX0_init_23 : decode cX0_init 23 = .ok (.newarray .int, 2) := by decide +kernel
theorem dX0_init_25 : decode cX0_init 25 = .ok (.putfield 18, 3) := by decide +kernel
theorem dX0_init_28 : decode cX0_init 28 = .ok (.aload_n 0, 1) := by decide +kernel
theorem dX0_init_29 : decode cX0_init 29 = .ok (.iconst 3, 1) := by decide +kernel
theorem dX0_init_30 : decode cX0_init 30 = .ok (.newarray .int, 2) := by decide +kernel
theorem dX0_init_32 : decode cX0_init 32 = .ok (.putfield 21, 3) := by decide +kernel
theorem dX0_init_35 : decode cX0_init 35 = .ok (.aload_n 0, 1) := by decide +kernel
theorem dX0_init_36 : decode cX0_init 36 = .ok (.iconst 3, 1) := by decide +kernel
theorem dX0_init_37 : decode cX0_init 37 = .ok (.newarray .int, 2) := by decide +kernel
theorem dX0_init_39 : decode cX0_init 39 = .ok (.putfield 24, 3) := by decide +kernel
theorem dX0_init_42 : decode cX0_init 42 = .ok (.aload_n 0, 1) := by decide +kernel
theorem dX0_init_43 : decode cX0_init 43 = .ok (.iconst 0, 1) := by decide +kernel
theorem dX0_init_44 : decode cX0_init 44 = .ok (.putfield 27, 3) := by decide +kernel
theorem dX0_init_47 : decode cX0_init 47 = .ok (.aload_n 0, 1) := by decide +kernel
theorem dX0_init_48 : decode cX0_init 48 = .ok (.iconst 0, 1) := by decide +kernel
theorem dX0_init_49 : decode cX0_init 49 = .ok (.putfield 31, 3) := by decide +kernel
theorem dX0_init_52 : decode cX0_init 52 = .ok (.aload_n 0, 1) := by decide +kernel
theorem dX0_init_53 : decode cX0_init 53 = .ok (.iconst 0, 1) := by decide +kernel
theorem dX0_init_54 : decode cX0_init 54 = .ok (.putfield 34, 3) := by decide +kernel
theorem dX0_init_57 : decode cX0_init 57 = .ok (.aload_n 0, 1) := by decide +kernel
theorem dX0_init_58 : decode cX0_init 58 = .ok (.iconst 0, 1) := by decide +kernel
theorem dX0_init_59 : decode cX0_init 59 = .ok (.putfield 37, 3) := by decide +kernel
theorem dX0_init_62 : decode cX0_init 62 = .ok (.return_, 1) := by decide +kernel
theorem dX1_init_0 : decode cX1_init 0 = .ok (.aload_n 0, 1) := by decide +kernel
theorem dX1_init_1 : decode cX1_init 1 = .ok (.invokespecial 3, 3) := by decide +kernel
theorem dX1_init_4 : decode cX1_init 4 = .ok (.aload_n 0, 1) := by decide +kernel
theorem dX1_init_5 : decode cX1_init 5 = .ok (.lconst 1, 1) := by decide +kernel
theorem dX1_init_6 : decode cX1_init 6 = .ok (.putfield 9, 3) := by decide +kernel
theorem dX1_init_9 : decode cX1_init 9 = .ok (.aload_n 0, 1) := by decide +kernel
theorem dX1_init_10 : decode cX1_init 10 = .ok (.iconst 1, 1) := by decide +kernel
theorem dX1_init_11 : decode cX1_init 11 = .ok (.putfield 15, 3) := by decide +kernel
theorem dX1_init_14 : decode cX1_init 14 = .ok (.return_, 1) := by decide +kernel
theorem dX2_add_0 : decode cX2_add 0 = .ok (.aload_n 0, 1) := by decide +kernel
theorem dX2_add_1 : decode cX2_add 1 = .ok (.getfield 27, 3) := by decide +kernel
theorem dX2_add_4 : decode cX2_add 4 = .ok (.bipush 60, 2) := by decide +kernel
theorem dX2_add_6 : decode cX2_add 6 = .ok (.if_icmp .lt 4, 3) := by decide +kernel
theorem dX2_add_10 : decode cX2_add 10 = .ok (.aload_n 0, 1) := by decide +kernel
theorem dX2_add_11 : decode cX2_add 11 = .ok (.getfield 9, 3) := by decide +kernel
theorem dX2_add_14 : decode cX2_add 14 = .ok (.aload_n 0, 1) := by decide +kernel
theorem dX2_add_15 : decode cX2_add 15 = .ok (.getfield 27, 3) := by decide +kernel
theorem dX2_add_18 : decode cX2_add 18 = .ok (.iload_n 1, 1) := by decide +kernel
theorem dX2_add_19 : decode cX2_add 19 = .ok (.iastore, 1) := by decide +kernel
theorem dX2_add_20 : decode cX2_add 20 = .ok (.aload_n 0, 1) := by decide +kernel
theorem dX2_add_21 : decode cX2_add 21 = .ok (.getfield 15, 3) := by decide +kernel
theorem dX2_add_24 : decode cX2_add 24 = .ok (.aload_n 0, 1) := by decide +kernel
theorem dX2_add_25 : decode cX2_add 25 = .ok (.getfield 27, 3) := by decide +kernel
theorem dX2_add_28 : decode cX2_add 28 = .ok (.iload_n 2, 1) := by decide +kernel
theorem dX2_add_29 : decode cX2_add 29 = .ok (.iastore, 1) := by decide +kernel
theorem dX2_add_30 : decode cX2_add 30 = .ok (.aload_n 0, 1) := by decide +kernel
theorem dX2_add_31 : decode cX2_add 31 = .ok (.getfield 18, 3) := by decide +kernel
theorem dX2_add_34 : decode cX2_add 34 = .ok (.aload_n 0, 1) := by decide +kernel
theorem dX2_add_35 : decode cX2_add 35 = .ok (.getfield 27, 3) := by decide +kernel
theorem dX2_add_38 : decode cX2_add 38 = .ok (.iload_n 3, 1) := by decide +kernel
theorem dX2_add_39 : decode cX2_add 39 = .ok (.iastore, 1) := by decide +kernel
theorem dX2_add_40 : decode cX2_add 40 = .ok (.aload_n 0, 1) := by decide +kernel
theorem dX2_add_41 : decode cX2_add 41 = .ok (.getfield 21, 3) := by decide +kernel
theorem dX2_add_44 : decode cX2_add 44 = .ok (.aload_n 0, 1) := by decide +kernel
theorem dX2_add_45 : decode cX2_add 45 = .ok (.getfield 27, 3) := by decide +kernel
theorem dX2_add_48 : decode cX2_add 48 = .ok (.iload 4, 2) := by decide +kernel
theorem dX2_add_50 : decode cX2_add 50 = .ok (.iastore, 1) := by decide +kernel
theorem dX2_add_51 : decode cX2_add 51 = .ok (.aload_n 0, 1) := by decide +kernel
theorem dX2_add_52 : decode cX2_add 52 = .ok (.getfield 24, 3) := by decide +kernel
theorem dX2_add_55 : decode cX2_add 55 = .ok (.aload_n 0, 1) := by decide +kernel
theorem dX2_add_56 : decode cX2_add 56 = .ok (.getfield 27, 3) := by decide +kernel
theorem dX2_add_59 : decode cX2_add 59 = .ok (.iload 5, 2) := by decide +kernel
theorem dX2_add_61 : decode cX2_add 61 = .ok (.iastore, 1) := by decide +kernel
theorem dX2_add_62 : decode cX2_add 62 = .ok (.aload_n 0, 1) := by decide +kernel
theorem dX2_add_63 : decode cX2_add 63 = .ok (.dup, 1) := by decide +kernel
theorem dX2_add_64 : decode cX2_add 64 = .ok (.getfield 27, 3) := by decide +kernel
theorem dX2_add_67 : decode cX2_add 67 = .ok (.iconst 1, 1) := by decide +kernel
theorem dX2_add_68 : decode cX2_add 68 = .ok (.iadd, 1) := by decide +kernel
theorem dX2_add_69 : decode cX2_add 69 = .ok (.putfield 27, 3) := by decide +kernel
theorem dX2_add_72 : decode cX2_add 72 = .ok (.return_, 1) := by decide +kernel
theorem dX2_init_0 : decode cX2_init 0 = .ok (.aload_n 0, 1) := by decide +kernel
theorem dX2_init_1 : decode cX2_init 1 = .ok (.invokespecial 3, 3) := by decide +kernel
theorem dX2_init_4 : decode cX2_init 4 = .ok (.aload_n 0, 1) := by decide +kernel
theorem dX2_init_5 : decode cX2_init 5 = .ok (.bipush 60, 2) := by decide +kernel
theorem dX2_init_7 : decode cX2_init 7 = .ok (.newarray .int, 2) := by decide +kernel
theorem dX2_init_9 : decode cX2_init 9 = .ok (.putfield 9, 3) := by decide +kernel
theorem dX2_init_12 : decode cX2_init 12 = .ok (.aload_n 0, 1) := by decide +kernel
theorem dX2_init_13 : decode cX2_init 13 = .ok (.bipush 60, 2) := by decide +kernel
theorem dX2_init_15 : decode cX2_init 15 = .ok (.newarray .int, 2) := by decide +kernel
theorem dX2_init_17 : decode cX2_init 17 = .ok (.putfield 15, 3) := by decide +kernel
theorem dX2_init_20 : decode cX2_init 20 = .ok (.aload_n 0, 1) := by decide +kernel
theorem dX2_init_21 : decode cX2_init 21 = .ok (.bipush 60, 2) := by decide +kernel
theorem dX2_init_23 : decode cX2_init 23 = .ok (.newarray .int, 2) := by decide +kernel
theorem dX2_init_25 : decode cX2_init 25 = .ok (.putfield 18, 3) := by decide +kernel
theorem dX2_init_28 : decode cX2_init 28 = .ok (.aload_n 0, 1) := by decide +kernel
theorem dX2_init_29 : decode cX2_init 29 = .ok (.bipush 60, 2) := by decide +kernel
theorem dX2_init_31 : decode cX2_init 31 = .ok (.newarray .int, 2) := by decide +kernel
theorem dX2_init_33 : decode cX2_init 33 = .ok (.putfield 21, 3) := by decide +kernel
theorem dX2_init_36 : decode cX2_init 36 = .ok (.aload_n 0, 1) := by decide +kernel
theorem dX2_init_37 : decode cX2_init 37 = .ok (.bipush 60, 2) := by decide +kernel
theorem dX2_init_39 : decode cX2_init 39 = .ok (.newarray .int, 2) := by decide +kernel
theorem dX2_init_41 : decode cX2_init 41 = .ok (.putfield 24, 3) := by decide +kernel
theorem dX2_init_44 : decode cX2_init 44 = .ok (.aload_n 0, 1) := by decide +kernel
theorem dX2_init_45 : decode cX2_init 45 = .ok (.iconst 0, 1) := by decide +kernel
theorem dX2_init_46 : decode cX2_init 46 = .ok (.putfield 27, 3) := by decide +kernel
theorem dX2_init_49 : decode cX2_init 49 = .ok (.return_, 1) := by decide +kernel
theorem dX3_init_0 : decode cX3_init 0 = .ok (.aload_n 0, 1) := by decide +kernel
theorem dX3_init_1 : decode cX3_init 1 = .ok (.invokespecial 3, 3) := by decide +kernel
theorem dX3_init_4 : decode cX3_init 4 = .ok (.aload_n 0, 1) := by decide +kernel
theorem dX3_init_5 : decode cX3_init 5 = .ok (.bipush 60, 2) := by decide +kernel
theorem dX3_init_7 : decode cX3_init 7 = .ok (.newarray .int, 2) := by decide +kernel
theorem dX3_init_9 : decode cX3_init 9 = .ok (.putfield 9, 3) := by decide +kernel
theorem dX3_init_12 : decode cX3_init 12 = .ok (.aload_n 0, 1) := by decide +kernel
theorem dX3_init_13 : decode cX3_init 13 = .ok (.bipush 60, 2) := by decide +kernel
theorem dX3_init_15 : decode cX3_init 15 = .ok (.newarray .int, 2) := by decide +kernel
theorem dX3_init_17 : decode cX3_init 17 = .ok (.putfield 15, 3) := by decide +kernel
theorem dX3_init_20 : decode cX3_init 20 = .ok (.aload_n 0, 1) := by decide +kernel
theorem dX3_init_21 : decode cX3_init 21 = .ok (.bipush 60, 2) := by decide +kernel
theorem dX3_init_23 : decode cX3_init 23 = .ok (.newarray .int, 2) := by decide +kernel
theorem dX3_init_25 : decode cX3_init 25 = .ok (.putfield 18, 3) := by decide +kernel
theorem dX3_init_28 : decode cX3_init 28 = .ok (.aload_n 0, 1) := by decide +kernel
theorem dX3_init_29 : decode cX3_init 29 = .ok (.iconst 0, 1) := by decide +kernel
theorem dX3_init_30 : decode cX3_init 30 = .ok (.putfield 21, 3) := by decide +kernel
theorem dX3_init_33 : decode cX3_init 33 = .ok (.return_, 1) := by decide +kernel
theorem dX4_init_0 : decode cX4_init 0 = .ok (.aload_n 0, 1) := by decide +kernel
theorem dX4_init_1 : decode cX4_init 1 = .ok (.invokespecial 3, 3) := by decide +kernel
theorem dX4_init_4 : decode cX4_init 4 = .ok (.aload_n 0, 1) := by decide +kernel
theorem dX4_init_5 : decode cX4_init 5 = .ok (.bipush 120, 2) := by decide +kernel
theorem dX4_init_7 : decode cX4_init 7 = .ok (.newarray .int, 2) := by decide +kernel
theorem dX4_init_9 : decode cX4_init 9 = .ok (.putfield 9, 3) := by decide +kernel
theorem dX4_init_12 : decode cX4_init 12 = .ok (.aload_n 0, 1) := by decide +kernel
theorem dX4_init_13 : decode cX4_init 13 = .ok (.bipush 120, 2) := by decide +kernel
theorem dX4_init_15 : decode cX4_init 15 = .ok (.newarray .int, 2) := by decide +kernel
theorem dX4_init_17 : decode cX4_init 17 = .ok (.putfield 15, 3) := by decide +kernel
theorem dX4_init_20 : decode cX4_init 20 = .ok (.aload_n 0, 1) := by decide +kernel
theorem dX4_init_21 : decode cX4_init 21 = .ok (.bipush 120, 2) := by decide +kernel
theorem dX4_init_23 : decode cX4_init 23 = .ok (.newarray .int, 2) := by decide +kernel
theorem dX4_init_25 : decode cX4_init 25 = .ok (.putfield 18, 3) := by decide +kernel
theorem dX4_init_28 : decode cX4_init 28 = .ok (.aload_n 0, 1) := by decide +kernel
theorem dX4_init_29 : decode cX4_init 29 = .ok (.iconst 0, 1) := by decide +kernel
theorem dX4_init_30 : decode cX4_init 30 = .ok (.putfield 21, 3) := by decide +kernel
theorem dX4_init_33 : decode cX4_init 33 = .ok (.return_, 1) := by decide +kernel
theorem dX5_init_0 : decode cX5_init 0 = .ok (.aload_n 0, 1) := by decide +kernel
theorem dX5_init_1 : decode cX5_init 1 = .ok (.invokespecial 3, 3) := by decide +kernel
theorem dX5_init_4 : decode cX5_init 4 = .ok (.aload_n 0, 1) := by decide +kernel
theorem dX5_init_5 : decode cX5_init 5 = .ok (.iconst 3, 1) := by decide +kernel
theorem dX5_init_6 : decode cX5_init 6 = .ok (.newarray .int, 2) := by decide +kernel
theorem dX5_init_8 : decode cX5_init 8 = .ok (.putfield 9, 3) := by decide +kernel
theorem dX5_init_11 : decode cX5_init 11 = .ok (.aload_n 0, 1) := by decide +kernel
theorem dX5_init_12 : decode cX5_init 12 = .ok (.iconst 3, 1) := by decide +kernel
theorem dX5_init_13 : decode cX5_init 13 = .ok (.newarray .int, 2) := by decide +kernel
theorem dX5_init_15 : decode cX5_init 15 = .ok (.putfield 15, 3) := by decide +kernel
theorem dX5_init_18 : decode cX5_init 18 = .ok (.aload_n 0, 1) := by decide +kernel
theorem dX5_init_19 : decode cX5_init 19 = .ok (.iconst 3, 1) := by decide +kernel
theorem dX5_init_20 : decode cX5_init 20 = .ok (.newarray .int, 2) := by decide +kernel
theorem dX5_init_22 : decode cX5_init 22 = .ok (.putfield 18, 3) := by decide +kernel
theorem dX5_init_25 : decode cX5_init 25 = .ok (.aload_n 0, 1) := by decide +kernel
theorem dX5_init_26 : decode cX5_init 26 = .ok (.iconst 3, 1) := by decide +kernel
theorem dX5_init_27 : decode cX5_init 27 = .ok (.newarray .int, 2) := by decide +kernel
theorem dX5_init_29 : decode cX5_init 29 = .ok (.putfield 21, 3) := by decide +kernel
theorem dX5_init_32 : decode cX5_init 32 = .ok (.aload_n 0, 1) := by decide +kernel
theorem dX5_init_33 : decode cX5_init 33 = .ok (.iconst 3, 1) := by decide +kernel
theorem dX5_init_34 : decode cX5_init 34 = .ok (.newarray .int, 2) := by decide +kernel
theorem dX5_init_36 : decode cX5_init 36 = .ok (.putfield 24, 3) := by decide +kernel
theorem dX5_init_39 : decode cX5_init 39 = .ok (.aload_n 0, 1) := by decide +kernel
theorem dX5_init_40 : decode cX5_init 40 = .ok (.bipush 40, 2) := by decide +kernel
theorem dX5_init_42 : decode cX5_init 42 = .ok (.newarray .int, 2) := by decide +kernel
theorem dX5_init_44 : decode cX5_init 44 = .ok (.putfield 27, 3) := by decide +kernel
theorem dX5_init_47 : decode cX5_init 47 = .ok (.aload_n 0, 1) := by decide +kernel
theorem dX5_init_48 : decode cX5_init 48 = .ok (.bipush 120, 2) := by decide +kernel
theorem dX5_init_50 : decode cX5_init 50 = .ok (.newarray .int, 2) := by decide +kernel
theorem dX5_init_52 : decode cX5_init 52 = .ok (.putfield 30, 3) := by decide +kernel
theorem dX5_init_55 : decode cX5_init 55 = .ok (.aload_n 0, 1) := by decide +kernel
theorem dX5_init_56 : decode cX5_init 56 = .ok (.iconst 0, 1) := by decide +kernel
theorem dX5_init_57 : decode cX5_init 57 = .ok (.putfield 33, 3) := by decide +kernel
theorem dX5_init_60 : decode cX5_init 60 = .ok (.aload_n 0, 1) := by decide +kernel
theorem dX5_init_61 : decode cX5_init 61 = .ok (.iconst 0, 1) := by decide +kernel
theorem dX5_init_62 : decode cX5_init 62 = .ok (.putfield 37, 3) := by decide +kernel
theorem dX5_init_65 : decode cX5_init 65 = .ok (.aload_n 0, 1) := by decide +kernel
theorem dX5_init_66 : decode cX5_init 66 = .ok (.iconst 0, 1) := by decide +kernel
theorem dX5_init_67 : decode cX5_init 67 = .ok (.putfield 40, 3) := by decide +kernel
theorem dX5_init_70 : decode cX5_init 70 = .ok (.aload_n 0, 1) := by decide +kernel
theorem dX5_init_71 : decode cX5_init 71 = .ok (.iconst 0, 1) := by decide +kernel
theorem dX5_init_72 : decode cX5_init 72 = .ok (.putfield 43, 3) := by decide +kernel
theorem dX5_init_75 : decode cX5_init 75 = .ok (.return_, 1) := by decide +kernel
theorem dX5_mayBeSighted_0 : decode cX5_mayBeSighted 0 = .ok (.aload_n 0, 1) := by decide +kernel
theorem dX5_mayBeSighted_1 : decode cX5_mayBeSighted 1 = .ok (.getfield 37, 3) := by decide +kernel
theorem dX5_mayBeSighted_4 : decode cX5_mayBeSighted 4 = .ok (.ifCond .ne 5, 3) := by decide +kernel
theorem dX5_mayBeSighted_7 : decode cX5_mayBeSighted 7 = .ok (.iconst 1, 1) := by decide +kernel
theorem dX5_mayBeSighted_8 : decode cX5_mayBeSighted 8 = .ok (.ireturn, 1) := by decide +kernel
theorem dX6_add_0 : decode cX6_add 0 = .ok (.aload_n 0, 1) := by decide +kernel
theorem dX6_add_1 : decode cX6_add 1 = .ok (.getfield 15, 3) := by decide +kernel
theorem dX6_add_4 : decode cX6_add 4 = .ok (.bipush 120, 2) := by decide +kernel
theorem dX6_add_6 : decode cX6_add 6 = .ok (.if_icmp .ge 23, 3) := by decide +kernel
theorem dX6_add_9 : decode cX6_add 9 = .ok (.aload_n 0, 1) := by decide +kernel
theorem dX6_add_10 : decode cX6_add 10 = .ok (.getfield 9, 3) := by decide +kernel
theorem dX6_add_13 : decode cX6_add 13 = .ok (.aload_n 0, 1) := by decide +kernel
theorem dX6_add_14 : decode cX6_add 14 = .ok (.getfield 15, 3) := by decide +kernel
theorem dX6_add_17 : decode cX6_add 17 = .ok (.iload_n 1, 1) := by decide +kernel
theorem dX6_add_18 : decode cX6_add 18 = .ok (.iastore, 1) := by decide +kernel
theorem dX6_add_19 : decode cX6_add 19 = .ok (.aload_n 0, 1) := by decide +kernel
theorem dX6_add_20 : decode cX6_add 20 = .ok (.dup, 1) := by decide +kernel
theorem dX6_add_21 : decode cX6_add 21 = .ok (.getfield 15, 3) := by decide +kernel
theorem dX6_add_24 : decode cX6_add 24 = .ok (.iconst 1, 1) := by decide +kernel
theorem dX6_add_25 : decode cX6_add 25 = .ok (.iadd, 1) := by decide +kernel
theorem dX6_add_26 : decode cX6_add 26 = .ok (.putfield 15, 3) := by decide +kernel
theorem dX6_add_29 : decode cX6_add 29 = .ok (.return_, 1) := by decide +kernel
theorem dX6_goOn_0 : decode cX6_goOn 0 = .ok (.aload_n 0, 1) := by decide +kernel
theorem dX6_goOn_1 : decode cX6_goOn 1 = .ok (.getfield 32, 3) := by decide +kernel
theorem dX6_goOn_4 : decode cX6_goOn 4 = .ok (.aload_n 0, 1) := by decide +kernel
theorem dX6_goOn_5 : decode cX6_goOn 5 = .ok (.getfield 15, 3) := by decide +kernel
theorem dX6_goOn_8 : decode cX6_goOn 8 = .ok (.if_icmp .ge 30, 3) := by decide +kernel
theorem dX6_goOn_38 : decode cX6_goOn 38 = .ok (.aload_n 0, 1) := by decide +kernel
theorem dX6_goOn_39 : decode cX6_goOn 39 = .ok (.aload_n 0, 1) := by decide +kernel
theorem dX6_goOn_40 : decode cX6_goOn 40 = .ok (.getfield 32, 3) := by decide +kernel
theorem dX6_goOn_43 : decode cX6_goOn 43 = .ok (.putfield 38, 3) := by decide +kernel
theorem dX6_goOn_46 : decode cX6_goOn 46 = .ok (.aload_n 0, 1) := by decide +kernel
theorem dX6_goOn_47 : decode cX6_goOn 47 = .ok (.getfield 32, 3) := by decide +kernel
theorem dX6_goOn_50 : decode cX6_goOn 50 = .ok (.aload_n 0, 1) := by decide +kernel
theorem dX6_goOn_51 : decode cX6_goOn 51 = .ok (.getfield 15, 3) := by decide +kernel
theorem dX6_goOn_54 : decode cX6_goOn 54 = .ok (.if_icmp .lt 11, 3) := by decide +kernel
theorem dX6_goOn_57 : decode cX6_goOn 57 = .ok (.aload_n 0, 1) := by decide +kernel
theorem dX6_goOn_58 : decode cX6_goOn 58 = .ok (.iconst 0, 1) := by decide +kernel
theorem dX6_goOn_59 : decode cX6_goOn 59 = .ok (.putfield 35, 3) := by decide +kernel
theorem dX6_goOn_62 : decode cX6_goOn 62 = .ok (.goto 89, 3) := by decide +kernel
theorem dX6_goOn_151 : decode cX6_goOn 151 = .ok (.return_, 1) := by decide +kernel
theorem dX6_init_0 : decode cX6_init 0 = .ok (.aload_n 0, 1) := by decide +kernel
theorem dX6_init_1 : decode cX6_init 1 = .ok (.invokespecial 3, 3) := by decide +kernel
theorem dX6_init_4 : decode cX6_init 4 = .ok (.aload_n 0, 1) := by decide +kernel
theorem dX6_init_5 : decode cX6_init 5 = .ok (.bipush 120, 2) := by decide +kernel
theorem dX6_init_7 : decode cX6_init 7 = .ok (.newarray .int, 2) := by decide +kernel
theorem dX6_init_9 : decode cX6_init 9 = .ok (.putfield 9, 3) := by decide +kernel
theorem dX6_init_12 : decode cX6_init 12 = .ok (.aload_n 0, 1) := by decide +kernel
theorem dX6_init_13 : decode cX6_init 13 = .ok (.iconst 0, 1) := by decide +kernel
theorem dX6_init_14 : decode cX6_init 14 = .ok (.putfield 15, 3) := by decide +kernel
theorem dX6_init_17 : decode cX6_init 17 = .ok (.aload_n 0, 1) := by decide +kernel
theorem dX6_init_18 : decode cX6_init 18 = .ok (.new 19, 3) := by decide +kernel
theorem dX6_init_21 : decode cX6_init 21 = .ok (.dup, 1) := by decide +kernel
theorem dX6_init_22 : decode cX6_init 22 = .ok (.invokespecial 21, 3) := by decide +kernel
theorem dX6_init_25 : decode cX6_init 25 = .ok (.putfield 22, 3) := by decide +kernel
theorem dX6_init_28 : decode cX6_init 28 = .ok (.aload_n 0, 1) := by decide +kernel
theorem dX6_init_29 : decode cX6_init 29 = .ok (.ldc 26, 2) := by decide +kernel
theorem dX6_init_31 : decode cX6_init 31 = .ok (.putfield 28, 3) := by decide +kernel
theorem dX6_init_34 : decode cX6_init 34 = .ok (.aload_n 0, 1) := by decide +kernel
theorem dX6_init_35 : decode cX6_init 35 = .ok (.iconst 0, 1) := by decide +kernel
theorem dX6_init_36 : decode cX6_init 36 = .ok (.putfield 32, 3) := by decide +kernel
theorem dX6_init_39 : decode cX6_init 39 = .ok (.aload_n 0, 1) := by decide +kernel
theorem dX6_init_40 : decode cX6_init 40 = .ok (.iconst 0, 1) := by decide +kernel
theorem dX6_init_41 : decode cX6_init 41 = .ok (.putfield 35, 3) := by decide +kernel
theorem dX6_init_44 : decode cX6_init 44 = .ok (.aload_n 0, 1) := by decide +kernel
theorem dX6_init_45 : decode cX6_init 45 = .ok (.iconst 0, 1) := by decide +kernel
theorem dX6_init_46 : decode cX6_init 46 = .ok (.putfield 38, 3) := by decide +kernel
theorem dX6_init_49 : decode cX6_init 49 = .ok (.aload_n 0, 1) := by decide +kernel
theorem dX6_init_50 : decode cX6_init 50 = .ok (.iconst 0, 1) := by decide +kernel
theorem dX6_init_51 : decode cX6_init 51 = .ok (.putfield 41, 3) := by decide +kernel
theorem dX6_init_54 : decode cX6_init 54 = .ok (.return_, 1) := by decide +kernel
theorem dX6_readAsRule_0 : decode cX6_readAsRule 0 = .ok (.aload_n 0, 1) := by decide +kernel
theorem dX6_readAsRule_1 : decode cX6_readAsRule 1 = .ok (.aload_n 1, 1) := by decide +kernel
theorem dX6_readAsRule_2 : decode cX6_readAsRule 2 = .ok (.putfield 28, 3) := by decide +kernel
theorem dX6_readAsRule_5 : decode cX6_readAsRule 5 = .ok (.aload_n 0, 1) := by decide +kernel
theorem dX6_readAsRule_6 : decode cX6_readAsRule 6 = .ok (.getfield 22, 3) := by decide +kernel
theorem dX6_readAsRule_9 : decode cX6_readAsRule 9 = .ok (.iconst 0, 1) := by decide +kernel
theorem dX6_readAsRule_10 : decode cX6_readAsRule 10 = .ok (.putfield 44, 3) := by decide +kernel
theorem dX6_readAsRule_13 : decode cX6_readAsRule 13 = .ok (.aload_n 0, 1) := by decide +kernel
theorem dX6_readAsRule_14 : decode cX6_readAsRule 14 = .ok (.iconst 0, 1) := by decide +kernel
theorem dX6_readAsRule_15 : decode cX6_readAsRule 15 = .ok (.putfield 32, 3) := by decide +kernel
theorem dX6_readAsRule_18 : decode cX6_readAsRule 18 = .ok (.aload_n 0, 1) := by decide +kernel
theorem dX6_readAsRule_19 : decode cX6_readAsRule 19 = .ok (.invokevirtual 45, 3) := by decide +kernel
theorem dX6_readAsRule_22 : decode cX6_readAsRule 22 = .ok (.aload_n 0, 1) := by decide +kernel
theorem dX6_readAsRule_23 : decode cX6_readAsRule 23 = .ok (.iconst 0, 1) := by decide +kernel
theorem dX6_readAsRule_24 : decode cX6_readAsRule 24 = .ok (.invokevirtual 48, 3) := by decide +kernel
theorem dX6_readAsRule_27 : decode cX6_readAsRule 27 = .ok (.istore_n 2, 1) := by decide +kernel
theorem dX6_readAsRule_28 : decode cX6_readAsRule 28 = .ok (.iload_n 2, 1) := by decide +kernel
theorem dX6_readAsRule_29 : decode cX6_readAsRule 29 = .ok (.ifCond .eq 14, 3) := by decide +kernel
theorem dX6_readAsRule_43 : decode cX6_readAsRule 43 = .ok (.aload_n 0, 1) := by decide +kernel
theorem dX6_readAsRule_44 : decode cX6_readAsRule 44 = .ok (.getfield 38, 3) := by decide +kernel
theorem dX6_readAsRule_47 : decode cX6_readAsRule 47 = .ok (.ireturn, 1) := by decide +kernel
theorem dX6_readBoth_0 : decode cX6_readBoth 0 = .ok (.aload_n 0, 1) := by decide +kernel
theorem dX6_readBoth_1 : decode cX6_readBoth 1 = .ok (.iload_n 1, 1) := by decide +kernel
theorem dX6_readBoth_2 : decode cX6_readBoth 2 = .ok (.invokevirtual 59, 3) := by decide +kernel
theorem dX6_readBoth_5 : decode cX6_readBoth 5 = .ok (.istore_n 2, 1) := by decide +kernel
theorem dX6_readBoth_6 : decode cX6_readBoth 6 = .ok (.iconst 0, 1) := by decide +kernel
theorem dX6_readBoth_7 : decode cX6_readBoth 7 = .ok (.istore_n 3, 1) := by decide +kernel
theorem dX6_readBoth_8 : decode cX6_readBoth 8 = .ok (.iload_n 3, 1) := by decide +kernel
theorem dX6_readBoth_9 : decode cX6_readBoth 9 = .ok (.bipush 120, 2) := by decide +kernel
theorem dX6_readBoth_11 : decode cX6_readBoth 11 = .ok (.if_icmp .ge 40, 3) := by decide +kernel
theorem dX6_readBoth_14 : decode cX6_readBoth 14 = .ok (.iload_n 2, 1) := by decide +kernel
theorem dX6_readBoth_15 : decode cX6_readBoth 15 = .ok (.ifCond .eq 36, 3) := by decide +kernel
theorem dX6_readBoth_51 : decode cX6_readBoth 51 = .ok (.iload_n 2, 1) := by decide +kernel
theorem dX6_readBoth_52 : decode cX6_readBoth 52 = .ok (.ireturn, 1) := by decide +kernel
theorem dX6_readComparison_0 : decode cX6_readComparison 0 = .ok (.aload_n 0, 1) := by decide +kernel
theorem dX6_readComparison_1 : decode cX6_readComparison 1 = .ok (.iload_n 1, 1) := by decide +kernel
theorem dX6_readComparison_2 : decode cX6_readComparison 2 = .ok (.invokevirtual 65, 3) := by decide +kernel
theorem dX6_readComparison_5 : decode cX6_readComparison 5 = .ok (.istore_n 2, 1) := by decide +kernel
theorem dX6_readComparison_6 : decode cX6_readComparison 6 = .ok (.iload_n 2, 1) := by decide +kernel
theorem dX6_readComparison_7 : decode cX6_readComparison 7 = .ok (.ifCond .eq 54, 3) := by decide +kernel
theorem dX6_readComparison_61 : decode cX6_readComparison 61 = .ok (.iload_n 2, 1) := by decide +kernel
theorem dX6_readComparison_62 : decode cX6_readComparison 62 = .ok (.ireturn, 1) := by decide +kernel
theorem dX6_readEither_0 : decode cX6_readEither 0 = .ok (.aload_n 0, 1) := by decide +kernel
theorem dX6_readEither_1 : decode cX6_readEither 1 = .ok (.iload_n 1, 1) := by decide +kernel
theorem dX6_readEither_2 : decode cX6_readEither 2 = .ok (.invokevirtual 52, 3) := by decide +kernel
theorem dX6_readEither_5 : decode cX6_readEither 5 = .ok (.istore_n 2, 1) := by decide +kernel
theorem dX6_readEither_6 : decode cX6_readEither 6 = .ok (.iconst 0, 1) := by decide +kernel
theorem dX6_readEither_7 : decode cX6_readEither 7 = .ok (.istore_n 3, 1) := by decide +kernel
theorem dX6_readEither_8 : decode cX6_readEither 8 = .ok (.iload_n 3, 1) := by decide +kernel
theorem dX6_readEither_9 : decode cX6_readEither 9 = .ok (.bipush 120, 2) := by decide +kernel
theorem dX6_readEither_11 : decode cX6_readEither 11 = .ok (.if_icmp .ge 40, 3) := by decide +kernel
theorem dX6_readEither_14 : decode cX6_readEither 14 = .ok (.iload_n 2, 1) := by decide +kernel
theorem dX6_readEither_15 : decode cX6_readEither 15 = .ok (.ifCond .eq 36, 3) := by decide +kernel
theorem dX6_readEither_51 : decode cX6_readEither 51 = .ok (.iload_n 2, 1) := by decide +kernel
theorem dX6_readEither_52 : decode cX6_readEither 52 = .ok (.ireturn, 1) := by decide +kernel
theorem dX6_readNegation_0 : decode cX6_readNegation 0 = .ok (.aload_n 0, 1) := by decide +kernel
theorem dX6_readNegation_1 : decode cX6_readNegation 1 = .ok (.getfield 35, 3) := by decide +kernel
theorem dX6_readNegation_4 : decode cX6_readNegation 4 = .ok (.bipush 6, 2) := by decide +kernel
theorem dX6_readNegation_6 : decode cX6_readNegation 6 = .ok (.if_icmp .eq 9, 3) := by decide +kernel
theorem dX6_readNegation_9 : decode cX6_readNegation 9 = .ok (.aload_n 0, 1) := by decide +kernel
theorem dX6_readNegation_10 : decode cX6_readNegation 10 = .ok (.iload_n 1, 1) := by decide +kernel
theorem dX6_readNegation_11 : decode cX6_readNegation 11 = .ok (.invokevirtual 62, 3) := by decide +kernel
theorem dX6_readNegation_14 : decode cX6_readNegation 14 = .ok (.ireturn, 1) := by decide +kernel
theorem dX6_readOperand_0 : decode cX6_readOperand 0 = .ok (.aload_n 0, 1) := by decide +kernel
theorem dX6_readOperand_1 : decode cX6_readOperand 1 = .ok (.getfield 35, 3) := by decide +kernel
theorem dX6_readOperand_4 : decode cX6_readOperand 4 = .ok (.iconst 2, 1) := by decide +kernel
theorem dX6_readOperand_5 : decode cX6_readOperand 5 = .ok (.if_icmp .eq 11, 3) := by decide +kernel
theorem dX6_readOperand_8 : decode cX6_readOperand 8 = .ok (.aload_n 0, 1) := by decide +kernel
theorem dX6_readOperand_9 : decode cX6_readOperand 9 = .ok (.getfield 35, 3) := by decide +kernel
theorem dX6_readOperand_12 : decode cX6_readOperand 12 = .ok (.iconst 3, 1) := by decide +kernel
theorem dX6_readOperand_13 : decode cX6_readOperand 13 = .ok (.if_icmp .ne 24, 3) := by decide +kernel
theorem dX6_readOperand_37 : decode cX6_readOperand 37 = .ok (.aload_n 0, 1) := by decide +kernel
theorem dX6_readOperand_38 : decode cX6_readOperand 38 = .ok (.getfield 35, 3) := by decide +kernel
theorem dX6_readOperand_41 : decode cX6_readOperand 41 = .ok (.bipush 40, 2) := by decide +kernel
theorem dX6_readOperand_43 : decode cX6_readOperand 43 = .ok (.if_icmp .eq 21, 3) := by decide +kernel
theorem dX6_readOperand_46 : decode cX6_readOperand 46 = .ok (.aload_n 0, 1) := by decide +kernel
theorem dX6_readOperand_47 : decode cX6_readOperand 47 = .ok (.getfield 35, 3) := by decide +kernel
theorem dX6_readOperand_50 : decode cX6_readOperand 50 = .ok (.bipush 7, 2) := by decide +kernel
theorem dX6_readOperand_52 : decode cX6_readOperand 52 = .ok (.if_icmp .eq 12, 3) := by decide +kernel
theorem dX6_readOperand_55 : decode cX6_readOperand 55 = .ok (.aload_n 0, 1) := by decide +kernel
theorem dX6_readOperand_56 : decode cX6_readOperand 56 = .ok (.getfield 35, 3) := by decide +kernel
theorem dX6_readOperand_59 : decode cX6_readOperand 59 = .ok (.bipush 45, 2) := by decide +kernel
theorem dX6_readOperand_61 : decode cX6_readOperand 61 = .ok (.if_icmp .ne 9, 3) := by decide +kernel
theorem dX6_readOperand_70 : decode cX6_readOperand 70 = .ok (.iconst 0, 1) := by decide +kernel
theorem dX6_readOperand_71 : decode cX6_readOperand 71 = .ok (.ireturn, 1) := by decide +kernel
theorem dX6_readProduct_0 : decode cX6_readProduct 0 = .ok (.aload_n 0, 1) := by decide +kernel
theorem dX6_readProduct_1 : decode cX6_readProduct 1 = .ok (.iload_n 1, 1) := by decide +kernel
theorem dX6_readProduct_2 : decode cX6_readProduct 2 = .ok (.invokevirtual 71, 3) := by decide +kernel
theorem dX6_readProduct_5 : decode cX6_readProduct 5 = .ok (.istore_n 2, 1) := by decide +kernel
theorem dX6_readProduct_6 : decode cX6_readProduct 6 = .ok (.iconst 0, 1) := by decide +kernel
theorem dX6_readProduct_7 : decode cX6_readProduct 7 = .ok (.istore_n 3, 1) := by decide +kernel
theorem dX6_readProduct_8 : decode cX6_readProduct 8 = .ok (.iload_n 3, 1) := by decide +kernel
theorem dX6_readProduct_9 : decode cX6_readProduct 9 = .ok (.bipush 120, 2) := by decide +kernel
theorem dX6_readProduct_11 : decode cX6_readProduct 11 = .ok (.if_icmp .ge 57, 3) := by decide +kernel
theorem dX6_readProduct_14 : decode cX6_readProduct 14 = .ok (.iload_n 2, 1) := by decide +kernel
theorem dX6_readProduct_15 : decode cX6_readProduct 15 = .ok (.ifCond .eq 53, 3) := by decide +kernel
theorem dX6_readProduct_68 : decode cX6_readProduct 68 = .ok (.iload_n 2, 1) := by decide +kernel
theorem dX6_readProduct_69 : decode cX6_readProduct 69 = .ok (.ireturn, 1) := by decide +kernel
theorem dX6_readSum_0 : decode cX6_readSum 0 = .ok (.aload_n 0, 1) := by decide +kernel
theorem dX6_readSum_1 : decode cX6_readSum 1 = .ok (.iload_n 1, 1) := by decide +kernel
theorem dX6_readSum_2 : decode cX6_readSum 2 = .ok (.invokevirtual 68, 3) := by decide +kernel
theorem dX6_readSum_5 : decode cX6_readSum 5 = .ok (.istore_n 2, 1) := by decide +kernel
theorem dX6_readSum_6 : decode cX6_readSum 6 = .ok (.iconst 0, 1) := by decide +kernel
theorem dX6_readSum_7 : decode cX6_readSum 7 = .ok (.istore_n 3, 1) := by decide +kernel
theorem dX6_readSum_8 : decode cX6_readSum 8 = .ok (.iload_n 3, 1) := by decide +kernel
theorem dX6_readSum_9 : decode cX6_readSum 9 = .ok (.bipush 120, 2) := by decide +kernel
theorem dX6_readSum_11 : decode cX6_readSum 11 = .ok (.if_icmp .ge 57, 3) := by decide +kernel
theorem dX6_readSum_14 : decode cX6_readSum 14 = .ok (.iload_n 2, 1) := by decide +kernel
theorem dX6_readSum_15 : decode cX6_readSum 15 = .ok (.ifCond .eq 53, 3) := by decide +kernel
theorem dX6_readSum_68 : decode cX6_readSum 68 = .ok (.iload_n 2, 1) := by decide +kernel
theorem dX6_readSum_69 : decode cX6_readSum 69 = .ok (.ireturn, 1) := by decide +kernel
theorem dX7_becomeNew_0 : decode cX7_becomeNew 0 = .ok (.iconst 0, 1) := by decide +kernel
theorem dX7_becomeNew_1 : decode cX7_becomeNew 1 = .ok (.istore_n 1, 1) := by decide +kernel
theorem dX7_becomeNew_2 : decode cX7_becomeNew 2 = .ok (.iload_n 1, 1) := by decide +kernel
theorem dX7_becomeNew_3 : decode cX7_becomeNew 3 = .ok (.sipush 400, 3) := by decide +kernel
theorem dX7_becomeNew_6 : decode cX7_becomeNew 6 = .ok (.if_icmp .ge 37, 3) := by decide +kernel
theorem dX7_becomeNew_9 : decode cX7_becomeNew 9 = .ok (.aload_n 0, 1) := by decide +kernel
theorem dX7_becomeNew_10 : decode cX7_becomeNew 10 = .ok (.getfield 9, 3) := by decide +kernel
theorem dX7_becomeNew_13 : decode cX7_becomeNew 13 = .ok (.iload_n 1, 1) := by decide +kernel
theorem dX7_becomeNew_14 : decode cX7_becomeNew 14 = .ok (.iconst 0, 1) := by decide +kernel
theorem dX7_becomeNew_15 : decode cX7_becomeNew 15 = .ok (.iastore, 1) := by decide +kernel
theorem dX7_becomeNew_16 : decode cX7_becomeNew 16 = .ok (.aload_n 0, 1) := by decide +kernel
theorem dX7_becomeNew_17 : decode cX7_becomeNew 17 = .ok (.getfield 15, 3) := by decide +kernel
theorem dX7_becomeNew_20 : decode cX7_becomeNew 20 = .ok (.iload_n 1, 1) := by decide +kernel
theorem dX7_becomeNew_21 : decode cX7_becomeNew 21 = .ok (.iconst (-1), 1) := by decide +kernel
theorem dX7_becomeNew_22 : decode cX7_becomeNew 22 = .ok (.iastore, 1) := by decide +kernel
theorem dX7_becomeNew_23 : decode cX7_becomeNew 23 = .ok (.aload_n 0, 1) := by decide +kernel
theorem dX7_becomeNew_24 : decode cX7_becomeNew 24 = .ok (.getfield 18, 3) := by decide +kernel
theorem dX7_becomeNew_27 : decode cX7_becomeNew 27 = .ok (.iload_n 1, 1) := by decide +kernel
theorem dX7_becomeNew_28 : decode cX7_becomeNew 28 = .ok (.iconst 0, 1) := by decide +kernel
theorem dX7_becomeNew_29 : decode cX7_becomeNew 29 = .ok (.iastore, 1) := by decide +kernel
theorem dX7_becomeNew_30 : decode cX7_becomeNew 30 = .ok (.aload_n 0, 1) := by decide +kernel
theorem dX7_becomeNew_31 : decode cX7_becomeNew 31 = .ok (.getfield 21, 3) := by decide +kernel
theorem dX7_becomeNew_34 : decode cX7_becomeNew 34 = .ok (.iload_n 1, 1) := by decide +kernel
theorem dX7_becomeNew_35 : decode cX7_becomeNew 35 = .ok (.iconst (-1), 1) := by decide +kernel
theorem dX7_becomeNew_36 : decode cX7_becomeNew 36 = .ok (.iastore, 1) := by decide +kernel
theorem dX7_becomeNew_37 : decode cX7_becomeNew 37 = .ok (.iinc 1 1, 3) := by decide +kernel
theorem dX7_becomeNew_40 : decode cX7_becomeNew 40 = .ok (.goto (-38), 3) := by decide +kernel
theorem dX7_becomeNew_43 : decode cX7_becomeNew 43 = .ok (.return_, 1) := by decide +kernel
theorem dX7_init_0 : decode cX7_init 0 = .ok (.aload_n 0, 1) := by decide +kernel
theorem dX7_init_1 : decode cX7_init 1 = .ok (.invokespecial 3, 3) := by decide +kernel
theorem dX7_init_4 : decode cX7_init 4 = .ok (.aload_n 0, 1) := by decide +kernel
theorem dX7_init_5 : decode cX7_init 5 = .ok (.sipush 400, 3) := by decide +kernel
theorem dX7_init_8 : decode cX7_init 8 = .ok (.newarray .int, 2) := by decide +kernel
theorem dX7_init_10 : decode cX7_init 10 = .ok (.putfield 9, 3) := by decide +kernel
theorem dX7_init_13 : decode cX7_init 13 = .ok (.aload_n 0, 1) := by decide +kernel
theorem dX7_init_14 : decode cX7_init 14 = .ok (.sipush 400, 3) := by decide +kernel
theorem dX7_init_17 : decode cX7_init 17 = .ok (.newarray .int, 2) := by decide +kernel
theorem dX7_init_19 : decode cX7_init 19 = .ok (.putfield 15, 3) := by decide +kernel
theorem dX7_init_22 : decode cX7_init 22 = .ok (.aload_n 0, 1) := by decide +kernel
theorem dX7_init_23 : decode cX7_init 23 = .ok (.sipush 400, 3) := by decide +kernel
theorem dX7_init_26 : decode cX7_init 26 = .ok (.newarray .int, 2) := by decide +kernel
theorem dX7_init_28 : decode cX7_init 28 = .ok (.putfield 18, 3) := by decide +kernel
theorem dX7_init_31 : decode cX7_init 31 = .ok (.aload_n 0, 1) := by decide +kernel
theorem dX7_init_32 : decode cX7_init 32 = .ok (.sipush 400, 3) := by decide +kernel
theorem dX7_init_35 : decode cX7_init 35 = .ok (.newarray .int, 2) := by decide +kernel
theorem dX7_init_37 : decode cX7_init 37 = .ok (.putfield 21, 3) := by decide +kernel
theorem dX7_init_40 : decode cX7_init 40 = .ok (.return_, 1) := by decide +kernel
theorem dX8_age_0 : decode cX8_age 0 = .ok (.iload_n 1, 1) := by decide +kernel
theorem dX8_age_1 : decode cX8_age 1 = .ok (.invokestatic 92, 3) := by decide +kernel
theorem dX8_age_4 : decode cX8_age 4 = .ok (.ifCond .eq 10, 3) := by decide +kernel
theorem dX8_age_7 : decode cX8_age 7 = .ok (.iload_n 2, 1) := by decide +kernel
theorem dX8_age_8 : decode cX8_age 8 = .ok (.invokestatic 84, 3) := by decide +kernel
theorem dX8_age_11 : decode cX8_age 11 = .ok (.ifCond .ne 5, 3) := by decide +kernel
theorem dX8_age_14 : decode cX8_age 14 = .ok (.iconst (-1), 1) := by decide +kernel
theorem dX8_age_15 : decode cX8_age 15 = .ok (.ireturn, 1) := by decide +kernel
theorem dX8_age_16 : decode cX8_age 16 = .ok (.aload_n 0, 1) := by decide +kernel
theorem dX8_age_17 : decode cX8_age 17 = .ok (.iload_n 1, 1) := by decide +kernel
theorem dX8_age_18 : decode cX8_age 18 = .ok (.invokevirtual 102, 3) := by decide +kernel
theorem dX8_age_21 : decode cX8_age 21 = .ok (.astore_n 3, 1) := by decide +kernel
theorem dX8_age_22 : decode cX8_age 22 = .ok (.aload_n 3, 1) := by decide +kernel
theorem dX8_age_23 : decode cX8_age 23 = .ok (.ifnonnull 11, 3) := by decide +kernel
theorem dX8_age_26 : decode cX8_age 26 = .ok (.aload_n 0, 1) := by decide +kernel
theorem dX8_age_27 : decode cX8_age 27 = .ok (.iload_n 1, 1) := by decide +kernel
theorem dX8_age_28 : decode cX8_age 28 = .ok (.invokevirtual 115, 3) := by decide +kernel
theorem dX8_age_31 : decode cX8_age 31 = .ok (.goto 8, 3) := by decide +kernel
theorem dX8_age_39 : decode cX8_age 39 = .ok (.ireturn, 1) := by decide +kernel
theorem dX8_away_0 : decode cX8_away 0 = .ok (.iload_n 1, 1) := by decide +kernel
theorem dX8_away_1 : decode cX8_away 1 = .ok (.invokestatic 92, 3) := by decide +kernel
theorem dX8_away_4 : decode cX8_away 4 = .ok (.ifCond .ne 5, 3) := by decide +kernel
theorem dX8_away_7 : decode cX8_away 7 = .ok (.iconst (-1), 1) := by decide +kernel
theorem dX8_away_8 : decode cX8_away 8 = .ok (.ireturn, 1) := by decide +kernel
theorem dX8_away_9 : decode cX8_away 9 = .ok (.aload_n 0, 1) := by decide +kernel
theorem dX8_away_10 : decode cX8_away 10 = .ok (.iload_n 1, 1) := by decide +kernel
theorem dX8_away_11 : decode cX8_away 11 = .ok (.invokevirtual 102, 3) := by decide +kernel
theorem dX8_away_14 : decode cX8_away 14 = .ok (.astore_n 2, 1) := by decide +kernel
theorem dX8_away_15 : decode cX8_away 15 = .ok (.aload_n 2, 1) := by decide +kernel
theorem dX8_away_16 : decode cX8_away 16 = .ok (.ifnonnull 11, 3) := by decide +kernel
theorem dX8_away_19 : decode cX8_away 19 = .ok (.aload_n 0, 1) := by decide +kernel
theorem dX8_away_20 : decode cX8_away 20 = .ok (.iload_n 1, 1) := by decide +kernel
theorem dX8_away_21 : decode cX8_away 21 = .ok (.invokevirtual 115, 3) := by decide +kernel
theorem dX8_away_24 : decode cX8_away 24 = .ok (.goto 11, 3) := by decide +kernel
theorem dX8_away_35 : decode cX8_away 35 = .ok (.ireturn, 1) := by decide +kernel
theorem dX8_back_0 : decode cX8_back 0 = .ok (.iload_n 1, 1) := by decide +kernel
theorem dX8_back_1 : decode cX8_back 1 = .ok (.invokestatic 202, 3) := by decide +kernel
theorem dX8_back_4 : decode cX8_back 4 = .ok (.ifCond .eq 31, 3) := by decide +kernel
theorem dX8_back_7 : decode cX8_back 7 = .ok (.iload_n 2, 1) := by decide +kernel
theorem dX8_back_8 : decode cX8_back 8 = .ok (.ldc 114, 2) := by decide +kernel
theorem dX8_back_10 : decode cX8_back 10 = .ok (.invokestatic 88, 3) := by decide +kernel
theorem dX8_back_13 : decode cX8_back 13 = .ok (.ifCond .eq 22, 3) := by decide +kernel
theorem dX8_back_16 : decode cX8_back 16 = .ok (.iload_n 3, 1) := by decide +kernel
theorem dX8_back_17 : decode cX8_back 17 = .ok (.ldc 114, 2) := by decide +kernel
theorem dX8_back_19 : decode cX8_back 19 = .ok (.invokestatic 88, 3) := by decide +kernel
theorem dX8_back_22 : decode cX8_back 22 = .ok (.ifCond .eq 13, 3) := by decide +kernel
theorem dX8_back_25 : decode cX8_back 25 = .ok (.iload 4, 2) := by decide +kernel
theorem dX8_back_27 : decode cX8_back 27 = .ok (.ldc 114, 2) := by decide +kernel
theorem dX8_back_29 : decode cX8_back 29 = .ok (.invokestatic 88, 3) := by decide +kernel
theorem dX8_back_32 : decode cX8_back 32 = .ok (.ifCond .ne 5, 3) := by decide +kernel
theorem dX8_back_35 : decode cX8_back 35 = .ok (.iconst (-1), 1) := by decide +kernel
theorem dX8_back_36 : decode cX8_back 36 = .ok (.ireturn, 1) := by decide +kernel
theorem dX8_back_37 : decode cX8_back 37 = .ok (.aload_n 0, 1) := by decide +kernel
theorem dX8_back_38 : decode cX8_back 38 = .ok (.getfield 27, 3) := by decide +kernel
theorem dX8_back_41 : decode cX8_back 41 = .ok (.iload_n 1, 1) := by decide +kernel
theorem dX8_back_42 : decode cX8_back 42 = .ok (.aaload, 1) := by decide +kernel
theorem dX8_back_43 : decode cX8_back 43 = .ok (.astore 5, 2) := by decide +kernel
theorem dX8_back_45 : decode cX8_back 45 = .ok (.aload 5, 2) := by decide +kernel
theorem dX8_back_47 : decode cX8_back 47 = .ok (.getfield 208, 3) := by decide +kernel
theorem dX8_back_50 : decode cX8_back 50 = .ok (.iconst 1, 1) := by decide +kernel
theorem dX8_back_51 : decode cX8_back 51 = .ok (.if_icmp .ne 15, 3) := by decide +kernel
theorem dX8_back_66 : decode cX8_back 66 = .ok (.bipush (-4), 2) := by decide +kernel
theorem dX8_back_68 : decode cX8_back 68 = .ok (.ireturn, 1) := by decide +kernel
theorem dX8_bringWatch_0 : decode cX8_bringWatch 0 = .ok (.iload_n 1, 1) := by decide +kernel
theorem dX8_bringWatch_1 : decode cX8_bringWatch 1 = .ok (.invokestatic 92, 3) := by decide +kernel
theorem dX8_bringWatch_4 : decode cX8_bringWatch 4 = .ok (.ifCond .ne 4, 3) := by decide +kernel
theorem dX8_bringWatch_7 : decode cX8_bringWatch 7 = .ok (.return_, 1) := by decide +kernel
theorem dX8_bringWatch_8 : decode cX8_bringWatch 8 = .ok (.aload_n 0, 1) := by decide +kernel
theorem dX8_bringWatch_9 : decode cX8_bringWatch 9 = .ok (.getfield 21, 3) := by decide +kernel
theorem dX8_bringWatch_12 : decode cX8_bringWatch 12 = .ok (.iload_n 1, 1) := by decide +kernel
theorem dX8_bringWatch_13 : decode cX8_bringWatch 13 = .ok (.aaload, 1) := by decide +kernel
theorem dX8_bringWatch_14 : decode cX8_bringWatch 14 = .ok (.ifnonnull 16, 3) := by decide +kernel
theorem dX8_bringWatch_17 : decode cX8_bringWatch 17 = .ok (.aload_n 0, 1) := by decide +kernel
theorem dX8_bringWatch_18 : decode cX8_bringWatch 18 = .ok (.getfield 21, 3) := by decide +kernel
theorem dX8_bringWatch_21 : decode cX8_bringWatch 21 = .ok (.iload_n 1, 1) := by decide +kernel
theorem dX8_bringWatch_22 : decode cX8_bringWatch 22 = .ok (.new 19, 3) := by decide +kernel
theorem dX8_bringWatch_25 : decode cX8_bringWatch 25 = .ok (.dup, 1) := by decide +kernel
theorem dX8_bringWatch_26 : decode cX8_bringWatch 26 = .ok (.invokespecial 301, 3) := by decide +kernel
theorem dX8_bringWatch_29 : decode cX8_bringWatch 29 = .ok (.aastore, 1) := by decide +kernel
theorem dX8_bringWatch_30 : decode cX8_bringWatch 30 = .ok (.aload_n 0, 1) := by decide +kernel
theorem dX8_bringWatch_31 : decode cX8_bringWatch 31 = .ok (.getfield 21, 3) := by decide +kernel
theorem dX8_bringWatch_34 : decode cX8_bringWatch 34 = .ok (.iload_n 1, 1) := by decide +kernel
theorem dX8_bringWatch_35 : decode cX8_bringWatch 35 = .ok (.aaload, 1) := by decide +kernel
theorem dX8_bringWatch_36 : decode cX8_bringWatch 36 = .ok (.invokevirtual 302, 3) := by decide +kernel
theorem dX8_bringWatch_39 : decode cX8_bringWatch 39 = .ok (.return_, 1) := by decide +kernel
theorem dX8_carried_0 : decode cX8_carried 0 = .ok (.iload_n 1, 1) := by decide +kernel
theorem dX8_carried_1 : decode cX8_carried 1 = .ok (.invokestatic 202, 3) := by decide +kernel
theorem dX8_carried_4 : decode cX8_carried 4 = .ok (.ifCond .eq 24, 3) := by decide +kernel
theorem dX8_carried_7 : decode cX8_carried 7 = .ok (.iload_n 2, 1) := by decide +kernel
theorem dX8_carried_8 : decode cX8_carried 8 = .ok (.ifCond .lt 20, 3) := by decide +kernel
theorem dX8_carried_11 : decode cX8_carried 11 = .ok (.iload_n 2, 1) := by decide +kernel
theorem dX8_carried_12 : decode cX8_carried 12 = .ok (.iconst 3, 1) := by decide +kernel
theorem dX8_carried_13 : decode cX8_carried 13 = .ok (.if_icmp .ge 15, 3) := by decide +kernel
theorem dX8_carried_16 : decode cX8_carried 16 = .ok (.aload_n 0, 1) := by decide +kernel
theorem dX8_carried_17 : decode cX8_carried 17 = .ok (.getfield 27, 3) := by decide +kernel
theorem dX8_carried_20 : decode cX8_carried 20 = .ok (.iload_n 1, 1) := by decide +kernel
theorem dX8_carried_21 : decode cX8_carried 21 = .ok (.aaload, 1) := by decide +kernel
theorem dX8_carried_22 : decode cX8_carried 22 = .ok (.getfield 208, 3) := by decide +kernel
theorem dX8_carried_25 : decode cX8_carried 25 = .ok (.ifCond .ne 6, 3) := by decide +kernel
theorem dX8_carried_28 : decode cX8_carried 28 = .ok (.ldc 110, 2) := by decide +kernel
theorem dX8_carried_30 : decode cX8_carried 30 = .ok (.ireturn, 1) := by decide +kernel
theorem dX8_changed_0 : decode cX8_changed 0 = .ok (.iload_n 1, 1) := by decide +kernel
theorem dX8_changed_1 : decode cX8_changed 1 = .ok (.invokestatic 92, 3) := by decide +kernel
theorem dX8_changed_4 : decode cX8_changed 4 = .ok (.ifCond .eq 19, 3) := by decide +kernel
theorem dX8_changed_7 : decode cX8_changed 7 = .ok (.iload_n 2, 1) := by decide +kernel
theorem dX8_changed_8 : decode cX8_changed 8 = .ok (.iload_n 3, 1) := by decide +kernel
theorem dX8_changed_9 : decode cX8_changed 9 = .ok (.invokestatic 149, 3) := by decide +kernel
theorem dX8_changed_12 : decode cX8_changed 12 = .ok (.ifCond .eq 11, 3) := by decide +kernel
theorem dX8_changed_15 : decode cX8_changed 15 = .ok (.iload 4, 2) := by decide +kernel
theorem dX8_changed_17 : decode cX8_changed 17 = .ok (.invokestatic 125, 3) := by decide +kernel
theorem dX8_changed_20 : decode cX8_changed 20 = .ok (.ifCond .ne 5, 3) := by decide +kernel
theorem dX8_changed_23 : decode cX8_changed 23 = .ok (.iconst (-1), 1) := by decide +kernel
theorem dX8_changed_24 : decode cX8_changed 24 = .ok (.ireturn, 1) := by decide +kernel
theorem dX8_changed_25 : decode cX8_changed 25 = .ok (.aload_n 0, 1) := by decide +kernel
theorem dX8_changed_26 : decode cX8_changed 26 = .ok (.iload_n 1, 1) := by decide +kernel
theorem dX8_changed_27 : decode cX8_changed 27 = .ok (.invokevirtual 102, 3) := by decide +kernel
theorem dX8_changed_30 : decode cX8_changed 30 = .ok (.astore 5, 2) := by decide +kernel
theorem dX8_changed_32 : decode cX8_changed 32 = .ok (.aload 5, 2) := by decide +kernel
theorem dX8_changed_34 : decode cX8_changed 34 = .ok (.ifnonnull 9, 3) := by decide +kernel
theorem dX8_changed_37 : decode cX8_changed 37 = .ok (.aload_n 0, 1) := by decide +kernel
theorem dX8_changed_38 : decode cX8_changed 38 = .ok (.iload_n 1, 1) := by decide +kernel
theorem dX8_changed_39 : decode cX8_changed 39 = .ok (.invokevirtual 115, 3) := by decide +kernel
theorem dX8_changed_42 : decode cX8_changed 42 = .ok (.ireturn, 1) := by decide +kernel
theorem dX8_compare_0 : decode cX8_compare 0 = .ok (.iload_n 1, 1) := by decide +kernel
theorem dX8_compare_1 : decode cX8_compare 1 = .ok (.invokestatic 92, 3) := by decide +kernel
theorem dX8_compare_4 : decode cX8_compare 4 = .ok (.ifCond .eq 32, 3) := by decide +kernel
theorem dX8_compare_7 : decode cX8_compare 7 = .ok (.aload_n 0, 1) := by decide +kernel
theorem dX8_compare_8 : decode cX8_compare 8 = .ok (.iload_n 2, 1) := by decide +kernel
theorem dX8_compare_9 : decode cX8_compare 9 = .ok (.invokevirtual 111, 3) := by decide +kernel
theorem dX8_compare_12 : decode cX8_compare 12 = .ok (.ifCond .eq 24, 3) := by decide +kernel
theorem dX8_compare_15 : decode cX8_compare 15 = .ok (.iload_n 3, 1) := by decide +kernel
theorem dX8_compare_16 : decode cX8_compare 16 = .ok (.ldc 114, 2) := by decide +kernel
theorem dX8_compare_18 : decode cX8_compare 18 = .ok (.invokestatic 88, 3) := by decide +kernel
theorem dX8_compare_21 : decode cX8_compare 21 = .ok (.ifCond .eq 15, 3) := by decide +kernel
theorem dX8_compare_24 : decode cX8_compare 24 = .ok (.iload 4, 2) := by decide +kernel
theorem dX8_compare_26 : decode cX8_compare 26 = .ok (.ifCond .lt 10, 3) := by decide +kernel
theorem dX8_compare_29 : decode cX8_compare 29 = .ok (.iload 4, 2) := by decide +kernel
theorem dX8_compare_31 : decode cX8_compare 31 = .ok (.bipush 6, 2) := by decide +kernel
theorem dX8_compare_33 : decode cX8_compare 33 = .ok (.if_icmp .lt 5, 3) := by decide +kernel
theorem dX8_compare_36 : decode cX8_compare 36 = .ok (.iconst (-1), 1) := by decide +kernel
theorem dX8_compare_37 : decode cX8_compare 37 = .ok (.ireturn, 1) := by decide +kernel
theorem dX8_compare_38 : decode cX8_compare 38 = .ok (.aload_n 0, 1) := by decide +kernel
theorem dX8_compare_39 : decode cX8_compare 39 = .ok (.iload_n 1, 1) := by decide +kernel
theorem dX8_compare_40 : decode cX8_compare 40 = .ok (.invokevirtual 102, 3) := by decide +kernel
theorem dX8_compare_43 : decode cX8_compare 43 = .ok (.astore 5, 2) := by decide +kernel
theorem dX8_compare_45 : decode cX8_compare 45 = .ok (.aload 5, 2) := by decide +kernel
theorem dX8_compare_47 : decode cX8_compare 47 = .ok (.ifnonnull 9, 3) := by decide +kernel
theorem dX8_compare_50 : decode cX8_compare 50 = .ok (.aload_n 0, 1) := by decide +kernel
theorem dX8_compare_51 : decode cX8_compare 51 = .ok (.iload_n 1, 1) := by decide +kernel
theorem dX8_compare_52 : decode cX8_compare 52 = .ok (.invokevirtual 115, 3) := by decide +kernel
theorem dX8_compare_55 : decode cX8_compare 55 = .ok (.ireturn, 1) := by decide +kernel
theorem dX8_count_0 : decode cX8_count 0 = .ok (.iload_n 1, 1) := by decide +kernel
theorem dX8_count_1 : decode cX8_count 1 = .ok (.tableswitch 95 0 6 #[43, 55, 60, 68, 73, 81, 87], 43) := by decide +kernel
theorem dX8_count_44 : decode cX8_count 44 = .ok (.aload_n 0, 1) := by decide +kernel
theorem dX8_count_45 : decode cX8_count 45 = .ok (.iconst 0, 1) := by decide +kernel
theorem dX8_count_46 : decode cX8_count 46 = .ok (.invokevirtual 295, 3) := by decide +kernel
theorem dX8_count_49 : decode cX8_count 49 = .ok (.aload_n 0, 1) := by decide +kernel
theorem dX8_count_50 : decode cX8_count 50 = .ok (.iconst 1, 1) := by decide +kernel
theorem dX8_count_51 : decode cX8_count 51 = .ok (.invokevirtual 295, 3) := by decide +kernel
theorem dX8_count_54 : decode cX8_count 54 = .ok (.iadd, 1) := by decide +kernel
theorem dX8_count_55 : decode cX8_count 55 = .ok (.ireturn, 1) := by decide +kernel
theorem dX8_count_56 : decode cX8_count 56 = .ok (.aload_n 0, 1) := by decide +kernel
theorem dX8_count_57 : decode cX8_count 57 = .ok (.getfield 79, 3) := by decide +kernel
theorem dX8_count_60 : decode cX8_count 60 = .ok (.ireturn, 1) := by decide +kernel
theorem dX8_count_61 : decode cX8_count 61 = .ok (.aload_n 0, 1) := by decide +kernel
theorem dX8_count_62 : decode cX8_count 62 = .ok (.getfield 37, 3) := by decide +kernel
theorem dX8_count_65 : decode cX8_count 65 = .ok (.getfield 142, 3) := by decide +kernel
theorem dX8_count_68 : decode cX8_count 68 = .ok (.ireturn, 1) := by decide +kernel
theorem dX8_count_69 : decode cX8_count 69 = .ok (.aload_n 0, 1) := by decide +kernel
theorem dX8_count_70 : decode cX8_count 70 = .ok (.invokevirtual 298, 3) := by decide +kernel
theorem dX8_count_73 : decode cX8_count 73 = .ok (.ireturn, 1) := by decide +kernel
theorem dX8_count_74 : decode cX8_count 74 = .ok (.aload_n 0, 1) := by decide +kernel
theorem dX8_count_75 : decode cX8_count 75 = .ok (.getfield 58, 3) := by decide +kernel
theorem dX8_count_78 : decode cX8_count 78 = .ok (.getfield 179, 3) := by decide +kernel
theorem dX8_count_81 : decode cX8_count 81 = .ok (.ireturn, 1) := by decide +kernel
theorem dX8_count_82 : decode cX8_count 82 = .ok (.aload_n 0, 1) := by decide +kernel
theorem dX8_count_83 : decode cX8_count 83 = .ok (.iconst 2, 1) := by decide +kernel
theorem dX8_count_84 : decode cX8_count 84 = .ok (.invokevirtual 295, 3) := by decide +kernel
theorem dX8_count_87 : decode cX8_count 87 = .ok (.ireturn, 1) := by decide +kernel
theorem dX8_count_88 : decode cX8_count 88 = .ok (.aload_n 0, 1) := by decide +kernel
theorem dX8_count_89 : decode cX8_count 89 = .ok (.getfield 65, 3) := by decide +kernel
theorem dX8_count_92 : decode cX8_count 92 = .ok (.getfield 275, 3) := by decide +kernel
theorem dX8_count_95 : decode cX8_count 95 = .ok (.ireturn, 1) := by decide +kernel
theorem dX8_count_96 : decode cX8_count 96 = .ok (.iconst (-1), 1) := by decide +kernel
theorem dX8_count_97 : decode cX8_count 97 = .ok (.ireturn, 1) := by decide +kernel
theorem dX8_days_0 : decode cX8_days 0 = .ok (.iload_n 1, 1) := by decide +kernel
theorem dX8_days_1 : decode cX8_days 1 = .ok (.iconst 1, 1) := by decide +kernel
theorem dX8_days_2 : decode cX8_days 2 = .ok (.if_icmp .lt 21, 3) := by decide +kernel
theorem dX8_days_5 : decode cX8_days 5 = .ok (.iload_n 1, 1) := by decide +kernel
theorem dX8_days_6 : decode cX8_days 6 = .ok (.bipush 100, 2) := by decide +kernel
theorem dX8_days_8 : decode cX8_days 8 = .ok (.if_icmp .gt 15, 3) := by decide +kernel
theorem dX8_days_11 : decode cX8_days 11 = .ok (.aload_n 0, 1) := by decide +kernel
theorem dX8_days_12 : decode cX8_days 12 = .ok (.getfield 79, 3) := by decide +kernel
theorem dX8_days_15 : decode cX8_days 15 = .ok (.iload_n 1, 1) := by decide +kernel
theorem dX8_days_16 : decode cX8_days 16 = .ok (.iadd, 1) := by decide +kernel
theorem dX8_days_17 : decode cX8_days 17 = .ok (.sipush 400, 3) := by decide +kernel
theorem dX8_days_20 : decode cX8_days 20 = .ok (.if_icmp .lt 5, 3) := by decide +kernel
theorem dX8_days_23 : decode cX8_days 23 = .ok (.iconst (-1), 1) := by decide +kernel
theorem dX8_days_24 : decode cX8_days 24 = .ok (.ireturn, 1) := by decide +kernel
theorem dX8_days_25 : decode cX8_days 25 = .ok (.aload_n 0, 1) := by decide +kernel
theorem dX8_days_26 : decode cX8_days 26 = .ok (.dup, 1) := by decide +kernel
theorem dX8_days_27 : decode cX8_days 27 = .ok (.getfield 79, 3) := by decide +kernel
theorem dX8_days_30 : decode cX8_days 30 = .ok (.iload_n 1, 1) := by decide +kernel
theorem dX8_days_31 : decode cX8_days 31 = .ok (.iadd, 1) := by decide +kernel
theorem dX8_days_32 : decode cX8_days 32 = .ok (.putfield 79, 3) := by decide +kernel
theorem dX8_days_35 : decode cX8_days 35 = .ok (.aload_n 0, 1) := by decide +kernel
theorem dX8_days_36 : decode cX8_days 36 = .ok (.getfield 79, 3) := by decide +kernel
theorem dX8_days_39 : decode cX8_days 39 = .ok (.ireturn, 1) := by decide +kernel
theorem dX8_deal_0 : decode cX8_deal 0 = .ok (.iload_n 1, 1) := by decide +kernel
theorem dX8_deal_1 : decode cX8_deal 1 = .ok (.iconst 1, 1) := by decide +kernel
theorem dX8_deal_2 : decode cX8_deal 2 = .ok (.if_icmp .lt 40, 3) := by decide +kernel
theorem dX8_deal_5 : decode cX8_deal 5 = .ok (.iload_n 1, 1) := by decide +kernel
theorem dX8_deal_6 : decode cX8_deal 6 = .ok (.sipush 400, 3) := by decide +kernel
theorem dX8_deal_9 : decode cX8_deal 9 = .ok (.if_icmp .gt 33, 3) := by decide +kernel
theorem dX8_deal_12 : decode cX8_deal 12 = .ok (.iload_n 2, 1) := by decide +kernel
theorem dX8_deal_13 : decode cX8_deal 13 = .ok (.ifCond .lt 29, 3) := by decide +kernel
theorem dX8_deal_16 : decode cX8_deal 16 = .ok (.iload_n 2, 1) := by decide +kernel
theorem dX8_deal_17 : decode cX8_deal 17 = .ok (.sipush 400, 3) := by decide +kernel
theorem dX8_deal_20 : decode cX8_deal 20 = .ok (.if_icmp .gt 22, 3) := by decide +kernel
theorem dX8_deal_23 : decode cX8_deal 23 = .ok (.iload_n 3, 1) := by decide +kernel
theorem dX8_deal_24 : decode cX8_deal 24 = .ok (.ifCond .lt 18, 3) := by decide +kernel
theorem dX8_deal_27 : decode cX8_deal 27 = .ok (.iload_n 3, 1) := by decide +kernel
theorem dX8_deal_28 : decode cX8_deal 28 = .ok (.sipush 400, 3) := by decide +kernel
theorem dX8_deal_31 : decode cX8_deal 31 = .ok (.if_icmp .gt 11, 3) := by decide +kernel
theorem dX8_deal_34 : decode cX8_deal 34 = .ok (.iload_n 2, 1) := by decide +kernel
theorem dX8_deal_35 : decode cX8_deal 35 = .ok (.ifCond .ne 9, 3) := by decide +kernel
theorem dX8_deal_38 : decode cX8_deal 38 = .ok (.iload_n 3, 1) := by decide +kernel
theorem dX8_deal_39 : decode cX8_deal 39 = .ok (.ifCond .eq 5, 3) := by decide +kernel
theorem dX8_deal_42 : decode cX8_deal 42 = .ok (.iconst (-1), 1) := by decide +kernel
theorem dX8_deal_43 : decode cX8_deal 43 = .ok (.ireturn, 1) := by decide +kernel
theorem dX8_deal_44 : decode cX8_deal 44 = .ok (.iload_n 2, 1) := by decide +kernel
theorem dX8_deal_45 : decode cX8_deal 45 = .ok (.ifCond .ne 7, 3) := by decide +kernel
theorem dX8_deal_48 : decode cX8_deal 48 = .ok (.iconst 1, 1) := by decide +kernel
theorem dX8_deal_49 : decode cX8_deal 49 = .ok (.goto 12, 3) := by decide +kernel
theorem dX8_deal_52 : decode cX8_deal 52 = .ok (.iload_n 3, 1) := by decide +kernel
theorem dX8_deal_53 : decode cX8_deal 53 = .ok (.ifCond .ne 7, 3) := by decide +kernel
theorem dX8_deal_56 : decode cX8_deal 56 = .ok (.iconst 2, 1) := by decide +kernel
theorem dX8_deal_57 : decode cX8_deal 57 = .ok (.goto 4, 3) := by decide +kernel
theorem dX8_deal_60 : decode cX8_deal 60 = .ok (.iconst 3, 1) := by decide +kernel
theorem dX8_deal_61 : decode cX8_deal 61 = .ok (.istore 4, 2) := by decide +kernel
theorem dX8_deal_63 : decode cX8_deal 63 = .ok (.aload_n 0, 1) := by decide +kernel
theorem dX8_deal_64 : decode cX8_deal 64 = .ok (.getfield 65, 3) := by decide +kernel
theorem dX8_deal_67 : decode cX8_deal 67 = .ok (.getfield 275, 3) := by decide +kernel
theorem dX8_deal_70 : decode cX8_deal 70 = .ok (.iconst 3, 1) := by decide +kernel
theorem dX8_deal_71 : decode cX8_deal 71 = .ok (.iload 4, 2) := by decide +kernel
theorem dX8_deal_73 : decode cX8_deal 73 = .ok (.imul, 1) := by decide +kernel
theorem dX8_deal_74 : decode cX8_deal 74 = .ok (.if_icmp .ge 6, 3) := by decide +kernel
theorem dX8_deal_77 : decode cX8_deal 77 = .ok (.bipush (-4), 2) := by decide +kernel
theorem dX8_deal_79 : decode cX8_deal 79 = .ok (.ireturn, 1) := by decide +kernel
theorem dX8_dealt_0 : decode cX8_dealt 0 = .ok (.iload_n 1, 1) := by decide +kernel
theorem dX8_dealt_1 : decode cX8_dealt 1 = .ok (.ifCond .lt 14, 3) := by decide +kernel
theorem dX8_dealt_4 : decode cX8_dealt 4 = .ok (.iload_n 1, 1) := by decide +kernel
theorem dX8_dealt_5 : decode cX8_dealt 5 = .ok (.aload_n 0, 1) := by decide +kernel
theorem dX8_dealt_6 : decode cX8_dealt 6 = .ok (.getfield 65, 3) := by decide +kernel
theorem dX8_dealt_9 : decode cX8_dealt 9 = .ok (.getfield 282, 3) := by decide +kernel
theorem dX8_dealt_12 : decode cX8_dealt 12 = .ok (.if_icmp .lt 8, 3) := by decide +kernel
theorem dX8_dealt_15 : decode cX8_dealt 15 = .ok (.ldc 110, 2) := by decide +kernel
theorem dX8_dealt_17 : decode cX8_dealt 17 = .ok (.goto 12, 3) := by decide +kernel
theorem dX8_dealt_29 : decode cX8_dealt 29 = .ok (.ireturn, 1) := by decide +kernel
theorem dX8_doubt_0 : decode cX8_doubt 0 = .ok (.iload_n 1, 1) := by decide +kernel
theorem dX8_doubt_1 : decode cX8_doubt 1 = .ok (.iconst 1, 1) := by decide +kernel
theorem dX8_doubt_2 : decode cX8_doubt 2 = .ok (.if_icmp .lt 10, 3) := by decide +kernel
theorem dX8_doubt_5 : decode cX8_doubt 5 = .ok (.iload_n 1, 1) := by decide +kernel
theorem dX8_doubt_6 : decode cX8_doubt 6 = .ok (.sipush 9999, 3) := by decide +kernel
theorem dX8_doubt_9 : decode cX8_doubt 9 = .ok (.if_icmp .le 5, 3) := by decide +kernel
theorem dX8_doubt_12 : decode cX8_doubt 12 = .ok (.iconst (-1), 1) := by decide +kernel
theorem dX8_doubt_13 : decode cX8_doubt 13 = .ok (.ireturn, 1) := by decide +kernel
theorem dX8_doubt_14 : decode cX8_doubt 14 = .ok (.aload_n 0, 1) := by decide +kernel
theorem dX8_doubt_15 : decode cX8_doubt 15 = .ok (.getfield 65, 3) := by decide +kernel
theorem dX8_doubt_18 : decode cX8_doubt 18 = .ok (.getfield 275, 3) := by decide +kernel
theorem dX8_doubt_21 : decode cX8_doubt 21 = .ok (.bipush 9, 2) := by decide +kernel
theorem dX8_doubt_23 : decode cX8_doubt 23 = .ok (.if_icmp .lt 6, 3) := by decide +kernel
theorem dX8_doubt_29 : decode cX8_doubt 29 = .ok (.aload_n 0, 1) := by decide +kernel
theorem dX8_doubt_30 : decode cX8_doubt 30 = .ok (.getfield 65, 3) := by decide +kernel
theorem dX8_doubt_33 : decode cX8_doubt 33 = .ok (.iload_n 1, 1) := by decide +kernel
theorem dX8_doubt_34 : decode cX8_doubt 34 = .ok (.invokevirtual 278, 3) := by decide +kernel
theorem dX8_doubt_37 : decode cX8_doubt 37 = .ok (.aload_n 0, 1) := by decide +kernel
theorem dX8_doubt_38 : decode cX8_doubt 38 = .ok (.getfield 65, 3) := by decide +kernel
theorem dX8_doubt_41 : decode cX8_doubt 41 = .ok (.getfield 275, 3) := by decide +kernel
theorem dX8_doubt_44 : decode cX8_doubt 44 = .ok (.ireturn, 1) := by decide +kernel
theorem dX8_error_0 : decode cX8_error 0 = .ok (.aload_n 0, 1) := by decide +kernel
theorem dX8_error_1 : decode cX8_error 1 = .ok (.iload_n 1, 1) := by decide +kernel
theorem dX8_error_2 : decode cX8_error 2 = .ok (.invokevirtual 102, 3) := by decide +kernel
theorem dX8_error_5 : decode cX8_error 5 = .ok (.astore 4, 2) := by decide +kernel
theorem dX8_error_7 : decode cX8_error 7 = .ok (.aload 4, 2) := by decide +kernel
theorem dX8_error_9 : decode cX8_error 9 = .ok (.ifnull 17, 3) := by decide +kernel
theorem dX8_error_26 : decode cX8_error 26 = .ok (.ldc 110, 2) := by decide +kernel
theorem dX8_error_28 : decode cX8_error 28 = .ok (.ireturn, 1) := by decide +kernel
theorem dX8_feed_0 : decode cX8_feed 0 = .ok (.iload_n 1, 1) := by decide +kernel
theorem dX8_feed_1 : decode cX8_feed 1 = .ok (.iconst 1, 1) := by decide +kernel
theorem dX8_feed_2 : decode cX8_feed 2 = .ok (.if_icmp .lt 8, 3) := by decide +kernel
theorem dX8_feed_5 : decode cX8_feed 5 = .ok (.iload_n 1, 1) := by decide +kernel
theorem dX8_feed_6 : decode cX8_feed 6 = .ok (.iconst 4, 1) := by decide +kernel
theorem dX8_feed_7 : decode cX8_feed 7 = .ok (.if_icmp .le 5, 3) := by decide +kernel
theorem dX8_feed_10 : decode cX8_feed 10 = .ok (.iconst (-1), 1) := by decide +kernel
theorem dX8_feed_11 : decode cX8_feed 11 = .ok (.ireturn, 1) := by decide +kernel
theorem dX8_feed_12 : decode cX8_feed 12 = .ok (.aload_n 0, 1) := by decide +kernel
theorem dX8_feed_13 : decode cX8_feed 13 = .ok (.getfield 58, 3) := by decide +kernel
theorem dX8_feed_16 : decode cX8_feed 16 = .ok (.getfield 179, 3) := by decide +kernel
theorem dX8_feed_19 : decode cX8_feed 19 = .ok (.iload_n 1, 1) := by decide +kernel
theorem dX8_feed_20 : decode cX8_feed 20 = .ok (.iadd, 1) := by decide +kernel
theorem dX8_feed_21 : decode cX8_feed 21 = .ok (.bipush 120, 2) := by decide +kernel
theorem dX8_feed_23 : decode cX8_feed 23 = .ok (.if_icmp .le 6, 3) := by decide +kernel
theorem dX8_feed_29 : decode cX8_feed 29 = .ok (.iconst 0, 1) := by decide +kernel
theorem dX8_feed_30 : decode cX8_feed 30 = .ok (.istore_n 3, 1) := by decide +kernel
theorem dX8_feed_31 : decode cX8_feed 31 = .ok (.iload_n 3, 1) := by decide +kernel
theorem dX8_feed_32 : decode cX8_feed 32 = .ok (.iload_n 1, 1) := by decide +kernel
theorem dX8_feed_33 : decode cX8_feed 33 = .ok (.if_icmp .ge 26, 3) := by decide +kernel
theorem dX8_feed_36 : decode cX8_feed 36 = .ok (.aload_n 0, 1) := by decide +kernel
theorem dX8_feed_37 : decode cX8_feed 37 = .ok (.getfield 58, 3) := by decide +kernel
theorem dX8_feed_40 : decode cX8_feed 40 = .ok (.iload_n 2, 1) := by decide +kernel
theorem dX8_feed_41 : decode cX8_feed 41 = .ok (.bipush 8, 2) := by decide +kernel
theorem dX8_feed_43 : decode cX8_feed 43 = .ok (.iload_n 3, 1) := by decide +kernel
theorem dX8_feed_44 : decode cX8_feed 44 = .ok (.imul, 1) := by decide +kernel
theorem dX8_feed_45 : decode cX8_feed 45 = .ok (.ishr, 1) := by decide +kernel
theorem dX8_feed_46 : decode cX8_feed 46 = .ok (.sipush 255, 3) := by decide +kernel
theorem dX8_feed_49 : decode cX8_feed 49 = .ok (.iand, 1) := by decide +kernel
theorem dX8_feed_50 : decode cX8_feed 50 = .ok (.invokevirtual 180, 3) := by decide +kernel
theorem dX8_feed_53 : decode cX8_feed 53 = .ok (.iinc 3 1, 3) := by decide +kernel
theorem dX8_feed_56 : decode cX8_feed 56 = .ok (.goto (-25), 3) := by decide +kernel
theorem dX8_feed_59 : decode cX8_feed 59 = .ok (.aload_n 0, 1) := by decide +kernel
theorem dX8_feed_60 : decode cX8_feed 60 = .ok (.getfield 58, 3) := by decide +kernel
theorem dX8_feed_63 : decode cX8_feed 63 = .ok (.getfield 179, 3) := by decide +kernel
theorem dX8_feed_66 : decode cX8_feed 66 = .ok (.ireturn, 1) := by decide +kernel
theorem dX8_firstLack_0 : decode cX8_firstLack 0 = .ok (.aload_n 0, 1) := by decide +kernel
theorem dX8_firstLack_1 : decode cX8_firstLack 1 = .ok (.iload_n 1, 1) := by decide +kernel
theorem dX8_firstLack_2 : decode cX8_firstLack 2 = .ok (.invokevirtual 102, 3) := by decide +kernel
theorem dX8_firstLack_5 : decode cX8_firstLack 5 = .ok (.ifnonnull 9, 3) := by decide +kernel
theorem dX8_firstLack_8 : decode cX8_firstLack 8 = .ok (.aload_n 0, 1) := by decide +kernel
theorem dX8_firstLack_9 : decode cX8_firstLack 9 = .ok (.iload_n 1, 1) := by decide +kernel
theorem dX8_firstLack_10 : decode cX8_firstLack 10 = .ok (.invokevirtual 115, 3) := by decide +kernel
theorem dX8_firstLack_13 : decode cX8_firstLack 13 = .ok (.ireturn, 1) := by decide +kernel
theorem dX8_fitsKind_0 : decode cX8_fitsKind 0 = .ok (.iload_n 0, 1) := by decide +kernel
theorem dX8_fitsKind_1 : decode cX8_fitsKind 1 = .ok (.ifCond .ne 7, 3) := by decide +kernel
theorem dX8_fitsKind_4 : decode cX8_fitsKind 4 = .ok (.iload_n 1, 1) := by decide +kernel
theorem dX8_fitsKind_5 : decode cX8_fitsKind 5 = .ok (.ifCond .eq 22, 3) := by decide +kernel
theorem dX8_fitsKind_8 : decode cX8_fitsKind 8 = .ok (.iload_n 0, 1) := by decide +kernel
theorem dX8_fitsKind_9 : decode cX8_fitsKind 9 = .ok (.iconst 1, 1) := by decide +kernel
theorem dX8_fitsKind_10 : decode cX8_fitsKind 10 = .ok (.if_icmp .ne 12, 3) := by decide +kernel
theorem dX8_fitsKind_13 : decode cX8_fitsKind 13 = .ok (.iload_n 1, 1) := by decide +kernel
theorem dX8_fitsKind_14 : decode cX8_fitsKind 14 = .ok (.bipush 50, 2) := by decide +kernel
theorem dX8_fitsKind_16 : decode cX8_fitsKind 16 = .ok (.invokestatic 88, 3) := by decide +kernel
theorem dX8_fitsKind_19 : decode cX8_fitsKind 19 = .ok (.ifCond .ne 8, 3) := by decide +kernel
theorem dX8_fitsKind_22 : decode cX8_fitsKind 22 = .ok (.iload_n 0, 1) := by decide +kernel
theorem dX8_fitsKind_23 : decode cX8_fitsKind 23 = .ok (.iconst 2, 1) := by decide +kernel
theorem dX8_fitsKind_24 : decode cX8_fitsKind 24 = .ok (.if_icmp .ne 7, 3) := by decide +kernel
theorem dX8_fitsKind_27 : decode cX8_fitsKind 27 = .ok (.iconst 1, 1) := by decide +kernel
theorem dX8_fitsKind_28 : decode cX8_fitsKind 28 = .ok (.goto 4, 3) := by decide +kernel
theorem dX8_fitsKind_31 : decode cX8_fitsKind 31 = .ok (.iconst 0, 1) := by decide +kernel
theorem dX8_fitsKind_32 : decode cX8_fitsKind 32 = .ok (.ireturn, 1) := by decide +kernel
theorem dX8_foretold_0 : decode cX8_foretold 0 = .ok (.aload_n 0, 1) := by decide +kernel
theorem dX8_foretold_1 : decode cX8_foretold 1 = .ok (.iload_n 1, 1) := by decide +kernel
theorem dX8_foretold_2 : decode cX8_foretold 2 = .ok (.iload_n 2, 1) := by decide +kernel
theorem dX8_foretold_3 : decode cX8_foretold 3 = .ok (.iload_n 3, 1) := by decide +kernel
theorem dX8_foretold_4 : decode cX8_foretold 4 = .ok (.invokevirtual 152, 3) := by decide +kernel
theorem dX8_foretold_7 : decode cX8_foretold 7 = .ok (.ifCond .ne 21, 3) := by decide +kernel
theorem dX8_foretold_28 : decode cX8_foretold 28 = .ok (.ldc 110, 2) := by decide +kernel
theorem dX8_foretold_30 : decode cX8_foretold 30 = .ok (.ireturn, 1) := by decide +kernel
theorem dX8_holder_0 : decode cX8_holder 0 = .ok (.aload_n 0, 1) := by decide +kernel
theorem dX8_holder_1 : decode cX8_holder 1 = .ok (.iload_n 1, 1) := by decide +kernel
theorem dX8_holder_2 : decode cX8_holder 2 = .ok (.invokevirtual 102, 3) := by decide +kernel
theorem dX8_holder_5 : decode cX8_holder 5 = .ok (.astore_n 3, 1) := by decide +kernel
theorem dX8_holder_6 : decode cX8_holder 6 = .ok (.aload_n 3, 1) := by decide +kernel
theorem dX8_holder_7 : decode cX8_holder 7 = .ok (.ifnull 11, 3) := by decide +kernel
theorem dX8_holder_18 : decode cX8_holder 18 = .ok (.ldc 110, 2) := by decide +kernel
theorem dX8_holder_20 : decode cX8_holder 20 = .ok (.goto 8, 3) := by decide +kernel
theorem dX8_holder_28 : decode cX8_holder 28 = .ok (.ireturn, 1) := by decide +kernel
theorem dX8_holds_0 : decode cX8_holds 0 = .ok (.iload_n 1, 1) := by decide +kernel
theorem dX8_holds_1 : decode cX8_holds 1 = .ok (.invokestatic 92, 3) := by decide +kernel
theorem dX8_holds_4 : decode cX8_holds 4 = .ok (.ifCond .eq 12, 3) := by decide +kernel
theorem dX8_holds_7 : decode cX8_holds 7 = .ok (.aload_n 0, 1) := by decide +kernel
theorem dX8_holds_8 : decode cX8_holds 8 = .ok (.getfield 13, 3) := by decide +kernel
theorem dX8_holds_11 : decode cX8_holds 11 = .ok (.iload_n 1, 1) := by decide +kernel
theorem dX8_holds_12 : decode cX8_holds 12 = .ok (.iaload, 1) := by decide +kernel
theorem dX8_holds_13 : decode cX8_holds 13 = .ok (.goto 4, 3) := by decide +kernel
theorem dX8_holds_16 : decode cX8_holds 16 = .ok (.iconst (-1), 1) := by decide +kernel
theorem dX8_holds_17 : decode cX8_holds 17 = .ok (.ireturn, 1) := by decide +kernel
theorem dX8_home_0 : decode cX8_home 0 = .ok (.iload_n 1, 1) := by decide +kernel
theorem dX8_home_1 : decode cX8_home 1 = .ok (.invokestatic 92, 3) := by decide +kernel
theorem dX8_home_4 : decode cX8_home 4 = .ok (.ifCond .ne 5, 3) := by decide +kernel
theorem dX8_home_7 : decode cX8_home 7 = .ok (.iconst (-1), 1) := by decide +kernel
theorem dX8_home_8 : decode cX8_home 8 = .ok (.ireturn, 1) := by decide +kernel
theorem dX8_home_9 : decode cX8_home 9 = .ok (.aload_n 0, 1) := by decide +kernel
theorem dX8_home_10 : decode cX8_home 10 = .ok (.iload_n 1, 1) := by decide +kernel
theorem dX8_home_11 : decode cX8_home 11 = .ok (.invokevirtual 102, 3) := by decide +kernel
theorem dX8_home_14 : decode cX8_home 14 = .ok (.astore_n 2, 1) := by decide +kernel
theorem dX8_home_15 : decode cX8_home 15 = .ok (.aload_n 2, 1) := by decide +kernel
theorem dX8_home_16 : decode cX8_home 16 = .ok (.ifnonnull 9, 3) := by decide +kernel
theorem dX8_home_19 : decode cX8_home 19 = .ok (.aload_n 0, 1) := by decide +kernel
theorem dX8_home_20 : decode cX8_home 20 = .ok (.iload_n 1, 1) := by decide +kernel
theorem dX8_home_21 : decode cX8_home 21 = .ok (.invokevirtual 115, 3) := by decide +kernel
theorem dX8_home_24 : decode cX8_home 24 = .ok (.ireturn, 1) := by decide +kernel
theorem dX8_init_0 : decode cX8_init 0 = .ok (.aload_n 0, 1) := by decide +kernel
theorem dX8_init_1 : decode cX8_init 1 = .ok (.invokespecial 1, 3) := by decide +kernel
theorem dX8_init_4 : decode cX8_init 4 = .ok (.aload_n 0, 1) := by decide +kernel
theorem dX8_init_5 : decode cX8_init 5 = .ok (.sipush 400, 3) := by decide +kernel
theorem dX8_init_8 : decode cX8_init 8 = .ok (.newarray .int, 2) := by decide +kernel
theorem dX8_init_10 : decode cX8_init 10 = .ok (.putfield 9, 3) := by decide +kernel
theorem dX8_init_13 : decode cX8_init 13 = .ok (.aload_n 0, 1) := by decide +kernel
theorem dX8_init_14 : decode cX8_init 14 = .ok (.bipush 16, 2) := by decide +kernel
theorem dX8_init_16 : decode cX8_init 16 = .ok (.newarray .int, 2) := by decide +kernel
theorem dX8_init_18 : decode cX8_init 18 = .ok (.putfield 13, 3) := by decide +kernel
theorem dX8_init_21 : decode cX8_init 21 = .ok (.aload_n 0, 1) := by decide +kernel
theorem dX8_init_22 : decode cX8_init 22 = .ok (.bipush 16, 2) := by decide +kernel
theorem dX8_init_24 : decode cX8_init 24 = .ok (.newarray .int, 2) := by decide +kernel
theorem dX8_init_26 : decode cX8_init 26 = .ok (.putfield 16, 3) := by decide +kernel
theorem dX8_init_29 : decode cX8_init 29 = .ok (.aload_n 0, 1) := by decide +kernel
theorem dX8_init_30 : decode cX8_init 30 = .ok (.bipush 16, 2) := by decide +kernel
theorem dX8_init_32 : decode cX8_init 32 = .ok (.anewarray 19, 3) := by decide +kernel
theorem dX8_init_35 : decode cX8_init 35 = .ok (.putfield 21, 3) := by decide +kernel
theorem dX8_init_38 : decode cX8_init 38 = .ok (.aload_n 0, 1) := by decide +kernel
theorem dX8_init_39 : decode cX8_init 39 = .ok (.iconst 5, 1) := by decide +kernel
theorem dX8_init_40 : decode cX8_init 40 = .ok (.anewarray 25, 3) := by decide +kernel
theorem dX8_init_43 : decode cX8_init 43 = .ok (.putfield 27, 3) := by decide +kernel
theorem dX8_init_46 : decode cX8_init 46 = .ok (.aload_n 0, 1) := by decide +kernel
theorem dX8_init_47 : decode cX8_init 47 = .ok (.bipush 9, 2) := by decide +kernel
theorem dX8_init_49 : decode cX8_init 49 = .ok (.newarray .int, 2) := by decide +kernel
theorem dX8_init_51 : decode cX8_init 51 = .ok (.putfield 31, 3) := by decide +kernel
theorem dX8_init_54 : decode cX8_init 54 = .ok (.aload_n 0, 1) := by decide +kernel
theorem dX8_init_55 : decode cX8_init 55 = .ok (.new 34, 3) := by decide +kernel
theorem dX8_init_58 : decode cX8_init 58 = .ok (.dup, 1) := by decide +kernel
theorem dX8_init_59 : decode cX8_init 59 = .ok (.invokespecial 36, 3) := by decide +kernel
theorem dX8_init_62 : decode cX8_init 62 = .ok (.putfield 37, 3) := by decide +kernel
theorem dX8_init_65 : decode cX8_init 65 = .ok (.aload_n 0, 1) := by decide +kernel
theorem dX8_init_66 : decode cX8_init 66 = .ok (.new 41, 3) := by decide +kernel
theorem dX8_init_69 : decode cX8_init 69 = .ok (.dup, 1) := by decide +kernel
theorem dX8_init_70 : decode cX8_init 70 = .ok (.invokespecial 43, 3) := by decide +kernel
theorem dX8_init_73 : decode cX8_init 73 = .ok (.putfield 44, 3) := by decide +kernel
theorem dX8_init_76 : decode cX8_init 76 = .ok (.aload_n 0, 1) := by decide +kernel
theorem dX8_init_77 : decode cX8_init 77 = .ok (.new 48, 3) := by decide +kernel
theorem dX8_init_80 : decode cX8_init 80 = .ok (.dup, 1) := by decide +kernel
theorem dX8_init_81 : decode cX8_init 81 = .ok (.invokespecial 50, 3) := by decide +kernel
theorem dX8_init_84 : decode cX8_init 84 = .ok (.putfield 51, 3) := by decide +kernel
theorem dX8_init_87 : decode cX8_init 87 = .ok (.aload_n 0, 1) := by decide +kernel
theorem dX8_init_88 : decode cX8_init 88 = .ok (.new 55, 3) := by decide +kernel
theorem dX8_init_91 : decode cX8_init 91 = .ok (.dup, 1) := by decide +kernel
theorem dX8_init_92 : decode cX8_init 92 = .ok (.invokespecial 57, 3) := by decide +kernel
theorem dX8_init_95 : decode cX8_init 95 = .ok (.putfield 58, 3) := by decide +kernel
theorem dX8_init_98 : decode cX8_init 98 = .ok (.aload_n 0, 1) := by decide +kernel
theorem dX8_init_99 : decode cX8_init 99 = .ok (.new 62, 3) := by decide +kernel
theorem dX8_init_102 : decode cX8_init 102 = .ok (.dup, 1) := by decide +kernel
theorem dX8_init_103 : decode cX8_init 103 = .ok (.invokespecial 64, 3) := by decide +kernel
theorem dX8_init_106 : decode cX8_init 106 = .ok (.putfield 65, 3) := by decide +kernel
theorem dX8_init_109 : decode cX8_init 109 = .ok (.aload_n 0, 1) := by decide +kernel
theorem dX8_init_110 : decode cX8_init 110 = .ok (.new 69, 3) := by decide +kernel
theorem dX8_init_113 : decode cX8_init 113 = .ok (.dup, 1) := by decide +kernel
theorem dX8_init_114 : decode cX8_init 114 = .ok (.invokespecial 71, 3) := by decide +kernel
theorem dX8_init_117 : decode cX8_init 117 = .ok (.putfield 72, 3) := by decide +kernel
theorem dX8_init_120 : decode cX8_init 120 = .ok (.aload_n 0, 1) := by decide +kernel
theorem dX8_init_121 : decode cX8_init 121 = .ok (.new 69, 3) := by decide +kernel
theorem dX8_init_124 : decode cX8_init 124 = .ok (.dup, 1) := by decide +kernel
theorem dX8_init_125 : decode cX8_init 125 = .ok (.invokespecial 71, 3) := by decide +kernel
theorem dX8_init_128 : decode cX8_init 128 = .ok (.putfield 76, 3) := by decide +kernel
theorem dX8_init_131 : decode cX8_init 131 = .ok (.aload_n 0, 1) := by decide +kernel
theorem dX8_init_132 : decode cX8_init 132 = .ok (.iconst 0, 1) := by decide +kernel
theorem dX8_init_133 : decode cX8_init 133 = .ok (.putfield 79, 3) := by decide +kernel
theorem dX8_init_136 : decode cX8_init 136 = .ok (.iconst 0, 1) := by decide +kernel
theorem dX8_init_137 : decode cX8_init 137 = .ok (.istore_n 1, 1) := by decide +kernel
theorem dX8_init_138 : decode cX8_init 138 = .ok (.iload_n 1, 1) := by decide +kernel
theorem dX8_init_139 : decode cX8_init 139 = .ok (.sipush 400, 3) := by decide +kernel
theorem dX8_init_142 : decode cX8_init 142 = .ok (.if_icmp .ge 17, 3) := by decide +kernel
theorem dX8_init_145 : decode cX8_init 145 = .ok (.aload_n 0, 1) := by decide +kernel
theorem dX8_init_146 : decode cX8_init 146 = .ok (.getfield 9, 3) := by decide +kernel
theorem dX8_init_149 : decode cX8_init 149 = .ok (.iload_n 1, 1) := by decide +kernel
theorem dX8_init_150 : decode cX8_init 150 = .ok (.bipush (-100), 2) := by decide +kernel
theorem dX8_init_152 : decode cX8_init 152 = .ok (.iastore, 1) := by decide +kernel
theorem dX8_init_153 : decode cX8_init 153 = .ok (.iinc 1 1, 3) := by decide +kernel
theorem dX8_init_156 : decode cX8_init 156 = .ok (.goto (-18), 3) := by decide +kernel
theorem dX8_init_159 : decode cX8_init 159 = .ok (.iconst 0, 1) := by decide +kernel
theorem dX8_init_160 : decode cX8_init 160 = .ok (.istore_n 1, 1) := by decide +kernel
theorem dX8_init_161 : decode cX8_init 161 = .ok (.iload_n 1, 1) := by decide +kernel
theorem dX8_init_162 : decode cX8_init 162 = .ok (.bipush 16, 2) := by decide +kernel
theorem dX8_init_164 : decode cX8_init 164 = .ok (.if_icmp .ge 17, 3) := by decide +kernel
theorem dX8_init_167 : decode cX8_init 167 = .ok (.aload_n 0, 1) := by decide +kernel
theorem dX8_init_168 : decode cX8_init 168 = .ok (.getfield 13, 3) := by decide +kernel
theorem dX8_init_171 : decode cX8_init 171 = .ok (.iload_n 1, 1) := by decide +kernel
theorem dX8_init_172 : decode cX8_init 172 = .ok (.bipush (-5), 2) := by decide +kernel
theorem dX8_init_174 : decode cX8_init 174 = .ok (.iastore, 1) := by decide +kernel
theorem dX8_init_175 : decode cX8_init 175 = .ok (.iinc 1 1, 3) := by decide +kernel
theorem dX8_init_178 : decode cX8_init 178 = .ok (.goto (-17), 3) := by decide +kernel
theorem dX8_init_181 : decode cX8_init 181 = .ok (.iconst 0, 1) := by decide +kernel
theorem dX8_init_182 : decode cX8_init 182 = .ok (.istore_n 1, 1) := by decide +kernel
theorem dX8_init_183 : decode cX8_init 183 = .ok (.iload_n 1, 1) := by decide +kernel
theorem dX8_init_184 : decode cX8_init 184 = .ok (.iconst 5, 1) := by decide +kernel
theorem dX8_init_185 : decode cX8_init 185 = .ok (.if_icmp .ge 22, 3) := by decide +kernel
theorem dX8_init_188 : decode cX8_init 188 = .ok (.aload_n 0, 1) := by decide +kernel
theorem dX8_init_189 : decode cX8_init 189 = .ok (.getfield 27, 3) := by decide +kernel
theorem dX8_init_192 : decode cX8_init 192 = .ok (.iload_n 1, 1) := by decide +kernel
theorem dX8_init_193 : decode cX8_init 193 = .ok (.new 25, 3) := by decide +kernel
theorem dX8_init_196 : decode cX8_init 196 = .ok (.dup, 1) := by decide +kernel
theorem dX8_init_197 : decode cX8_init 197 = .ok (.invokespecial 83, 3) := by decide +kernel
theorem dX8_init_200 : decode cX8_init 200 = .ok (.aastore, 1) := by decide +kernel
theorem dX8_init_201 : decode cX8_init 201 = .ok (.iinc 1 1, 3) := by decide +kernel
theorem dX8_init_204 : decode cX8_init 204 = .ok (.goto (-21), 3) := by decide +kernel
theorem dX8_init_207 : decode cX8_init 207 = .ok (.return_, 1) := by decide +kernel
theorem dX8_isDay_0 : decode cX8_isDay 0 = .ok (.iload_n 0, 1) := by decide +kernel
theorem dX8_isDay_1 : decode cX8_isDay 1 = .ok (.ifCond .lt 14, 3) := by decide +kernel
theorem dX8_isDay_4 : decode cX8_isDay 4 = .ok (.iload_n 0, 1) := by decide +kernel
theorem dX8_isDay_5 : decode cX8_isDay 5 = .ok (.sipush 400, 3) := by decide +kernel
theorem dX8_isDay_8 : decode cX8_isDay 8 = .ok (.if_icmp .ge 7, 3) := by decide +kernel
theorem dX8_isDay_11 : decode cX8_isDay 11 = .ok (.iconst 1, 1) := by decide +kernel
theorem dX8_isDay_12 : decode cX8_isDay 12 = .ok (.goto 4, 3) := by decide +kernel
theorem dX8_isDay_15 : decode cX8_isDay 15 = .ok (.iconst 0, 1) := by decide +kernel
theorem dX8_isDay_16 : decode cX8_isDay 16 = .ok (.ireturn, 1) := by decide +kernel
theorem dX8_isKnowledge_0 : decode cX8_isKnowledge 0 = .ok (.iload_n 0, 1) := by decide +kernel
theorem dX8_isKnowledge_1 : decode cX8_isKnowledge 1 = .ok (.iconst (-1), 1) := by decide +kernel
theorem dX8_isKnowledge_2 : decode cX8_isKnowledge 2 = .ok (.if_icmp .eq 10, 3) := by decide +kernel
theorem dX8_isKnowledge_5 : decode cX8_isKnowledge 5 = .ok (.iload_n 0, 1) := by decide +kernel
theorem dX8_isKnowledge_6 : decode cX8_isKnowledge 6 = .ok (.invokestatic 84, 3) := by decide +kernel
theorem dX8_isKnowledge_9 : decode cX8_isKnowledge 9 = .ok (.ifCond .eq 7, 3) := by decide +kernel
theorem dX8_isKnowledge_12 : decode cX8_isKnowledge 12 = .ok (.iconst 1, 1) := by decide +kernel
theorem dX8_isKnowledge_13 : decode cX8_isKnowledge 13 = .ok (.goto 4, 3) := by decide +kernel
theorem dX8_isKnowledge_16 : decode cX8_isKnowledge 16 = .ok (.iconst 0, 1) := by decide +kernel
theorem dX8_isKnowledge_17 : decode cX8_isKnowledge 17 = .ok (.ireturn, 1) := by decide +kernel
theorem dX8_isPast_0 : decode cX8_isPast 0 = .ok (.iload_n 1, 1) := by decide +kernel
theorem dX8_isPast_1 : decode cX8_isPast 1 = .ok (.ifCond .lt 15, 3) := by decide +kernel
theorem dX8_isPast_4 : decode cX8_isPast 4 = .ok (.iload_n 1, 1) := by decide +kernel
theorem dX8_isPast_5 : decode cX8_isPast 5 = .ok (.aload_n 0, 1) := by decide +kernel
theorem dX8_isPast_6 : decode cX8_isPast 6 = .ok (.getfield 79, 3) := by decide +kernel
theorem dX8_isPast_9 : decode cX8_isPast 9 = .ok (.if_icmp .gt 7, 3) := by decide +kernel
theorem dX8_isPast_12 : decode cX8_isPast 12 = .ok (.iconst 1, 1) := by decide +kernel
theorem dX8_isPast_13 : decode cX8_isPast 13 = .ok (.goto 4, 3) := by decide +kernel
theorem dX8_isPast_16 : decode cX8_isPast 16 = .ok (.iconst 0, 1) := by decide +kernel
theorem dX8_isPast_17 : decode cX8_isPast 17 = .ok (.ireturn, 1) := by decide +kernel
theorem dX8_isPlace_0 : decode cX8_isPlace 0 = .ok (.iload_n 0, 1) := by decide +kernel
theorem dX8_isPlace_1 : decode cX8_isPlace 1 = .ok (.ifCond .lt 13, 3) := by decide +kernel
theorem dX8_isPlace_4 : decode cX8_isPlace 4 = .ok (.iload_n 0, 1) := by decide +kernel
theorem dX8_isPlace_5 : decode cX8_isPlace 5 = .ok (.bipush 16, 2) := by decide +kernel
theorem dX8_isPlace_7 : decode cX8_isPlace 7 = .ok (.if_icmp .ge 7, 3) := by decide +kernel
theorem dX8_isPlace_10 : decode cX8_isPlace 10 = .ok (.iconst 1, 1) := by decide +kernel
theorem dX8_isPlace_11 : decode cX8_isPlace 11 = .ok (.goto 4, 3) := by decide +kernel
theorem dX8_isPlace_14 : decode cX8_isPlace 14 = .ok (.iconst 0, 1) := by decide +kernel
theorem dX8_isPlace_15 : decode cX8_isPlace 15 = .ok (.ireturn, 1) := by decide +kernel
theorem dX8_isShip_0 : decode cX8_isShip 0 = .ok (.iload_n 0, 1) := by decide +kernel
theorem dX8_isShip_1 : decode cX8_isShip 1 = .ok (.ifCond .lt 12, 3) := by decide +kernel
theorem dX8_isShip_4 : decode cX8_isShip 4 = .ok (.iload_n 0, 1) := by decide +kernel
theorem dX8_isShip_5 : decode cX8_isShip 5 = .ok (.iconst 5, 1) := by decide +kernel
theorem dX8_isShip_6 : decode cX8_isShip 6 = .ok (.if_icmp .ge 7, 3) := by decide +kernel
theorem dX8_isShip_9 : decode cX8_isShip 9 = .ok (.iconst 1, 1) := by decide +kernel
theorem dX8_isShip_10 : decode cX8_isShip 10 = .ok (.goto 4, 3) := by decide +kernel
theorem dX8_isShip_13 : decode cX8_isShip 13 = .ok (.iconst 0, 1) := by decide +kernel
theorem dX8_isShip_14 : decode cX8_isShip 14 = .ok (.ireturn, 1) := by decide +kernel
theorem dX8_isStretch_0 : decode cX8_isStretch 0 = .ok (.iload_n 0, 1) := by decide +kernel
theorem dX8_isStretch_1 : decode cX8_isStretch 1 = .ok (.invokestatic 84, 3) := by decide +kernel
theorem dX8_isStretch_4 : decode cX8_isStretch 4 = .ok (.ifCond .eq 27, 3) := by decide +kernel
theorem dX8_isStretch_7 : decode cX8_isStretch 7 = .ok (.iload_n 1, 1) := by decide +kernel
theorem dX8_isStretch_8 : decode cX8_isStretch 8 = .ok (.invokestatic 84, 3) := by decide +kernel
theorem dX8_isStretch_11 : decode cX8_isStretch 11 = .ok (.ifCond .eq 20, 3) := by decide +kernel
theorem dX8_isStretch_14 : decode cX8_isStretch 14 = .ok (.iload_n 0, 1) := by decide +kernel
theorem dX8_isStretch_15 : decode cX8_isStretch 15 = .ok (.iload_n 1, 1) := by decide +kernel
theorem dX8_isStretch_16 : decode cX8_isStretch 16 = .ok (.if_icmp .ge 15, 3) := by decide +kernel
theorem dX8_isStretch_19 : decode cX8_isStretch 19 = .ok (.iload_n 1, 1) := by decide +kernel
theorem dX8_isStretch_20 : decode cX8_isStretch 20 = .ok (.iload_n 0, 1) := by decide +kernel
theorem dX8_isStretch_21 : decode cX8_isStretch 21 = .ok (.isub, 1) := by decide +kernel
theorem dX8_isStretch_22 : decode cX8_isStretch 22 = .ok (.bipush 60, 2) := by decide +kernel
theorem dX8_isStretch_24 : decode cX8_isStretch 24 = .ok (.if_icmp .gt 7, 3) := by decide +kernel
theorem dX8_isStretch_27 : decode cX8_isStretch 27 = .ok (.iconst 1, 1) := by decide +kernel
theorem dX8_isStretch_28 : decode cX8_isStretch 28 = .ok (.goto 4, 3) := by decide +kernel
theorem dX8_isStretch_31 : decode cX8_isStretch 31 = .ok (.iconst 0, 1) := by decide +kernel
theorem dX8_isStretch_32 : decode cX8_isStretch 32 = .ok (.ireturn, 1) := by decide +kernel
theorem dX8_isWithin_0 : decode cX8_isWithin 0 = .ok (.iload_n 0, 1) := by decide +kernel
theorem dX8_isWithin_1 : decode cX8_isWithin 1 = .ok (.iload_n 1, 1) := by decide +kernel
theorem dX8_isWithin_2 : decode cX8_isWithin 2 = .ok (.ineg, 1) := by decide +kernel
theorem dX8_isWithin_3 : decode cX8_isWithin 3 = .ok (.if_icmp .lt 12, 3) := by decide +kernel
theorem dX8_isWithin_6 : decode cX8_isWithin 6 = .ok (.iload_n 0, 1) := by decide +kernel
theorem dX8_isWithin_7 : decode cX8_isWithin 7 = .ok (.iload_n 1, 1) := by decide +kernel
theorem dX8_isWithin_8 : decode cX8_isWithin 8 = .ok (.if_icmp .gt 7, 3) := by decide +kernel
theorem dX8_isWithin_11 : decode cX8_isWithin 11 = .ok (.iconst 1, 1) := by decide +kernel
theorem dX8_isWithin_12 : decode cX8_isWithin 12 = .ok (.goto 4, 3) := by decide +kernel
theorem dX8_isWithin_15 : decode cX8_isWithin 15 = .ok (.iconst 0, 1) := by decide +kernel
theorem dX8_isWithin_16 : decode cX8_isWithin 16 = .ok (.ireturn, 1) := by decide +kernel
theorem dX8_jump_0 : decode cX8_jump 0 = .ok (.iload 4, 2) := by decide +kernel
theorem dX8_jump_2 : decode cX8_jump 2 = .ok (.ifCond .lt 11, 3) := by decide +kernel
theorem dX8_jump_5 : decode cX8_jump 5 = .ok (.iload 4, 2) := by decide +kernel
theorem dX8_jump_7 : decode cX8_jump 7 = .ok (.sipush 2000, 3) := by decide +kernel
theorem dX8_jump_10 : decode cX8_jump 10 = .ok (.if_icmp .le 5, 3) := by decide +kernel
theorem dX8_jump_13 : decode cX8_jump 13 = .ok (.iconst (-1), 1) := by decide +kernel
theorem dX8_jump_14 : decode cX8_jump 14 = .ok (.ireturn, 1) := by decide +kernel
theorem dX8_jump_15 : decode cX8_jump 15 = .ok (.aload_n 0, 1) := by decide +kernel
theorem dX8_jump_16 : decode cX8_jump 16 = .ok (.iload_n 1, 1) := by decide +kernel
theorem dX8_jump_17 : decode cX8_jump 17 = .ok (.iload_n 2, 1) := by decide +kernel
theorem dX8_jump_18 : decode cX8_jump 18 = .ok (.iload_n 3, 1) := by decide +kernel
theorem dX8_jump_19 : decode cX8_jump 19 = .ok (.invokevirtual 152, 3) := by decide +kernel
theorem dX8_jump_22 : decode cX8_jump 22 = .ok (.istore 5, 2) := by decide +kernel
theorem dX8_jump_24 : decode cX8_jump 24 = .ok (.iload 5, 2) := by decide +kernel
theorem dX8_jump_26 : decode cX8_jump 26 = .ok (.ifCond .eq 6, 3) := by decide +kernel
theorem dX8_jump_29 : decode cX8_jump 29 = .ok (.iload 5, 2) := by decide +kernel
theorem dX8_jump_31 : decode cX8_jump 31 = .ok (.ireturn, 1) := by decide +kernel
theorem dX8_lackAt_0 : decode cX8_lackAt 0 = .ok (.iload_n 1, 1) := by decide +kernel
theorem dX8_lackAt_1 : decode cX8_lackAt 1 = .ok (.invokestatic 92, 3) := by decide +kernel
theorem dX8_lackAt_4 : decode cX8_lackAt 4 = .ok (.ifCond .ne 5, 3) := by decide +kernel
theorem dX8_lackAt_7 : decode cX8_lackAt 7 = .ok (.iconst (-1), 1) := by decide +kernel
theorem dX8_lackAt_8 : decode cX8_lackAt 8 = .ok (.ireturn, 1) := by decide +kernel
theorem dX8_lackAt_9 : decode cX8_lackAt 9 = .ok (.aload_n 0, 1) := by decide +kernel
theorem dX8_lackAt_10 : decode cX8_lackAt 10 = .ok (.getfield 13, 3) := by decide +kernel
theorem dX8_lackAt_13 : decode cX8_lackAt 13 = .ok (.iload_n 1, 1) := by decide +kernel
theorem dX8_lackAt_14 : decode cX8_lackAt 14 = .ok (.iaload, 1) := by decide +kernel
theorem dX8_lackAt_15 : decode cX8_lackAt 15 = .ok (.bipush (-5), 2) := by decide +kernel
theorem dX8_lackAt_17 : decode cX8_lackAt 17 = .ok (.if_icmp .ne 8, 3) := by decide +kernel
theorem dX8_lackAt_20 : decode cX8_lackAt 20 = .ok (.bipush (-2), 2) := by decide +kernel
theorem dX8_lackAt_22 : decode cX8_lackAt 22 = .ok (.goto 5, 3) := by decide +kernel
theorem dX8_lackAt_27 : decode cX8_lackAt 27 = .ok (.ireturn, 1) := by decide +kernel
theorem dX8_late_0 : decode cX8_late 0 = .ok (.aload_n 0, 1) := by decide +kernel
theorem dX8_late_1 : decode cX8_late 1 = .ok (.iload_n 1, 1) := by decide +kernel
theorem dX8_late_2 : decode cX8_late 2 = .ok (.iload_n 2, 1) := by decide +kernel
theorem dX8_late_3 : decode cX8_late 3 = .ok (.iconst 2, 1) := by decide +kernel
theorem dX8_late_4 : decode cX8_late 4 = .ok (.invokevirtual 135, 3) := by decide +kernel
theorem dX8_late_7 : decode cX8_late 7 = .ok (.ireturn, 1) := by decide +kernel
theorem dX8_law_0 : decode cX8_law 0 = .ok (.aload_n 0, 1) := by decide +kernel
theorem dX8_law_1 : decode cX8_law 1 = .ok (.iload_n 1, 1) := by decide +kernel
theorem dX8_law_2 : decode cX8_law 2 = .ok (.iload_n 2, 1) := by decide +kernel
theorem dX8_law_3 : decode cX8_law 3 = .ok (.iload_n 3, 1) := by decide +kernel
theorem dX8_law_4 : decode cX8_law 4 = .ok (.invokevirtual 152, 3) := by decide +kernel
theorem dX8_law_7 : decode cX8_law 7 = .ok (.istore 4, 2) := by decide +kernel
theorem dX8_law_9 : decode cX8_law 9 = .ok (.iload 4, 2) := by decide +kernel
theorem dX8_law_11 : decode cX8_law 11 = .ok (.ifCond .eq 6, 3) := by decide +kernel
theorem dX8_law_14 : decode cX8_law 14 = .ok (.iload 4, 2) := by decide +kernel
theorem dX8_law_16 : decode cX8_law 16 = .ok (.ireturn, 1) := by decide +kernel
theorem dX8_lend_0 : decode cX8_lend 0 = .ok (.iload_n 1, 1) := by decide +kernel
theorem dX8_lend_1 : decode cX8_lend 1 = .ok (.invokestatic 92, 3) := by decide +kernel
theorem dX8_lend_4 : decode cX8_lend 4 = .ok (.ifCond .eq 13, 3) := by decide +kernel
theorem dX8_lend_7 : decode cX8_lend 7 = .ok (.iload_n 2, 1) := by decide +kernel
theorem dX8_lend_8 : decode cX8_lend 8 = .ok (.ifCond .lt 9, 3) := by decide +kernel
theorem dX8_lend_11 : decode cX8_lend 11 = .ok (.iload_n 2, 1) := by decide +kernel
theorem dX8_lend_12 : decode cX8_lend 12 = .ok (.bipush 20, 2) := by decide +kernel
theorem dX8_lend_14 : decode cX8_lend 14 = .ok (.if_icmp .lt 5, 3) := by decide +kernel
theorem dX8_lend_17 : decode cX8_lend 17 = .ok (.iconst (-1), 1) := by decide +kernel
theorem dX8_lend_18 : decode cX8_lend 18 = .ok (.ireturn, 1) := by decide +kernel
theorem dX8_lend_19 : decode cX8_lend 19 = .ok (.aload_n 0, 1) := by decide +kernel
theorem dX8_lend_20 : decode cX8_lend 20 = .ok (.iload_n 1, 1) := by decide +kernel
theorem dX8_lend_21 : decode cX8_lend 21 = .ok (.invokevirtual 102, 3) := by decide +kernel
theorem dX8_lend_24 : decode cX8_lend 24 = .ok (.astore_n 3, 1) := by decide +kernel
theorem dX8_lend_25 : decode cX8_lend 25 = .ok (.aload_n 3, 1) := by decide +kernel
theorem dX8_lend_26 : decode cX8_lend 26 = .ok (.ifnonnull 9, 3) := by decide +kernel
theorem dX8_lend_29 : decode cX8_lend 29 = .ok (.aload_n 0, 1) := by decide +kernel
theorem dX8_lend_30 : decode cX8_lend 30 = .ok (.iload_n 1, 1) := by decide +kernel
theorem dX8_lend_31 : decode cX8_lend 31 = .ok (.invokevirtual 115, 3) := by decide +kernel
theorem dX8_lend_34 : decode cX8_lend 34 = .ok (.ireturn, 1) := by decide +kernel
theorem dX8_markOn_0 : decode cX8_markOn 0 = .ok (.iload_n 1, 1) := by decide +kernel
theorem dX8_markOn_1 : decode cX8_markOn 1 = .ok (.invokestatic 92, 3) := by decide +kernel
theorem dX8_markOn_4 : decode cX8_markOn 4 = .ok (.ifCond .eq 11, 3) := by decide +kernel
theorem dX8_markOn_7 : decode cX8_markOn 7 = .ok (.aload_n 0, 1) := by decide +kernel
theorem dX8_markOn_8 : decode cX8_markOn 8 = .ok (.iload_n 2, 1) := by decide +kernel
theorem dX8_markOn_9 : decode cX8_markOn 9 = .ok (.invokevirtual 111, 3) := by decide +kernel
theorem dX8_markOn_12 : decode cX8_markOn 12 = .ok (.ifCond .ne 5, 3) := by decide +kernel
theorem dX8_markOn_15 : decode cX8_markOn 15 = .ok (.iconst (-1), 1) := by decide +kernel
theorem dX8_markOn_16 : decode cX8_markOn 16 = .ok (.ireturn, 1) := by decide +kernel
theorem dX8_markOn_17 : decode cX8_markOn 17 = .ok (.aload_n 0, 1) := by decide +kernel
theorem dX8_markOn_18 : decode cX8_markOn 18 = .ok (.iload_n 1, 1) := by decide +kernel
theorem dX8_markOn_19 : decode cX8_markOn 19 = .ok (.invokevirtual 102, 3) := by decide +kernel
theorem dX8_markOn_22 : decode cX8_markOn 22 = .ok (.astore 4, 2) := by decide +kernel
theorem dX8_markOn_24 : decode cX8_markOn 24 = .ok (.aload 4, 2) := by decide +kernel
theorem dX8_markOn_26 : decode cX8_markOn 26 = .ok (.ifnonnull 9, 3) := by decide +kernel
theorem dX8_markOn_29 : decode cX8_markOn 29 = .ok (.aload_n 0, 1) := by decide +kernel
theorem dX8_markOn_30 : decode cX8_markOn 30 = .ok (.iload_n 1, 1) := by decide +kernel
theorem dX8_markOn_31 : decode cX8_markOn 31 = .ok (.invokevirtual 115, 3) := by decide +kernel
theorem dX8_markOn_34 : decode cX8_markOn 34 = .ok (.ireturn, 1) := by decide +kernel
theorem dX8_off_0 : decode cX8_off 0 = .ok (.iload_n 1, 1) := by decide +kernel
theorem dX8_off_1 : decode cX8_off 1 = .ok (.iconst 1, 1) := by decide +kernel
theorem dX8_off_2 : decode cX8_off 2 = .ok (.if_icmp .lt 39, 3) := by decide +kernel
theorem dX8_off_5 : decode cX8_off 5 = .ok (.iload_n 1, 1) := by decide +kernel
theorem dX8_off_6 : decode cX8_off 6 = .ok (.bipush 6, 2) := by decide +kernel
theorem dX8_off_8 : decode cX8_off 8 = .ok (.if_icmp .ge 33, 3) := by decide +kernel
theorem dX8_off_11 : decode cX8_off 11 = .ok (.iload_n 2, 1) := by decide +kernel
theorem dX8_off_12 : decode cX8_off 12 = .ok (.invokestatic 84, 3) := by decide +kernel
theorem dX8_off_15 : decode cX8_off 15 = .ok (.ifCond .eq 26, 3) := by decide +kernel
theorem dX8_off_18 : decode cX8_off 18 = .ok (.iload_n 3, 1) := by decide +kernel
theorem dX8_off_19 : decode cX8_off 19 = .ok (.invokestatic 84, 3) := by decide +kernel
theorem dX8_off_22 : decode cX8_off 22 = .ok (.ifCond .eq 19, 3) := by decide +kernel
theorem dX8_off_25 : decode cX8_off 25 = .ok (.iload_n 2, 1) := by decide +kernel
theorem dX8_off_26 : decode cX8_off 26 = .ok (.iload_n 3, 1) := by decide +kernel
theorem dX8_off_27 : decode cX8_off 27 = .ok (.if_icmp .gt 14, 3) := by decide +kernel
theorem dX8_off_30 : decode cX8_off 30 = .ok (.iload 4, 2) := by decide +kernel
theorem dX8_off_32 : decode cX8_off 32 = .ok (.sipush 10000, 3) := by decide +kernel
theorem dX8_off_35 : decode cX8_off 35 = .ok (.invokestatic 88, 3) := by decide +kernel
theorem dX8_off_38 : decode cX8_off 38 = .ok (.ifCond .ne 5, 3) := by decide +kernel
theorem dX8_off_41 : decode cX8_off 41 = .ok (.iconst (-1), 1) := by decide +kernel
theorem dX8_off_42 : decode cX8_off 42 = .ok (.ireturn, 1) := by decide +kernel
theorem dX8_off_43 : decode cX8_off 43 = .ok (.aload_n 0, 1) := by decide +kernel
theorem dX8_off_44 : decode cX8_off 44 = .ok (.getfield 37, 3) := by decide +kernel
theorem dX8_off_47 : decode cX8_off 47 = .ok (.getfield 142, 3) := by decide +kernel
theorem dX8_off_50 : decode cX8_off 50 = .ok (.bipush 60, 2) := by decide +kernel
theorem dX8_off_52 : decode cX8_off 52 = .ok (.if_icmp .lt 6, 3) := by decide +kernel
theorem dX8_off_58 : decode cX8_off 58 = .ok (.aload_n 0, 1) := by decide +kernel
theorem dX8_off_59 : decode cX8_off 59 = .ok (.getfield 37, 3) := by decide +kernel
theorem dX8_off_62 : decode cX8_off 62 = .ok (.iload_n 1, 1) := by decide +kernel
theorem dX8_off_63 : decode cX8_off 63 = .ok (.iload_n 2, 1) := by decide +kernel
theorem dX8_off_64 : decode cX8_off 64 = .ok (.iload_n 3, 1) := by decide +kernel
theorem dX8_off_65 : decode cX8_off 65 = .ok (.iload 4, 2) := by decide +kernel
theorem dX8_off_67 : decode cX8_off 67 = .ok (.aload_n 0, 1) := by decide +kernel
theorem dX8_off_68 : decode cX8_off 68 = .ok (.getfield 79, 3) := by decide +kernel
theorem dX8_off_71 : decode cX8_off 71 = .ok (.invokevirtual 145, 3) := by decide +kernel
theorem dX8_off_74 : decode cX8_off 74 = .ok (.aload_n 0, 1) := by decide +kernel
theorem dX8_off_75 : decode cX8_off 75 = .ok (.getfield 37, 3) := by decide +kernel
theorem dX8_off_78 : decode cX8_off 78 = .ok (.getfield 142, 3) := by decide +kernel
theorem dX8_off_81 : decode cX8_off 81 = .ok (.ireturn, 1) := by decide +kernel
theorem dX8_order_0 : decode cX8_order 0 = .ok (.aload_n 0, 1) := by decide +kernel
theorem dX8_order_1 : decode cX8_order 1 = .ok (.iload_n 1, 1) := by decide +kernel
theorem dX8_order_2 : decode cX8_order 2 = .ok (.iload_n 2, 1) := by decide +kernel
theorem dX8_order_3 : decode cX8_order 3 = .ok (.iload_n 3, 1) := by decide +kernel
theorem dX8_order_4 : decode cX8_order 4 = .ok (.invokevirtual 152, 3) := by decide +kernel
theorem dX8_order_7 : decode cX8_order 7 = .ok (.istore 4, 2) := by decide +kernel
theorem dX8_order_9 : decode cX8_order 9 = .ok (.iload 4, 2) := by decide +kernel
theorem dX8_order_11 : decode cX8_order 11 = .ok (.ifCond .eq 6, 3) := by decide +kernel
theorem dX8_order_14 : decode cX8_order 14 = .ok (.iload 4, 2) := by decide +kernel
theorem dX8_order_16 : decode cX8_order 16 = .ok (.ireturn, 1) := by decide +kernel
theorem dX8_placesWith_0 : decode cX8_placesWith 0 = .ok (.iconst 0, 1) := by decide +kernel
theorem dX8_placesWith_1 : decode cX8_placesWith 1 = .ok (.istore_n 2, 1) := by decide +kernel
theorem dX8_placesWith_2 : decode cX8_placesWith 2 = .ok (.iconst 0, 1) := by decide +kernel
theorem dX8_placesWith_3 : decode cX8_placesWith 3 = .ok (.istore_n 3, 1) := by decide +kernel
theorem dX8_placesWith_4 : decode cX8_placesWith 4 = .ok (.iload_n 3, 1) := by decide +kernel
theorem dX8_placesWith_5 : decode cX8_placesWith 5 = .ok (.bipush 16, 2) := by decide +kernel
theorem dX8_placesWith_7 : decode cX8_placesWith 7 = .ok (.if_icmp .ge 22, 3) := by decide +kernel
theorem dX8_placesWith_10 : decode cX8_placesWith 10 = .ok (.aload_n 0, 1) := by decide +kernel
theorem dX8_placesWith_11 : decode cX8_placesWith 11 = .ok (.getfield 13, 3) := by decide +kernel
theorem dX8_placesWith_14 : decode cX8_placesWith 14 = .ok (.iload_n 3, 1) := by decide +kernel
theorem dX8_placesWith_15 : decode cX8_placesWith 15 = .ok (.iaload, 1) := by decide +kernel
theorem dX8_placesWith_16 : decode cX8_placesWith 16 = .ok (.iload_n 1, 1) := by decide +kernel
theorem dX8_placesWith_17 : decode cX8_placesWith 17 = .ok (.if_icmp .ne 6, 3) := by decide +kernel
theorem dX8_placesWith_23 : decode cX8_placesWith 23 = .ok (.iinc 3 1, 3) := by decide +kernel
theorem dX8_placesWith_26 : decode cX8_placesWith 26 = .ok (.goto (-22), 3) := by decide +kernel
theorem dX8_placesWith_29 : decode cX8_placesWith 29 = .ok (.iload_n 2, 1) := by decide +kernel
theorem dX8_placesWith_30 : decode cX8_placesWith 30 = .ok (.ireturn, 1) := by decide +kernel
theorem dX8_put_0 : decode cX8_put 0 = .ok (.iload_n 1, 1) := by decide +kernel
theorem dX8_put_1 : decode cX8_put 1 = .ok (.invokestatic 92, 3) := by decide +kernel
theorem dX8_put_4 : decode cX8_put 4 = .ok (.ifCond .eq 11, 3) := by decide +kernel
theorem dX8_put_7 : decode cX8_put 7 = .ok (.iload_n 2, 1) := by decide +kernel
theorem dX8_put_8 : decode cX8_put 8 = .ok (.iload_n 3, 1) := by decide +kernel
theorem dX8_put_9 : decode cX8_put 9 = .ok (.invokestatic 95, 3) := by decide +kernel
theorem dX8_put_12 : decode cX8_put 12 = .ok (.ifCond .ne 5, 3) := by decide +kernel
theorem dX8_put_15 : decode cX8_put 15 = .ok (.iconst (-1), 1) := by decide +kernel
theorem dX8_put_16 : decode cX8_put 16 = .ok (.ireturn, 1) := by decide +kernel
theorem dX8_put_17 : decode cX8_put 17 = .ok (.aload_n 0, 1) := by decide +kernel
theorem dX8_put_18 : decode cX8_put 18 = .ok (.getfield 13, 3) := by decide +kernel
theorem dX8_put_21 : decode cX8_put 21 = .ok (.iload_n 1, 1) := by decide +kernel
theorem dX8_put_22 : decode cX8_put 22 = .ok (.iaload, 1) := by decide +kernel
theorem dX8_put_23 : decode cX8_put 23 = .ok (.bipush (-5), 2) := by decide +kernel
theorem dX8_put_25 : decode cX8_put 25 = .ok (.if_icmp .eq 6, 3) := by decide +kernel
theorem dX8_put_31 : decode cX8_put 31 = .ok (.aload_n 0, 1) := by decide +kernel
theorem dX8_put_32 : decode cX8_put 32 = .ok (.getfield 13, 3) := by decide +kernel
theorem dX8_put_35 : decode cX8_put 35 = .ok (.iload_n 1, 1) := by decide +kernel
theorem dX8_put_36 : decode cX8_put 36 = .ok (.iload_n 2, 1) := by decide +kernel
theorem dX8_put_37 : decode cX8_put 37 = .ok (.iastore, 1) := by decide +kernel
theorem dX8_put_38 : decode cX8_put 38 = .ok (.aload_n 0, 1) := by decide +kernel
theorem dX8_put_39 : decode cX8_put 39 = .ok (.getfield 16, 3) := by decide +kernel
theorem dX8_put_42 : decode cX8_put 42 = .ok (.iload_n 1, 1) := by decide +kernel
theorem dX8_put_43 : decode cX8_put 43 = .ok (.iload_n 3, 1) := by decide +kernel
theorem dX8_put_44 : decode cX8_put 44 = .ok (.iastore, 1) := by decide +kernel
theorem dX8_put_45 : decode cX8_put 45 = .ok (.iload_n 2, 1) := by decide +kernel
theorem dX8_put_46 : decode cX8_put 46 = .ok (.iconst 2, 1) := by decide +kernel
theorem dX8_put_47 : decode cX8_put 47 = .ok (.if_icmp .eq 8, 3) := by decide +kernel
theorem dX8_put_50 : decode cX8_put 50 = .ok (.aload_n 0, 1) := by decide +kernel
theorem dX8_put_51 : decode cX8_put 51 = .ok (.iload_n 1, 1) := by decide +kernel
theorem dX8_put_52 : decode cX8_put 52 = .ok (.invokevirtual 98, 3) := by decide +kernel
theorem dX8_put_55 : decode cX8_put 55 = .ok (.iconst 1, 1) := by decide +kernel
theorem dX8_put_56 : decode cX8_put 56 = .ok (.ireturn, 1) := by decide +kernel
theorem dX8_rate_0 : decode cX8_rate 0 = .ok (.aload_n 0, 1) := by decide +kernel
theorem dX8_rate_1 : decode cX8_rate 1 = .ok (.iload_n 1, 1) := by decide +kernel
theorem dX8_rate_2 : decode cX8_rate 2 = .ok (.invokevirtual 102, 3) := by decide +kernel
theorem dX8_rate_5 : decode cX8_rate 5 = .ok (.astore 4, 2) := by decide +kernel
theorem dX8_rate_7 : decode cX8_rate 7 = .ok (.aload 4, 2) := by decide +kernel
theorem dX8_rate_9 : decode cX8_rate 9 = .ok (.ifnull 17, 3) := by decide +kernel
theorem dX8_rate_26 : decode cX8_rate 26 = .ok (.ldc 110, 2) := by decide +kernel
theorem dX8_rate_28 : decode cX8_rate 28 = .ok (.ireturn, 1) := by decide +kernel
theorem dX8_read_0 : decode cX8_read 0 = .ok (.iload_n 1, 1) := by decide +kernel
theorem dX8_read_1 : decode cX8_read 1 = .ok (.invokestatic 92, 3) := by decide +kernel
theorem dX8_read_4 : decode cX8_read 4 = .ok (.ifCond .eq 23, 3) := by decide +kernel
theorem dX8_read_7 : decode cX8_read 7 = .ok (.aload_n 0, 1) := by decide +kernel
theorem dX8_read_8 : decode cX8_read 8 = .ok (.getfield 13, 3) := by decide +kernel
theorem dX8_read_11 : decode cX8_read 11 = .ok (.iload_n 1, 1) := by decide +kernel
theorem dX8_read_12 : decode cX8_read 12 = .ok (.iaload, 1) := by decide +kernel
theorem dX8_read_13 : decode cX8_read 13 = .ok (.iconst 1, 1) := by decide +kernel
theorem dX8_read_14 : decode cX8_read 14 = .ok (.if_icmp .eq 16, 3) := by decide +kernel
theorem dX8_read_17 : decode cX8_read 17 = .ok (.aload_n 0, 1) := by decide +kernel
theorem dX8_read_18 : decode cX8_read 18 = .ok (.getfield 13, 3) := by decide +kernel
theorem dX8_read_21 : decode cX8_read 21 = .ok (.iload_n 1, 1) := by decide +kernel
theorem dX8_read_22 : decode cX8_read 22 = .ok (.iaload, 1) := by decide +kernel
theorem dX8_read_23 : decode cX8_read 23 = .ok (.iconst 2, 1) := by decide +kernel
theorem dX8_read_24 : decode cX8_read 24 = .ok (.if_icmp .eq 6, 3) := by decide +kernel
theorem dX8_read_27 : decode cX8_read 27 = .ok (.ldc 110, 2) := by decide +kernel
theorem dX8_read_29 : decode cX8_read 29 = .ok (.ireturn, 1) := by decide +kernel
theorem dX8_refusalOfStretch_0 : decode cX8_refusalOfStretch 0 = .ok (.iload_n 1, 1) := by decide +kernel
theorem dX8_refusalOfStretch_1 : decode cX8_refusalOfStretch 1 = .ok (.invokestatic 92, 3) := by decide +kernel
theorem dX8_refusalOfStretch_4 : decode cX8_refusalOfStretch 4 = .ok (.ifCond .eq 11, 3) := by decide +kernel
theorem dX8_refusalOfStretch_7 : decode cX8_refusalOfStretch 7 = .ok (.iload_n 2, 1) := by decide +kernel
theorem dX8_refusalOfStretch_8 : decode cX8_refusalOfStretch 8 = .ok (.iload_n 3, 1) := by decide +kernel
theorem dX8_refusalOfStretch_9 : decode cX8_refusalOfStretch 9 = .ok (.invokestatic 149, 3) := by decide +kernel
theorem dX8_refusalOfStretch_12 : decode cX8_refusalOfStretch 12 = .ok (.ifCond .ne 5, 3) := by decide +kernel
theorem dX8_refusalOfStretch_15 : decode cX8_refusalOfStretch 15 = .ok (.iconst (-1), 1) := by decide +kernel
theorem dX8_refusalOfStretch_16 : decode cX8_refusalOfStretch 16 = .ok (.ireturn, 1) := by decide +kernel
theorem dX8_refusalOfStretch_17 : decode cX8_refusalOfStretch 17 = .ok (.aload_n 0, 1) := by decide +kernel
theorem dX8_refusalOfStretch_18 : decode cX8_refusalOfStretch 18 = .ok (.iload_n 1, 1) := by decide +kernel
theorem dX8_refusalOfStretch_19 : decode cX8_refusalOfStretch 19 = .ok (.invokevirtual 102, 3) := by decide +kernel
theorem dX8_refusalOfStretch_22 : decode cX8_refusalOfStretch 22 = .ok (.ifnonnull 11, 3) := by decide +kernel
theorem dX8_refusalOfStretch_25 : decode cX8_refusalOfStretch 25 = .ok (.aload_n 0, 1) := by decide +kernel
theorem dX8_refusalOfStretch_26 : decode cX8_refusalOfStretch 26 = .ok (.iload_n 1, 1) := by decide +kernel
theorem dX8_refusalOfStretch_27 : decode cX8_refusalOfStretch 27 = .ok (.invokevirtual 115, 3) := by decide +kernel
theorem dX8_refusalOfStretch_30 : decode cX8_refusalOfStretch 30 = .ok (.goto 4, 3) := by decide +kernel
theorem dX8_refusalOfStretch_34 : decode cX8_refusalOfStretch 34 = .ok (.ireturn, 1) := by decide +kernel
theorem dX8_repair_0 : decode cX8_repair 0 = .ok (.aload_n 0, 1) := by decide +kernel
theorem dX8_repair_1 : decode cX8_repair 1 = .ok (.iload_n 1, 1) := by decide +kernel
theorem dX8_repair_2 : decode cX8_repair 2 = .ok (.iload_n 2, 1) := by decide +kernel
theorem dX8_repair_3 : decode cX8_repair 3 = .ok (.iconst 1, 1) := by decide +kernel
theorem dX8_repair_4 : decode cX8_repair 4 = .ok (.invokevirtual 135, 3) := by decide +kernel
theorem dX8_repair_7 : decode cX8_repair 7 = .ok (.ireturn, 1) := by decide +kernel
theorem dX8_rule_0 : decode cX8_rule 0 = .ok (.iload_n 1, 1) := by decide +kernel
theorem dX8_rule_1 : decode cX8_rule 1 = .ok (.ifCond .eq 10, 3) := by decide +kernel
theorem dX8_rule_4 : decode cX8_rule 4 = .ok (.iload_n 1, 1) := by decide +kernel
theorem dX8_rule_5 : decode cX8_rule 5 = .ok (.iconst 1, 1) := by decide +kernel
theorem dX8_rule_6 : decode cX8_rule 6 = .ok (.if_icmp .eq 5, 3) := by decide +kernel
theorem dX8_rule_9 : decode cX8_rule 9 = .ok (.iconst (-1), 1) := by decide +kernel
theorem dX8_rule_10 : decode cX8_rule 10 = .ok (.ireturn, 1) := by decide +kernel
theorem dX8_rule_11 : decode cX8_rule 11 = .ok (.aload_n 0, 1) := by decide +kernel
theorem dX8_rule_12 : decode cX8_rule 12 = .ok (.getfield 58, 3) := by decide +kernel
theorem dX8_rule_15 : decode cX8_rule 15 = .ok (.iload_n 1, 1) := by decide +kernel
theorem dX8_rule_16 : decode cX8_rule 16 = .ok (.ifCond .ne 8, 3) := by decide +kernel
theorem dX8_rule_19 : decode cX8_rule 19 = .ok (.ldc 182, 2) := by decide +kernel
theorem dX8_rule_21 : decode cX8_rule 21 = .ok (.goto 5, 3) := by decide +kernel
theorem dX8_rule_24 : decode cX8_rule 24 = .ok (.ldc 184, 2) := by decide +kernel
theorem dX8_rule_26 : decode cX8_rule 26 = .ok (.invokevirtual 186, 3) := by decide +kernel
theorem dX8_rule_29 : decode cX8_rule 29 = .ok (.istore_n 2, 1) := by decide +kernel
theorem dX8_rule_30 : decode cX8_rule 30 = .ok (.aload_n 0, 1) := by decide +kernel
theorem dX8_rule_31 : decode cX8_rule 31 = .ok (.getfield 58, 3) := by decide +kernel
theorem dX8_rule_34 : decode cX8_rule 34 = .ok (.iconst 0, 1) := by decide +kernel
theorem dX8_rule_35 : decode cX8_rule 35 = .ok (.putfield 179, 3) := by decide +kernel
theorem dX8_rule_38 : decode cX8_rule 38 = .ok (.iload_n 2, 1) := by decide +kernel
theorem dX8_rule_39 : decode cX8_rule 39 = .ok (.iconst (-1), 1) := by decide +kernel
theorem dX8_rule_40 : decode cX8_rule 40 = .ok (.if_icmp .eq 8, 3) := by decide +kernel
theorem dX8_rule_43 : decode cX8_rule 43 = .ok (.bipush (-100), 2) := by decide +kernel
theorem dX8_rule_45 : decode cX8_rule 45 = .ok (.iload_n 2, 1) := by decide +kernel
theorem dX8_rule_46 : decode cX8_rule 46 = .ok (.isub, 1) := by decide +kernel
theorem dX8_rule_47 : decode cX8_rule 47 = .ok (.ireturn, 1) := by decide +kernel
theorem dX8_sail_0 : decode cX8_sail 0 = .ok (.iload_n 1, 1) := by decide +kernel
theorem dX8_sail_1 : decode cX8_sail 1 = .ok (.invokestatic 202, 3) := by decide +kernel
theorem dX8_sail_4 : decode cX8_sail 4 = .ok (.ifCond .eq 42, 3) := by decide +kernel
theorem dX8_sail_7 : decode cX8_sail 7 = .ok (.iload_n 2, 1) := by decide +kernel
theorem dX8_sail_8 : decode cX8_sail 8 = .ok (.invokestatic 92, 3) := by decide +kernel
theorem dX8_sail_11 : decode cX8_sail 11 = .ok (.ifCond .eq 35, 3) := by decide +kernel
theorem dX8_sail_14 : decode cX8_sail 14 = .ok (.iload_n 3, 1) := by decide +kernel
theorem dX8_sail_15 : decode cX8_sail 15 = .ok (.invokestatic 92, 3) := by decide +kernel
theorem dX8_sail_18 : decode cX8_sail 18 = .ok (.ifCond .eq 28, 3) := by decide +kernel
theorem dX8_sail_21 : decode cX8_sail 21 = .ok (.iload 4, 2) := by decide +kernel
theorem dX8_sail_23 : decode cX8_sail 23 = .ok (.invokestatic 92, 3) := by decide +kernel
theorem dX8_sail_26 : decode cX8_sail 26 = .ok (.ifCond .eq 20, 3) := by decide +kernel
theorem dX8_sail_29 : decode cX8_sail 29 = .ok (.iload_n 2, 1) := by decide +kernel
theorem dX8_sail_30 : decode cX8_sail 30 = .ok (.iload_n 3, 1) := by decide +kernel
theorem dX8_sail_31 : decode cX8_sail 31 = .ok (.if_icmp .eq 15, 3) := by decide +kernel
theorem dX8_sail_34 : decode cX8_sail 34 = .ok (.iload_n 2, 1) := by decide +kernel
theorem dX8_sail_35 : decode cX8_sail 35 = .ok (.iload 4, 2) := by decide +kernel
theorem dX8_sail_37 : decode cX8_sail 37 = .ok (.if_icmp .eq 9, 3) := by decide +kernel
theorem dX8_sail_40 : decode cX8_sail 40 = .ok (.iload_n 3, 1) := by decide +kernel
theorem dX8_sail_41 : decode cX8_sail 41 = .ok (.iload 4, 2) := by decide +kernel
theorem dX8_sail_43 : decode cX8_sail 43 = .ok (.if_icmp .ne 5, 3) := by decide +kernel
theorem dX8_sail_46 : decode cX8_sail 46 = .ok (.iconst (-1), 1) := by decide +kernel
theorem dX8_sail_47 : decode cX8_sail 47 = .ok (.ireturn, 1) := by decide +kernel
theorem dX8_sail_48 : decode cX8_sail 48 = .ok (.aload_n 0, 1) := by decide +kernel
theorem dX8_sail_49 : decode cX8_sail 49 = .ok (.iload_n 2, 1) := by decide +kernel
theorem dX8_sail_50 : decode cX8_sail 50 = .ok (.iload_n 3, 1) := by decide +kernel
theorem dX8_sail_51 : decode cX8_sail 51 = .ok (.iload 4, 2) := by decide +kernel
theorem dX8_sail_53 : decode cX8_sail 53 = .ok (.invokevirtual 205, 3) := by decide +kernel
theorem dX8_sail_56 : decode cX8_sail 56 = .ok (.istore 5, 2) := by decide +kernel
theorem dX8_sail_58 : decode cX8_sail 58 = .ok (.iload 5, 2) := by decide +kernel
theorem dX8_sail_60 : decode cX8_sail 60 = .ok (.ifCond .eq 6, 3) := by decide +kernel
theorem dX8_sail_63 : decode cX8_sail 63 = .ok (.iload 5, 2) := by decide +kernel
theorem dX8_sail_65 : decode cX8_sail 65 = .ok (.ireturn, 1) := by decide +kernel
theorem dX8_shipsAtSea_0 : decode cX8_shipsAtSea 0 = .ok (.iconst 0, 1) := by decide +kernel
theorem dX8_shipsAtSea_1 : decode cX8_shipsAtSea 1 = .ok (.istore_n 1, 1) := by decide +kernel
theorem dX8_shipsAtSea_2 : decode cX8_shipsAtSea 2 = .ok (.iconst 0, 1) := by decide +kernel
theorem dX8_shipsAtSea_3 : decode cX8_shipsAtSea 3 = .ok (.istore_n 2, 1) := by decide +kernel
theorem dX8_shipsAtSea_4 : decode cX8_shipsAtSea 4 = .ok (.iload_n 2, 1) := by decide +kernel
theorem dX8_shipsAtSea_5 : decode cX8_shipsAtSea 5 = .ok (.iconst 5, 1) := by decide +kernel
theorem dX8_shipsAtSea_6 : decode cX8_shipsAtSea 6 = .ok (.if_icmp .ge 25, 3) := by decide +kernel
theorem dX8_shipsAtSea_9 : decode cX8_shipsAtSea 9 = .ok (.aload_n 0, 1) := by decide +kernel
theorem dX8_shipsAtSea_10 : decode cX8_shipsAtSea 10 = .ok (.getfield 27, 3) := by decide +kernel
theorem dX8_shipsAtSea_13 : decode cX8_shipsAtSea 13 = .ok (.iload_n 2, 1) := by decide +kernel
theorem dX8_shipsAtSea_14 : decode cX8_shipsAtSea 14 = .ok (.aaload, 1) := by decide +kernel
theorem dX8_shipsAtSea_15 : decode cX8_shipsAtSea 15 = .ok (.getfield 208, 3) := by decide +kernel
theorem dX8_shipsAtSea_18 : decode cX8_shipsAtSea 18 = .ok (.iconst 1, 1) := by decide +kernel
theorem dX8_shipsAtSea_19 : decode cX8_shipsAtSea 19 = .ok (.if_icmp .ne 6, 3) := by decide +kernel
theorem dX8_shipsAtSea_25 : decode cX8_shipsAtSea 25 = .ok (.iinc 2 1, 3) := by decide +kernel
theorem dX8_shipsAtSea_28 : decode cX8_shipsAtSea 28 = .ok (.goto (-24), 3) := by decide +kernel
theorem dX8_shipsAtSea_31 : decode cX8_shipsAtSea 31 = .ok (.iload_n 1, 1) := by decide +kernel
theorem dX8_shipsAtSea_32 : decode cX8_shipsAtSea 32 = .ok (.ireturn, 1) := by decide +kernel
theorem dX8_sight_0 : decode cX8_sight 0 = .ok (.iload_n 1, 1) := by decide +kernel
theorem dX8_sight_1 : decode cX8_sight 1 = .ok (.invokestatic 202, 3) := by decide +kernel
theorem dX8_sight_4 : decode cX8_sight 4 = .ok (.ifCond .eq 40, 3) := by decide +kernel
theorem dX8_sight_7 : decode cX8_sight 7 = .ok (.aload_n 0, 1) := by decide +kernel
theorem dX8_sight_8 : decode cX8_sight 8 = .ok (.iload_n 2, 1) := by decide +kernel
theorem dX8_sight_9 : decode cX8_sight 9 = .ok (.invokevirtual 111, 3) := by decide +kernel
theorem dX8_sight_12 : decode cX8_sight 12 = .ok (.ifCond .eq 32, 3) := by decide +kernel
theorem dX8_sight_15 : decode cX8_sight 15 = .ok (.iload_n 3, 1) := by decide +kernel
theorem dX8_sight_16 : decode cX8_sight 16 = .ok (.ldc 232, 2) := by decide +kernel
theorem dX8_sight_18 : decode cX8_sight 18 = .ok (.invokestatic 88, 3) := by decide +kernel
theorem dX8_sight_21 : decode cX8_sight 21 = .ok (.ifCond .eq 23, 3) := by decide +kernel
theorem dX8_sight_24 : decode cX8_sight 24 = .ok (.iload 4, 2) := by decide +kernel
theorem dX8_sight_26 : decode cX8_sight 26 = .ok (.ldc 232, 2) := by decide +kernel
theorem dX8_sight_28 : decode cX8_sight 28 = .ok (.invokestatic 88, 3) := by decide +kernel
theorem dX8_sight_31 : decode cX8_sight 31 = .ok (.ifCond .eq 13, 3) := by decide +kernel
theorem dX8_sight_34 : decode cX8_sight 34 = .ok (.iload 5, 2) := by decide +kernel
theorem dX8_sight_36 : decode cX8_sight 36 = .ok (.ldc 232, 2) := by decide +kernel
theorem dX8_sight_38 : decode cX8_sight 38 = .ok (.invokestatic 88, 3) := by decide +kernel
theorem dX8_sight_41 : decode cX8_sight 41 = .ok (.ifCond .ne 5, 3) := by decide +kernel
theorem dX8_sight_44 : decode cX8_sight 44 = .ok (.iconst (-1), 1) := by decide +kernel
theorem dX8_sight_45 : decode cX8_sight 45 = .ok (.ireturn, 1) := by decide +kernel
theorem dX8_sight_46 : decode cX8_sight 46 = .ok (.aload_n 0, 1) := by decide +kernel
theorem dX8_sight_47 : decode cX8_sight 47 = .ok (.getfield 27, 3) := by decide +kernel
theorem dX8_sight_50 : decode cX8_sight 50 = .ok (.iload_n 1, 1) := by decide +kernel
theorem dX8_sight_51 : decode cX8_sight 51 = .ok (.aaload, 1) := by decide +kernel
theorem dX8_sight_52 : decode cX8_sight 52 = .ok (.astore 6, 2) := by decide +kernel
theorem dX8_sight_54 : decode cX8_sight 54 = .ok (.aload 6, 2) := by decide +kernel
theorem dX8_sight_56 : decode cX8_sight 56 = .ok (.iload_n 2, 1) := by decide +kernel
theorem dX8_sight_57 : decode cX8_sight 57 = .ok (.invokevirtual 233, 3) := by decide +kernel
theorem dX8_sight_60 : decode cX8_sight 60 = .ok (.ifCond .ne 5, 3) := by decide +kernel
theorem dX8_sight_65 : decode cX8_sight 65 = .ok (.aload 6, 2) := by decide +kernel
theorem dX8_sight_67 : decode cX8_sight 67 = .ok (.getfield 208, 3) := by decide +kernel
theorem dX8_sight_70 : decode cX8_sight 70 = .ok (.iconst 1, 1) := by decide +kernel
theorem dX8_sight_71 : decode cX8_sight 71 = .ok (.if_icmp .eq 6, 3) := by decide +kernel
theorem dX8_sight_74 : decode cX8_sight 74 = .ok (.bipush (-4), 2) := by decide +kernel
theorem dX8_sight_76 : decode cX8_sight 76 = .ok (.ireturn, 1) := by decide +kernel
theorem dX8_state_0 : decode cX8_state 0 = .ok (.iload_n 1, 1) := by decide +kernel
theorem dX8_state_1 : decode cX8_state 1 = .ok (.invokestatic 202, 3) := by decide +kernel
theorem dX8_state_4 : decode cX8_state 4 = .ok (.ifCond .eq 15, 3) := by decide +kernel
theorem dX8_state_7 : decode cX8_state 7 = .ok (.aload_n 0, 1) := by decide +kernel
theorem dX8_state_8 : decode cX8_state 8 = .ok (.getfield 27, 3) := by decide +kernel
theorem dX8_state_11 : decode cX8_state 11 = .ok (.iload_n 1, 1) := by decide +kernel
theorem dX8_state_12 : decode cX8_state 12 = .ok (.aaload, 1) := by decide +kernel
theorem dX8_state_13 : decode cX8_state 13 = .ok (.getfield 208, 3) := by decide +kernel
theorem dX8_state_16 : decode cX8_state 16 = .ok (.goto 4, 3) := by decide +kernel
theorem dX8_state_19 : decode cX8_state 19 = .ok (.iconst (-1), 1) := by decide +kernel
theorem dX8_state_20 : decode cX8_state 20 = .ok (.ireturn, 1) := by decide +kernel
theorem dX8_take_0 : decode cX8_take 0 = .ok (.iload_n 1, 1) := by decide +kernel
theorem dX8_take_1 : decode cX8_take 1 = .ok (.invokestatic 92, 3) := by decide +kernel
theorem dX8_take_4 : decode cX8_take 4 = .ok (.ifCond .ne 5, 3) := by decide +kernel
theorem dX8_take_7 : decode cX8_take 7 = .ok (.iconst (-1), 1) := by decide +kernel
theorem dX8_take_8 : decode cX8_take 8 = .ok (.ireturn, 1) := by decide +kernel
theorem dX8_take_9 : decode cX8_take 9 = .ok (.aload_n 0, 1) := by decide +kernel
theorem dX8_take_10 : decode cX8_take 10 = .ok (.getfield 13, 3) := by decide +kernel
theorem dX8_take_13 : decode cX8_take 13 = .ok (.iload_n 1, 1) := by decide +kernel
theorem dX8_take_14 : decode cX8_take 14 = .ok (.iaload, 1) := by decide +kernel
theorem dX8_take_15 : decode cX8_take 15 = .ok (.bipush (-5), 2) := by decide +kernel
theorem dX8_take_17 : decode cX8_take 17 = .ok (.if_icmp .ne 6, 3) := by decide +kernel
theorem dX8_take_20 : decode cX8_take 20 = .ok (.bipush (-2), 2) := by decide +kernel
theorem dX8_take_22 : decode cX8_take 22 = .ok (.ireturn, 1) := by decide +kernel
theorem dX8_terms_0 : decode cX8_terms 0 = .ok (.aload_n 0, 1) := by decide +kernel
theorem dX8_terms_1 : decode cX8_terms 1 = .ok (.iload_n 1, 1) := by decide +kernel
theorem dX8_terms_2 : decode cX8_terms 2 = .ok (.iload_n 2, 1) := by decide +kernel
theorem dX8_terms_3 : decode cX8_terms 3 = .ok (.iload_n 3, 1) := by decide +kernel
theorem dX8_terms_4 : decode cX8_terms 4 = .ok (.invokevirtual 152, 3) := by decide +kernel
theorem dX8_terms_7 : decode cX8_terms 7 = .ok (.istore 4, 2) := by decide +kernel
theorem dX8_terms_9 : decode cX8_terms 9 = .ok (.iload 4, 2) := by decide +kernel
theorem dX8_terms_11 : decode cX8_terms 11 = .ok (.ifCond .eq 6, 3) := by decide +kernel
theorem dX8_terms_14 : decode cX8_terms 14 = .ok (.iload 4, 2) := by decide +kernel
theorem dX8_terms_16 : decode cX8_terms 16 = .ok (.ireturn, 1) := by decide +kernel
theorem dX8_told_0 : decode cX8_told 0 = .ok (.iload_n 1, 1) := by decide +kernel
theorem dX8_told_1 : decode cX8_told 1 = .ok (.invokestatic 202, 3) := by decide +kernel
theorem dX8_told_4 : decode cX8_told 4 = .ok (.ifCond .eq 30, 3) := by decide +kernel
theorem dX8_told_7 : decode cX8_told 7 = .ok (.iload_n 2, 1) := by decide +kernel
theorem dX8_told_8 : decode cX8_told 8 = .ok (.ifCond .lt 26, 3) := by decide +kernel
theorem dX8_told_11 : decode cX8_told 11 = .ok (.iload_n 2, 1) := by decide +kernel
theorem dX8_told_12 : decode cX8_told 12 = .ok (.aload_n 0, 1) := by decide +kernel
theorem dX8_told_13 : decode cX8_told 13 = .ok (.getfield 27, 3) := by decide +kernel
theorem dX8_told_16 : decode cX8_told 16 = .ok (.iload_n 1, 1) := by decide +kernel
theorem dX8_told_17 : decode cX8_told 17 = .ok (.aaload, 1) := by decide +kernel
theorem dX8_told_18 : decode cX8_told 18 = .ok (.getfield 236, 3) := by decide +kernel
theorem dX8_told_21 : decode cX8_told 21 = .ok (.if_icmp .ge 13, 3) := by decide +kernel
theorem dX8_told_34 : decode cX8_told 34 = .ok (.ldc 110, 2) := by decide +kernel
theorem dX8_told_36 : decode cX8_told 36 = .ok (.ireturn, 1) := by decide +kernel
theorem dX8_trial_0 : decode cX8_trial 0 = .ok (.aload_n 0, 1) := by decide +kernel
theorem dX8_trial_1 : decode cX8_trial 1 = .ok (.iload_n 1, 1) := by decide +kernel
theorem dX8_trial_2 : decode cX8_trial 2 = .ok (.iload_n 2, 1) := by decide +kernel
theorem dX8_trial_3 : decode cX8_trial 3 = .ok (.iload_n 3, 1) := by decide +kernel
theorem dX8_trial_4 : decode cX8_trial 4 = .ok (.invokevirtual 152, 3) := by decide +kernel
theorem dX8_trial_7 : decode cX8_trial 7 = .ok (.ifCond .ne 13, 3) := by decide +kernel
theorem dX8_trial_20 : decode cX8_trial 20 = .ok (.ldc 110, 2) := by decide +kernel
theorem dX8_trial_22 : decode cX8_trial 22 = .ok (.ireturn, 1) := by decide +kernel
theorem dX8_warmth_0 : decode cX8_warmth 0 = .ok (.iload_n 1, 1) := by decide +kernel
theorem dX8_warmth_1 : decode cX8_warmth 1 = .ok (.invokestatic 84, 3) := by decide +kernel
theorem dX8_warmth_4 : decode cX8_warmth 4 = .ok (.ifCond .eq 18, 3) := by decide +kernel
theorem dX8_warmth_7 : decode cX8_warmth 7 = .ok (.iload_n 2, 1) := by decide +kernel
theorem dX8_warmth_8 : decode cX8_warmth 8 = .ok (.bipush (-100), 2) := by decide +kernel
theorem dX8_warmth_10 : decode cX8_warmth 10 = .ok (.if_icmp .eq 14, 3) := by decide +kernel
theorem dX8_warmth_13 : decode cX8_warmth 13 = .ok (.iload_n 2, 1) := by decide +kernel
theorem dX8_warmth_14 : decode cX8_warmth 14 = .ok (.bipush 50, 2) := by decide +kernel
theorem dX8_warmth_16 : decode cX8_warmth 16 = .ok (.invokestatic 88, 3) := by decide +kernel
theorem dX8_warmth_19 : decode cX8_warmth 19 = .ok (.ifCond .ne 5, 3) := by decide +kernel
theorem dX8_warmth_22 : decode cX8_warmth 22 = .ok (.iconst (-1), 1) := by decide +kernel
theorem dX8_warmth_23 : decode cX8_warmth 23 = .ok (.ireturn, 1) := by decide +kernel
theorem dX8_warmth_24 : decode cX8_warmth 24 = .ok (.aload_n 0, 1) := by decide +kernel
theorem dX8_warmth_25 : decode cX8_warmth 25 = .ok (.getfield 9, 3) := by decide +kernel
theorem dX8_warmth_28 : decode cX8_warmth 28 = .ok (.iload_n 1, 1) := by decide +kernel
theorem dX8_warmth_29 : decode cX8_warmth 29 = .ok (.iload_n 2, 1) := by decide +kernel
theorem dX8_warmth_30 : decode cX8_warmth 30 = .ok (.iastore, 1) := by decide +kernel
theorem dX8_warmth_31 : decode cX8_warmth 31 = .ok (.iconst 1, 1) := by decide +kernel
theorem dX8_warmth_32 : decode cX8_warmth 32 = .ok (.ireturn, 1) := by decide +kernel
theorem dX8_watchAt_0 : decode cX8_watchAt 0 = .ok (.iload_n 1, 1) := by decide +kernel
theorem dX8_watchAt_1 : decode cX8_watchAt 1 = .ok (.invokestatic 92, 3) := by decide +kernel
theorem dX8_watchAt_4 : decode cX8_watchAt 4 = .ok (.ifCond .eq 22, 3) := by decide +kernel
theorem dX8_watchAt_7 : decode cX8_watchAt 7 = .ok (.aload_n 0, 1) := by decide +kernel
theorem dX8_watchAt_8 : decode cX8_watchAt 8 = .ok (.getfield 13, 3) := by decide +kernel
theorem dX8_watchAt_11 : decode cX8_watchAt 11 = .ok (.iload_n 1, 1) := by decide +kernel
theorem dX8_watchAt_12 : decode cX8_watchAt 12 = .ok (.iaload, 1) := by decide +kernel
theorem dX8_watchAt_13 : decode cX8_watchAt 13 = .ok (.ifCond .eq 15, 3) := by decide +kernel
theorem dX8_watchAt_16 : decode cX8_watchAt 16 = .ok (.aload_n 0, 1) := by decide +kernel
theorem dX8_watchAt_17 : decode cX8_watchAt 17 = .ok (.getfield 13, 3) := by decide +kernel
theorem dX8_watchAt_20 : decode cX8_watchAt 20 = .ok (.iload_n 1, 1) := by decide +kernel
theorem dX8_watchAt_21 : decode cX8_watchAt 21 = .ok (.iaload, 1) := by decide +kernel
theorem dX8_watchAt_22 : decode cX8_watchAt 22 = .ok (.iconst 1, 1) := by decide +kernel
theorem dX8_watchAt_23 : decode cX8_watchAt 23 = .ok (.if_icmp .eq 5, 3) := by decide +kernel
theorem dX8_watchAt_26 : decode cX8_watchAt 26 = .ok (.aconst_null, 1) := by decide +kernel
theorem dX8_watchAt_27 : decode cX8_watchAt 27 = .ok (.areturn, 1) := by decide +kernel
theorem dX9_advance_0 : decode cX9_advance 0 = .ok (.aload_n 0, 1) := by decide +kernel
theorem dX9_advance_1 : decode cX9_advance 1 = .ok (.getfield 287, 3) := by decide +kernel
theorem dX9_advance_4 : decode cX9_advance 4 = .ok (.aload_n 0, 1) := by decide +kernel
theorem dX9_advance_5 : decode cX9_advance 5 = .ok (.getfield 284, 3) := by decide +kernel
theorem dX9_advance_8 : decode cX9_advance 8 = .ok (.if_icmp .ge 30, 3) := by decide +kernel
theorem dX9_advance_38 : decode cX9_advance 38 = .ok (.aload_n 0, 1) := by decide +kernel
theorem dX9_advance_39 : decode cX9_advance 39 = .ok (.aload_n 0, 1) := by decide +kernel
theorem dX9_advance_40 : decode cX9_advance 40 = .ok (.getfield 287, 3) := by decide +kernel
theorem dX9_advance_43 : decode cX9_advance 43 = .ok (.putfield 290, 3) := by decide +kernel
theorem dX9_advance_46 : decode cX9_advance 46 = .ok (.aload_n 0, 1) := by decide +kernel
theorem dX9_advance_47 : decode cX9_advance 47 = .ok (.getfield 287, 3) := by decide +kernel
theorem dX9_advance_50 : decode cX9_advance 50 = .ok (.aload_n 0, 1) := by decide +kernel
theorem dX9_advance_51 : decode cX9_advance 51 = .ok (.getfield 284, 3) := by decide +kernel
theorem dX9_advance_54 : decode cX9_advance 54 = .ok (.if_icmp .ne 9, 3) := by decide +kernel
theorem dX9_advance_57 : decode cX9_advance 57 = .ok (.aload_n 0, 1) := by decide +kernel
theorem dX9_advance_58 : decode cX9_advance 58 = .ok (.iconst 0, 1) := by decide +kernel
theorem dX9_advance_59 : decode cX9_advance 59 = .ok (.putfield 293, 3) := by decide +kernel
theorem dX9_advance_62 : decode cX9_advance 62 = .ok (.return_, 1) := by decide +kernel
theorem dX9_age_0 : decode cX9_age 0 = .ok (.iload_n 1, 1) := by decide +kernel
theorem dX9_age_1 : decode cX9_age 1 = .ok (.invokestatic 152, 3) := by decide +kernel
theorem dX9_age_4 : decode cX9_age 4 = .ok (.ifCond .eq 10, 3) := by decide +kernel
theorem dX9_age_7 : decode cX9_age 7 = .ok (.iload_n 2, 1) := by decide +kernel
theorem dX9_age_8 : decode cX9_age 8 = .ok (.invokestatic 159, 3) := by decide +kernel
theorem dX9_age_11 : decode cX9_age 11 = .ok (.ifCond .ne 5, 3) := by decide +kernel
theorem dX9_age_14 : decode cX9_age 14 = .ok (.iconst (-1), 1) := by decide +kernel
theorem dX9_age_15 : decode cX9_age 15 = .ok (.ireturn, 1) := by decide +kernel
theorem dX9_age_16 : decode cX9_age 16 = .ok (.aload_n 0, 1) := by decide +kernel
theorem dX9_age_17 : decode cX9_age 17 = .ok (.iload_n 1, 1) := by decide +kernel
theorem dX9_age_18 : decode cX9_age 18 = .ok (.invokevirtual 172, 3) := by decide +kernel
theorem dX9_age_21 : decode cX9_age 21 = .ok (.istore_n 3, 1) := by decide +kernel
theorem dX9_age_22 : decode cX9_age 22 = .ok (.iload_n 3, 1) := by decide +kernel
theorem dX9_age_23 : decode cX9_age 23 = .ok (.ifCond .ge 7, 3) := by decide +kernel
theorem dX9_age_26 : decode cX9_age 26 = .ok (.iload_n 3, 1) := by decide +kernel
theorem dX9_age_27 : decode cX9_age 27 = .ok (.goto 9, 3) := by decide +kernel
theorem dX9_age_36 : decode cX9_age 36 = .ok (.ireturn, 1) := by decide +kernel
theorem dX9_areDays_0 : decode cX9_areDays 0 = .ok (.iload_n 0, 1) := by decide +kernel
theorem dX9_areDays_1 : decode cX9_areDays 1 = .ok (.ifCond .lt 27, 3) := by decide +kernel
theorem dX9_areDays_4 : decode cX9_areDays 4 = .ok (.iload_n 1, 1) := by decide +kernel
theorem dX9_areDays_5 : decode cX9_areDays 5 = .ok (.sipush 399, 3) := by decide +kernel
theorem dX9_areDays_8 : decode cX9_areDays 8 = .ok (.if_icmp .gt 20, 3) := by decide +kernel
theorem dX9_areDays_11 : decode cX9_areDays 11 = .ok (.iload_n 1, 1) := by decide +kernel
theorem dX9_areDays_12 : decode cX9_areDays 12 = .ok (.iload_n 0, 1) := by decide +kernel
theorem dX9_areDays_13 : decode cX9_areDays 13 = .ok (.if_icmp .le 15, 3) := by decide +kernel
theorem dX9_areDays_16 : decode cX9_areDays 16 = .ok (.iload_n 1, 1) := by decide +kernel
theorem dX9_areDays_17 : decode cX9_areDays 17 = .ok (.iload_n 0, 1) := by decide +kernel
theorem dX9_areDays_18 : decode cX9_areDays 18 = .ok (.isub, 1) := by decide +kernel
theorem dX9_areDays_19 : decode cX9_areDays 19 = .ok (.bipush 60, 2) := by decide +kernel
theorem dX9_areDays_21 : decode cX9_areDays 21 = .ok (.if_icmp .gt 7, 3) := by decide +kernel
theorem dX9_areDays_24 : decode cX9_areDays 24 = .ok (.iconst 1, 1) := by decide +kernel
theorem dX9_areDays_25 : decode cX9_areDays 25 = .ok (.goto 4, 3) := by decide +kernel
theorem dX9_areDays_28 : decode cX9_areDays 28 = .ok (.iconst 0, 1) := by decide +kernel
theorem dX9_areDays_29 : decode cX9_areDays 29 = .ok (.ireturn, 1) := by decide +kernel
theorem dX9_asked_0 : decode cX9_asked 0 = .ok (.iload_n 1, 1) := by decide +kernel
theorem dX9_asked_1 : decode cX9_asked 1 = .ok (.invokestatic 152, 3) := by decide +kernel
theorem dX9_asked_4 : decode cX9_asked 4 = .ok (.ifCond .eq 11, 3) := by decide +kernel
theorem dX9_asked_7 : decode cX9_asked 7 = .ok (.iload_n 2, 1) := by decide +kernel
theorem dX9_asked_8 : decode cX9_asked 8 = .ok (.iload_n 3, 1) := by decide +kernel
theorem dX9_asked_9 : decode cX9_asked 9 = .ok (.invokestatic 195, 3) := by decide +kernel
theorem dX9_asked_12 : decode cX9_asked 12 = .ok (.ifCond .ne 7, 3) := by decide +kernel
theorem dX9_asked_15 : decode cX9_asked 15 = .ok (.iconst (-1), 1) := by decide +kernel
theorem dX9_asked_16 : decode cX9_asked 16 = .ok (.goto 8, 3) := by decide +kernel
theorem dX9_asked_19 : decode cX9_asked 19 = .ok (.aload_n 0, 1) := by decide +kernel
theorem dX9_asked_20 : decode cX9_asked 20 = .ok (.iload_n 1, 1) := by decide +kernel
theorem dX9_asked_21 : decode cX9_asked 21 = .ok (.invokevirtual 172, 3) := by decide +kernel
theorem dX9_asked_24 : decode cX9_asked 24 = .ok (.ireturn, 1) := by decide +kernel
theorem dX9_away_0 : decode cX9_away 0 = .ok (.aload_n 0, 1) := by decide +kernel
theorem dX9_away_1 : decode cX9_away 1 = .ok (.iload_n 1, 1) := by decide +kernel
theorem dX9_away_2 : decode cX9_away 2 = .ok (.invokevirtual 172, 3) := by decide +kernel
theorem dX9_away_5 : decode cX9_away 5 = .ok (.istore_n 2, 1) := by decide +kernel
theorem dX9_away_6 : decode cX9_away 6 = .ok (.iload_n 2, 1) := by decide +kernel
theorem dX9_away_7 : decode cX9_away 7 = .ok (.ifCond .ge 5, 3) := by decide +kernel
theorem dX9_away_10 : decode cX9_away 10 = .ok (.iload_n 2, 1) := by decide +kernel
theorem dX9_away_11 : decode cX9_away 11 = .ok (.ireturn, 1) := by decide +kernel
theorem dX9_back_0 : decode cX9_back 0 = .ok (.iload_n 1, 1) := by decide +kernel
theorem dX9_back_1 : decode cX9_back 1 = .ok (.invokestatic 386, 3) := by decide +kernel
theorem dX9_back_4 : decode cX9_back 4 = .ok (.ifCond .eq 37, 3) := by decide +kernel
theorem dX9_back_7 : decode cX9_back 7 = .ok (.iload_n 2, 1) := by decide +kernel
theorem dX9_back_8 : decode cX9_back 8 = .ok (.ldc 170, 2) := by decide +kernel
theorem dX9_back_10 : decode cX9_back 10 = .ok (.ldc 171, 2) := by decide +kernel
theorem dX9_back_12 : decode cX9_back 12 = .ok (.invokestatic 148, 3) := by decide +kernel
theorem dX9_back_15 : decode cX9_back 15 = .ok (.ifCond .eq 26, 3) := by decide +kernel
theorem dX9_back_18 : decode cX9_back 18 = .ok (.iload_n 3, 1) := by decide +kernel
theorem dX9_back_19 : decode cX9_back 19 = .ok (.ldc 170, 2) := by decide +kernel
theorem dX9_back_21 : decode cX9_back 21 = .ok (.ldc 171, 2) := by decide +kernel
theorem dX9_back_23 : decode cX9_back 23 = .ok (.invokestatic 148, 3) := by decide +kernel
theorem dX9_back_26 : decode cX9_back 26 = .ok (.ifCond .eq 15, 3) := by decide +kernel
theorem dX9_back_29 : decode cX9_back 29 = .ok (.iload 4, 2) := by decide +kernel
theorem dX9_back_31 : decode cX9_back 31 = .ok (.ldc 170, 2) := by decide +kernel
theorem dX9_back_33 : decode cX9_back 33 = .ok (.ldc 171, 2) := by decide +kernel
theorem dX9_back_35 : decode cX9_back 35 = .ok (.invokestatic 148, 3) := by decide +kernel
theorem dX9_back_38 : decode cX9_back 38 = .ok (.ifCond .ne 5, 3) := by decide +kernel
theorem dX9_back_41 : decode cX9_back 41 = .ok (.iconst (-1), 1) := by decide +kernel
theorem dX9_back_42 : decode cX9_back 42 = .ok (.ireturn, 1) := by decide +kernel
theorem dX9_back_43 : decode cX9_back 43 = .ok (.aload_n 0, 1) := by decide +kernel
theorem dX9_back_44 : decode cX9_back 44 = .ok (.getfield 91, 3) := by decide +kernel
theorem dX9_back_47 : decode cX9_back 47 = .ok (.iload_n 1, 1) := by decide +kernel
theorem dX9_back_48 : decode cX9_back 48 = .ok (.iaload, 1) := by decide +kernel
theorem dX9_back_49 : decode cX9_back 49 = .ok (.iconst 1, 1) := by decide +kernel
theorem dX9_back_50 : decode cX9_back 50 = .ok (.if_icmp .ne 16, 3) := by decide +kernel
theorem dX9_back_66 : decode cX9_back 66 = .ok (.bipush (-4), 2) := by decide +kernel
theorem dX9_back_68 : decode cX9_back 68 = .ok (.ireturn, 1) := by decide +kernel
theorem dX9_carried_0 : decode cX9_carried 0 = .ok (.iload_n 1, 1) := by decide +kernel
theorem dX9_carried_1 : decode cX9_carried 1 = .ok (.invokestatic 386, 3) := by decide +kernel
theorem dX9_carried_4 : decode cX9_carried 4 = .ok (.ifCond .eq 21, 3) := by decide +kernel
theorem dX9_carried_7 : decode cX9_carried 7 = .ok (.iload_n 2, 1) := by decide +kernel
theorem dX9_carried_8 : decode cX9_carried 8 = .ok (.iconst 0, 1) := by decide +kernel
theorem dX9_carried_9 : decode cX9_carried 9 = .ok (.iconst 2, 1) := by decide +kernel
theorem dX9_carried_10 : decode cX9_carried 10 = .ok (.invokestatic 148, 3) := by decide +kernel
theorem dX9_carried_13 : decode cX9_carried 13 = .ok (.ifCond .eq 12, 3) := by decide +kernel
theorem dX9_carried_16 : decode cX9_carried 16 = .ok (.aload_n 0, 1) := by decide +kernel
theorem dX9_carried_17 : decode cX9_carried 17 = .ok (.getfield 91, 3) := by decide +kernel
theorem dX9_carried_20 : decode cX9_carried 20 = .ok (.iload_n 1, 1) := by decide +kernel
theorem dX9_carried_21 : decode cX9_carried 21 = .ok (.iaload, 1) := by decide +kernel
theorem dX9_carried_22 : decode cX9_carried 22 = .ok (.ifCond .ne 6, 3) := by decide +kernel
theorem dX9_carried_25 : decode cX9_carried 25 = .ok (.ldc 169, 2) := by decide +kernel
theorem dX9_carried_27 : decode cX9_carried 27 = .ok (.ireturn, 1) := by decide +kernel
theorem dX9_changed_0 : decode cX9_changed 0 = .ok (.iload_n 1, 1) := by decide +kernel
theorem dX9_changed_1 : decode cX9_changed 1 = .ok (.invokestatic 152, 3) := by decide +kernel
theorem dX9_changed_4 : decode cX9_changed 4 = .ok (.ifCond .eq 19, 3) := by decide +kernel
theorem dX9_changed_7 : decode cX9_changed 7 = .ok (.iload_n 2, 1) := by decide +kernel
theorem dX9_changed_8 : decode cX9_changed 8 = .ok (.iload_n 3, 1) := by decide +kernel
theorem dX9_changed_9 : decode cX9_changed 9 = .ok (.invokestatic 195, 3) := by decide +kernel
theorem dX9_changed_12 : decode cX9_changed 12 = .ok (.ifCond .eq 11, 3) := by decide +kernel
theorem dX9_changed_15 : decode cX9_changed 15 = .ok (.iload 4, 2) := by decide +kernel
theorem dX9_changed_17 : decode cX9_changed 17 = .ok (.invokestatic 185, 3) := by decide +kernel
theorem dX9_changed_20 : decode cX9_changed 20 = .ok (.ifCond .ne 5, 3) := by decide +kernel
theorem dX9_changed_23 : decode cX9_changed 23 = .ok (.iconst (-1), 1) := by decide +kernel
theorem dX9_changed_24 : decode cX9_changed 24 = .ok (.ireturn, 1) := by decide +kernel
theorem dX9_changed_25 : decode cX9_changed 25 = .ok (.aload_n 0, 1) := by decide +kernel
theorem dX9_changed_26 : decode cX9_changed 26 = .ok (.iload_n 1, 1) := by decide +kernel
theorem dX9_changed_27 : decode cX9_changed 27 = .ok (.invokevirtual 172, 3) := by decide +kernel
theorem dX9_changed_30 : decode cX9_changed 30 = .ok (.istore 5, 2) := by decide +kernel
theorem dX9_changed_32 : decode cX9_changed 32 = .ok (.iload 5, 2) := by decide +kernel
theorem dX9_changed_34 : decode cX9_changed 34 = .ok (.ifCond .ge 6, 3) := by decide +kernel
theorem dX9_changed_37 : decode cX9_changed 37 = .ok (.iload 5, 2) := by decide +kernel
theorem dX9_changed_39 : decode cX9_changed 39 = .ok (.ireturn, 1) := by decide +kernel
theorem dX9_compare_0 : decode cX9_compare 0 = .ok (.iload_n 1, 1) := by decide +kernel
theorem dX9_compare_1 : decode cX9_compare 1 = .ok (.invokestatic 152, 3) := by decide +kernel
theorem dX9_compare_4 : decode cX9_compare 4 = .ok (.ifCond .eq 36, 3) := by decide +kernel
theorem dX9_compare_7 : decode cX9_compare 7 = .ok (.iload_n 2, 1) := by decide +kernel
theorem dX9_compare_8 : decode cX9_compare 8 = .ok (.iconst 0, 1) := by decide +kernel
theorem dX9_compare_9 : decode cX9_compare 9 = .ok (.aload_n 0, 1) := by decide +kernel
theorem dX9_compare_10 : decode cX9_compare 10 = .ok (.getfield 156, 3) := by decide +kernel
theorem dX9_compare_13 : decode cX9_compare 13 = .ok (.invokestatic 148, 3) := by decide +kernel
theorem dX9_compare_16 : decode cX9_compare 16 = .ok (.ifCond .eq 24, 3) := by decide +kernel
theorem dX9_compare_19 : decode cX9_compare 19 = .ok (.iload_n 3, 1) := by decide +kernel
theorem dX9_compare_20 : decode cX9_compare 20 = .ok (.ldc 170, 2) := by decide +kernel
theorem dX9_compare_22 : decode cX9_compare 22 = .ok (.ldc 171, 2) := by decide +kernel
theorem dX9_compare_24 : decode cX9_compare 24 = .ok (.invokestatic 148, 3) := by decide +kernel
theorem dX9_compare_27 : decode cX9_compare 27 = .ok (.ifCond .eq 13, 3) := by decide +kernel
theorem dX9_compare_30 : decode cX9_compare 30 = .ok (.iload 4, 2) := by decide +kernel
theorem dX9_compare_32 : decode cX9_compare 32 = .ok (.iconst 0, 1) := by decide +kernel
theorem dX9_compare_33 : decode cX9_compare 33 = .ok (.iconst 5, 1) := by decide +kernel
theorem dX9_compare_34 : decode cX9_compare 34 = .ok (.invokestatic 148, 3) := by decide +kernel
theorem dX9_compare_37 : decode cX9_compare 37 = .ok (.ifCond .ne 5, 3) := by decide +kernel
theorem dX9_compare_40 : decode cX9_compare 40 = .ok (.iconst (-1), 1) := by decide +kernel
theorem dX9_compare_41 : decode cX9_compare 41 = .ok (.ireturn, 1) := by decide +kernel
theorem dX9_compare_42 : decode cX9_compare 42 = .ok (.aload_n 0, 1) := by decide +kernel
theorem dX9_compare_43 : decode cX9_compare 43 = .ok (.iload_n 1, 1) := by decide +kernel
theorem dX9_compare_44 : decode cX9_compare 44 = .ok (.invokevirtual 172, 3) := by decide +kernel
theorem dX9_compare_47 : decode cX9_compare 47 = .ok (.istore 5, 2) := by decide +kernel
theorem dX9_compare_49 : decode cX9_compare 49 = .ok (.iload 5, 2) := by decide +kernel
theorem dX9_compare_51 : decode cX9_compare 51 = .ok (.ifCond .ge 6, 3) := by decide +kernel
theorem dX9_compare_54 : decode cX9_compare 54 = .ok (.iload 5, 2) := by decide +kernel
theorem dX9_compare_56 : decode cX9_compare 56 = .ok (.ireturn, 1) := by decide +kernel
theorem dX9_count_0 : decode cX9_count 0 = .ok (.iconst 0, 1) := by decide +kernel
theorem dX9_count_1 : decode cX9_count 1 = .ok (.istore_n 2, 1) := by decide +kernel
theorem dX9_count_2 : decode cX9_count 2 = .ok (.iload_n 1, 1) := by decide +kernel
theorem dX9_count_3 : decode cX9_count 3 = .ok (.tableswitch 160 0 6 #[41, 73, 78, 83, 116, 121, 155], 41) := by decide +kernel
theorem dX9_count_44 : decode cX9_count 44 = .ok (.iconst 0, 1) := by decide +kernel
theorem dX9_count_45 : decode cX9_count 45 = .ok (.istore_n 3, 1) := by decide +kernel
theorem dX9_count_46 : decode cX9_count 46 = .ok (.iload_n 3, 1) := by decide +kernel
theorem dX9_count_47 : decode cX9_count 47 = .ok (.bipush 16, 2) := by decide +kernel
theorem dX9_count_49 : decode cX9_count 49 = .ok (.if_icmp .ge 25, 3) := by decide +kernel
theorem dX9_count_52 : decode cX9_count 52 = .ok (.iload_n 2, 1) := by decide +kernel
theorem dX9_count_53 : decode cX9_count 53 = .ok (.aload_n 0, 1) := by decide +kernel
theorem dX9_count_54 : decode cX9_count 54 = .ok (.iload_n 3, 1) := by decide +kernel
theorem dX9_count_55 : decode cX9_count 55 = .ok (.invokevirtual 162, 3) := by decide +kernel
theorem dX9_count_58 : decode cX9_count 58 = .ok (.ifCond .eq 7, 3) := by decide +kernel
theorem dX9_count_65 : decode cX9_count 65 = .ok (.iconst 0, 1) := by decide +kernel
theorem dX9_count_66 : decode cX9_count 66 = .ok (.iadd, 1) := by decide +kernel
theorem dX9_count_67 : decode cX9_count 67 = .ok (.istore_n 2, 1) := by decide +kernel
theorem dX9_count_68 : decode cX9_count 68 = .ok (.iinc 3 1, 3) := by decide +kernel
theorem dX9_count_71 : decode cX9_count 71 = .ok (.goto (-25), 3) := by decide +kernel
theorem dX9_count_74 : decode cX9_count 74 = .ok (.iload_n 2, 1) := by decide +kernel
theorem dX9_count_75 : decode cX9_count 75 = .ok (.ireturn, 1) := by decide +kernel
theorem dX9_count_76 : decode cX9_count 76 = .ok (.aload_n 0, 1) := by decide +kernel
theorem dX9_count_77 : decode cX9_count 77 = .ok (.getfield 156, 3) := by decide +kernel
theorem dX9_count_80 : decode cX9_count 80 = .ok (.ireturn, 1) := by decide +kernel
theorem dX9_count_81 : decode cX9_count 81 = .ok (.aload_n 0, 1) := by decide +kernel
theorem dX9_count_82 : decode cX9_count 82 = .ok (.getfield 175, 3) := by decide +kernel
theorem dX9_count_85 : decode cX9_count 85 = .ok (.ireturn, 1) := by decide +kernel
theorem dX9_count_86 : decode cX9_count 86 = .ok (.iconst 0, 1) := by decide +kernel
theorem dX9_count_87 : decode cX9_count 87 = .ok (.istore_n 3, 1) := by decide +kernel
theorem dX9_count_88 : decode cX9_count 88 = .ok (.iload_n 3, 1) := by decide +kernel
theorem dX9_count_89 : decode cX9_count 89 = .ok (.iconst 5, 1) := by decide +kernel
theorem dX9_count_90 : decode cX9_count 90 = .ok (.if_icmp .ge 27, 3) := by decide +kernel
theorem dX9_count_93 : decode cX9_count 93 = .ok (.iload_n 2, 1) := by decide +kernel
theorem dX9_count_94 : decode cX9_count 94 = .ok (.aload_n 0, 1) := by decide +kernel
theorem dX9_count_95 : decode cX9_count 95 = .ok (.getfield 91, 3) := by decide +kernel
theorem dX9_count_98 : decode cX9_count 98 = .ok (.iload_n 3, 1) := by decide +kernel
theorem dX9_count_99 : decode cX9_count 99 = .ok (.iaload, 1) := by decide +kernel
theorem dX9_count_100 : decode cX9_count 100 = .ok (.iconst 1, 1) := by decide +kernel
theorem dX9_count_101 : decode cX9_count 101 = .ok (.if_icmp .ne 7, 3) := by decide +kernel
theorem dX9_count_108 : decode cX9_count 108 = .ok (.iconst 0, 1) := by decide +kernel
theorem dX9_count_109 : decode cX9_count 109 = .ok (.iadd, 1) := by decide +kernel
theorem dX9_count_110 : decode cX9_count 110 = .ok (.istore_n 2, 1) := by decide +kernel
theorem dX9_count_111 : decode cX9_count 111 = .ok (.iinc 3 1, 3) := by decide +kernel
theorem dX9_count_114 : decode cX9_count 114 = .ok (.goto (-26), 3) := by decide +kernel
theorem dX9_count_117 : decode cX9_count 117 = .ok (.iload_n 2, 1) := by decide +kernel
theorem dX9_count_118 : decode cX9_count 118 = .ok (.ireturn, 1) := by decide +kernel
theorem dX9_count_119 : decode cX9_count 119 = .ok (.aload_n 0, 1) := by decide +kernel
theorem dX9_count_120 : decode cX9_count 120 = .ok (.getfield 284, 3) := by decide +kernel
theorem dX9_count_123 : decode cX9_count 123 = .ok (.ireturn, 1) := by decide +kernel
theorem dX9_count_124 : decode cX9_count 124 = .ok (.iconst 0, 1) := by decide +kernel
theorem dX9_count_125 : decode cX9_count 125 = .ok (.istore_n 3, 1) := by decide +kernel
theorem dX9_count_126 : decode cX9_count 126 = .ok (.iload_n 3, 1) := by decide +kernel
theorem dX9_count_127 : decode cX9_count 127 = .ok (.bipush 16, 2) := by decide +kernel
theorem dX9_count_129 : decode cX9_count 129 = .ok (.if_icmp .ge 27, 3) := by decide +kernel
theorem dX9_count_132 : decode cX9_count 132 = .ok (.iload_n 2, 1) := by decide +kernel
theorem dX9_count_133 : decode cX9_count 133 = .ok (.aload_n 0, 1) := by decide +kernel
theorem dX9_count_134 : decode cX9_count 134 = .ok (.getfield 17, 3) := by decide +kernel
theorem dX9_count_137 : decode cX9_count 137 = .ok (.iload_n 3, 1) := by decide +kernel
theorem dX9_count_138 : decode cX9_count 138 = .ok (.iaload, 1) := by decide +kernel
theorem dX9_count_139 : decode cX9_count 139 = .ok (.iconst 2, 1) := by decide +kernel
theorem dX9_count_140 : decode cX9_count 140 = .ok (.if_icmp .ne 7, 3) := by decide +kernel
theorem dX9_count_147 : decode cX9_count 147 = .ok (.iconst 0, 1) := by decide +kernel
theorem dX9_count_148 : decode cX9_count 148 = .ok (.iadd, 1) := by decide +kernel
theorem dX9_count_149 : decode cX9_count 149 = .ok (.istore_n 2, 1) := by decide +kernel
theorem dX9_count_150 : decode cX9_count 150 = .ok (.iinc 3 1, 3) := by decide +kernel
theorem dX9_count_153 : decode cX9_count 153 = .ok (.goto (-27), 3) := by decide +kernel
theorem dX9_count_156 : decode cX9_count 156 = .ok (.iload_n 2, 1) := by decide +kernel
theorem dX9_count_157 : decode cX9_count 157 = .ok (.ireturn, 1) := by decide +kernel
theorem dX9_count_158 : decode cX9_count 158 = .ok (.aload_n 0, 1) := by decide +kernel
theorem dX9_count_159 : decode cX9_count 159 = .ok (.getfield 406, 3) := by decide +kernel
theorem dX9_count_162 : decode cX9_count 162 = .ok (.ireturn, 1) := by decide +kernel
theorem dX9_count_163 : decode cX9_count 163 = .ok (.iconst (-1), 1) := by decide +kernel
theorem dX9_count_164 : decode cX9_count 164 = .ok (.ireturn, 1) := by decide +kernel
theorem dX9_days_0 : decode cX9_days 0 = .ok (.iload_n 1, 1) := by decide +kernel
theorem dX9_days_1 : decode cX9_days 1 = .ok (.iconst 1, 1) := by decide +kernel
theorem dX9_days_2 : decode cX9_days 2 = .ok (.bipush 100, 2) := by decide +kernel
theorem dX9_days_4 : decode cX9_days 4 = .ok (.invokestatic 148, 3) := by decide +kernel
theorem dX9_days_7 : decode cX9_days 7 = .ok (.ifCond .eq 15, 3) := by decide +kernel
theorem dX9_days_10 : decode cX9_days 10 = .ok (.aload_n 0, 1) := by decide +kernel
theorem dX9_days_11 : decode cX9_days 11 = .ok (.getfield 156, 3) := by decide +kernel
theorem dX9_days_14 : decode cX9_days 14 = .ok (.iload_n 1, 1) := by decide +kernel
theorem dX9_days_15 : decode cX9_days 15 = .ok (.iadd, 1) := by decide +kernel
theorem dX9_days_16 : decode cX9_days 16 = .ok (.sipush 399, 3) := by decide +kernel
theorem dX9_days_19 : decode cX9_days 19 = .ok (.if_icmp .le 5, 3) := by decide +kernel
theorem dX9_days_22 : decode cX9_days 22 = .ok (.iconst (-1), 1) := by decide +kernel
theorem dX9_days_23 : decode cX9_days 23 = .ok (.ireturn, 1) := by decide +kernel
theorem dX9_days_24 : decode cX9_days 24 = .ok (.iconst 0, 1) := by decide +kernel
theorem dX9_days_25 : decode cX9_days 25 = .ok (.istore_n 2, 1) := by decide +kernel
theorem dX9_days_26 : decode cX9_days 26 = .ok (.iload_n 2, 1) := by decide +kernel
theorem dX9_days_27 : decode cX9_days 27 = .ok (.iload_n 1, 1) := by decide +kernel
theorem dX9_days_28 : decode cX9_days 28 = .ok (.if_icmp .ge 65, 3) := by decide +kernel
theorem dX9_days_31 : decode cX9_days 31 = .ok (.iconst 0, 1) := by decide +kernel
theorem dX9_days_32 : decode cX9_days 32 = .ok (.istore_n 3, 1) := by decide +kernel
theorem dX9_days_33 : decode cX9_days 33 = .ok (.iload_n 3, 1) := by decide +kernel
theorem dX9_days_34 : decode cX9_days 34 = .ok (.bipush 16, 2) := by decide +kernel
theorem dX9_days_36 : decode cX9_days 36 = .ok (.if_icmp .ge 41, 3) := by decide +kernel
theorem dX9_days_39 : decode cX9_days 39 = .ok (.aload_n 0, 1) := by decide +kernel
theorem dX9_days_40 : decode cX9_days 40 = .ok (.getfield 39, 3) := by decide +kernel
theorem dX9_days_43 : decode cX9_days 43 = .ok (.sipush 400, 3) := by decide +kernel
theorem dX9_days_46 : decode cX9_days 46 = .ok (.iload_n 3, 1) := by decide +kernel
theorem dX9_days_47 : decode cX9_days 47 = .ok (.imul, 1) := by decide +kernel
theorem dX9_days_48 : decode cX9_days 48 = .ok (.aload_n 0, 1) := by decide +kernel
theorem dX9_days_49 : decode cX9_days 49 = .ok (.getfield 156, 3) := by decide +kernel
theorem dX9_days_52 : decode cX9_days 52 = .ok (.iadd, 1) := by decide +kernel
theorem dX9_days_53 : decode cX9_days 53 = .ok (.iconst 1, 1) := by decide +kernel
theorem dX9_days_54 : decode cX9_days 54 = .ok (.iadd, 1) := by decide +kernel
theorem dX9_days_55 : decode cX9_days 55 = .ok (.aload_n 0, 1) := by decide +kernel
theorem dX9_days_56 : decode cX9_days 56 = .ok (.getfield 39, 3) := by decide +kernel
theorem dX9_days_59 : decode cX9_days 59 = .ok (.sipush 400, 3) := by decide +kernel
theorem dX9_days_62 : decode cX9_days 62 = .ok (.iload_n 3, 1) := by decide +kernel
theorem dX9_days_63 : decode cX9_days 63 = .ok (.imul, 1) := by decide +kernel
theorem dX9_days_64 : decode cX9_days 64 = .ok (.aload_n 0, 1) := by decide +kernel
theorem dX9_days_65 : decode cX9_days 65 = .ok (.getfield 156, 3) := by decide +kernel
theorem dX9_days_68 : decode cX9_days 68 = .ok (.iadd, 1) := by decide +kernel
theorem dX9_days_69 : decode cX9_days 69 = .ok (.iaload, 1) := by decide +kernel
theorem dX9_days_70 : decode cX9_days 70 = .ok (.iastore, 1) := by decide +kernel
theorem dX9_days_71 : decode cX9_days 71 = .ok (.iinc 3 1, 3) := by decide +kernel
theorem dX9_days_74 : decode cX9_days 74 = .ok (.goto (-41), 3) := by decide +kernel
theorem dX9_days_77 : decode cX9_days 77 = .ok (.aload_n 0, 1) := by decide +kernel
theorem dX9_days_78 : decode cX9_days 78 = .ok (.dup, 1) := by decide +kernel
theorem dX9_days_79 : decode cX9_days 79 = .ok (.getfield 156, 3) := by decide +kernel
theorem dX9_days_82 : decode cX9_days 82 = .ok (.iconst 1, 1) := by decide +kernel
theorem dX9_days_83 : decode cX9_days 83 = .ok (.iadd, 1) := by decide +kernel
theorem dX9_days_84 : decode cX9_days 84 = .ok (.putfield 156, 3) := by decide +kernel
theorem dX9_days_87 : decode cX9_days 87 = .ok (.iinc 2 1, 3) := by decide +kernel
theorem dX9_days_90 : decode cX9_days 90 = .ok (.goto (-64), 3) := by decide +kernel
theorem dX9_days_93 : decode cX9_days 93 = .ok (.aload_n 0, 1) := by decide +kernel
theorem dX9_days_94 : decode cX9_days 94 = .ok (.getfield 156, 3) := by decide +kernel
theorem dX9_days_97 : decode cX9_days 97 = .ok (.ireturn, 1) := by decide +kernel
theorem dX9_deal_0 : decode cX9_deal 0 = .ok (.iload_n 1, 1) := by decide +kernel
theorem dX9_deal_1 : decode cX9_deal 1 = .ok (.iconst 1, 1) := by decide +kernel
theorem dX9_deal_2 : decode cX9_deal 2 = .ok (.sipush 400, 3) := by decide +kernel
theorem dX9_deal_5 : decode cX9_deal 5 = .ok (.invokestatic 148, 3) := by decide +kernel
theorem dX9_deal_8 : decode cX9_deal 8 = .ok (.ifCond .eq 33, 3) := by decide +kernel
theorem dX9_deal_11 : decode cX9_deal 11 = .ok (.iload_n 2, 1) := by decide +kernel
theorem dX9_deal_12 : decode cX9_deal 12 = .ok (.iconst 0, 1) := by decide +kernel
theorem dX9_deal_13 : decode cX9_deal 13 = .ok (.sipush 400, 3) := by decide +kernel
theorem dX9_deal_16 : decode cX9_deal 16 = .ok (.invokestatic 148, 3) := by decide +kernel
theorem dX9_deal_19 : decode cX9_deal 19 = .ok (.ifCond .eq 22, 3) := by decide +kernel
theorem dX9_deal_22 : decode cX9_deal 22 = .ok (.iload_n 3, 1) := by decide +kernel
theorem dX9_deal_23 : decode cX9_deal 23 = .ok (.iconst 0, 1) := by decide +kernel
theorem dX9_deal_24 : decode cX9_deal 24 = .ok (.sipush 400, 3) := by decide +kernel
theorem dX9_deal_27 : decode cX9_deal 27 = .ok (.invokestatic 148, 3) := by decide +kernel
theorem dX9_deal_30 : decode cX9_deal 30 = .ok (.ifCond .eq 11, 3) := by decide +kernel
theorem dX9_deal_33 : decode cX9_deal 33 = .ok (.iload_n 2, 1) := by decide +kernel
theorem dX9_deal_34 : decode cX9_deal 34 = .ok (.ifCond .ne 9, 3) := by decide +kernel
theorem dX9_deal_37 : decode cX9_deal 37 = .ok (.iload_n 3, 1) := by decide +kernel
theorem dX9_deal_38 : decode cX9_deal 38 = .ok (.ifCond .le 5, 3) := by decide +kernel
theorem dX9_deal_41 : decode cX9_deal 41 = .ok (.iconst (-1), 1) := by decide +kernel
theorem dX9_deal_42 : decode cX9_deal 42 = .ok (.ireturn, 1) := by decide +kernel
theorem dX9_deal_43 : decode cX9_deal 43 = .ok (.iload_n 2, 1) := by decide +kernel
theorem dX9_deal_44 : decode cX9_deal 44 = .ok (.ifCond .ne 7, 3) := by decide +kernel
theorem dX9_deal_47 : decode cX9_deal 47 = .ok (.iconst 1, 1) := by decide +kernel
theorem dX9_deal_48 : decode cX9_deal 48 = .ok (.goto 12, 3) := by decide +kernel
theorem dX9_deal_51 : decode cX9_deal 51 = .ok (.iload_n 3, 1) := by decide +kernel
theorem dX9_deal_52 : decode cX9_deal 52 = .ok (.ifCond .ne 7, 3) := by decide +kernel
theorem dX9_deal_55 : decode cX9_deal 55 = .ok (.iconst 2, 1) := by decide +kernel
theorem dX9_deal_56 : decode cX9_deal 56 = .ok (.goto 4, 3) := by decide +kernel
theorem dX9_deal_59 : decode cX9_deal 59 = .ok (.iconst 3, 1) := by decide +kernel
theorem dX9_deal_60 : decode cX9_deal 60 = .ok (.istore 4, 2) := by decide +kernel
theorem dX9_deal_62 : decode cX9_deal 62 = .ok (.aload_n 0, 1) := by decide +kernel
theorem dX9_deal_63 : decode cX9_deal 63 = .ok (.getfield 406, 3) := by decide +kernel
theorem dX9_deal_66 : decode cX9_deal 66 = .ok (.iconst 3, 1) := by decide +kernel
theorem dX9_deal_67 : decode cX9_deal 67 = .ok (.iload 4, 2) := by decide +kernel
theorem dX9_deal_69 : decode cX9_deal 69 = .ok (.imul, 1) := by decide +kernel
theorem dX9_deal_70 : decode cX9_deal 70 = .ok (.if_icmp .ge 6, 3) := by decide +kernel
theorem dX9_deal_73 : decode cX9_deal 73 = .ok (.bipush (-4), 2) := by decide +kernel
theorem dX9_deal_75 : decode cX9_deal 75 = .ok (.ireturn, 1) := by decide +kernel
theorem dX9_dealt_0 : decode cX9_dealt 0 = .ok (.iload_n 1, 1) := by decide +kernel
theorem dX9_dealt_1 : decode cX9_dealt 1 = .ok (.iconst 0, 1) := by decide +kernel
theorem dX9_dealt_2 : decode cX9_dealt 2 = .ok (.aload_n 0, 1) := by decide +kernel
theorem dX9_dealt_3 : decode cX9_dealt 3 = .ok (.getfield 415, 3) := by decide +kernel
theorem dX9_dealt_6 : decode cX9_dealt 6 = .ok (.iconst 1, 1) := by decide +kernel
theorem dX9_dealt_7 : decode cX9_dealt 7 = .ok (.isub, 1) := by decide +kernel
theorem dX9_dealt_8 : decode cX9_dealt 8 = .ok (.invokestatic 148, 3) := by decide +kernel
theorem dX9_dealt_11 : decode cX9_dealt 11 = .ok (.ifCond .ne 8, 3) := by decide +kernel
theorem dX9_dealt_14 : decode cX9_dealt 14 = .ok (.ldc 169, 2) := by decide +kernel
theorem dX9_dealt_16 : decode cX9_dealt 16 = .ok (.goto 23, 3) := by decide +kernel
theorem dX9_dealt_39 : decode cX9_dealt 39 = .ok (.ireturn, 1) := by decide +kernel
theorem dX9_doubt_0 : decode cX9_doubt 0 = .ok (.iload_n 1, 1) := by decide +kernel
theorem dX9_doubt_1 : decode cX9_doubt 1 = .ok (.iconst 1, 1) := by decide +kernel
theorem dX9_doubt_2 : decode cX9_doubt 2 = .ok (.sipush 9999, 3) := by decide +kernel
theorem dX9_doubt_5 : decode cX9_doubt 5 = .ok (.invokestatic 148, 3) := by decide +kernel
theorem dX9_doubt_8 : decode cX9_doubt 8 = .ok (.ifCond .ne 5, 3) := by decide +kernel
theorem dX9_doubt_11 : decode cX9_doubt 11 = .ok (.iconst (-1), 1) := by decide +kernel
theorem dX9_doubt_12 : decode cX9_doubt 12 = .ok (.ireturn, 1) := by decide +kernel
theorem dX9_doubt_13 : decode cX9_doubt 13 = .ok (.aload_n 0, 1) := by decide +kernel
theorem dX9_doubt_14 : decode cX9_doubt 14 = .ok (.getfield 406, 3) := by decide +kernel
theorem dX9_doubt_17 : decode cX9_doubt 17 = .ok (.bipush 9, 2) := by decide +kernel
theorem dX9_doubt_19 : decode cX9_doubt 19 = .ok (.if_icmp .ne 6, 3) := by decide +kernel
theorem dX9_doubt_25 : decode cX9_doubt 25 = .ok (.aload_n 0, 1) := by decide +kernel
theorem dX9_doubt_26 : decode cX9_doubt 26 = .ok (.getfield 133, 3) := by decide +kernel
theorem dX9_doubt_29 : decode cX9_doubt 29 = .ok (.aload_n 0, 1) := by decide +kernel
theorem dX9_doubt_30 : decode cX9_doubt 30 = .ok (.getfield 406, 3) := by decide +kernel
theorem dX9_doubt_33 : decode cX9_doubt 33 = .ok (.iload_n 1, 1) := by decide +kernel
theorem dX9_doubt_34 : decode cX9_doubt 34 = .ok (.iastore, 1) := by decide +kernel
theorem dX9_doubt_35 : decode cX9_doubt 35 = .ok (.aload_n 0, 1) := by decide +kernel
theorem dX9_doubt_36 : decode cX9_doubt 36 = .ok (.dup, 1) := by decide +kernel
theorem dX9_doubt_37 : decode cX9_doubt 37 = .ok (.getfield 406, 3) := by decide +kernel
theorem dX9_doubt_40 : decode cX9_doubt 40 = .ok (.iconst 1, 1) := by decide +kernel
theorem dX9_doubt_41 : decode cX9_doubt 41 = .ok (.iadd, 1) := by decide +kernel
theorem dX9_doubt_42 : decode cX9_doubt 42 = .ok (.putfield 406, 3) := by decide +kernel
theorem dX9_doubt_45 : decode cX9_doubt 45 = .ok (.aload_n 0, 1) := by decide +kernel
theorem dX9_doubt_46 : decode cX9_doubt 46 = .ok (.getfield 406, 3) := by decide +kernel
theorem dX9_doubt_49 : decode cX9_doubt 49 = .ok (.ireturn, 1) := by decide +kernel
theorem dX9_error_0 : decode cX9_error 0 = .ok (.aload_n 0, 1) := by decide +kernel
theorem dX9_error_1 : decode cX9_error 1 = .ok (.iload_n 1, 1) := by decide +kernel
theorem dX9_error_2 : decode cX9_error 2 = .ok (.invokevirtual 172, 3) := by decide +kernel
theorem dX9_error_5 : decode cX9_error 5 = .ok (.ifCond .lt 17, 3) := by decide +kernel
theorem dX9_error_22 : decode cX9_error 22 = .ok (.ldc 169, 2) := by decide +kernel
theorem dX9_error_24 : decode cX9_error 24 = .ok (.goto 10, 3) := by decide +kernel
theorem dX9_error_34 : decode cX9_error 34 = .ok (.ireturn, 1) := by decide +kernel
theorem dX9_feed_0 : decode cX9_feed 0 = .ok (.iload_n 1, 1) := by decide +kernel
theorem dX9_feed_1 : decode cX9_feed 1 = .ok (.iconst 1, 1) := by decide +kernel
theorem dX9_feed_2 : decode cX9_feed 2 = .ok (.iconst 4, 1) := by decide +kernel
theorem dX9_feed_3 : decode cX9_feed 3 = .ok (.invokestatic 148, 3) := by decide +kernel
theorem dX9_feed_6 : decode cX9_feed 6 = .ok (.ifCond .ne 5, 3) := by decide +kernel
theorem dX9_feed_9 : decode cX9_feed 9 = .ok (.iconst (-1), 1) := by decide +kernel
theorem dX9_feed_10 : decode cX9_feed 10 = .ok (.ireturn, 1) := by decide +kernel
theorem dX9_feed_11 : decode cX9_feed 11 = .ok (.aload_n 0, 1) := by decide +kernel
theorem dX9_feed_12 : decode cX9_feed 12 = .ok (.getfield 284, 3) := by decide +kernel
theorem dX9_feed_15 : decode cX9_feed 15 = .ok (.iload_n 1, 1) := by decide +kernel
theorem dX9_feed_16 : decode cX9_feed 16 = .ok (.iadd, 1) := by decide +kernel
theorem dX9_feed_17 : decode cX9_feed 17 = .ok (.bipush 120, 2) := by decide +kernel
theorem dX9_feed_19 : decode cX9_feed 19 = .ok (.if_icmp .le 6, 3) := by decide +kernel
theorem dX9_feed_25 : decode cX9_feed 25 = .ok (.iconst 0, 1) := by decide +kernel
theorem dX9_feed_26 : decode cX9_feed 26 = .ok (.istore_n 3, 1) := by decide +kernel
theorem dX9_feed_27 : decode cX9_feed 27 = .ok (.iload_n 3, 1) := by decide +kernel
theorem dX9_feed_28 : decode cX9_feed 28 = .ok (.iload_n 1, 1) := by decide +kernel
theorem dX9_feed_29 : decode cX9_feed 29 = .ok (.if_icmp .ge 35, 3) := by decide +kernel
theorem dX9_feed_32 : decode cX9_feed 32 = .ok (.aload_n 0, 1) := by decide +kernel
theorem dX9_feed_33 : decode cX9_feed 33 = .ok (.getfield 66, 3) := by decide +kernel
theorem dX9_feed_36 : decode cX9_feed 36 = .ok (.aload_n 0, 1) := by decide +kernel
theorem dX9_feed_37 : decode cX9_feed 37 = .ok (.getfield 284, 3) := by decide +kernel
theorem dX9_feed_40 : decode cX9_feed 40 = .ok (.iload_n 2, 1) := by decide +kernel
theorem dX9_feed_41 : decode cX9_feed 41 = .ok (.bipush 8, 2) := by decide +kernel
theorem dX9_feed_43 : decode cX9_feed 43 = .ok (.iload_n 3, 1) := by decide +kernel
theorem dX9_feed_44 : decode cX9_feed 44 = .ok (.imul, 1) := by decide +kernel
theorem dX9_feed_45 : decode cX9_feed 45 = .ok (.ishr, 1) := by decide +kernel
theorem dX9_feed_46 : decode cX9_feed 46 = .ok (.i2b, 1) := by decide +kernel
theorem dX9_feed_47 : decode cX9_feed 47 = .ok (.bastore, 1) := by decide +kernel
theorem dX9_feed_48 : decode cX9_feed 48 = .ok (.aload_n 0, 1) := by decide +kernel
theorem dX9_feed_49 : decode cX9_feed 49 = .ok (.dup, 1) := by decide +kernel
theorem dX9_feed_50 : decode cX9_feed 50 = .ok (.getfield 284, 3) := by decide +kernel
theorem dX9_feed_53 : decode cX9_feed 53 = .ok (.iconst 1, 1) := by decide +kernel
theorem dX9_feed_54 : decode cX9_feed 54 = .ok (.iadd, 1) := by decide +kernel
theorem dX9_feed_55 : decode cX9_feed 55 = .ok (.putfield 284, 3) := by decide +kernel
theorem dX9_feed_58 : decode cX9_feed 58 = .ok (.iinc 3 1, 3) := by decide +kernel
theorem dX9_feed_61 : decode cX9_feed 61 = .ok (.goto (-34), 3) := by decide +kernel
theorem dX9_feed_64 : decode cX9_feed 64 = .ok (.aload_n 0, 1) := by decide +kernel
theorem dX9_feed_65 : decode cX9_feed 65 = .ok (.getfield 284, 3) := by decide +kernel
theorem dX9_feed_68 : decode cX9_feed 68 = .ok (.ireturn, 1) := by decide +kernel
theorem dX9_foretold_0 : decode cX9_foretold 0 = .ok (.aload_n 0, 1) := by decide +kernel
theorem dX9_foretold_1 : decode cX9_foretold 1 = .ok (.iload_n 1, 1) := by decide +kernel
theorem dX9_foretold_2 : decode cX9_foretold 2 = .ok (.iload_n 2, 1) := by decide +kernel
theorem dX9_foretold_3 : decode cX9_foretold 3 = .ok (.iload_n 3, 1) := by decide +kernel
theorem dX9_foretold_4 : decode cX9_foretold 4 = .ok (.invokevirtual 242, 3) := by decide +kernel
theorem dX9_foretold_7 : decode cX9_foretold 7 = .ok (.ifCond .lt 27, 3) := by decide +kernel
theorem dX9_foretold_34 : decode cX9_foretold 34 = .ok (.ldc 169, 2) := by decide +kernel
theorem dX9_foretold_36 : decode cX9_foretold 36 = .ok (.ireturn, 1) := by decide +kernel
theorem dX9_holder_0 : decode cX9_holder 0 = .ok (.aload_n 0, 1) := by decide +kernel
theorem dX9_holder_1 : decode cX9_holder 1 = .ok (.iload_n 1, 1) := by decide +kernel
theorem dX9_holder_2 : decode cX9_holder 2 = .ok (.invokevirtual 172, 3) := by decide +kernel
theorem dX9_holder_5 : decode cX9_holder 5 = .ok (.ifCond .lt 15, 3) := by decide +kernel
theorem dX9_holder_20 : decode cX9_holder 20 = .ok (.ldc 169, 2) := by decide +kernel
theorem dX9_holder_22 : decode cX9_holder 22 = .ok (.goto 15, 3) := by decide +kernel
theorem dX9_holder_37 : decode cX9_holder 37 = .ok (.ireturn, 1) := by decide +kernel
theorem dX9_holds_0 : decode cX9_holds 0 = .ok (.iload_n 1, 1) := by decide +kernel
theorem dX9_holds_1 : decode cX9_holds 1 = .ok (.invokestatic 152, 3) := by decide +kernel
theorem dX9_holds_4 : decode cX9_holds 4 = .ok (.ifCond .eq 12, 3) := by decide +kernel
theorem dX9_holds_7 : decode cX9_holds 7 = .ok (.aload_n 0, 1) := by decide +kernel
theorem dX9_holds_8 : decode cX9_holds 8 = .ok (.getfield 17, 3) := by decide +kernel
theorem dX9_holds_11 : decode cX9_holds 11 = .ok (.iload_n 1, 1) := by decide +kernel
theorem dX9_holds_12 : decode cX9_holds 12 = .ok (.iaload, 1) := by decide +kernel
theorem dX9_holds_13 : decode cX9_holds 13 = .ok (.goto 4, 3) := by decide +kernel
theorem dX9_holds_16 : decode cX9_holds 16 = .ok (.iconst (-1), 1) := by decide +kernel
theorem dX9_holds_17 : decode cX9_holds 17 = .ok (.ireturn, 1) := by decide +kernel
theorem dX9_home_0 : decode cX9_home 0 = .ok (.aload_n 0, 1) := by decide +kernel
theorem dX9_home_1 : decode cX9_home 1 = .ok (.iload_n 1, 1) := by decide +kernel
theorem dX9_home_2 : decode cX9_home 2 = .ok (.invokevirtual 172, 3) := by decide +kernel
theorem dX9_home_5 : decode cX9_home 5 = .ok (.istore_n 2, 1) := by decide +kernel
theorem dX9_home_6 : decode cX9_home 6 = .ok (.iload_n 2, 1) := by decide +kernel
theorem dX9_home_7 : decode cX9_home 7 = .ok (.ifCond .ge 5, 3) := by decide +kernel
theorem dX9_home_10 : decode cX9_home 10 = .ok (.iload_n 2, 1) := by decide +kernel
theorem dX9_home_11 : decode cX9_home 11 = .ok (.ireturn, 1) := by decide +kernel
theorem dX9_in_0 : decode cX9_in 0 = .ok (.iload_n 0, 1) := by decide +kernel
theorem dX9_in_1 : decode cX9_in 1 = .ok (.iload_n 1, 1) := by decide +kernel
theorem dX9_in_2 : decode cX9_in 2 = .ok (.if_icmp .lt 12, 3) := by decide +kernel
theorem dX9_in_5 : decode cX9_in 5 = .ok (.iload_n 0, 1) := by decide +kernel
theorem dX9_in_6 : decode cX9_in 6 = .ok (.iload_n 2, 1) := by decide +kernel
theorem dX9_in_7 : decode cX9_in 7 = .ok (.if_icmp .gt 7, 3) := by decide +kernel
theorem dX9_in_10 : decode cX9_in 10 = .ok (.iconst 1, 1) := by decide +kernel
theorem dX9_in_11 : decode cX9_in 11 = .ok (.goto 4, 3) := by decide +kernel
theorem dX9_in_14 : decode cX9_in 14 = .ok (.iconst 0, 1) := by decide +kernel
theorem dX9_in_15 : decode cX9_in 15 = .ok (.ireturn, 1) := by decide +kernel
theorem dX9_init_0 : decode cX9_init 0 = .ok (.aload_n 0, 1) := by decide +kernel
theorem dX9_init_1 : decode cX9_init 1 = .ok (.invokespecial 7, 3) := by decide +kernel
theorem dX9_init_4 : decode cX9_init 4 = .ok (.aload_n 0, 1) := by decide +kernel
theorem dX9_init_5 : decode cX9_init 5 = .ok (.sipush 400, 3) := by decide +kernel
theorem dX9_init_8 : decode cX9_init 8 = .ok (.newarray .int, 2) := by decide +kernel
theorem dX9_init_10 : decode cX9_init 10 = .ok (.putfield 13, 3) := by decide +kernel
theorem dX9_init_13 : decode cX9_init 13 = .ok (.aload_n 0, 1) := by decide +kernel
theorem dX9_init_14 : decode cX9_init 14 = .ok (.bipush 16, 2) := by decide +kernel
theorem dX9_init_16 : decode cX9_init 16 = .ok (.newarray .int, 2) := by decide +kernel
theorem dX9_init_18 : decode cX9_init 18 = .ok (.putfield 17, 3) := by decide +kernel
theorem dX9_init_21 : decode cX9_init 21 = .ok (.aload_n 0, 1) := by decide +kernel
theorem dX9_init_22 : decode cX9_init 22 = .ok (.bipush 16, 2) := by decide +kernel
theorem dX9_init_24 : decode cX9_init 24 = .ok (.newarray .int, 2) := by decide +kernel
theorem dX9_init_26 : decode cX9_init 26 = .ok (.putfield 20, 3) := by decide +kernel
theorem dX9_init_29 : decode cX9_init 29 = .ok (.aload_n 0, 1) := by decide +kernel
theorem dX9_init_30 : decode cX9_init 30 = .ok (.sipush 6400, 3) := by decide +kernel
theorem dX9_init_33 : decode cX9_init 33 = .ok (.newarray .boolean, 2) := by decide +kernel
theorem dX9_init_35 : decode cX9_init 35 = .ok (.putfield 23, 3) := by decide +kernel
theorem dX9_init_38 : decode cX9_init 38 = .ok (.aload_n 0, 1) := by decide +kernel
theorem dX9_init_39 : decode cX9_init 39 = .ok (.sipush 6400, 3) := by decide +kernel
theorem dX9_init_42 : decode cX9_init 42 = .ok (.newarray .int, 2) := by decide +kernel
theorem dX9_init_44 : decode cX9_init 44 = .ok (.putfield 27, 3) := by decide +kernel
theorem dX9_init_47 : decode cX9_init 47 = .ok (.aload_n 0, 1) := by decide +kernel
theorem dX9_init_48 : decode cX9_init 48 = .ok (.sipush 6400, 3) := by decide +kernel
theorem dX9_init_51 : decode cX9_init 51 = .ok (.newarray .int, 2) := by decide +kernel
theorem dX9_init_53 : decode cX9_init 53 = .ok (.putfield 30, 3) := by decide +kernel
theorem dX9_init_56 : decode cX9_init 56 = .ok (.aload_n 0, 1) := by decide +kernel
theorem dX9_init_57 : decode cX9_init 57 = .ok (.sipush 6400, 3) := by decide +kernel
theorem dX9_init_60 : decode cX9_init 60 = .ok (.newarray .boolean, 2) := by decide +kernel
theorem dX9_init_62 : decode cX9_init 62 = .ok (.putfield 33, 3) := by decide +kernel
theorem dX9_init_65 : decode cX9_init 65 = .ok (.aload_n 0, 1) := by decide +kernel
theorem dX9_init_66 : decode cX9_init 66 = .ok (.sipush 6400, 3) := by decide +kernel
theorem dX9_init_69 : decode cX9_init 69 = .ok (.newarray .boolean, 2) := by decide +kernel
theorem dX9_init_71 : decode cX9_init 71 = .ok (.putfield 36, 3) := by decide +kernel
theorem dX9_init_74 : decode cX9_init 74 = .ok (.aload_n 0, 1) := by decide +kernel
theorem dX9_init_75 : decode cX9_init 75 = .ok (.sipush 6400, 3) := by decide +kernel
theorem dX9_init_78 : decode cX9_init 78 = .ok (.newarray .int, 2) := by decide +kernel
theorem dX9_init_80 : decode cX9_init 80 = .ok (.putfield 39, 3) := by decide +kernel
theorem dX9_init_83 : decode cX9_init 83 = .ok (.aload_n 0, 1) := by decide +kernel
theorem dX9_init_84 : decode cX9_init 84 = .ok (.bipush 60, 2) := by decide +kernel
theorem dX9_init_86 : decode cX9_init 86 = .ok (.newarray .int, 2) := by decide +kernel
theorem dX9_init_88 : decode cX9_init 88 = .ok (.putfield 42, 3) := by decide +kernel
theorem dX9_init_91 : decode cX9_init 91 = .ok (.aload_n 0, 1) := by decide +kernel
theorem dX9_init_92 : decode cX9_init 92 = .ok (.bipush 60, 2) := by decide +kernel
theorem dX9_init_94 : decode cX9_init 94 = .ok (.newarray .int, 2) := by decide +kernel
theorem dX9_init_96 : decode cX9_init 96 = .ok (.putfield 45, 3) := by decide +kernel
theorem dX9_init_99 : decode cX9_init 99 = .ok (.aload_n 0, 1) := by decide +kernel
theorem dX9_init_100 : decode cX9_init 100 = .ok (.bipush 60, 2) := by decide +kernel
theorem dX9_init_102 : decode cX9_init 102 = .ok (.newarray .int, 2) := by decide +kernel
theorem dX9_init_104 : decode cX9_init 104 = .ok (.putfield 48, 3) := by decide +kernel
theorem dX9_init_107 : decode cX9_init 107 = .ok (.aload_n 0, 1) := by decide +kernel
theorem dX9_init_108 : decode cX9_init 108 = .ok (.bipush 60, 2) := by decide +kernel
theorem dX9_init_110 : decode cX9_init 110 = .ok (.newarray .int, 2) := by decide +kernel
theorem dX9_init_112 : decode cX9_init 112 = .ok (.putfield 51, 3) := by decide +kernel
theorem dX9_init_115 : decode cX9_init 115 = .ok (.aload_n 0, 1) := by decide +kernel
theorem dX9_init_116 : decode cX9_init 116 = .ok (.bipush 60, 2) := by decide +kernel
theorem dX9_init_118 : decode cX9_init 118 = .ok (.newarray .int, 2) := by decide +kernel
theorem dX9_init_120 : decode cX9_init 120 = .ok (.putfield 54, 3) := by decide +kernel
theorem dX9_init_123 : decode cX9_init 123 = .ok (.aload_n 0, 1) := by decide +kernel
theorem dX9_init_124 : decode cX9_init 124 = .ok (.bipush 60, 2) := by decide +kernel
theorem dX9_init_126 : decode cX9_init 126 = .ok (.newarray .int, 2) := by decide +kernel
theorem dX9_init_128 : decode cX9_init 128 = .ok (.putfield 57, 3) := by decide +kernel
theorem dX9_init_131 : decode cX9_init 131 = .ok (.aload_n 0, 1) := by decide +kernel
theorem dX9_init_132 : decode cX9_init 132 = .ok (.bipush 60, 2) := by decide +kernel
theorem dX9_init_134 : decode cX9_init 134 = .ok (.newarray .int, 2) := by decide +kernel
theorem dX9_init_136 : decode cX9_init 136 = .ok (.putfield 60, 3) := by decide +kernel
theorem dX9_init_139 : decode cX9_init 139 = .ok (.aload_n 0, 1) := by decide +kernel
theorem dX9_init_140 : decode cX9_init 140 = .ok (.bipush 60, 2) := by decide +kernel
theorem dX9_init_142 : decode cX9_init 142 = .ok (.newarray .int, 2) := by decide +kernel
theorem dX9_init_144 : decode cX9_init 144 = .ok (.putfield 63, 3) := by decide +kernel
theorem dX9_init_147 : decode cX9_init 147 = .ok (.aload_n 0, 1) := by decide +kernel
theorem dX9_init_148 : decode cX9_init 148 = .ok (.bipush 120, 2) := by decide +kernel
theorem dX9_init_150 : decode cX9_init 150 = .ok (.newarray .byte, 2) := by decide +kernel
theorem dX9_init_152 : decode cX9_init 152 = .ok (.putfield 66, 3) := by decide +kernel
theorem dX9_init_155 : decode cX9_init 155 = .ok (.aload_n 0, 1) := by decide +kernel
theorem dX9_init_156 : decode cX9_init 156 = .ok (.iconst 2, 1) := by decide +kernel
theorem dX9_init_157 : decode cX9_init 157 = .ok (.newarray .boolean, 2) := by decide +kernel
theorem dX9_init_159 : decode cX9_init 159 = .ok (.putfield 70, 3) := by decide +kernel
theorem dX9_init_162 : decode cX9_init 162 = .ok (.aload_n 0, 1) := by decide +kernel
theorem dX9_init_163 : decode cX9_init 163 = .ok (.iconst 2, 1) := by decide +kernel
theorem dX9_init_164 : decode cX9_init 164 = .ok (.newarray .int, 2) := by decide +kernel
theorem dX9_init_166 : decode cX9_init 166 = .ok (.putfield 73, 3) := by decide +kernel
theorem dX9_init_169 : decode cX9_init 169 = .ok (.aload_n 0, 1) := by decide +kernel
theorem dX9_init_170 : decode cX9_init 170 = .ok (.sipush 384, 3) := by decide +kernel
theorem dX9_init_173 : decode cX9_init 173 = .ok (.newarray .int, 2) := by decide +kernel
theorem dX9_init_175 : decode cX9_init 175 = .ok (.putfield 76, 3) := by decide +kernel
theorem dX9_init_178 : decode cX9_init 178 = .ok (.aload_n 0, 1) := by decide +kernel
theorem dX9_init_179 : decode cX9_init 179 = .ok (.sipush 384, 3) := by decide +kernel
theorem dX9_init_182 : decode cX9_init 182 = .ok (.newarray .int, 2) := by decide +kernel
theorem dX9_init_184 : decode cX9_init 184 = .ok (.putfield 79, 3) := by decide +kernel
theorem dX9_init_187 : decode cX9_init 187 = .ok (.aload_n 0, 1) := by decide +kernel
theorem dX9_init_188 : decode cX9_init 188 = .ok (.sipush 130, 3) := by decide +kernel
theorem dX9_init_191 : decode cX9_init 191 = .ok (.newarray .int, 2) := by decide +kernel
theorem dX9_init_193 : decode cX9_init 193 = .ok (.putfield 82, 3) := by decide +kernel
theorem dX9_init_196 : decode cX9_init 196 = .ok (.aload_n 0, 1) := by decide +kernel
theorem dX9_init_197 : decode cX9_init 197 = .ok (.sipush 130, 3) := by decide +kernel
theorem dX9_init_200 : decode cX9_init 200 = .ok (.newarray .int, 2) := by decide +kernel
theorem dX9_init_202 : decode cX9_init 202 = .ok (.putfield 85, 3) := by decide +kernel
theorem dX9_init_205 : decode cX9_init 205 = .ok (.aload_n 0, 1) := by decide +kernel
theorem dX9_init_206 : decode cX9_init 206 = .ok (.bipush 24, 2) := by decide +kernel
theorem dX9_init_208 : decode cX9_init 208 = .ok (.newarray .int, 2) := by decide +kernel
theorem dX9_init_210 : decode cX9_init 210 = .ok (.putfield 88, 3) := by decide +kernel
theorem dX9_init_213 : decode cX9_init 213 = .ok (.aload_n 0, 1) := by decide +kernel
theorem dX9_init_214 : decode cX9_init 214 = .ok (.iconst 5, 1) := by decide +kernel
theorem dX9_init_215 : decode cX9_init 215 = .ok (.newarray .int, 2) := by decide +kernel
theorem dX9_init_217 : decode cX9_init 217 = .ok (.putfield 91, 3) := by decide +kernel
theorem dX9_init_220 : decode cX9_init 220 = .ok (.aload_n 0, 1) := by decide +kernel
theorem dX9_init_221 : decode cX9_init 221 = .ok (.iconst 5, 1) := by decide +kernel
theorem dX9_init_222 : decode cX9_init 222 = .ok (.newarray .int, 2) := by decide +kernel
theorem dX9_init_224 : decode cX9_init 224 = .ok (.putfield 94, 3) := by decide +kernel
theorem dX9_init_227 : decode cX9_init 227 = .ok (.aload_n 0, 1) := by decide +kernel
theorem dX9_init_228 : decode cX9_init 228 = .ok (.iconst 5, 1) := by decide +kernel
theorem dX9_init_229 : decode cX9_init 229 = .ok (.newarray .int, 2) := by decide +kernel
theorem dX9_init_231 : decode cX9_init 231 = .ok (.putfield 97, 3) := by decide +kernel
theorem dX9_init_234 : decode cX9_init 234 = .ok (.aload_n 0, 1) := by decide +kernel
theorem dX9_init_235 : decode cX9_init 235 = .ok (.bipush 15, 2) := by decide +kernel
theorem dX9_init_237 : decode cX9_init 237 = .ok (.newarray .int, 2) := by decide +kernel
theorem dX9_init_239 : decode cX9_init 239 = .ok (.putfield 100, 3) := by decide +kernel
theorem dX9_init_242 : decode cX9_init 242 = .ok (.aload_n 0, 1) := by decide +kernel
theorem dX9_init_243 : decode cX9_init 243 = .ok (.bipush 15, 2) := by decide +kernel
theorem dX9_init_245 : decode cX9_init 245 = .ok (.newarray .int, 2) := by decide +kernel
theorem dX9_init_247 : decode cX9_init 247 = .ok (.putfield 103, 3) := by decide +kernel
theorem dX9_init_250 : decode cX9_init 250 = .ok (.aload_n 0, 1) := by decide +kernel
theorem dX9_init_251 : decode cX9_init 251 = .ok (.bipush 15, 2) := by decide +kernel
theorem dX9_init_253 : decode cX9_init 253 = .ok (.newarray .int, 2) := by decide +kernel
theorem dX9_init_255 : decode cX9_init 255 = .ok (.putfield 106, 3) := by decide +kernel
theorem dX9_init_258 : decode cX9_init 258 = .ok (.aload_n 0, 1) := by decide +kernel
theorem dX9_init_259 : decode cX9_init 259 = .ok (.bipush 15, 2) := by decide +kernel
theorem dX9_init_261 : decode cX9_init 261 = .ok (.newarray .int, 2) := by decide +kernel
theorem dX9_init_263 : decode cX9_init 263 = .ok (.putfield 109, 3) := by decide +kernel
theorem dX9_init_266 : decode cX9_init 266 = .ok (.aload_n 0, 1) := by decide +kernel
theorem dX9_init_267 : decode cX9_init 267 = .ok (.bipush 15, 2) := by decide +kernel
theorem dX9_init_269 : decode cX9_init 269 = .ok (.newarray .int, 2) := by decide +kernel
theorem dX9_init_271 : decode cX9_init 271 = .ok (.putfield 112, 3) := by decide +kernel
theorem dX9_init_274 : decode cX9_init 274 = .ok (.aload_n 0, 1) := by decide +kernel
theorem dX9_init_275 : decode cX9_init 275 = .ok (.iconst 5, 1) := by decide +kernel
theorem dX9_init_276 : decode cX9_init 276 = .ok (.newarray .int, 2) := by decide +kernel
theorem dX9_init_278 : decode cX9_init 278 = .ok (.putfield 115, 3) := by decide +kernel
theorem dX9_init_281 : decode cX9_init 281 = .ok (.aload_n 0, 1) := by decide +kernel
theorem dX9_init_282 : decode cX9_init 282 = .ok (.sipush 200, 3) := by decide +kernel
theorem dX9_init_285 : decode cX9_init 285 = .ok (.newarray .int, 2) := by decide +kernel
theorem dX9_init_287 : decode cX9_init 287 = .ok (.putfield 118, 3) := by decide +kernel
theorem dX9_init_290 : decode cX9_init 290 = .ok (.aload_n 0, 1) := by decide +kernel
theorem dX9_init_291 : decode cX9_init 291 = .ok (.sipush 600, 3) := by decide +kernel
theorem dX9_init_294 : decode cX9_init 294 = .ok (.newarray .int, 2) := by decide +kernel
theorem dX9_init_296 : decode cX9_init 296 = .ok (.putfield 121, 3) := by decide +kernel
theorem dX9_init_299 : decode cX9_init 299 = .ok (.aload_n 0, 1) := by decide +kernel
theorem dX9_init_300 : decode cX9_init 300 = .ok (.iconst 3, 1) := by decide +kernel
theorem dX9_init_301 : decode cX9_init 301 = .ok (.newarray .int, 2) := by decide +kernel
theorem dX9_init_303 : decode cX9_init 303 = .ok (.putfield 124, 3) := by decide +kernel
theorem dX9_init_306 : decode cX9_init 306 = .ok (.aload_n 0, 1) := by decide +kernel
theorem dX9_init_307 : decode cX9_init 307 = .ok (.iconst 3, 1) := by decide +kernel
theorem dX9_init_308 : decode cX9_init 308 = .ok (.newarray .int, 2) := by decide +kernel
theorem dX9_init_310 : decode cX9_init 310 = .ok (.putfield 127, 3) := by decide +kernel
theorem dX9_init_313 : decode cX9_init 313 = .ok (.aload_n 0, 1) := by decide +kernel
theorem dX9_init_314 : decode cX9_init 314 = .ok (.iconst 3, 1) := by decide +kernel
theorem dX9_init_315 : decode cX9_init 315 = .ok (.newarray .int, 2) := by decide +kernel
theorem dX9_init_317 : decode cX9_init 317 = .ok (.putfield 130, 3) := by decide +kernel
theorem dX9_init_320 : decode cX9_init 320 = .ok (.aload_n 0, 1) := by decide +kernel
theorem dX9_init_321 : decode cX9_init 321 = .ok (.bipush 9, 2) := by decide +kernel
theorem dX9_init_323 : decode cX9_init 323 = .ok (.newarray .int, 2) := by decide +kernel
theorem dX9_init_325 : decode cX9_init 325 = .ok (.putfield 133, 3) := by decide +kernel
theorem dX9_init_328 : decode cX9_init 328 = .ok (.aload_n 0, 1) := by decide +kernel
theorem dX9_init_329 : decode cX9_init 329 = .ok (.bipush 9, 2) := by decide +kernel
theorem dX9_init_331 : decode cX9_init 331 = .ok (.newarray .int, 2) := by decide +kernel
theorem dX9_init_333 : decode cX9_init 333 = .ok (.putfield 136, 3) := by decide +kernel
theorem dX9_init_336 : decode cX9_init 336 = .ok (.aload_n 0, 1) := by decide +kernel
theorem dX9_init_337 : decode cX9_init 337 = .ok (.bipush 9, 2) := by decide +kernel
theorem dX9_init_339 : decode cX9_init 339 = .ok (.newarray .int, 2) := by decide +kernel
theorem dX9_init_341 : decode cX9_init 341 = .ok (.putfield 139, 3) := by decide +kernel
theorem dX9_init_344 : decode cX9_init 344 = .ok (.aload_n 0, 1) := by decide +kernel
theorem dX9_init_345 : decode cX9_init 345 = .ok (.iconst 3, 1) := by decide +kernel
theorem dX9_init_346 : decode cX9_init 346 = .ok (.newarray .int, 2) := by decide +kernel
theorem dX9_init_348 : decode cX9_init 348 = .ok (.putfield 142, 3) := by decide +kernel
theorem dX9_init_351 : decode cX9_init 351 = .ok (.aload_n 0, 1) := by decide +kernel
theorem dX9_init_352 : decode cX9_init 352 = .ok (.iconst 3, 1) := by decide +kernel
theorem dX9_init_353 : decode cX9_init 353 = .ok (.newarray .int, 2) := by decide +kernel
theorem dX9_init_355 : decode cX9_init 355 = .ok (.putfield 145, 3) := by decide +kernel
theorem dX9_init_358 : decode cX9_init 358 = .ok (.iconst 0, 1) := by decide +kernel
theorem dX9_init_359 : decode cX9_init 359 = .ok (.istore_n 1, 1) := by decide +kernel
theorem dX9_init_360 : decode cX9_init 360 = .ok (.iload_n 1, 1) := by decide +kernel
theorem dX9_init_361 : decode cX9_init 361 = .ok (.sipush 400, 3) := by decide +kernel
theorem dX9_init_364 : decode cX9_init 364 = .ok (.if_icmp .ge 18, 3) := by decide +kernel
theorem dX9_init_367 : decode cX9_init 367 = .ok (.aload_n 0, 1) := by decide +kernel
theorem dX9_init_368 : decode cX9_init 368 = .ok (.getfield 13, 3) := by decide +kernel
theorem dX9_init_371 : decode cX9_init 371 = .ok (.iload_n 1, 1) := by decide +kernel
theorem dX9_init_372 : decode cX9_init 372 = .ok (.sipush (-1000), 3) := by decide +kernel
theorem dX9_init_375 : decode cX9_init 375 = .ok (.iastore, 1) := by decide +kernel
theorem dX9_init_376 : decode cX9_init 376 = .ok (.iinc 1 1, 3) := by decide +kernel
theorem dX9_init_379 : decode cX9_init 379 = .ok (.goto (-19), 3) := by decide +kernel
theorem dX9_init_382 : decode cX9_init 382 = .ok (.iconst 0, 1) := by decide +kernel
theorem dX9_init_383 : decode cX9_init 383 = .ok (.istore_n 1, 1) := by decide +kernel
theorem dX9_init_384 : decode cX9_init 384 = .ok (.iload_n 1, 1) := by decide +kernel
theorem dX9_init_385 : decode cX9_init 385 = .ok (.bipush 16, 2) := by decide +kernel
theorem dX9_init_387 : decode cX9_init 387 = .ok (.if_icmp .ge 17, 3) := by decide +kernel
theorem dX9_init_390 : decode cX9_init 390 = .ok (.aload_n 0, 1) := by decide +kernel
theorem dX9_init_391 : decode cX9_init 391 = .ok (.getfield 17, 3) := by decide +kernel
theorem dX9_init_394 : decode cX9_init 394 = .ok (.iload_n 1, 1) := by decide +kernel
theorem dX9_init_395 : decode cX9_init 395 = .ok (.bipush (-5), 2) := by decide +kernel
theorem dX9_init_397 : decode cX9_init 397 = .ok (.iastore, 1) := by decide +kernel
theorem dX9_init_398 : decode cX9_init 398 = .ok (.iinc 1 1, 3) := by decide +kernel
theorem dX9_init_401 : decode cX9_init 401 = .ok (.goto (-17), 3) := by decide +kernel
theorem dX9_init_404 : decode cX9_init 404 = .ok (.return_, 1) := by decide +kernel
theorem dX9_isDay_0 : decode cX9_isDay 0 = .ok (.iload_n 0, 1) := by decide +kernel
theorem dX9_isDay_1 : decode cX9_isDay 1 = .ok (.iconst 0, 1) := by decide +kernel
theorem dX9_isDay_2 : decode cX9_isDay 2 = .ok (.sipush 399, 3) := by decide +kernel
theorem dX9_isDay_5 : decode cX9_isDay 5 = .ok (.invokestatic 148, 3) := by decide +kernel
theorem dX9_isDay_8 : decode cX9_isDay 8 = .ok (.ireturn, 1) := by decide +kernel
theorem dX9_isKnown_0 : decode cX9_isKnown 0 = .ok (.iload_n 0, 1) := by decide +kernel
theorem dX9_isKnown_1 : decode cX9_isKnown 1 = .ok (.iconst (-1), 1) := by decide +kernel
theorem dX9_isKnown_2 : decode cX9_isKnown 2 = .ok (.sipush 399, 3) := by decide +kernel
theorem dX9_isKnown_5 : decode cX9_isKnown 5 = .ok (.invokestatic 148, 3) := by decide +kernel
theorem dX9_isKnown_8 : decode cX9_isKnown 8 = .ok (.ireturn, 1) := by decide +kernel
theorem dX9_isPlace_0 : decode cX9_isPlace 0 = .ok (.iload_n 0, 1) := by decide +kernel
theorem dX9_isPlace_1 : decode cX9_isPlace 1 = .ok (.iconst 0, 1) := by decide +kernel
theorem dX9_isPlace_2 : decode cX9_isPlace 2 = .ok (.bipush 15, 2) := by decide +kernel
theorem dX9_isPlace_4 : decode cX9_isPlace 4 = .ok (.invokestatic 148, 3) := by decide +kernel
theorem dX9_isPlace_7 : decode cX9_isPlace 7 = .ok (.ireturn, 1) := by decide +kernel
theorem dX9_isShip_0 : decode cX9_isShip 0 = .ok (.iload_n 0, 1) := by decide +kernel
theorem dX9_isShip_1 : decode cX9_isShip 1 = .ok (.iconst 0, 1) := by decide +kernel
theorem dX9_isShip_2 : decode cX9_isShip 2 = .ok (.iconst 4, 1) := by decide +kernel
theorem dX9_isShip_3 : decode cX9_isShip 3 = .ok (.invokestatic 148, 3) := by decide +kernel
theorem dX9_isShip_6 : decode cX9_isShip 6 = .ok (.ireturn, 1) := by decide +kernel
theorem dX9_isShown_0 : decode cX9_isShown 0 = .ok (.iload_n 0, 1) := by decide +kernel
theorem dX9_isShown_1 : decode cX9_isShown 1 = .ok (.ldc_w 395, 3) := by decide +kernel
theorem dX9_isShown_4 : decode cX9_isShown 4 = .ok (.ldc_w 396, 3) := by decide +kernel
theorem dX9_isShown_7 : decode cX9_isShown 7 = .ok (.invokestatic 148, 3) := by decide +kernel
theorem dX9_isShown_10 : decode cX9_isShown 10 = .ok (.ireturn, 1) := by decide +kernel
theorem dX9_isWatch_0 : decode cX9_isWatch 0 = .ok (.aload_n 0, 1) := by decide +kernel
theorem dX9_isWatch_1 : decode cX9_isWatch 1 = .ok (.getfield 17, 3) := by decide +kernel
theorem dX9_isWatch_4 : decode cX9_isWatch 4 = .ok (.iload_n 1, 1) := by decide +kernel
theorem dX9_isWatch_5 : decode cX9_isWatch 5 = .ok (.iaload, 1) := by decide +kernel
theorem dX9_isWatch_6 : decode cX9_isWatch 6 = .ok (.ifCond .eq 13, 3) := by decide +kernel
theorem dX9_isWatch_9 : decode cX9_isWatch 9 = .ok (.aload_n 0, 1) := by decide +kernel
theorem dX9_isWatch_10 : decode cX9_isWatch 10 = .ok (.getfield 17, 3) := by decide +kernel
theorem dX9_isWatch_13 : decode cX9_isWatch 13 = .ok (.iload_n 1, 1) := by decide +kernel
theorem dX9_isWatch_14 : decode cX9_isWatch 14 = .ok (.iaload, 1) := by decide +kernel
theorem dX9_isWatch_15 : decode cX9_isWatch 15 = .ok (.iconst 1, 1) := by decide +kernel
theorem dX9_isWatch_16 : decode cX9_isWatch 16 = .ok (.if_icmp .ne 7, 3) := by decide +kernel
theorem dX9_isWatch_23 : decode cX9_isWatch 23 = .ok (.iconst 0, 1) := by decide +kernel
theorem dX9_isWatch_24 : decode cX9_isWatch 24 = .ok (.ireturn, 1) := by decide +kernel
theorem dX9_jump_0 : decode cX9_jump 0 = .ok (.iload 4, 2) := by decide +kernel
theorem dX9_jump_2 : decode cX9_jump 2 = .ok (.iconst 0, 1) := by decide +kernel
theorem dX9_jump_3 : decode cX9_jump 3 = .ok (.sipush 2000, 3) := by decide +kernel
theorem dX9_jump_6 : decode cX9_jump 6 = .ok (.invokestatic 148, 3) := by decide +kernel
theorem dX9_jump_9 : decode cX9_jump 9 = .ok (.ifCond .ne 5, 3) := by decide +kernel
theorem dX9_jump_12 : decode cX9_jump 12 = .ok (.iconst (-1), 1) := by decide +kernel
theorem dX9_jump_13 : decode cX9_jump 13 = .ok (.ireturn, 1) := by decide +kernel
theorem dX9_jump_14 : decode cX9_jump 14 = .ok (.aload_n 0, 1) := by decide +kernel
theorem dX9_jump_15 : decode cX9_jump 15 = .ok (.iload_n 1, 1) := by decide +kernel
theorem dX9_jump_16 : decode cX9_jump 16 = .ok (.iload_n 2, 1) := by decide +kernel
theorem dX9_jump_17 : decode cX9_jump 17 = .ok (.iload_n 3, 1) := by decide +kernel
theorem dX9_jump_18 : decode cX9_jump 18 = .ok (.invokevirtual 242, 3) := by decide +kernel
theorem dX9_jump_21 : decode cX9_jump 21 = .ok (.istore 5, 2) := by decide +kernel
theorem dX9_jump_23 : decode cX9_jump 23 = .ok (.iload 5, 2) := by decide +kernel
theorem dX9_jump_25 : decode cX9_jump 25 = .ok (.ifCond .ge 6, 3) := by decide +kernel
theorem dX9_jump_28 : decode cX9_jump 28 = .ok (.iload 5, 2) := by decide +kernel
theorem dX9_jump_30 : decode cX9_jump 30 = .ok (.ireturn, 1) := by decide +kernel
theorem dX9_late_0 : decode cX9_late 0 = .ok (.iload_n 1, 1) := by decide +kernel
theorem dX9_late_1 : decode cX9_late 1 = .ok (.invokestatic 152, 3) := by decide +kernel
theorem dX9_late_4 : decode cX9_late 4 = .ok (.ifCond .eq 15, 3) := by decide +kernel
theorem dX9_late_7 : decode cX9_late 7 = .ok (.iload_n 2, 1) := by decide +kernel
theorem dX9_late_8 : decode cX9_late 8 = .ok (.iconst 0, 1) := by decide +kernel
theorem dX9_late_9 : decode cX9_late 9 = .ok (.aload_n 0, 1) := by decide +kernel
theorem dX9_late_10 : decode cX9_late 10 = .ok (.getfield 156, 3) := by decide +kernel
theorem dX9_late_13 : decode cX9_late 13 = .ok (.invokestatic 148, 3) := by decide +kernel
theorem dX9_late_16 : decode cX9_late 16 = .ok (.ifCond .ne 5, 3) := by decide +kernel
theorem dX9_late_19 : decode cX9_late 19 = .ok (.iconst (-1), 1) := by decide +kernel
theorem dX9_late_20 : decode cX9_late 20 = .ok (.ireturn, 1) := by decide +kernel
theorem dX9_late_21 : decode cX9_late 21 = .ok (.aload_n 0, 1) := by decide +kernel
theorem dX9_late_22 : decode cX9_late 22 = .ok (.iload_n 1, 1) := by decide +kernel
theorem dX9_late_23 : decode cX9_late 23 = .ok (.invokevirtual 172, 3) := by decide +kernel
theorem dX9_late_26 : decode cX9_late 26 = .ok (.istore_n 3, 1) := by decide +kernel
theorem dX9_late_27 : decode cX9_late 27 = .ok (.iload_n 3, 1) := by decide +kernel
theorem dX9_late_28 : decode cX9_late 28 = .ok (.ifCond .ge 5, 3) := by decide +kernel
theorem dX9_late_31 : decode cX9_late 31 = .ok (.iload_n 3, 1) := by decide +kernel
theorem dX9_late_32 : decode cX9_late 32 = .ok (.ireturn, 1) := by decide +kernel
theorem dX9_law_0 : decode cX9_law 0 = .ok (.aload_n 0, 1) := by decide +kernel
theorem dX9_law_1 : decode cX9_law 1 = .ok (.iload_n 1, 1) := by decide +kernel
theorem dX9_law_2 : decode cX9_law 2 = .ok (.iload_n 2, 1) := by decide +kernel
theorem dX9_law_3 : decode cX9_law 3 = .ok (.iload_n 3, 1) := by decide +kernel
theorem dX9_law_4 : decode cX9_law 4 = .ok (.invokevirtual 242, 3) := by decide +kernel
theorem dX9_law_7 : decode cX9_law 7 = .ok (.istore 4, 2) := by decide +kernel
theorem dX9_law_9 : decode cX9_law 9 = .ok (.iload 4, 2) := by decide +kernel
theorem dX9_law_11 : decode cX9_law 11 = .ok (.ifCond .ge 6, 3) := by decide +kernel
theorem dX9_law_14 : decode cX9_law 14 = .ok (.iload 4, 2) := by decide +kernel
theorem dX9_law_16 : decode cX9_law 16 = .ok (.ireturn, 1) := by decide +kernel
theorem dX9_lend_0 : decode cX9_lend 0 = .ok (.iload_n 1, 1) := by decide +kernel
theorem dX9_lend_1 : decode cX9_lend 1 = .ok (.invokestatic 152, 3) := by decide +kernel
theorem dX9_lend_4 : decode cX9_lend 4 = .ok (.ifCond .eq 13, 3) := by decide +kernel
theorem dX9_lend_7 : decode cX9_lend 7 = .ok (.iload_n 2, 1) := by decide +kernel
theorem dX9_lend_8 : decode cX9_lend 8 = .ok (.iconst 0, 1) := by decide +kernel
theorem dX9_lend_9 : decode cX9_lend 9 = .ok (.bipush 19, 2) := by decide +kernel
theorem dX9_lend_11 : decode cX9_lend 11 = .ok (.invokestatic 148, 3) := by decide +kernel
theorem dX9_lend_14 : decode cX9_lend 14 = .ok (.ifCond .ne 5, 3) := by decide +kernel
theorem dX9_lend_17 : decode cX9_lend 17 = .ok (.iconst (-1), 1) := by decide +kernel
theorem dX9_lend_18 : decode cX9_lend 18 = .ok (.ireturn, 1) := by decide +kernel
theorem dX9_lend_19 : decode cX9_lend 19 = .ok (.aload_n 0, 1) := by decide +kernel
theorem dX9_lend_20 : decode cX9_lend 20 = .ok (.iload_n 1, 1) := by decide +kernel
theorem dX9_lend_21 : decode cX9_lend 21 = .ok (.invokevirtual 172, 3) := by decide +kernel
theorem dX9_lend_24 : decode cX9_lend 24 = .ok (.istore_n 3, 1) := by decide +kernel
theorem dX9_lend_25 : decode cX9_lend 25 = .ok (.iload_n 3, 1) := by decide +kernel
theorem dX9_lend_26 : decode cX9_lend 26 = .ok (.ifCond .ge 5, 3) := by decide +kernel
theorem dX9_lend_29 : decode cX9_lend 29 = .ok (.iload_n 3, 1) := by decide +kernel
theorem dX9_lend_30 : decode cX9_lend 30 = .ok (.ireturn, 1) := by decide +kernel
theorem dX9_off_0 : decode cX9_off 0 = .ok (.iload_n 1, 1) := by decide +kernel
theorem dX9_off_1 : decode cX9_off 1 = .ok (.iconst 1, 1) := by decide +kernel
theorem dX9_off_2 : decode cX9_off 2 = .ok (.iconst 5, 1) := by decide +kernel
theorem dX9_off_3 : decode cX9_off 3 = .ok (.invokestatic 148, 3) := by decide +kernel
theorem dX9_off_6 : decode cX9_off 6 = .ok (.ifCond .eq 36, 3) := by decide +kernel
theorem dX9_off_9 : decode cX9_off 9 = .ok (.iload_n 2, 1) := by decide +kernel
theorem dX9_off_10 : decode cX9_off 10 = .ok (.invokestatic 159, 3) := by decide +kernel
theorem dX9_off_13 : decode cX9_off 13 = .ok (.ifCond .eq 29, 3) := by decide +kernel
theorem dX9_off_16 : decode cX9_off 16 = .ok (.iload_n 3, 1) := by decide +kernel
theorem dX9_off_17 : decode cX9_off 17 = .ok (.invokestatic 159, 3) := by decide +kernel
theorem dX9_off_20 : decode cX9_off 20 = .ok (.ifCond .eq 22, 3) := by decide +kernel
theorem dX9_off_23 : decode cX9_off 23 = .ok (.iload_n 2, 1) := by decide +kernel
theorem dX9_off_24 : decode cX9_off 24 = .ok (.iload_n 3, 1) := by decide +kernel
theorem dX9_off_25 : decode cX9_off 25 = .ok (.if_icmp .gt 17, 3) := by decide +kernel
theorem dX9_off_28 : decode cX9_off 28 = .ok (.iload 4, 2) := by decide +kernel
theorem dX9_off_30 : decode cX9_off 30 = .ok (.sipush (-10000), 3) := by decide +kernel
theorem dX9_off_33 : decode cX9_off 33 = .ok (.sipush 10000, 3) := by decide +kernel
theorem dX9_off_36 : decode cX9_off 36 = .ok (.invokestatic 148, 3) := by decide +kernel
theorem dX9_off_39 : decode cX9_off 39 = .ok (.ifCond .ne 5, 3) := by decide +kernel
theorem dX9_off_42 : decode cX9_off 42 = .ok (.iconst (-1), 1) := by decide +kernel
theorem dX9_off_43 : decode cX9_off 43 = .ok (.ireturn, 1) := by decide +kernel
theorem dX9_off_44 : decode cX9_off 44 = .ok (.aload_n 0, 1) := by decide +kernel
theorem dX9_off_45 : decode cX9_off 45 = .ok (.getfield 175, 3) := by decide +kernel
theorem dX9_off_48 : decode cX9_off 48 = .ok (.bipush 60, 2) := by decide +kernel
theorem dX9_off_50 : decode cX9_off 50 = .ok (.if_icmp .ne 6, 3) := by decide +kernel
theorem dX9_off_56 : decode cX9_off 56 = .ok (.aload_n 0, 1) := by decide +kernel
theorem dX9_off_57 : decode cX9_off 57 = .ok (.getfield 42, 3) := by decide +kernel
theorem dX9_off_60 : decode cX9_off 60 = .ok (.aload_n 0, 1) := by decide +kernel
theorem dX9_off_61 : decode cX9_off 61 = .ok (.getfield 175, 3) := by decide +kernel
theorem dX9_off_64 : decode cX9_off 64 = .ok (.iload_n 1, 1) := by decide +kernel
theorem dX9_off_65 : decode cX9_off 65 = .ok (.iastore, 1) := by decide +kernel
theorem dX9_off_66 : decode cX9_off 66 = .ok (.aload_n 0, 1) := by decide +kernel
theorem dX9_off_67 : decode cX9_off 67 = .ok (.getfield 45, 3) := by decide +kernel
theorem dX9_off_70 : decode cX9_off 70 = .ok (.aload_n 0, 1) := by decide +kernel
theorem dX9_off_71 : decode cX9_off 71 = .ok (.getfield 175, 3) := by decide +kernel
theorem dX9_off_74 : decode cX9_off 74 = .ok (.iload_n 2, 1) := by decide +kernel
theorem dX9_off_75 : decode cX9_off 75 = .ok (.iastore, 1) := by decide +kernel
theorem dX9_off_76 : decode cX9_off 76 = .ok (.aload_n 0, 1) := by decide +kernel
theorem dX9_off_77 : decode cX9_off 77 = .ok (.getfield 48, 3) := by decide +kernel
theorem dX9_off_80 : decode cX9_off 80 = .ok (.aload_n 0, 1) := by decide +kernel
theorem dX9_off_81 : decode cX9_off 81 = .ok (.getfield 175, 3) := by decide +kernel
theorem dX9_off_84 : decode cX9_off 84 = .ok (.iload_n 3, 1) := by decide +kernel
theorem dX9_off_85 : decode cX9_off 85 = .ok (.iastore, 1) := by decide +kernel
theorem dX9_off_86 : decode cX9_off 86 = .ok (.aload_n 0, 1) := by decide +kernel
theorem dX9_off_87 : decode cX9_off 87 = .ok (.getfield 51, 3) := by decide +kernel
theorem dX9_off_90 : decode cX9_off 90 = .ok (.aload_n 0, 1) := by decide +kernel
theorem dX9_off_91 : decode cX9_off 91 = .ok (.getfield 175, 3) := by decide +kernel
theorem dX9_off_94 : decode cX9_off 94 = .ok (.iload 4, 2) := by decide +kernel
theorem dX9_off_96 : decode cX9_off 96 = .ok (.iastore, 1) := by decide +kernel
theorem dX9_off_97 : decode cX9_off 97 = .ok (.aload_n 0, 1) := by decide +kernel
theorem dX9_off_98 : decode cX9_off 98 = .ok (.getfield 54, 3) := by decide +kernel
theorem dX9_off_101 : decode cX9_off 101 = .ok (.aload_n 0, 1) := by decide +kernel
theorem dX9_off_102 : decode cX9_off 102 = .ok (.getfield 175, 3) := by decide +kernel
theorem dX9_off_105 : decode cX9_off 105 = .ok (.aload_n 0, 1) := by decide +kernel
theorem dX9_off_106 : decode cX9_off 106 = .ok (.getfield 156, 3) := by decide +kernel
theorem dX9_off_109 : decode cX9_off 109 = .ok (.iastore, 1) := by decide +kernel
theorem dX9_off_110 : decode cX9_off 110 = .ok (.aload_n 0, 1) := by decide +kernel
theorem dX9_off_111 : decode cX9_off 111 = .ok (.dup, 1) := by decide +kernel
theorem dX9_off_112 : decode cX9_off 112 = .ok (.getfield 175, 3) := by decide +kernel
theorem dX9_off_115 : decode cX9_off 115 = .ok (.iconst 1, 1) := by decide +kernel
theorem dX9_off_116 : decode cX9_off 116 = .ok (.iadd, 1) := by decide +kernel
theorem dX9_off_117 : decode cX9_off 117 = .ok (.putfield 175, 3) := by decide +kernel
theorem dX9_off_120 : decode cX9_off 120 = .ok (.aload_n 0, 1) := by decide +kernel
theorem dX9_off_121 : decode cX9_off 121 = .ok (.getfield 175, 3) := by decide +kernel
theorem dX9_off_124 : decode cX9_off 124 = .ok (.ireturn, 1) := by decide +kernel
theorem dX9_order_0 : decode cX9_order 0 = .ok (.aload_n 0, 1) := by decide +kernel
theorem dX9_order_1 : decode cX9_order 1 = .ok (.iload_n 1, 1) := by decide +kernel
theorem dX9_order_2 : decode cX9_order 2 = .ok (.iload_n 2, 1) := by decide +kernel
theorem dX9_order_3 : decode cX9_order 3 = .ok (.iload_n 3, 1) := by decide +kernel
theorem dX9_order_4 : decode cX9_order 4 = .ok (.invokevirtual 242, 3) := by decide +kernel
theorem dX9_order_7 : decode cX9_order 7 = .ok (.istore 4, 2) := by decide +kernel
theorem dX9_order_9 : decode cX9_order 9 = .ok (.iload 4, 2) := by decide +kernel
theorem dX9_order_11 : decode cX9_order 11 = .ok (.ifCond .ge 6, 3) := by decide +kernel
theorem dX9_order_14 : decode cX9_order 14 = .ok (.iload 4, 2) := by decide +kernel
theorem dX9_order_16 : decode cX9_order 16 = .ok (.ireturn, 1) := by decide +kernel
theorem dX9_put_0 : decode cX9_put 0 = .ok (.iload_n 1, 1) := by decide +kernel
theorem dX9_put_1 : decode cX9_put 1 = .ok (.invokestatic 152, 3) := by decide +kernel
theorem dX9_put_4 : decode cX9_put 4 = .ok (.ifCond .eq 36, 3) := by decide +kernel
theorem dX9_put_7 : decode cX9_put 7 = .ok (.iload_n 2, 1) := by decide +kernel
theorem dX9_put_8 : decode cX9_put 8 = .ok (.iconst 0, 1) := by decide +kernel
theorem dX9_put_9 : decode cX9_put 9 = .ok (.iconst 2, 1) := by decide +kernel
theorem dX9_put_10 : decode cX9_put 10 = .ok (.invokestatic 148, 3) := by decide +kernel
theorem dX9_put_13 : decode cX9_put 13 = .ok (.ifCond .eq 27, 3) := by decide +kernel
theorem dX9_put_16 : decode cX9_put 16 = .ok (.iload_n 2, 1) := by decide +kernel
theorem dX9_put_17 : decode cX9_put 17 = .ok (.ifCond .ne 7, 3) := by decide +kernel
theorem dX9_put_20 : decode cX9_put 20 = .ok (.iload_n 3, 1) := by decide +kernel
theorem dX9_put_21 : decode cX9_put 21 = .ok (.ifCond .ne 19, 3) := by decide +kernel
theorem dX9_put_24 : decode cX9_put 24 = .ok (.iload_n 2, 1) := by decide +kernel
theorem dX9_put_25 : decode cX9_put 25 = .ok (.iconst 1, 1) := by decide +kernel
theorem dX9_put_26 : decode cX9_put 26 = .ok (.if_icmp .ne 16, 3) := by decide +kernel
theorem dX9_put_29 : decode cX9_put 29 = .ok (.iload_n 3, 1) := by decide +kernel
theorem dX9_put_30 : decode cX9_put 30 = .ok (.bipush (-50), 2) := by decide +kernel
theorem dX9_put_32 : decode cX9_put 32 = .ok (.bipush 50, 2) := by decide +kernel
theorem dX9_put_34 : decode cX9_put 34 = .ok (.invokestatic 148, 3) := by decide +kernel
theorem dX9_put_37 : decode cX9_put 37 = .ok (.ifCond .ne 5, 3) := by decide +kernel
theorem dX9_put_40 : decode cX9_put 40 = .ok (.iconst (-1), 1) := by decide +kernel
theorem dX9_put_41 : decode cX9_put 41 = .ok (.ireturn, 1) := by decide +kernel
theorem dX9_put_42 : decode cX9_put 42 = .ok (.aload_n 0, 1) := by decide +kernel
theorem dX9_put_43 : decode cX9_put 43 = .ok (.getfield 17, 3) := by decide +kernel
theorem dX9_put_46 : decode cX9_put 46 = .ok (.iload_n 1, 1) := by decide +kernel
theorem dX9_put_47 : decode cX9_put 47 = .ok (.iaload, 1) := by decide +kernel
theorem dX9_put_48 : decode cX9_put 48 = .ok (.bipush (-5), 2) := by decide +kernel
theorem dX9_put_50 : decode cX9_put 50 = .ok (.if_icmp .eq 6, 3) := by decide +kernel
theorem dX9_put_56 : decode cX9_put 56 = .ok (.aload_n 0, 1) := by decide +kernel
theorem dX9_put_57 : decode cX9_put 57 = .ok (.getfield 17, 3) := by decide +kernel
theorem dX9_put_60 : decode cX9_put 60 = .ok (.iload_n 1, 1) := by decide +kernel
theorem dX9_put_61 : decode cX9_put 61 = .ok (.iload_n 2, 1) := by decide +kernel
theorem dX9_put_62 : decode cX9_put 62 = .ok (.iastore, 1) := by decide +kernel
theorem dX9_put_63 : decode cX9_put 63 = .ok (.aload_n 0, 1) := by decide +kernel
theorem dX9_put_64 : decode cX9_put 64 = .ok (.getfield 20, 3) := by decide +kernel
theorem dX9_put_67 : decode cX9_put 67 = .ok (.iload_n 1, 1) := by decide +kernel
theorem dX9_put_68 : decode cX9_put 68 = .ok (.iload_n 3, 1) := by decide +kernel
theorem dX9_put_69 : decode cX9_put 69 = .ok (.iastore, 1) := by decide +kernel
theorem dX9_put_70 : decode cX9_put 70 = .ok (.iconst 0, 1) := by decide +kernel
theorem dX9_put_71 : decode cX9_put 71 = .ok (.istore 4, 2) := by decide +kernel
theorem dX9_put_73 : decode cX9_put 73 = .ok (.iload 4, 2) := by decide +kernel
theorem dX9_put_75 : decode cX9_put 75 = .ok (.sipush 400, 3) := by decide +kernel
theorem dX9_put_78 : decode cX9_put 78 = .ok (.if_icmp .ge 65, 3) := by decide +kernel
theorem dX9_put_81 : decode cX9_put 81 = .ok (.aload_n 0, 1) := by decide +kernel
theorem dX9_put_82 : decode cX9_put 82 = .ok (.getfield 23, 3) := by decide +kernel
theorem dX9_put_85 : decode cX9_put 85 = .ok (.sipush 400, 3) := by decide +kernel
theorem dX9_put_88 : decode cX9_put 88 = .ok (.iload_n 1, 1) := by decide +kernel
theorem dX9_put_89 : decode cX9_put 89 = .ok (.imul, 1) := by decide +kernel
theorem dX9_put_90 : decode cX9_put 90 = .ok (.iload 4, 2) := by decide +kernel
theorem dX9_put_92 : decode cX9_put 92 = .ok (.iadd, 1) := by decide +kernel
theorem dX9_put_93 : decode cX9_put 93 = .ok (.iconst 0, 1) := by decide +kernel
theorem dX9_put_94 : decode cX9_put 94 = .ok (.bastore, 1) := by decide +kernel
theorem dX9_put_95 : decode cX9_put 95 = .ok (.aload_n 0, 1) := by decide +kernel
theorem dX9_put_96 : decode cX9_put 96 = .ok (.getfield 33, 3) := by decide +kernel
theorem dX9_put_99 : decode cX9_put 99 = .ok (.sipush 400, 3) := by decide +kernel
theorem dX9_put_102 : decode cX9_put 102 = .ok (.iload_n 1, 1) := by decide +kernel
theorem dX9_put_103 : decode cX9_put 103 = .ok (.imul, 1) := by decide +kernel
theorem dX9_put_104 : decode cX9_put 104 = .ok (.iload 4, 2) := by decide +kernel
theorem dX9_put_106 : decode cX9_put 106 = .ok (.iadd, 1) := by decide +kernel
theorem dX9_put_107 : decode cX9_put 107 = .ok (.iconst 0, 1) := by decide +kernel
theorem dX9_put_108 : decode cX9_put 108 = .ok (.bastore, 1) := by decide +kernel
theorem dX9_put_109 : decode cX9_put 109 = .ok (.aload_n 0, 1) := by decide +kernel
theorem dX9_put_110 : decode cX9_put 110 = .ok (.getfield 36, 3) := by decide +kernel
theorem dX9_put_113 : decode cX9_put 113 = .ok (.sipush 400, 3) := by decide +kernel
theorem dX9_put_116 : decode cX9_put 116 = .ok (.iload_n 1, 1) := by decide +kernel
theorem dX9_put_117 : decode cX9_put 117 = .ok (.imul, 1) := by decide +kernel
theorem dX9_put_118 : decode cX9_put 118 = .ok (.iload 4, 2) := by decide +kernel
theorem dX9_put_120 : decode cX9_put 120 = .ok (.iadd, 1) := by decide +kernel
theorem dX9_put_121 : decode cX9_put 121 = .ok (.iconst 0, 1) := by decide +kernel
theorem dX9_put_122 : decode cX9_put 122 = .ok (.bastore, 1) := by decide +kernel
theorem dX9_put_123 : decode cX9_put 123 = .ok (.aload_n 0, 1) := by decide +kernel
theorem dX9_put_124 : decode cX9_put 124 = .ok (.getfield 39, 3) := by decide +kernel
theorem dX9_put_127 : decode cX9_put 127 = .ok (.sipush 400, 3) := by decide +kernel
theorem dX9_put_130 : decode cX9_put 130 = .ok (.iload_n 1, 1) := by decide +kernel
theorem dX9_put_131 : decode cX9_put 131 = .ok (.imul, 1) := by decide +kernel
theorem dX9_put_132 : decode cX9_put 132 = .ok (.iload 4, 2) := by decide +kernel
theorem dX9_put_134 : decode cX9_put 134 = .ok (.iadd, 1) := by decide +kernel
theorem dX9_put_135 : decode cX9_put 135 = .ok (.iconst (-1), 1) := by decide +kernel
theorem dX9_put_136 : decode cX9_put 136 = .ok (.iastore, 1) := by decide +kernel
theorem dX9_put_137 : decode cX9_put 137 = .ok (.iinc 4 1, 3) := by decide +kernel
theorem dX9_put_140 : decode cX9_put 140 = .ok (.goto (-67), 3) := by decide +kernel
theorem dX9_put_143 : decode cX9_put 143 = .ok (.iconst 1, 1) := by decide +kernel
theorem dX9_put_144 : decode cX9_put 144 = .ok (.ireturn, 1) := by decide +kernel
theorem dX9_rate_0 : decode cX9_rate 0 = .ok (.aload_n 0, 1) := by decide +kernel
theorem dX9_rate_1 : decode cX9_rate 1 = .ok (.iload_n 1, 1) := by decide +kernel
theorem dX9_rate_2 : decode cX9_rate 2 = .ok (.invokevirtual 172, 3) := by decide +kernel
theorem dX9_rate_5 : decode cX9_rate 5 = .ok (.ifCond .lt 21, 3) := by decide +kernel
theorem dX9_rate_26 : decode cX9_rate 26 = .ok (.ldc 169, 2) := by decide +kernel
theorem dX9_rate_28 : decode cX9_rate 28 = .ok (.goto 10, 3) := by decide +kernel
theorem dX9_rate_38 : decode cX9_rate 38 = .ok (.ireturn, 1) := by decide +kernel
theorem dX9_read_0 : decode cX9_read 0 = .ok (.iload_n 1, 1) := by decide +kernel
theorem dX9_read_1 : decode cX9_read 1 = .ok (.invokestatic 152, 3) := by decide +kernel
theorem dX9_read_4 : decode cX9_read 4 = .ok (.ifCond .eq 23, 3) := by decide +kernel
theorem dX9_read_7 : decode cX9_read 7 = .ok (.aload_n 0, 1) := by decide +kernel
theorem dX9_read_8 : decode cX9_read 8 = .ok (.getfield 17, 3) := by decide +kernel
theorem dX9_read_11 : decode cX9_read 11 = .ok (.iload_n 1, 1) := by decide +kernel
theorem dX9_read_12 : decode cX9_read 12 = .ok (.iaload, 1) := by decide +kernel
theorem dX9_read_13 : decode cX9_read 13 = .ok (.iconst 1, 1) := by decide +kernel
theorem dX9_read_14 : decode cX9_read 14 = .ok (.if_icmp .eq 18, 3) := by decide +kernel
theorem dX9_read_17 : decode cX9_read 17 = .ok (.aload_n 0, 1) := by decide +kernel
theorem dX9_read_18 : decode cX9_read 18 = .ok (.getfield 17, 3) := by decide +kernel
theorem dX9_read_21 : decode cX9_read 21 = .ok (.iload_n 1, 1) := by decide +kernel
theorem dX9_read_22 : decode cX9_read 22 = .ok (.iaload, 1) := by decide +kernel
theorem dX9_read_23 : decode cX9_read 23 = .ok (.iconst 2, 1) := by decide +kernel
theorem dX9_read_24 : decode cX9_read 24 = .ok (.if_icmp .eq 8, 3) := by decide +kernel
theorem dX9_read_27 : decode cX9_read 27 = .ok (.ldc 169, 2) := by decide +kernel
theorem dX9_read_29 : decode cX9_read 29 = .ok (.goto 9, 3) := by decide +kernel
theorem dX9_read_38 : decode cX9_read 38 = .ok (.ireturn, 1) := by decide +kernel
theorem dX9_readRule_0 : decode cX9_readRule 0 = .ok (.aload_n 0, 1) := by decide +kernel
theorem dX9_readRule_1 : decode cX9_readRule 1 = .ok (.iconst 0, 1) := by decide +kernel
theorem dX9_readRule_2 : decode cX9_readRule 2 = .ok (.putfield 287, 3) := by decide +kernel
theorem dX9_readRule_5 : decode cX9_readRule 5 = .ok (.aload_n 0, 1) := by decide +kernel
theorem dX9_readRule_6 : decode cX9_readRule 6 = .ok (.iconst 0, 1) := by decide +kernel
theorem dX9_readRule_7 : decode cX9_readRule 7 = .ok (.putfield 351, 3) := by decide +kernel
theorem dX9_readRule_10 : decode cX9_readRule 10 = .ok (.aload_n 0, 1) := by decide +kernel
theorem dX9_readRule_11 : decode cX9_readRule 11 = .ok (.iconst 0, 1) := by decide +kernel
theorem dX9_readRule_12 : decode cX9_readRule 12 = .ok (.putfield 348, 3) := by decide +kernel
theorem dX9_readRule_15 : decode cX9_readRule 15 = .ok (.iconst 1, 1) := by decide +kernel
theorem dX9_readRule_16 : decode cX9_readRule 16 = .ok (.istore_n 2, 1) := by decide +kernel
theorem dX9_readRule_17 : decode cX9_readRule 17 = .ok (.iconst 1, 1) := by decide +kernel
theorem dX9_readRule_18 : decode cX9_readRule 18 = .ok (.istore_n 3, 1) := by decide +kernel
theorem dX9_readRule_19 : decode cX9_readRule 19 = .ok (.aload_n 0, 1) := by decide +kernel
theorem dX9_readRule_20 : decode cX9_readRule 20 = .ok (.iload_n 1, 1) := by decide +kernel
theorem dX9_readRule_21 : decode cX9_readRule 21 = .ok (.invokevirtual 361, 3) := by decide +kernel
theorem dX9_readRule_24 : decode cX9_readRule 24 = .ok (.iload_n 2, 1) := by decide +kernel
theorem dX9_readRule_25 : decode cX9_readRule 25 = .ok (.ifCond .eq 158, 3) := by decide +kernel
theorem dX9_readRule_28 : decode cX9_readRule 28 = .ok (.aload_n 0, 1) := by decide +kernel
theorem dX9_readRule_29 : decode cX9_readRule 29 = .ok (.getfield 293, 3) := by decide +kernel
theorem dX9_readRule_32 : decode cX9_readRule 32 = .ok (.bipush 30, 2) := by decide +kernel
theorem dX9_readRule_34 : decode cX9_readRule 34 = .ok (.if_icmp .ne 7, 3) := by decide +kernel
theorem dX9_readRule_41 : decode cX9_readRule 41 = .ok (.aload_n 0, 1) := by decide +kernel
theorem dX9_readRule_42 : decode cX9_readRule 42 = .ok (.getfield 293, 3) := by decide +kernel
theorem dX9_readRule_45 : decode cX9_readRule 45 = .ok (.bipush 51, 2) := by decide +kernel
theorem dX9_readRule_47 : decode cX9_readRule 47 = .ok (.if_icmp .eq 20, 3) := by decide +kernel
theorem dX9_readRule_50 : decode cX9_readRule 50 = .ok (.aload_n 0, 1) := by decide +kernel
theorem dX9_readRule_51 : decode cX9_readRule 51 = .ok (.getfield 293, 3) := by decide +kernel
theorem dX9_readRule_54 : decode cX9_readRule 54 = .ok (.iconst 5, 1) := by decide +kernel
theorem dX9_readRule_55 : decode cX9_readRule 55 = .ok (.if_icmp .eq 12, 3) := by decide +kernel
theorem dX9_readRule_58 : decode cX9_readRule 58 = .ok (.aload_n 0, 1) := by decide +kernel
theorem dX9_readRule_59 : decode cX9_readRule 59 = .ok (.getfield 293, 3) := by decide +kernel
theorem dX9_readRule_62 : decode cX9_readRule 62 = .ok (.bipush 71, 2) := by decide +kernel
theorem dX9_readRule_64 : decode cX9_readRule 64 = .ok (.if_icmp .ne 80, 3) := by decide +kernel
theorem dX9_readRule_144 : decode cX9_readRule 144 = .ok (.aload_n 0, 1) := by decide +kernel
theorem dX9_readRule_145 : decode cX9_readRule 145 = .ok (.getfield 293, 3) := by decide +kernel
theorem dX9_readRule_148 : decode cX9_readRule 148 = .ok (.iconst 1, 1) := by decide +kernel
theorem dX9_readRule_149 : decode cX9_readRule 149 = .ok (.if_icmp .eq 12, 3) := by decide +kernel
theorem dX9_readRule_152 : decode cX9_readRule 152 = .ok (.aload_n 0, 1) := by decide +kernel
theorem dX9_readRule_153 : decode cX9_readRule 153 = .ok (.getfield 293, 3) := by decide +kernel
theorem dX9_readRule_156 : decode cX9_readRule 156 = .ok (.bipush 100, 2) := by decide +kernel
theorem dX9_readRule_158 : decode cX9_readRule 158 = .ok (.if_icmp .lt 20, 3) := by decide +kernel
theorem dX9_readRule_178 : decode cX9_readRule 178 = .ok (.aload_n 0, 1) := by decide +kernel
theorem dX9_readRule_179 : decode cX9_readRule 179 = .ok (.getfield 290, 3) := by decide +kernel
theorem dX9_readRule_182 : decode cX9_readRule 182 = .ok (.ireturn, 1) := by decide +kernel
theorem dX9_repair_0 : decode cX9_repair 0 = .ok (.iload_n 1, 1) := by decide +kernel
theorem dX9_repair_1 : decode cX9_repair 1 = .ok (.invokestatic 152, 3) := by decide +kernel
theorem dX9_repair_4 : decode cX9_repair 4 = .ok (.ifCond .eq 15, 3) := by decide +kernel
theorem dX9_repair_7 : decode cX9_repair 7 = .ok (.iload_n 2, 1) := by decide +kernel
theorem dX9_repair_8 : decode cX9_repair 8 = .ok (.iconst 0, 1) := by decide +kernel
theorem dX9_repair_9 : decode cX9_repair 9 = .ok (.aload_n 0, 1) := by decide +kernel
theorem dX9_repair_10 : decode cX9_repair 10 = .ok (.getfield 156, 3) := by decide +kernel
theorem dX9_repair_13 : decode cX9_repair 13 = .ok (.invokestatic 148, 3) := by decide +kernel
theorem dX9_repair_16 : decode cX9_repair 16 = .ok (.ifCond .ne 5, 3) := by decide +kernel
theorem dX9_repair_19 : decode cX9_repair 19 = .ok (.iconst (-1), 1) := by decide +kernel
theorem dX9_repair_20 : decode cX9_repair 20 = .ok (.ireturn, 1) := by decide +kernel
theorem dX9_repair_21 : decode cX9_repair 21 = .ok (.aload_n 0, 1) := by decide +kernel
theorem dX9_repair_22 : decode cX9_repair 22 = .ok (.iload_n 1, 1) := by decide +kernel
theorem dX9_repair_23 : decode cX9_repair 23 = .ok (.invokevirtual 172, 3) := by decide +kernel
theorem dX9_repair_26 : decode cX9_repair 26 = .ok (.istore_n 3, 1) := by decide +kernel
theorem dX9_repair_27 : decode cX9_repair 27 = .ok (.iload_n 3, 1) := by decide +kernel
theorem dX9_repair_28 : decode cX9_repair 28 = .ok (.ifCond .ge 5, 3) := by decide +kernel
theorem dX9_repair_31 : decode cX9_repair 31 = .ok (.iload_n 3, 1) := by decide +kernel
theorem dX9_repair_32 : decode cX9_repair 32 = .ok (.ireturn, 1) := by decide +kernel
theorem dX9_rule_0 : decode cX9_rule 0 = .ok (.iload_n 1, 1) := by decide +kernel
theorem dX9_rule_1 : decode cX9_rule 1 = .ok (.iconst 0, 1) := by decide +kernel
theorem dX9_rule_2 : decode cX9_rule 2 = .ok (.iconst 1, 1) := by decide +kernel
theorem dX9_rule_3 : decode cX9_rule 3 = .ok (.invokestatic 148, 3) := by decide +kernel
theorem dX9_rule_6 : decode cX9_rule 6 = .ok (.ifCond .ne 5, 3) := by decide +kernel
theorem dX9_rule_9 : decode cX9_rule 9 = .ok (.iconst (-1), 1) := by decide +kernel
theorem dX9_rule_10 : decode cX9_rule 10 = .ok (.ireturn, 1) := by decide +kernel
theorem dX9_rule_11 : decode cX9_rule 11 = .ok (.aload_n 0, 1) := by decide +kernel
theorem dX9_rule_12 : decode cX9_rule 12 = .ok (.iload_n 1, 1) := by decide +kernel
theorem dX9_rule_13 : decode cX9_rule 13 = .ok (.invokevirtual 371, 3) := by decide +kernel
theorem dX9_rule_16 : decode cX9_rule 16 = .ok (.istore_n 2, 1) := by decide +kernel
theorem dX9_rule_17 : decode cX9_rule 17 = .ok (.aload_n 0, 1) := by decide +kernel
theorem dX9_rule_18 : decode cX9_rule 18 = .ok (.iconst 0, 1) := by decide +kernel
theorem dX9_rule_19 : decode cX9_rule 19 = .ok (.putfield 284, 3) := by decide +kernel
theorem dX9_rule_22 : decode cX9_rule 22 = .ok (.iload_n 2, 1) := by decide +kernel
theorem dX9_rule_23 : decode cX9_rule 23 = .ok (.ifCond .lt 8, 3) := by decide +kernel
theorem dX9_rule_26 : decode cX9_rule 26 = .ok (.bipush (-100), 2) := by decide +kernel
theorem dX9_rule_28 : decode cX9_rule 28 = .ok (.iload_n 2, 1) := by decide +kernel
theorem dX9_rule_29 : decode cX9_rule 29 = .ok (.isub, 1) := by decide +kernel
theorem dX9_rule_30 : decode cX9_rule 30 = .ok (.ireturn, 1) := by decide +kernel
theorem dX9_sail_0 : decode cX9_sail 0 = .ok (.iload_n 1, 1) := by decide +kernel
theorem dX9_sail_1 : decode cX9_sail 1 = .ok (.invokestatic 386, 3) := by decide +kernel
theorem dX9_sail_4 : decode cX9_sail 4 = .ok (.ifCond .eq 42, 3) := by decide +kernel
theorem dX9_sail_7 : decode cX9_sail 7 = .ok (.iload_n 2, 1) := by decide +kernel
theorem dX9_sail_8 : decode cX9_sail 8 = .ok (.invokestatic 152, 3) := by decide +kernel
theorem dX9_sail_11 : decode cX9_sail 11 = .ok (.ifCond .eq 35, 3) := by decide +kernel
theorem dX9_sail_14 : decode cX9_sail 14 = .ok (.iload_n 3, 1) := by decide +kernel
theorem dX9_sail_15 : decode cX9_sail 15 = .ok (.invokestatic 152, 3) := by decide +kernel
theorem dX9_sail_18 : decode cX9_sail 18 = .ok (.ifCond .eq 28, 3) := by decide +kernel
theorem dX9_sail_21 : decode cX9_sail 21 = .ok (.iload 4, 2) := by decide +kernel
theorem dX9_sail_23 : decode cX9_sail 23 = .ok (.invokestatic 152, 3) := by decide +kernel
theorem dX9_sail_26 : decode cX9_sail 26 = .ok (.ifCond .eq 20, 3) := by decide +kernel
theorem dX9_sail_29 : decode cX9_sail 29 = .ok (.iload_n 2, 1) := by decide +kernel
theorem dX9_sail_30 : decode cX9_sail 30 = .ok (.iload_n 3, 1) := by decide +kernel
theorem dX9_sail_31 : decode cX9_sail 31 = .ok (.if_icmp .eq 15, 3) := by decide +kernel
theorem dX9_sail_34 : decode cX9_sail 34 = .ok (.iload_n 2, 1) := by decide +kernel
theorem dX9_sail_35 : decode cX9_sail 35 = .ok (.iload 4, 2) := by decide +kernel
theorem dX9_sail_37 : decode cX9_sail 37 = .ok (.if_icmp .eq 9, 3) := by decide +kernel
theorem dX9_sail_40 : decode cX9_sail 40 = .ok (.iload_n 3, 1) := by decide +kernel
theorem dX9_sail_41 : decode cX9_sail 41 = .ok (.iload 4, 2) := by decide +kernel
theorem dX9_sail_43 : decode cX9_sail 43 = .ok (.if_icmp .ne 5, 3) := by decide +kernel
theorem dX9_sail_46 : decode cX9_sail 46 = .ok (.iconst (-1), 1) := by decide +kernel
theorem dX9_sail_47 : decode cX9_sail 47 = .ok (.ireturn, 1) := by decide +kernel
theorem dX9_sail_48 : decode cX9_sail 48 = .ok (.aload_n 0, 1) := by decide +kernel
theorem dX9_sail_49 : decode cX9_sail 49 = .ok (.getfield 124, 3) := by decide +kernel
theorem dX9_sail_52 : decode cX9_sail 52 = .ok (.iconst 0, 1) := by decide +kernel
theorem dX9_sail_53 : decode cX9_sail 53 = .ok (.iload_n 2, 1) := by decide +kernel
theorem dX9_sail_54 : decode cX9_sail 54 = .ok (.iastore, 1) := by decide +kernel
theorem dX9_sail_55 : decode cX9_sail 55 = .ok (.aload_n 0, 1) := by decide +kernel
theorem dX9_sail_56 : decode cX9_sail 56 = .ok (.getfield 124, 3) := by decide +kernel
theorem dX9_sail_59 : decode cX9_sail 59 = .ok (.iconst 1, 1) := by decide +kernel
theorem dX9_sail_60 : decode cX9_sail 60 = .ok (.iload_n 3, 1) := by decide +kernel
theorem dX9_sail_61 : decode cX9_sail 61 = .ok (.iastore, 1) := by decide +kernel
theorem dX9_sail_62 : decode cX9_sail 62 = .ok (.aload_n 0, 1) := by decide +kernel
theorem dX9_sail_63 : decode cX9_sail 63 = .ok (.getfield 124, 3) := by decide +kernel
theorem dX9_sail_66 : decode cX9_sail 66 = .ok (.iconst 2, 1) := by decide +kernel
theorem dX9_sail_67 : decode cX9_sail 67 = .ok (.iload 4, 2) := by decide +kernel
theorem dX9_sail_69 : decode cX9_sail 69 = .ok (.iastore, 1) := by decide +kernel
theorem dX9_sail_70 : decode cX9_sail 70 = .ok (.iconst 0, 1) := by decide +kernel
theorem dX9_sail_71 : decode cX9_sail 71 = .ok (.istore 5, 2) := by decide +kernel
theorem dX9_sail_73 : decode cX9_sail 73 = .ok (.iload 5, 2) := by decide +kernel
theorem dX9_sail_75 : decode cX9_sail 75 = .ok (.iconst 3, 1) := by decide +kernel
theorem dX9_sail_76 : decode cX9_sail 76 = .ok (.if_icmp .ge 35, 3) := by decide +kernel
theorem dX9_sail_79 : decode cX9_sail 79 = .ok (.aload_n 0, 1) := by decide +kernel
theorem dX9_sail_80 : decode cX9_sail 80 = .ok (.aload_n 0, 1) := by decide +kernel
theorem dX9_sail_81 : decode cX9_sail 81 = .ok (.getfield 124, 3) := by decide +kernel
theorem dX9_sail_84 : decode cX9_sail 84 = .ok (.iload 5, 2) := by decide +kernel
theorem dX9_sail_86 : decode cX9_sail 86 = .ok (.iaload, 1) := by decide +kernel
theorem dX9_sail_87 : decode cX9_sail 87 = .ok (.invokevirtual 172, 3) := by decide +kernel
theorem dX9_sail_90 : decode cX9_sail 90 = .ok (.ifCond .ge 15, 3) := by decide +kernel
theorem dX9_sail_93 : decode cX9_sail 93 = .ok (.aload_n 0, 1) := by decide +kernel
theorem dX9_sail_94 : decode cX9_sail 94 = .ok (.aload_n 0, 1) := by decide +kernel
theorem dX9_sail_95 : decode cX9_sail 95 = .ok (.getfield 124, 3) := by decide +kernel
theorem dX9_sail_98 : decode cX9_sail 98 = .ok (.iload 5, 2) := by decide +kernel
theorem dX9_sail_100 : decode cX9_sail 100 = .ok (.iaload, 1) := by decide +kernel
theorem dX9_sail_101 : decode cX9_sail 101 = .ok (.invokevirtual 172, 3) := by decide +kernel
theorem dX9_sail_104 : decode cX9_sail 104 = .ok (.ireturn, 1) := by decide +kernel
theorem dX9_sight_0 : decode cX9_sight 0 = .ok (.iload_n 1, 1) := by decide +kernel
theorem dX9_sight_1 : decode cX9_sight 1 = .ok (.invokestatic 386, 3) := by decide +kernel
theorem dX9_sight_4 : decode cX9_sight 4 = .ok (.ifCond .eq 38, 3) := by decide +kernel
theorem dX9_sight_7 : decode cX9_sight 7 = .ok (.iload_n 2, 1) := by decide +kernel
theorem dX9_sight_8 : decode cX9_sight 8 = .ok (.iconst 0, 1) := by decide +kernel
theorem dX9_sight_9 : decode cX9_sight 9 = .ok (.aload_n 0, 1) := by decide +kernel
theorem dX9_sight_10 : decode cX9_sight 10 = .ok (.getfield 156, 3) := by decide +kernel
theorem dX9_sight_13 : decode cX9_sight 13 = .ok (.invokestatic 148, 3) := by decide +kernel
theorem dX9_sight_16 : decode cX9_sight 16 = .ok (.ifCond .eq 26, 3) := by decide +kernel
theorem dX9_sight_19 : decode cX9_sight 19 = .ok (.iload_n 3, 1) := by decide +kernel
theorem dX9_sight_20 : decode cX9_sight 20 = .ok (.invokestatic 397, 3) := by decide +kernel
theorem dX9_sight_23 : decode cX9_sight 23 = .ok (.ifCond .eq 19, 3) := by decide +kernel
theorem dX9_sight_26 : decode cX9_sight 26 = .ok (.iload 4, 2) := by decide +kernel
theorem dX9_sight_28 : decode cX9_sight 28 = .ok (.invokestatic 397, 3) := by decide +kernel
theorem dX9_sight_31 : decode cX9_sight 31 = .ok (.ifCond .eq 11, 3) := by decide +kernel
theorem dX9_sight_34 : decode cX9_sight 34 = .ok (.iload 5, 2) := by decide +kernel
theorem dX9_sight_36 : decode cX9_sight 36 = .ok (.invokestatic 397, 3) := by decide +kernel
theorem dX9_sight_39 : decode cX9_sight 39 = .ok (.ifCond .ne 5, 3) := by decide +kernel
theorem dX9_sight_42 : decode cX9_sight 42 = .ok (.iconst (-1), 1) := by decide +kernel
theorem dX9_sight_43 : decode cX9_sight 43 = .ok (.ireturn, 1) := by decide +kernel
theorem dX9_sight_44 : decode cX9_sight 44 = .ok (.aload_n 0, 1) := by decide +kernel
theorem dX9_sight_45 : decode cX9_sight 45 = .ok (.getfield 91, 3) := by decide +kernel
theorem dX9_sight_48 : decode cX9_sight 48 = .ok (.iload_n 1, 1) := by decide +kernel
theorem dX9_sight_49 : decode cX9_sight 49 = .ok (.iaload, 1) := by decide +kernel
theorem dX9_sight_50 : decode cX9_sight 50 = .ok (.iconst 1, 1) := by decide +kernel
theorem dX9_sight_51 : decode cX9_sight 51 = .ok (.if_icmp .eq 6, 3) := by decide +kernel
theorem dX9_sight_54 : decode cX9_sight 54 = .ok (.bipush (-4), 2) := by decide +kernel
theorem dX9_sight_56 : decode cX9_sight 56 = .ok (.ireturn, 1) := by decide +kernel
theorem dX9_state_0 : decode cX9_state 0 = .ok (.iload_n 1, 1) := by decide +kernel
theorem dX9_state_1 : decode cX9_state 1 = .ok (.invokestatic 386, 3) := by decide +kernel
theorem dX9_state_4 : decode cX9_state 4 = .ok (.ifCond .eq 12, 3) := by decide +kernel
theorem dX9_state_7 : decode cX9_state 7 = .ok (.aload_n 0, 1) := by decide +kernel
theorem dX9_state_8 : decode cX9_state 8 = .ok (.getfield 91, 3) := by decide +kernel
theorem dX9_state_11 : decode cX9_state 11 = .ok (.iload_n 1, 1) := by decide +kernel
theorem dX9_state_12 : decode cX9_state 12 = .ok (.iaload, 1) := by decide +kernel
theorem dX9_state_13 : decode cX9_state 13 = .ok (.goto 4, 3) := by decide +kernel
theorem dX9_state_16 : decode cX9_state 16 = .ok (.iconst (-1), 1) := by decide +kernel
theorem dX9_state_17 : decode cX9_state 17 = .ok (.ireturn, 1) := by decide +kernel
theorem dX9_take_0 : decode cX9_take 0 = .ok (.iload_n 1, 1) := by decide +kernel
theorem dX9_take_1 : decode cX9_take 1 = .ok (.invokestatic 152, 3) := by decide +kernel
theorem dX9_take_4 : decode cX9_take 4 = .ok (.ifCond .ne 5, 3) := by decide +kernel
theorem dX9_take_7 : decode cX9_take 7 = .ok (.iconst (-1), 1) := by decide +kernel
theorem dX9_take_8 : decode cX9_take 8 = .ok (.ireturn, 1) := by decide +kernel
theorem dX9_take_9 : decode cX9_take 9 = .ok (.aload_n 0, 1) := by decide +kernel
theorem dX9_take_10 : decode cX9_take 10 = .ok (.getfield 17, 3) := by decide +kernel
theorem dX9_take_13 : decode cX9_take 13 = .ok (.iload_n 1, 1) := by decide +kernel
theorem dX9_take_14 : decode cX9_take 14 = .ok (.iaload, 1) := by decide +kernel
theorem dX9_take_15 : decode cX9_take 15 = .ok (.bipush (-5), 2) := by decide +kernel
theorem dX9_take_17 : decode cX9_take 17 = .ok (.if_icmp .ne 6, 3) := by decide +kernel
theorem dX9_take_20 : decode cX9_take 20 = .ok (.bipush (-2), 2) := by decide +kernel
theorem dX9_take_22 : decode cX9_take 22 = .ok (.ireturn, 1) := by decide +kernel
theorem dX9_terms_0 : decode cX9_terms 0 = .ok (.aload_n 0, 1) := by decide +kernel
theorem dX9_terms_1 : decode cX9_terms 1 = .ok (.iload_n 1, 1) := by decide +kernel
theorem dX9_terms_2 : decode cX9_terms 2 = .ok (.iload_n 2, 1) := by decide +kernel
theorem dX9_terms_3 : decode cX9_terms 3 = .ok (.iload_n 3, 1) := by decide +kernel
theorem dX9_terms_4 : decode cX9_terms 4 = .ok (.invokevirtual 242, 3) := by decide +kernel
theorem dX9_terms_7 : decode cX9_terms 7 = .ok (.istore 4, 2) := by decide +kernel
theorem dX9_terms_9 : decode cX9_terms 9 = .ok (.iload 4, 2) := by decide +kernel
theorem dX9_terms_11 : decode cX9_terms 11 = .ok (.ifCond .ge 6, 3) := by decide +kernel
theorem dX9_terms_14 : decode cX9_terms 14 = .ok (.iload 4, 2) := by decide +kernel
theorem dX9_terms_16 : decode cX9_terms 16 = .ok (.ireturn, 1) := by decide +kernel
theorem dX9_told_0 : decode cX9_told 0 = .ok (.iload_n 1, 1) := by decide +kernel
theorem dX9_told_1 : decode cX9_told 1 = .ok (.invokestatic 386, 3) := by decide +kernel
theorem dX9_told_4 : decode cX9_told 4 = .ok (.ifCond .eq 29, 3) := by decide +kernel
theorem dX9_told_7 : decode cX9_told 7 = .ok (.iload_n 2, 1) := by decide +kernel
theorem dX9_told_8 : decode cX9_told 8 = .ok (.iconst 0, 1) := by decide +kernel
theorem dX9_told_9 : decode cX9_told 9 = .ok (.aload_n 0, 1) := by decide +kernel
theorem dX9_told_10 : decode cX9_told 10 = .ok (.getfield 115, 3) := by decide +kernel
theorem dX9_told_13 : decode cX9_told 13 = .ok (.iload_n 1, 1) := by decide +kernel
theorem dX9_told_14 : decode cX9_told 14 = .ok (.iaload, 1) := by decide +kernel
theorem dX9_told_15 : decode cX9_told 15 = .ok (.iconst 1, 1) := by decide +kernel
theorem dX9_told_16 : decode cX9_told 16 = .ok (.isub, 1) := by decide +kernel
theorem dX9_told_17 : decode cX9_told 17 = .ok (.invokestatic 148, 3) := by decide +kernel
theorem dX9_told_20 : decode cX9_told 20 = .ok (.ifCond .eq 13, 3) := by decide +kernel
theorem dX9_told_33 : decode cX9_told 33 = .ok (.ldc 169, 2) := by decide +kernel
theorem dX9_told_35 : decode cX9_told 35 = .ok (.ireturn, 1) := by decide +kernel
theorem dX9_trial_0 : decode cX9_trial 0 = .ok (.aload_n 0, 1) := by decide +kernel
theorem dX9_trial_1 : decode cX9_trial 1 = .ok (.iload_n 1, 1) := by decide +kernel
theorem dX9_trial_2 : decode cX9_trial 2 = .ok (.iload_n 2, 1) := by decide +kernel
theorem dX9_trial_3 : decode cX9_trial 3 = .ok (.iload_n 3, 1) := by decide +kernel
theorem dX9_trial_4 : decode cX9_trial 4 = .ok (.invokevirtual 242, 3) := by decide +kernel
theorem dX9_trial_7 : decode cX9_trial 7 = .ok (.ifCond .ge 8, 3) := by decide +kernel
theorem dX9_trial_10 : decode cX9_trial 10 = .ok (.ldc 169, 2) := by decide +kernel
theorem dX9_trial_12 : decode cX9_trial 12 = .ok (.goto 10, 3) := by decide +kernel
theorem dX9_trial_22 : decode cX9_trial 22 = .ok (.ireturn, 1) := by decide +kernel
theorem dX9_warmth_0 : decode cX9_warmth 0 = .ok (.iload_n 1, 1) := by decide +kernel
theorem dX9_warmth_1 : decode cX9_warmth 1 = .ok (.invokestatic 159, 3) := by decide +kernel
theorem dX9_warmth_4 : decode cX9_warmth 4 = .ok (.ifCond .eq 20, 3) := by decide +kernel
theorem dX9_warmth_7 : decode cX9_warmth 7 = .ok (.iload_n 2, 1) := by decide +kernel
theorem dX9_warmth_8 : decode cX9_warmth 8 = .ok (.bipush (-100), 2) := by decide +kernel
theorem dX9_warmth_10 : decode cX9_warmth 10 = .ok (.if_icmp .eq 16, 3) := by decide +kernel
theorem dX9_warmth_13 : decode cX9_warmth 13 = .ok (.iload_n 2, 1) := by decide +kernel
theorem dX9_warmth_14 : decode cX9_warmth 14 = .ok (.bipush (-50), 2) := by decide +kernel
theorem dX9_warmth_16 : decode cX9_warmth 16 = .ok (.bipush 50, 2) := by decide +kernel
theorem dX9_warmth_18 : decode cX9_warmth 18 = .ok (.invokestatic 148, 3) := by decide +kernel
theorem dX9_warmth_21 : decode cX9_warmth 21 = .ok (.ifCond .ne 5, 3) := by decide +kernel
theorem dX9_warmth_24 : decode cX9_warmth 24 = .ok (.iconst (-1), 1) := by decide +kernel
theorem dX9_warmth_25 : decode cX9_warmth 25 = .ok (.ireturn, 1) := by decide +kernel
theorem dX9_warmth_26 : decode cX9_warmth 26 = .ok (.aload_n 0, 1) := by decide +kernel
theorem dX9_warmth_27 : decode cX9_warmth 27 = .ok (.getfield 13, 3) := by decide +kernel
theorem dX9_warmth_30 : decode cX9_warmth 30 = .ok (.iload_n 1, 1) := by decide +kernel
theorem dX9_warmth_31 : decode cX9_warmth 31 = .ok (.iload_n 2, 1) := by decide +kernel
theorem dX9_warmth_32 : decode cX9_warmth 32 = .ok (.bipush (-100), 2) := by decide +kernel
theorem dX9_warmth_34 : decode cX9_warmth 34 = .ok (.if_icmp .ne 9, 3) := by decide +kernel
theorem dX9_warmth_37 : decode cX9_warmth 37 = .ok (.sipush (-1000), 3) := by decide +kernel
theorem dX9_warmth_40 : decode cX9_warmth 40 = .ok (.goto 4, 3) := by decide +kernel
theorem dX9_warmth_43 : decode cX9_warmth 43 = .ok (.iload_n 2, 1) := by decide +kernel
theorem dX9_warmth_44 : decode cX9_warmth 44 = .ok (.iastore, 1) := by decide +kernel
theorem dX9_warmth_45 : decode cX9_warmth 45 = .ok (.iconst 1, 1) := by decide +kernel
theorem dX9_warmth_46 : decode cX9_warmth 46 = .ok (.ireturn, 1) := by decide +kernel
theorem dX9_watchAt_0 : decode cX9_watchAt 0 = .ok (.iload_n 1, 1) := by decide +kernel
theorem dX9_watchAt_1 : decode cX9_watchAt 1 = .ok (.invokestatic 152, 3) := by decide +kernel
theorem dX9_watchAt_4 : decode cX9_watchAt 4 = .ok (.ifCond .ne 7, 3) := by decide +kernel
theorem dX9_watchAt_7 : decode cX9_watchAt 7 = .ok (.iconst (-1), 1) := by decide +kernel
theorem dX9_watchAt_8 : decode cX9_watchAt 8 = .ok (.goto 35, 3) := by decide +kernel
theorem dX9_watchAt_11 : decode cX9_watchAt 11 = .ok (.aload_n 0, 1) := by decide +kernel
theorem dX9_watchAt_12 : decode cX9_watchAt 12 = .ok (.getfield 17, 3) := by decide +kernel
theorem dX9_watchAt_15 : decode cX9_watchAt 15 = .ok (.iload_n 1, 1) := by decide +kernel
theorem dX9_watchAt_16 : decode cX9_watchAt 16 = .ok (.iaload, 1) := by decide +kernel
theorem dX9_watchAt_17 : decode cX9_watchAt 17 = .ok (.bipush (-5), 2) := by decide +kernel
theorem dX9_watchAt_19 : decode cX9_watchAt 19 = .ok (.if_icmp .ne 8, 3) := by decide +kernel
theorem dX9_watchAt_22 : decode cX9_watchAt 22 = .ok (.bipush (-2), 2) := by decide +kernel
theorem dX9_watchAt_24 : decode cX9_watchAt 24 = .ok (.goto 19, 3) := by decide +kernel
theorem dX9_watchAt_43 : decode cX9_watchAt 43 = .ok (.ireturn, 1) := by decide +kernel
