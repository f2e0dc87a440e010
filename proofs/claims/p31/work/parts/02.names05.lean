theorem dL_pots_186 : decode cL_pots 186 = .ok (.laload, 1) := by decide +kernel
theorem dL_pots_187 : decode cL_pots 187 = .ok (.iconst 4, 1) := by decide +kernel
theorem dL_pots_188 : decode cL_pots 188 = .ok (.invokestatic 13, 3) := by decide +kernel
theorem dL_pots_191 : decode cL_pots 191 = .ok (.bipush 24, 2) := by decide +kernel
theorem dL_pots_193 : decode cL_pots 193 = .ok (.if_icmp .eq 20, 3) := by decide +kernel
theorem dL_pots_196 : decode cL_pots 196 = .ok (.aload_n 0, 1) := by decide +kernel
theorem dL_pots_197 : decode cL_pots 197 = .ok (.iload 7, 2) := by decide +kernel
theorem dL_pots_199 : decode cL_pots 199 = .ok (.invokevirtual 59, 3) := by decide +kernel
theorem dL_pots_202 : decode cL_pots 202 = .ok (.bipush (-5), 2) := by decide +kernel
theorem dL_pots_204 : decode cL_pots 204 = .ok (.if_icmp .ne 7, 3) := by decide +kernel
theorem dL_pots_207 : decode cL_pots 207 = .ok (.iconst 1, 1) := by decide +kernel
theorem dL_pots_208 : decode cL_pots 208 = .ok (.goto 4, 3) := by decide +kernel
theorem dL_pots_211 : decode cL_pots 211 = .ok (.iconst 0, 1) := by decide +kernel
theorem dL_pots_212 : decode cL_pots 212 = .ok (.ireturn, 1) := by decide +kernel
theorem dL_pots_213 : decode cL_pots 213 = .ok (.aload_n 3, 1) := by decide +kernel
theorem dL_pots_214 : decode cL_pots 214 = .ok (.aload 4, 2) := by decide +kernel
theorem dL_pots_216 : decode cL_pots 216 = .ok (.invokestatic 48, 3) := by decide +kernel
theorem dL_pots_219 : decode cL_pots 219 = .ok (.istore 8, 2) := by decide +kernel
theorem dL_pots_221 : decode cL_pots 221 = .ok (.aload 4, 2) := by decide +kernel
theorem dL_pots_223 : decode cL_pots 223 = .ok (.iload 7, 2) := by decide +kernel
theorem dL_pots_225 : decode cL_pots 225 = .ok (.aload 4, 2) := by decide +kernel
theorem dL_pots_227 : decode cL_pots 227 = .ok (.iload 7, 2) := by decide +kernel
theorem dL_pots_229 : decode cL_pots 229 = .ok (.laload, 1) := by decide +kernel
theorem dL_pots_230 : decode cL_pots 230 = .ok (.iconst 4, 1) := by decide +kernel
theorem dL_pots_231 : decode cL_pots 231 = .ok (.iload 8, 2) := by decide +kernel
theorem dL_pots_233 : decode cL_pots 233 = .ok (.invokestatic 51, 3) := by decide +kernel
theorem dL_pots_236 : decode cL_pots 236 = .ok (.lastore, 1) := by decide +kernel
theorem dL_pots_237 : decode cL_pots 237 = .ok (.aload_n 0, 1) := by decide +kernel
theorem dL_pots_238 : decode cL_pots 238 = .ok (.iload 7, 2) := by decide +kernel
theorem dL_pots_240 : decode cL_pots 240 = .ok (.invokevirtual 59, 3) := by decide +kernel
theorem dL_pots_243 : decode cL_pots 243 = .ok (.iload 8, 2) := by decide +kernel
theorem dL_pots_245 : decode cL_pots 245 = .ok (.bipush 8, 2) := by decide +kernel
theorem dL_pots_247 : decode cL_pots 247 = .ok (.idiv, 1) := by decide +kernel
theorem dL_pots_248 : decode cL_pots 248 = .ok (.if_icmp .ne 7, 3) := by decide +kernel
theorem dL_pots_251 : decode cL_pots 251 = .ok (.iconst 1, 1) := by decide +kernel
theorem dL_pots_252 : decode cL_pots 252 = .ok (.goto 4, 3) := by decide +kernel
theorem dL_pots_255 : decode cL_pots 255 = .ok (.iconst 0, 1) := by decide +kernel
theorem dL_pots_256 : decode cL_pots 256 = .ok (.ireturn, 1) := by decide +kernel
theorem dL_pots_257 : decode cL_pots 257 = .ok (.iload 6, 2) := by decide +kernel
theorem dL_pots_259 : decode cL_pots 259 = .ok (.bipush 8, 2) := by decide +kernel
theorem dL_pots_261 : decode cL_pots 261 = .ok (.if_icmp .ge 271, 3) := by decide +kernel
theorem dL_pots_264 : decode cL_pots 264 = .ok (.bipush 80, 2) := by decide +kernel
theorem dL_pots_266 : decode cL_pots 266 = .ok (.iload_n 2, 1) := by decide +kernel
theorem dL_pots_267 : decode cL_pots 267 = .ok (.iconst 5, 1) := by decide +kernel
theorem dL_pots_268 : decode cL_pots 268 = .ok (.ishr, 1) := by decide +kernel
theorem dL_pots_269 : decode cL_pots 269 = .ok (.iload_n 2, 1) := by decide +kernel
theorem dL_pots_270 : decode cL_pots 270 = .ok (.iconst 4, 1) := by decide +kernel
theorem dL_pots_271 : decode cL_pots 271 = .ok (.ishr, 1) := by decide +kernel
theorem dL_pots_272 : decode cL_pots 272 = .ok (.iconst 1, 1) := by decide +kernel
theorem dL_pots_273 : decode cL_pots 273 = .ok (.iand, 1) := by decide +kernel
theorem dL_pots_274 : decode cL_pots 274 = .ok (.ifCond .ne 8, 3) := by decide +kernel
theorem dL_pots_277 : decode cL_pots 277 = .ok (.bipush 61, 2) := by decide +kernel
theorem dL_pots_279 : decode cL_pots 279 = .ok (.goto 5, 3) := by decide +kernel
theorem dL_pots_282 : decode cL_pots 282 = .ok (.bipush 42, 2) := by decide +kernel
theorem dL_pots_284 : decode cL_pots 284 = .ok (.invokestatic 23, 3) := by decide +kernel
theorem dL_pots_287 : decode cL_pots 287 = .ok (.iadd, 1) := by decide +kernel
theorem dL_pots_288 : decode cL_pots 288 = .ok (.istore 8, 2) := by decide +kernel
theorem dL_pots_290 : decode cL_pots 290 = .ok (.aload_n 3, 1) := by decide +kernel
theorem dL_pots_291 : decode cL_pots 291 = .ok (.aload 4, 2) := by decide +kernel
theorem dL_pots_293 : decode cL_pots 293 = .ok (.invokestatic 19, 3) := by decide +kernel
theorem dL_pots_296 : decode cL_pots 296 = .ok (.ifCond .ne 32, 3) := by decide +kernel
theorem dL_pots_299 : decode cL_pots 299 = .ok (.aload_n 0, 1) := by decide +kernel
theorem dL_pots_300 : decode cL_pots 300 = .ok (.iload 8, 2) := by decide +kernel
theorem dL_pots_302 : decode cL_pots 302 = .ok (.invokevirtual 68, 3) := by decide +kernel
theorem dL_pots_305 : decode cL_pots 305 = .ok (.bipush (-5), 2) := by decide +kernel
theorem dL_pots_307 : decode cL_pots 307 = .ok (.if_icmp .ne 19, 3) := by decide +kernel
theorem dL_pots_310 : decode cL_pots 310 = .ok (.aload_n 0, 1) := by decide +kernel
theorem dL_pots_311 : decode cL_pots 311 = .ok (.sipush 141, 3) := by decide +kernel
theorem dL_pots_314 : decode cL_pots 314 = .ok (.invokevirtual 68, 3) := by decide +kernel
theorem dL_pots_317 : decode cL_pots 317 = .ok (.bipush (-2), 2) := by decide +kernel
theorem dL_pots_319 : decode cL_pots 319 = .ok (.if_icmp .ne 7, 3) := by decide +kernel
theorem dL_pots_322 : decode cL_pots 322 = .ok (.iconst 1, 1) := by decide +kernel
theorem dL_pots_323 : decode cL_pots 323 = .ok (.goto 4, 3) := by decide +kernel
theorem dL_pots_326 : decode cL_pots 326 = .ok (.iconst 0, 1) := by decide +kernel
theorem dL_pots_327 : decode cL_pots 327 = .ok (.ireturn, 1) := by decide +kernel
theorem dL_pots_328 : decode cL_pots 328 = .ok (.iconst 0, 1) := by decide +kernel
theorem dL_pots_329 : decode cL_pots 329 = .ok (.istore 9, 2) := by decide +kernel
theorem dL_pots_331 : decode cL_pots 331 = .ok (.iconst 0, 1) := by decide +kernel
theorem dL_pots_332 : decode cL_pots 332 = .ok (.istore 10, 2) := by decide +kernel
theorem dL_pots_334 : decode cL_pots 334 = .ok (.iload 10, 2) := by decide +kernel
theorem dL_pots_336 : decode cL_pots 336 = .ok (.aload_n 3, 1) := by decide +kernel
theorem dL_pots_337 : decode cL_pots 337 = .ok (.bipush 7, 2) := by decide +kernel
theorem dL_pots_339 : decode cL_pots 339 = .ok (.iaload, 1) := by decide +kernel
theorem dL_pots_340 : decode cL_pots 340 = .ok (.if_icmp .ge 158, 3) := by decide +kernel
theorem dL_pots_343 : decode cL_pots 343 = .ok (.aload 4, 2) := by decide +kernel
theorem dL_pots_345 : decode cL_pots 345 = .ok (.iload 10, 2) := by decide +kernel
theorem dL_pots_347 : decode cL_pots 347 = .ok (.laload, 1) := by decide +kernel
theorem dL_pots_348 : decode cL_pots 348 = .ok (.iconst 4, 1) := by decide +kernel
theorem dL_pots_349 : decode cL_pots 349 = .ok (.invokestatic 13, 3) := by decide +kernel
theorem dL_pots_352 : decode cL_pots 352 = .ok (.bipush 24, 2) := by decide +kernel
theorem dL_pots_354 : decode cL_pots 354 = .ok (.if_icmp .eq 6, 3) := by decide +kernel
theorem dL_pots_357 : decode cL_pots 357 = .ok (.goto 135, 3) := by decide +kernel
theorem dL_pots_360 : decode cL_pots 360 = .ok (.aload 4, 2) := by decide +kernel
theorem dL_pots_362 : decode cL_pots 362 = .ok (.iload 10, 2) := by decide +kernel
theorem dL_pots_364 : decode cL_pots 364 = .ok (.laload, 1) := by decide +kernel
theorem dL_pots_365 : decode cL_pots 365 = .ok (.iload 8, 2) := by decide +kernel
theorem dL_pots_367 : decode cL_pots 367 = .ok (.aload_n 3, 1) := by decide +kernel
theorem dL_pots_368 : decode cL_pots 368 = .ok (.invokestatic 77, 3) := by decide +kernel
theorem dL_pots_371 : decode cL_pots 371 = .ok (.istore 11, 2) := by decide +kernel
theorem dL_pots_373 : decode cL_pots 373 = .ok (.iload 9, 2) := by decide +kernel
theorem dL_pots_375 : decode cL_pots 375 = .ok (.iload 11, 2) := by decide +kernel
theorem dL_pots_377 : decode cL_pots 377 = .ok (.iconst 4, 1) := by decide +kernel
theorem dL_pots_378 : decode cL_pots 378 = .ok (.if_icmp .ne 7, 3) := by decide +kernel
theorem dL_pots_381 : decode cL_pots 381 = .ok (.iconst 1, 1) := by decide +kernel
theorem dL_pots_382 : decode cL_pots 382 = .ok (.goto 4, 3) := by decide +kernel
theorem dL_pots_385 : decode cL_pots 385 = .ok (.iconst 0, 1) := by decide +kernel
theorem dL_pots_386 : decode cL_pots 386 = .ok (.iadd, 1) := by decide +kernel
theorem dL_pots_387 : decode cL_pots 387 = .ok (.istore 9, 2) := by decide +kernel
theorem dL_pots_389 : decode cL_pots 389 = .ok (.iload 11, 2) := by decide +kernel
theorem dL_pots_391 : decode cL_pots 391 = .ok (.iconst 2, 1) := by decide +kernel
theorem dL_pots_392 : decode cL_pots 392 = .ok (.if_icmp .eq 9, 3) := by decide +kernel
theorem dL_pots_395 : decode cL_pots 395 = .ok (.iload 11, 2) := by decide +kernel
theorem dL_pots_397 : decode cL_pots 397 = .ok (.iconst 3, 1) := by decide +kernel
theorem dL_pots_398 : decode cL_pots 398 = .ok (.if_icmp .ne 16, 3) := by decide +kernel
theorem dL_pots_401 : decode cL_pots 401 = .ok (.aload 4, 2) := by decide +kernel
theorem dL_pots_403 : decode cL_pots 403 = .ok (.iload 10, 2) := by decide +kernel
theorem dL_pots_405 : decode cL_pots 405 = .ok (.laload, 1) := by decide +kernel
theorem dL_pots_406 : decode cL_pots 406 = .ok (.bipush 6, 2) := by decide +kernel
theorem dL_pots_408 : decode cL_pots 408 = .ok (.invokestatic 13, 3) := by decide +kernel
theorem dL_pots_411 : decode cL_pots 411 = .ok (.goto 4, 3) := by decide +kernel
theorem dL_pots_414 : decode cL_pots 414 = .ok (.iconst 0, 1) := by decide +kernel
theorem dL_pots_415 : decode cL_pots 415 = .ok (.istore 12, 2) := by decide +kernel
theorem dL_pots_417 : decode cL_pots 417 = .ok (.aload 4, 2) := by decide +kernel
theorem dL_pots_419 : decode cL_pots 419 = .ok (.iload 10, 2) := by decide +kernel
theorem dL_pots_421 : decode cL_pots 421 = .ok (.aload 4, 2) := by decide +kernel
theorem dL_pots_423 : decode cL_pots 423 = .ok (.iload 10, 2) := by decide +kernel
theorem dL_pots_425 : decode cL_pots 425 = .ok (.laload, 1) := by decide +kernel
theorem dL_pots_426 : decode cL_pots 426 = .ok (.iconst 3, 1) := by decide +kernel
theorem dL_pots_427 : decode cL_pots 427 = .ok (.iload 11, 2) := by decide +kernel
theorem dL_pots_429 : decode cL_pots 429 = .ok (.invokestatic 51, 3) := by decide +kernel
theorem dL_pots_432 : decode cL_pots 432 = .ok (.bipush 6, 2) := by decide +kernel
theorem dL_pots_434 : decode cL_pots 434 = .ok (.iload 12, 2) := by decide +kernel
theorem dL_pots_436 : decode cL_pots 436 = .ok (.invokestatic 51, 3) := by decide +kernel
theorem dL_pots_439 : decode cL_pots 439 = .ok (.bipush 7, 2) := by decide +kernel
theorem dL_pots_441 : decode cL_pots 441 = .ok (.aload 4, 2) := by decide +kernel
theorem dL_pots_443 : decode cL_pots 443 = .ok (.iload 10, 2) := by decide +kernel
theorem dL_pots_445 : decode cL_pots 445 = .ok (.laload, 1) := by decide +kernel
theorem dL_pots_446 : decode cL_pots 446 = .ok (.bipush 7, 2) := by decide +kernel
theorem dL_pots_448 : decode cL_pots 448 = .ok (.invokestatic 13, 3) := by decide +kernel
theorem dL_pots_451 : decode cL_pots 451 = .ok (.iconst 1, 1) := by decide +kernel
theorem dL_pots_452 : decode cL_pots 452 = .ok (.iadd, 1) := by decide +kernel
theorem dL_pots_453 : decode cL_pots 453 = .ok (.invokestatic 51, 3) := by decide +kernel
theorem dL_pots_456 : decode cL_pots 456 = .ok (.lastore, 1) := by decide +kernel
theorem dL_pots_457 : decode cL_pots 457 = .ok (.iload 11, 2) := by decide +kernel
theorem dL_pots_459 : decode cL_pots 459 = .ok (.iconst 4, 1) := by decide +kernel
theorem dL_pots_460 : decode cL_pots 460 = .ok (.if_icmp .ne 8, 3) := by decide +kernel
theorem dL_pots_463 : decode cL_pots 463 = .ok (.bipush 25, 2) := by decide +kernel
theorem dL_pots_465 : decode cL_pots 465 = .ok (.goto 9, 3) := by decide +kernel
theorem dL_pots_468 : decode cL_pots 468 = .ok (.aload_n 3, 1) := by decide +kernel
theorem dL_pots_469 : decode cL_pots 469 = .ok (.aload 4, 2) := by decide +kernel
theorem dL_pots_471 : decode cL_pots 471 = .ok (.invokestatic 48, 3) := by decide +kernel
theorem dL_pots_474 : decode cL_pots 474 = .ok (.istore 13, 2) := by decide +kernel
theorem dL_pots_476 : decode cL_pots 476 = .ok (.aload 4, 2) := by decide +kernel
theorem dL_pots_478 : decode cL_pots 478 = .ok (.iload 10, 2) := by decide +kernel
theorem dL_pots_480 : decode cL_pots 480 = .ok (.aload 4, 2) := by decide +kernel
theorem dL_pots_482 : decode cL_pots 482 = .ok (.iload 10, 2) := by decide +kernel
theorem dL_pots_484 : decode cL_pots 484 = .ok (.laload, 1) := by decide +kernel
theorem dL_pots_485 : decode cL_pots 485 = .ok (.iconst 4, 1) := by decide +kernel
theorem dL_pots_486 : decode cL_pots 486 = .ok (.iload 13, 2) := by decide +kernel
theorem dL_pots_488 : decode cL_pots 488 = .ok (.invokestatic 51, 3) := by decide +kernel
theorem dL_pots_491 : decode cL_pots 491 = .ok (.lastore, 1) := by decide +kernel
theorem dL_pots_492 : decode cL_pots 492 = .ok (.iinc 10 1, 3) := by decide +kernel
theorem dL_pots_495 : decode cL_pots 495 = .ok (.goto (-161), 3) := by decide +kernel
theorem dL_pots_498 : decode cL_pots 498 = .ok (.aload_n 3, 1) := by decide +kernel
theorem dL_pots_499 : decode cL_pots 499 = .ok (.bipush 8, 2) := by decide +kernel
theorem dL_pots_501 : decode cL_pots 501 = .ok (.dup2, 1) := by decide +kernel
theorem dL_pots_502 : decode cL_pots 502 = .ok (.iaload, 1) := by decide +kernel
theorem dL_pots_503 : decode cL_pots 503 = .ok (.iconst 1, 1) := by decide +kernel
theorem dL_pots_504 : decode cL_pots 504 = .ok (.iadd, 1) := by decide +kernel
theorem dL_pots_505 : decode cL_pots 505 = .ok (.iastore, 1) := by decide +kernel
theorem dL_pots_506 : decode cL_pots 506 = .ok (.aload_n 3, 1) := by decide +kernel
theorem dL_pots_507 : decode cL_pots 507 = .ok (.bipush 9, 2) := by decide +kernel
theorem dL_pots_509 : decode cL_pots 509 = .ok (.dup2, 1) := by decide +kernel
theorem dL_pots_510 : decode cL_pots 510 = .ok (.iaload, 1) := by decide +kernel
theorem dL_pots_511 : decode cL_pots 511 = .ok (.iload 9, 2) := by decide +kernel
theorem dL_pots_513 : decode cL_pots 513 = .ok (.iadd, 1) := by decide +kernel
theorem dL_pots_514 : decode cL_pots 514 = .ok (.iastore, 1) := by decide +kernel
theorem dL_pots_515 : decode cL_pots 515 = .ok (.aload_n 0, 1) := by decide +kernel
theorem dL_pots_516 : decode cL_pots 516 = .ok (.iload 8, 2) := by decide +kernel
theorem dL_pots_518 : decode cL_pots 518 = .ok (.invokevirtual 68, 3) := by decide +kernel
theorem dL_pots_521 : decode cL_pots 521 = .ok (.iload 9, 2) := by decide +kernel
theorem dL_pots_523 : decode cL_pots 523 = .ok (.if_icmp .ne 7, 3) := by decide +kernel
theorem dL_pots_526 : decode cL_pots 526 = .ok (.iconst 1, 1) := by decide +kernel
theorem dL_pots_527 : decode cL_pots 527 = .ok (.goto 4, 3) := by decide +kernel
theorem dL_pots_530 : decode cL_pots 530 = .ok (.iconst 0, 1) := by decide +kernel
theorem dL_pots_531 : decode cL_pots 531 = .ok (.ireturn, 1) := by decide +kernel
theorem dL_pots_532 : decode cL_pots 532 = .ok (.iload 6, 2) := by decide +kernel
theorem dL_pots_534 : decode cL_pots 534 = .ok (.bipush 10, 2) := by decide +kernel
theorem dL_pots_536 : decode cL_pots 536 = .ok (.if_icmp .ge 152, 3) := by decide +kernel
theorem dL_pots_539 : decode cL_pots 539 = .ok (.iload_n 2, 1) := by decide +kernel
theorem dL_pots_540 : decode cL_pots 540 = .ok (.iconst 5, 1) := by decide +kernel
theorem dL_pots_541 : decode cL_pots 541 = .ok (.ishr, 1) := by decide +kernel
theorem dL_pots_542 : decode cL_pots 542 = .ok (.iconst 4, 1) := by decide +kernel
theorem dL_pots_543 : decode cL_pots 543 = .ok (.invokestatic 23, 3) := by decide +kernel
theorem dL_pots_546 : decode cL_pots 546 = .ok (.istore 8, 2) := by decide +kernel
theorem dL_pots_548 : decode cL_pots 548 = .ok (.aload 4, 2) := by decide +kernel
theorem dL_pots_550 : decode cL_pots 550 = .ok (.iload 7, 2) := by decide +kernel
theorem dL_pots_552 : decode cL_pots 552 = .ok (.laload, 1) := by decide +kernel
theorem dL_pots_553 : decode cL_pots 553 = .ok (.iconst 1, 1) := by decide +kernel
theorem dL_pots_554 : decode cL_pots 554 = .ok (.invokestatic 13, 3) := by decide +kernel
theorem dL_pots_557 : decode cL_pots 557 = .ok (.istore 9, 2) := by decide +kernel
theorem dL_pots_559 : decode cL_pots 559 = .ok (.aload 4, 2) := by decide +kernel
theorem dL_pots_561 : decode cL_pots 561 = .ok (.iload 7, 2) := by decide +kernel
theorem dL_pots_563 : decode cL_pots 563 = .ok (.laload, 1) := by decide +kernel
theorem dL_pots_564 : decode cL_pots 564 = .ok (.iconst 3, 1) := by decide +kernel
theorem dL_pots_565 : decode cL_pots 565 = .ok (.invokestatic 13, 3) := by decide +kernel
theorem dL_pots_568 : decode cL_pots 568 = .ok (.iconst 1, 1) := by decide +kernel
theorem dL_pots_569 : decode cL_pots 569 = .ok (.if_icmp .ne 29, 3) := by decide +kernel
theorem dL_pots_572 : decode cL_pots 572 = .ok (.aload 4, 2) := by decide +kernel
theorem dL_pots_574 : decode cL_pots 574 = .ok (.iload 7, 2) := by decide +kernel
theorem dL_pots_576 : decode cL_pots 576 = .ok (.laload, 1) := by decide +kernel
theorem dL_pots_577 : decode cL_pots 577 = .ok (.iconst 4, 1) := by decide +kernel
theorem dL_pots_578 : decode cL_pots 578 = .ok (.invokestatic 13, 3) := by decide +kernel
theorem dL_pots_581 : decode cL_pots 581 = .ok (.bipush 23, 2) := by decide +kernel
theorem dL_pots_583 : decode cL_pots 583 = .ok (.if_icmp .gt 15, 3) := by decide +kernel
theorem dL_pots_586 : decode cL_pots 586 = .ok (.aload_n 3, 1) := by decide +kernel
theorem dL_pots_587 : decode cL_pots 587 = .ok (.bipush 11, 2) := by decide +kernel
theorem dL_pots_589 : decode cL_pots 589 = .ok (.iload 8, 2) := by decide +kernel
theorem dL_pots_591 : decode cL_pots 591 = .ok (.iadd, 1) := by decide +kernel
theorem dL_pots_592 : decode cL_pots 592 = .ok (.iaload, 1) := by decide +kernel
theorem dL_pots_593 : decode cL_pots 593 = .ok (.iload 9, 2) := by decide +kernel
theorem dL_pots_595 : decode cL_pots 595 = .ok (.if_icmp .ge 33, 3) := by decide +kernel
theorem dL_pots_598 : decode cL_pots 598 = .ok (.aload_n 0, 1) := by decide +kernel
theorem dL_pots_599 : decode cL_pots 599 = .ok (.iload 7, 2) := by decide +kernel
theorem dL_pots_601 : decode cL_pots 601 = .ok (.iload 8, 2) := by decide +kernel
theorem dL_pots_603 : decode cL_pots 603 = .ok (.invokevirtual 62, 3) := by decide +kernel
theorem dL_pots_606 : decode cL_pots 606 = .ok (.bipush (-5), 2) := by decide +kernel
theorem dL_pots_608 : decode cL_pots 608 = .ok (.if_icmp .ne 18, 3) := by decide +kernel
theorem dL_pots_611 : decode cL_pots 611 = .ok (.aload_n 0, 1) := by decide +kernel
theorem dL_pots_612 : decode cL_pots 612 = .ok (.iload 7, 2) := by decide +kernel
theorem dL_pots_614 : decode cL_pots 614 = .ok (.iconst (-1), 1) := by decide +kernel
theorem dL_pots_615 : decode cL_pots 615 = .ok (.invokevirtual 62, 3) := by decide +kernel
theorem dL_pots_618 : decode cL_pots 618 = .ok (.iconst (-1), 1) := by decide +kernel
theorem dL_pots_619 : decode cL_pots 619 = .ok (.if_icmp .ne 7, 3) := by decide +kernel
theorem dL_pots_622 : decode cL_pots 622 = .ok (.iconst 1, 1) := by decide +kernel
theorem dL_pots_623 : decode cL_pots 623 = .ok (.goto 4, 3) := by decide +kernel
theorem dL_pots_626 : decode cL_pots 626 = .ok (.iconst 0, 1) := by decide +kernel
theorem dL_pots_627 : decode cL_pots 627 = .ok (.ireturn, 1) := by decide +kernel
theorem dL_pots_628 : decode cL_pots 628 = .ok (.aload_n 3, 1) := by decide +kernel
theorem dL_pots_629 : decode cL_pots 629 = .ok (.bipush 11, 2) := by decide +kernel
theorem dL_pots_631 : decode cL_pots 631 = .ok (.iload 8, 2) := by decide +kernel
theorem dL_pots_633 : decode cL_pots 633 = .ok (.iadd, 1) := by decide +kernel
theorem dL_pots_634 : decode cL_pots 634 = .ok (.dup2, 1) := by decide +kernel
theorem dL_pots_635 : decode cL_pots 635 = .ok (.iaload, 1) := by decide +kernel
theorem dL_pots_636 : decode cL_pots 636 = .ok (.iload 9, 2) := by decide +kernel
theorem dL_pots_638 : decode cL_pots 638 = .ok (.isub, 1) := by decide +kernel
theorem dL_pots_639 : decode cL_pots 639 = .ok (.iastore, 1) := by decide +kernel
theorem dL_pots_640 : decode cL_pots 640 = .ok (.aload 4, 2) := by decide +kernel
theorem dL_pots_642 : decode cL_pots 642 = .ok (.iload 7, 2) := by decide +kernel
theorem dL_pots_644 : decode cL_pots 644 = .ok (.aload 4, 2) := by decide +kernel
theorem dL_pots_646 : decode cL_pots 646 = .ok (.iload 7, 2) := by decide +kernel
theorem dL_pots_648 : decode cL_pots 648 = .ok (.laload, 1) := by decide +kernel
theorem dL_pots_649 : decode cL_pots 649 = .ok (.iconst 3, 1) := by decide +kernel
theorem dL_pots_650 : decode cL_pots 650 = .ok (.iconst 2, 1) := by decide +kernel
theorem dL_pots_651 : decode cL_pots 651 = .ok (.invokestatic 51, 3) := by decide +kernel
theorem dL_pots_654 : decode cL_pots 654 = .ok (.bipush 6, 2) := by decide +kernel
theorem dL_pots_656 : decode cL_pots 656 = .ok (.iload 8, 2) := by decide +kernel
theorem dL_pots_658 : decode cL_pots 658 = .ok (.iconst 1, 1) := by decide +kernel
theorem dL_pots_659 : decode cL_pots 659 = .ok (.iadd, 1) := by decide +kernel
theorem dL_pots_660 : decode cL_pots 660 = .ok (.invokestatic 51, 3) := by decide +kernel
theorem dL_pots_663 : decode cL_pots 663 = .ok (.lastore, 1) := by decide +kernel
theorem dL_pots_664 : decode cL_pots 664 = .ok (.aload_n 0, 1) := by decide +kernel
theorem dL_pots_665 : decode cL_pots 665 = .ok (.iload 7, 2) := by decide +kernel
theorem dL_pots_667 : decode cL_pots 667 = .ok (.iload 8, 2) := by decide +kernel
theorem dL_pots_669 : decode cL_pots 669 = .ok (.invokevirtual 62, 3) := by decide +kernel
theorem dL_pots_672 : decode cL_pots 672 = .ok (.aload_n 3, 1) := by decide +kernel
theorem dL_pots_673 : decode cL_pots 673 = .ok (.bipush 11, 2) := by decide +kernel
theorem dL_pots_675 : decode cL_pots 675 = .ok (.iload 8, 2) := by decide +kernel
theorem dL_pots_677 : decode cL_pots 677 = .ok (.iadd, 1) := by decide +kernel
theorem dL_pots_678 : decode cL_pots 678 = .ok (.iaload, 1) := by decide +kernel
theorem dL_pots_679 : decode cL_pots 679 = .ok (.if_icmp .ne 7, 3) := by decide +kernel
theorem dL_pots_682 : decode cL_pots 682 = .ok (.iconst 1, 1) := by decide +kernel
theorem dL_pots_683 : decode cL_pots 683 = .ok (.goto 4, 3) := by decide +kernel
theorem dL_pots_686 : decode cL_pots 686 = .ok (.iconst 0, 1) := by decide +kernel
theorem dL_pots_687 : decode cL_pots 687 = .ok (.ireturn, 1) := by decide +kernel
theorem dL_pots_688 : decode cL_pots 688 = .ok (.iload 6, 2) := by decide +kernel
theorem dL_pots_690 : decode cL_pots 690 = .ok (.bipush 10, 2) := by decide +kernel
theorem dL_pots_692 : decode cL_pots 692 = .ok (.if_icmp .ne 108, 3) := by decide +kernel
theorem dL_pots_695 : decode cL_pots 695 = .ok (.iload_n 2, 1) := by decide +kernel
theorem dL_pots_696 : decode cL_pots 696 = .ok (.iconst 5, 1) := by decide +kernel
theorem dL_pots_697 : decode cL_pots 697 = .ok (.ishr, 1) := by decide +kernel
theorem dL_pots_698 : decode cL_pots 698 = .ok (.iconst 4, 1) := by decide +kernel
theorem dL_pots_699 : decode cL_pots 699 = .ok (.invokestatic 23, 3) := by decide +kernel
theorem dL_pots_702 : decode cL_pots 702 = .ok (.istore 8, 2) := by decide +kernel
theorem dL_pots_704 : decode cL_pots 704 = .ok (.iconst 1, 1) := by decide +kernel
theorem dL_pots_705 : decode cL_pots 705 = .ok (.iload_n 2, 1) := by decide +kernel
theorem dL_pots_706 : decode cL_pots 706 = .ok (.bipush 7, 2) := by decide +kernel
theorem dL_pots_708 : decode cL_pots 708 = .ok (.ishr, 1) := by decide +kernel
theorem dL_pots_709 : decode cL_pots 709 = .ok (.bipush 99, 2) := by decide +kernel
theorem dL_pots_711 : decode cL_pots 711 = .ok (.invokestatic 23, 3) := by decide +kernel
theorem dL_pots_714 : decode cL_pots 714 = .ok (.iadd, 1) := by decide +kernel
theorem dL_pots_715 : decode cL_pots 715 = .ok (.istore 9, 2) := by decide +kernel
theorem dL_pots_717 : decode cL_pots 717 = .ok (.aload_n 3, 1) := by decide +kernel
theorem dL_pots_718 : decode cL_pots 718 = .ok (.bipush 11, 2) := by decide +kernel
theorem dL_pots_720 : decode cL_pots 720 = .ok (.iload 8, 2) := by decide +kernel
theorem dL_pots_722 : decode cL_pots 722 = .ok (.iadd, 1) := by decide +kernel
theorem dL_pots_723 : decode cL_pots 723 = .ok (.aload_n 3, 1) := by decide +kernel
theorem dL_pots_724 : decode cL_pots 724 = .ok (.bipush 11, 2) := by decide +kernel
theorem dL_pots_726 : decode cL_pots 726 = .ok (.iload 8, 2) := by decide +kernel
theorem dL_pots_728 : decode cL_pots 728 = .ok (.iadd, 1) := by decide +kernel
theorem dL_pots_729 : decode cL_pots 729 = .ok (.iaload, 1) := by decide +kernel
theorem dL_pots_730 : decode cL_pots 730 = .ok (.iload 9, 2) := by decide +kernel
theorem dL_pots_732 : decode cL_pots 732 = .ok (.iadd, 1) := by decide +kernel
theorem dL_pots_733 : decode cL_pots 733 = .ok (.bipush 99, 2) := by decide +kernel
theorem dL_pots_735 : decode cL_pots 735 = .ok (.if_icmp .le 8, 3) := by decide +kernel
theorem dL_pots_738 : decode cL_pots 738 = .ok (.bipush 99, 2) := by decide +kernel
theorem dL_pots_740 : decode cL_pots 740 = .ok (.goto 13, 3) := by decide +kernel
theorem dL_pots_743 : decode cL_pots 743 = .ok (.aload_n 3, 1) := by decide +kernel
theorem dL_pots_744 : decode cL_pots 744 = .ok (.bipush 11, 2) := by decide +kernel
theorem dL_pots_746 : decode cL_pots 746 = .ok (.iload 8, 2) := by decide +kernel
theorem dL_pots_748 : decode cL_pots 748 = .ok (.iadd, 1) := by decide +kernel
theorem dL_pots_749 : decode cL_pots 749 = .ok (.iaload, 1) := by decide +kernel
theorem dL_pots_750 : decode cL_pots 750 = .ok (.iload 9, 2) := by decide +kernel
theorem dL_pots_752 : decode cL_pots 752 = .ok (.iadd, 1) := by decide +kernel
theorem dL_pots_753 : decode cL_pots 753 = .ok (.iastore, 1) := by decide +kernel
theorem dL_pots_754 : decode cL_pots 754 = .ok (.aload_n 0, 1) := by decide +kernel
theorem dL_pots_755 : decode cL_pots 755 = .ok (.iload 8, 2) := by decide +kernel
theorem dL_pots_757 : decode cL_pots 757 = .ok (.iload 9, 2) := by decide +kernel
theorem dL_pots_759 : decode cL_pots 759 = .ok (.invokevirtual 81, 3) := by decide +kernel
theorem dL_pots_762 : decode cL_pots 762 = .ok (.aload_n 3, 1) := by decide +kernel
theorem dL_pots_763 : decode cL_pots 763 = .ok (.bipush 11, 2) := by decide +kernel
theorem dL_pots_765 : decode cL_pots 765 = .ok (.iload 8, 2) := by decide +kernel
theorem dL_pots_767 : decode cL_pots 767 = .ok (.iadd, 1) := by decide +kernel
theorem dL_pots_768 : decode cL_pots 768 = .ok (.iaload, 1) := by decide +kernel
theorem dL_pots_769 : decode cL_pots 769 = .ok (.if_icmp .ne 29, 3) := by decide +kernel
theorem dL_pots_772 : decode cL_pots 772 = .ok (.aload_n 0, 1) := by decide +kernel
theorem dL_pots_773 : decode cL_pots 773 = .ok (.iconst 4, 1) := by decide +kernel
theorem dL_pots_774 : decode cL_pots 774 = .ok (.iconst 0, 1) := by decide +kernel
theorem dL_pots_775 : decode cL_pots 775 = .ok (.invokevirtual 81, 3) := by decide +kernel
theorem dL_pots_778 : decode cL_pots 778 = .ok (.iconst (-1), 1) := by decide +kernel
theorem dL_pots_779 : decode cL_pots 779 = .ok (.if_icmp .ne 19, 3) := by decide +kernel
theorem dL_pots_782 : decode cL_pots 782 = .ok (.aload_n 0, 1) := by decide +kernel
theorem dL_pots_783 : decode cL_pots 783 = .ok (.iconst 0, 1) := by decide +kernel
theorem dL_pots_784 : decode cL_pots 784 = .ok (.bipush 100, 2) := by decide +kernel
theorem dL_pots_786 : decode cL_pots 786 = .ok (.invokevirtual 81, 3) := by decide +kernel
theorem dL_pots_789 : decode cL_pots 789 = .ok (.bipush (-2), 2) := by decide +kernel
theorem dL_pots_791 : decode cL_pots 791 = .ok (.if_icmp .ne 7, 3) := by decide +kernel
theorem dL_pots_794 : decode cL_pots 794 = .ok (.iconst 1, 1) := by decide +kernel
theorem dL_pots_795 : decode cL_pots 795 = .ok (.goto 4, 3) := by decide +kernel
theorem dL_pots_798 : decode cL_pots 798 = .ok (.iconst 0, 1) := by decide +kernel
theorem dL_pots_799 : decode cL_pots 799 = .ok (.ireturn, 1) := by decide +kernel
theorem dL_pots_800 : decode cL_pots 800 = .ok (.aload 4, 2) := by decide +kernel
theorem dL_pots_802 : decode cL_pots 802 = .ok (.iload 7, 2) := by decide +kernel
theorem dL_pots_804 : decode cL_pots 804 = .ok (.laload, 1) := by decide +kernel
theorem dL_pots_805 : decode cL_pots 805 = .ok (.iconst 3, 1) := by decide +kernel
theorem dL_pots_806 : decode cL_pots 806 = .ok (.invokestatic 13, 3) := by decide +kernel
theorem dL_pots_809 : decode cL_pots 809 = .ok (.iconst 3, 1) := by decide +kernel
theorem dL_pots_810 : decode cL_pots 810 = .ok (.if_icmp .ne 17, 3) := by decide +kernel
theorem dL_pots_813 : decode cL_pots 813 = .ok (.aload 4, 2) := by decide +kernel
theorem dL_pots_815 : decode cL_pots 815 = .ok (.iload 7, 2) := by decide +kernel
theorem dL_pots_817 : decode cL_pots 817 = .ok (.laload, 1) := by decide +kernel
theorem dL_pots_818 : decode cL_pots 818 = .ok (.iconst 4, 1) := by decide +kernel
theorem dL_pots_819 : decode cL_pots 819 = .ok (.invokestatic 13, 3) := by decide +kernel
theorem dL_pots_822 : decode cL_pots 822 = .ok (.bipush 23, 2) := by decide +kernel
theorem dL_pots_824 : decode cL_pots 824 = .ok (.if_icmp .le 20, 3) := by decide +kernel
theorem dL_pots_827 : decode cL_pots 827 = .ok (.aload_n 0, 1) := by decide +kernel
theorem dL_pots_828 : decode cL_pots 828 = .ok (.iload 7, 2) := by decide +kernel
theorem dL_pots_830 : decode cL_pots 830 = .ok (.invokevirtual 65, 3) := by decide +kernel
theorem dL_pots_833 : decode cL_pots 833 = .ok (.bipush (-5), 2) := by decide +kernel
theorem dL_pots_835 : decode cL_pots 835 = .ok (.if_icmp .ne 7, 3) := by decide +kernel
theorem dL_pots_838 : decode cL_pots 838 = .ok (.iconst 1, 1) := by decide +kernel
theorem dL_pots_839 : decode cL_pots 839 = .ok (.goto 4, 3) := by decide +kernel
theorem dL_pots_842 : decode cL_pots 842 = .ok (.iconst 0, 1) := by decide +kernel
theorem dL_pots_843 : decode cL_pots 843 = .ok (.ireturn, 1) := by decide +kernel
theorem dL_pots_844 : decode cL_pots 844 = .ok (.aload_n 3, 1) := by decide +kernel
theorem dL_pots_845 : decode cL_pots 845 = .ok (.iconst 5, 1) := by decide +kernel
theorem dL_pots_846 : decode cL_pots 846 = .ok (.iaload, 1) := by decide +kernel
theorem dL_pots_847 : decode cL_pots 847 = .ok (.aload 4, 2) := by decide +kernel
theorem dL_pots_849 : decode cL_pots 849 = .ok (.iload 7, 2) := by decide +kernel
theorem dL_pots_851 : decode cL_pots 851 = .ok (.laload, 1) := by decide +kernel
theorem dL_pots_852 : decode cL_pots 852 = .ok (.iconst 1, 1) := by decide +kernel
theorem dL_pots_853 : decode cL_pots 853 = .ok (.invokestatic 13, 3) := by decide +kernel
theorem dL_pots_856 : decode cL_pots 856 = .ok (.imul, 1) := by decide +kernel
theorem dL_pots_857 : decode cL_pots 857 = .ok (.istore 8, 2) := by decide +kernel
theorem dL_pots_859 : decode cL_pots 859 = .ok (.aload 4, 2) := by decide +kernel
theorem dL_pots_861 : decode cL_pots 861 = .ok (.iload 7, 2) := by decide +kernel
theorem dL_pots_863 : decode cL_pots 863 = .ok (.aload 4, 2) := by decide +kernel
theorem dL_pots_865 : decode cL_pots 865 = .ok (.iload 7, 2) := by decide +kernel
theorem dL_pots_867 : decode cL_pots 867 = .ok (.laload, 1) := by decide +kernel
theorem dL_pots_868 : decode cL_pots 868 = .ok (.iconst 4, 1) := by decide +kernel
theorem dL_pots_869 : decode cL_pots 869 = .ok (.bipush 25, 2) := by decide +kernel
theorem dL_pots_871 : decode cL_pots 871 = .ok (.invokestatic 51, 3) := by decide +kernel
theorem dL_pots_874 : decode cL_pots 874 = .ok (.lastore, 1) := by decide +kernel
theorem dL_pots_875 : decode cL_pots 875 = .ok (.aload 5, 2) := by decide +kernel
theorem dL_pots_877 : decode cL_pots 877 = .ok (.iconst 2, 1) := by decide +kernel
theorem dL_pots_878 : decode cL_pots 878 = .ok (.aload 4, 2) := by decide +kernel
theorem dL_pots_880 : decode cL_pots 880 = .ok (.iload 7, 2) := by decide +kernel
theorem dL_pots_882 : decode cL_pots 882 = .ok (.laload, 1) := by decide +kernel
theorem dL_pots_883 : decode cL_pots 883 = .ok (.iconst 0, 1) := by decide +kernel
theorem dL_pots_884 : decode cL_pots 884 = .ok (.invokestatic 13, 3) := by decide +kernel
theorem dL_pots_887 : decode cL_pots 887 = .ok (.imul, 1) := by decide +kernel
theorem dL_pots_888 : decode cL_pots 888 = .ok (.iconst 1, 1) := by decide +kernel
theorem dL_pots_889 : decode cL_pots 889 = .ok (.iadd, 1) := by decide +kernel
theorem dL_pots_890 : decode cL_pots 890 = .ok (.dup2, 1) := by decide +kernel
theorem dL_pots_891 : decode cL_pots 891 = .ok (.iaload, 1) := by decide +kernel
theorem dL_pots_892 : decode cL_pots 892 = .ok (.iload 8, 2) := by decide +kernel
theorem dL_pots_894 : decode cL_pots 894 = .ok (.iadd, 1) := by decide +kernel
theorem dL_pots_895 : decode cL_pots 895 = .ok (.iastore, 1) := by decide +kernel
theorem dL_pots_896 : decode cL_pots 896 = .ok (.aload_n 3, 1) := by decide +kernel
theorem dL_pots_897 : decode cL_pots 897 = .ok (.bipush 10, 2) := by decide +kernel
theorem dL_pots_899 : decode cL_pots 899 = .ok (.dup2, 1) := by decide +kernel
theorem dL_pots_900 : decode cL_pots 900 = .ok (.iaload, 1) := by decide +kernel
theorem dL_pots_901 : decode cL_pots 901 = .ok (.iload 8, 2) := by decide +kernel
theorem dL_pots_903 : decode cL_pots 903 = .ok (.iadd, 1) := by decide +kernel
theorem dL_pots_904 : decode cL_pots 904 = .ok (.iastore, 1) := by decide +kernel
theorem dL_pots_905 : decode cL_pots 905 = .ok (.aload_n 0, 1) := by decide +kernel
theorem dL_pots_906 : decode cL_pots 906 = .ok (.iload 7, 2) := by decide +kernel
theorem dL_pots_908 : decode cL_pots 908 = .ok (.invokevirtual 65, 3) := by decide +kernel
theorem dL_pots_911 : decode cL_pots 911 = .ok (.iload 8, 2) := by decide +kernel
theorem dL_pots_913 : decode cL_pots 913 = .ok (.if_icmp .ne 7, 3) := by decide +kernel
theorem dL_pots_916 : decode cL_pots 916 = .ok (.iconst 1, 1) := by decide +kernel
theorem dL_pots_917 : decode cL_pots 917 = .ok (.goto 4, 3) := by decide +kernel
theorem dL_pots_920 : decode cL_pots 920 = .ok (.iconst 0, 1) := by decide +kernel
theorem dL_pots_921 : decode cL_pots 921 = .ok (.ireturn, 1) := by decide +kernel
set_option maxRecDepth 20000 in
theorem ggL_others_L_low : GoodIn wsL_others wsL_low := goodIn_r _ [4, 5] (by decide +kernel) (by decide +kernel)
set_option maxRecDepth 20000 in
theorem gL_others_L_low : GoodIn wsL_others (va_wsS RL 23 yL_low wsL_low) := goodIn_app (goodIn_of _ (by decide +kernel)) ggL_others_L_low
set_option maxRecDepth 20000 in
theorem ggL_others_X6_set : GoodIn wsL_others wsX6_set := goodIn_r _ [10, 11, 12, 13, 14, 15, 16, 17, 18, 19, 20, 21, 22, 23, 24, 25, 26, 27, 28, 29, 30, 31, 32, 33, 34, 35, 36, 37, 38, 39, 40, 41, 42, 43, 44, 45, 46, 47, 48, 49, 50, 51, 52, 53, 54, 55, 56, 57, 58, 59, 60, 61, 62, 63, 64, 65, 66, 67, 68, 69, 70, 71, 72, 73, 74, 75, 76, 77, 78, 79, 80, 81, 82, 9, 83, 84, 85, 86, 87, 88, 89, 90, 91, 92, 93, 94, 95, 96, 97, 150, 151, 152, 153, 154, 155, 156, 157, 158, 159, 160, 161, 162, 163, 164, 165, 166, 167, 168, 169, 170, 171, 172, 173, 174, 175, 176, 177] (by decide +kernel) (by decide +kernel)
set_option maxRecDepth 20000 in
theorem gL_others_X6_set : GoodIn wsL_others (wsV RL 84 RX6 yX6_set wsX6_set) := goodIn_app (goodIn_of _ (by decide +kernel)) ggL_others_X6_set
set_option maxRecDepth 20000 in
theorem ggL_others_L_part : GoodIn wsL_others wsL_part := goodIn_r _ [100, 101] (by decide +kernel) (by decide +kernel)
set_option maxRecDepth 20000 in
theorem gL_others_L_part : GoodIn wsL_others (va_wsS RL 13 yL_part wsL_part) := goodIn_app (goodIn_of _ (by decide +kernel)) ggL_others_L_part
set_option maxRecDepth 20000 in
theorem ggL_others_L_with : GoodIn wsL_others wsL_with := goodIn_r _ [104, 101, 105] (by decide +kernel) (by decide +kernel)
set_option maxRecDepth 20000 in
theorem gL_others_L_with : GoodIn wsL_others (va_wsS RL 51 yL_with wsL_with) := goodIn_app (goodIn_of _ (by decide +kernel)) ggL_others_L_with
set_option maxRecDepth 20000 in
theorem ggL_others_X6_pass : GoodIn wsL_others wsX6_pass := goodIn_r _ [109, 11, 12, 13, 14, 15, 16, 17, 18, 19, 20, 21, 22, 23, 24, 25, 26, 27, 28, 29, 30, 31, 32, 33, 34, 35, 36, 37, 38, 39, 40, 41, 42, 43, 44, 45, 46, 47, 48, 49, 50, 51, 52, 53, 54, 55, 56, 57, 58, 59, 60, 61, 62, 63, 64, 65, 66, 67, 68, 69, 70, 71, 72, 73, 74, 110, 111, 112, 113, 82, 9, 83, 114, 115, 116, 117, 118, 119, 120, 121, 122, 85, 86, 87, 123, 124, 125, 126, 127, 128, 129, 130, 131, 132, 133, 134, 135, 136, 89, 90, 91, 137, 138, 139, 140, 141, 142, 143, 144, 145, 146, 147, 148, 149, 92, 93, 94, 95, 96, 97, 150, 151, 152, 153, 154, 155, 156, 157, 158, 159, 160, 161, 162, 163, 164, 165, 166, 167, 168, 169, 170, 171, 172, 173, 174, 175, 176, 177] (by decide +kernel) (by decide +kernel)
set_option maxRecDepth 20000 in
theorem gL_others_X6_pass : GoodIn wsL_others (wsV RL 87 RX6 yX6_pass wsX6_pass) := goodIn_app (goodIn_of _ (by decide +kernel)) ggL_others_X6_pass
theorem dL_others_0 : decode cL_others 0 = .ok (.iload_n 1, 1) := by decide +kernel
theorem dL_others_1 : decode cL_others 1 = .ok (.iconst 4, 1) := by decide +kernel
theorem dL_others_2 : decode cL_others 2 = .ok (.invokestatic 23, 3) := by decide +kernel
theorem dL_others_5 : decode cL_others 5 = .ok (.ifCond .ne 146, 3) := by decide +kernel
theorem dL_others_8 : decode cL_others 8 = .ok (.iload_n 2, 1) := by decide +kernel
theorem dL_others_9 : decode cL_others 9 = .ok (.iconst 4, 1) := by decide +kernel
theorem dL_others_10 : decode cL_others 10 = .ok (.invokestatic 23, 3) := by decide +kernel
theorem dL_others_13 : decode cL_others 13 = .ok (.istore 7, 2) := by decide +kernel
theorem dL_others_15 : decode cL_others 15 = .ok (.aload_n 3, 1) := by decide +kernel
theorem dL_others_16 : decode cL_others 16 = .ok (.iconst 2, 1) := by decide +kernel
theorem dL_others_17 : decode cL_others 17 = .ok (.iload 7, 2) := by decide +kernel
theorem dL_others_19 : decode cL_others 19 = .ok (.iadd, 1) := by decide +kernel
theorem dL_others_20 : decode cL_others 20 = .ok (.iaload, 1) := by decide +kernel
theorem dL_others_21 : decode cL_others 21 = .ok (.istore 8, 2) := by decide +kernel
theorem dL_others_23 : decode cL_others 23 = .ok (.aload_n 3, 1) := by decide +kernel
theorem dL_others_24 : decode cL_others 24 = .ok (.iconst 2, 1) := by decide +kernel
theorem dL_others_25 : decode cL_others 25 = .ok (.iload 7, 2) := by decide +kernel
theorem dL_others_27 : decode cL_others 27 = .ok (.iadd, 1) := by decide +kernel
theorem dL_others_28 : decode cL_others 28 = .ok (.iload 7, 2) := by decide +kernel
theorem dL_others_30 : decode cL_others 30 = .ok (.ifCond .ne 15, 3) := by decide +kernel
theorem dL_others_33 : decode cL_others 33 = .ok (.iconst 1, 1) := by decide +kernel
theorem dL_others_34 : decode cL_others 34 = .ok (.iload_n 2, 1) := by decide +kernel
theorem dL_others_35 : decode cL_others 35 = .ok (.iconst 2, 1) := by decide +kernel
theorem dL_others_36 : decode cL_others 36 = .ok (.ishr, 1) := by decide +kernel
theorem dL_others_37 : decode cL_others 37 = .ok (.iconst 3, 1) := by decide +kernel
theorem dL_others_38 : decode cL_others 38 = .ok (.invokestatic 23, 3) := by decide +kernel
theorem dL_others_41 : decode cL_others 41 = .ok (.iadd, 1) := by decide +kernel
theorem dL_others_42 : decode cL_others 42 = .ok (.goto 50, 3) := by decide +kernel
theorem dL_others_45 : decode cL_others 45 = .ok (.iload 7, 2) := by decide +kernel
theorem dL_others_47 : decode cL_others 47 = .ok (.iconst 1, 1) := by decide +kernel
theorem dL_others_48 : decode cL_others 48 = .ok (.if_icmp .ne 16, 3) := by decide +kernel
theorem dL_others_51 : decode cL_others 51 = .ok (.iconst 3, 1) := by decide +kernel
theorem dL_others_52 : decode cL_others 52 = .ok (.iload_n 2, 1) := by decide +kernel
theorem dL_others_53 : decode cL_others 53 = .ok (.iconst 2, 1) := by decide +kernel
theorem dL_others_54 : decode cL_others 54 = .ok (.ishr, 1) := by decide +kernel
theorem dL_others_55 : decode cL_others 55 = .ok (.bipush 22, 2) := by decide +kernel
theorem dL_others_57 : decode cL_others 57 = .ok (.invokestatic 23, 3) := by decide +kernel
theorem dL_others_60 : decode cL_others 60 = .ok (.iadd, 1) := by decide +kernel
theorem dL_others_61 : decode cL_others 61 = .ok (.goto 31, 3) := by decide +kernel
theorem dL_others_64 : decode cL_others 64 = .ok (.iload 7, 2) := by decide +kernel
theorem dL_others_66 : decode cL_others 66 = .ok (.iconst 2, 1) := by decide +kernel
theorem dL_others_67 : decode cL_others 67 = .ok (.if_icmp .ne 17, 3) := by decide +kernel
theorem dL_others_70 : decode cL_others 70 = .ok (.bipush 100, 2) := by decide +kernel
theorem dL_others_72 : decode cL_others 72 = .ok (.iload_n 2, 1) := by decide +kernel
theorem dL_others_73 : decode cL_others 73 = .ok (.iconst 2, 1) := by decide +kernel
theorem dL_others_74 : decode cL_others 74 = .ok (.ishr, 1) := by decide +kernel
theorem dL_others_75 : decode cL_others 75 = .ok (.bipush 41, 2) := by decide +kernel
theorem dL_others_77 : decode cL_others 77 = .ok (.invokestatic 23, 3) := by decide +kernel
theorem dL_others_80 : decode cL_others 80 = .ok (.iadd, 1) := by decide +kernel
theorem dL_others_81 : decode cL_others 81 = .ok (.goto 11, 3) := by decide +kernel
theorem dL_others_84 : decode cL_others 84 = .ok (.iload_n 2, 1) := by decide +kernel
theorem dL_others_85 : decode cL_others 85 = .ok (.iconst 2, 1) := by decide +kernel
theorem dL_others_86 : decode cL_others 86 = .ok (.ishr, 1) := by decide +kernel
theorem dL_others_87 : decode cL_others 87 = .ok (.bipush 21, 2) := by decide +kernel
theorem dL_others_89 : decode cL_others 89 = .ok (.invokestatic 23, 3) := by decide +kernel
theorem dL_others_92 : decode cL_others 92 = .ok (.iastore, 1) := by decide +kernel
theorem dL_others_93 : decode cL_others 93 = .ok (.aload_n 0, 1) := by decide +kernel
theorem dL_others_94 : decode cL_others 94 = .ok (.iload 7, 2) := by decide +kernel
theorem dL_others_96 : decode cL_others 96 = .ok (.aload_n 3, 1) := by decide +kernel
theorem dL_others_97 : decode cL_others 97 = .ok (.iconst 2, 1) := by decide +kernel
theorem dL_others_98 : decode cL_others 98 = .ok (.iload 7, 2) := by decide +kernel
theorem dL_others_100 : decode cL_others 100 = .ok (.iadd, 1) := by decide +kernel
theorem dL_others_101 : decode cL_others 101 = .ok (.iaload, 1) := by decide +kernel
theorem dL_others_102 : decode cL_others 102 = .ok (.invokevirtual 84, 3) := by decide +kernel
theorem dL_others_105 : decode cL_others 105 = .ok (.iload 8, 2) := by decide +kernel
theorem dL_others_107 : decode cL_others 107 = .ok (.if_icmp .ne 42, 3) := by decide +kernel
theorem dL_others_110 : decode cL_others 110 = .ok (.aload_n 0, 1) := by decide +kernel
theorem dL_others_111 : decode cL_others 111 = .ok (.iconst 4, 1) := by decide +kernel
theorem dL_others_112 : decode cL_others 112 = .ok (.iconst 0, 1) := by decide +kernel
theorem dL_others_113 : decode cL_others 113 = .ok (.invokevirtual 84, 3) := by decide +kernel
theorem dL_others_116 : decode cL_others 116 = .ok (.bipush (-2), 2) := by decide +kernel
theorem dL_others_118 : decode cL_others 118 = .ok (.if_icmp .ne 31, 3) := by decide +kernel
theorem dL_others_121 : decode cL_others 121 = .ok (.aload_n 0, 1) := by decide +kernel
theorem dL_others_122 : decode cL_others 122 = .ok (.iconst 0, 1) := by decide +kernel
theorem dL_others_123 : decode cL_others 123 = .ok (.bipush 10, 2) := by decide +kernel
theorem dL_others_125 : decode cL_others 125 = .ok (.invokevirtual 84, 3) := by decide +kernel
theorem dL_others_128 : decode cL_others 128 = .ok (.bipush (-2), 2) := by decide +kernel
theorem dL_others_130 : decode cL_others 130 = .ok (.if_icmp .ne 19, 3) := by decide +kernel
theorem dL_others_133 : decode cL_others 133 = .ok (.aload_n 0, 1) := by decide +kernel
theorem dL_others_134 : decode cL_others 134 = .ok (.iconst 2, 1) := by decide +kernel
theorem dL_others_135 : decode cL_others 135 = .ok (.bipush 99, 2) := by decide +kernel
theorem dL_others_137 : decode cL_others 137 = .ok (.invokevirtual 84, 3) := by decide +kernel
theorem dL_others_140 : decode cL_others 140 = .ok (.bipush (-2), 2) := by decide +kernel
theorem dL_others_142 : decode cL_others 142 = .ok (.if_icmp .ne 7, 3) := by decide +kernel
theorem dL_others_145 : decode cL_others 145 = .ok (.iconst 1, 1) := by decide +kernel
theorem dL_others_146 : decode cL_others 146 = .ok (.goto 4, 3) := by decide +kernel
theorem dL_others_149 : decode cL_others 149 = .ok (.iconst 0, 1) := by decide +kernel
theorem dL_others_150 : decode cL_others 150 = .ok (.ireturn, 1) := by decide +kernel
theorem dL_others_151 : decode cL_others 151 = .ok (.iconst 1, 1) := by decide +kernel
theorem dL_others_152 : decode cL_others 152 = .ok (.iload_n 2, 1) := by decide +kernel
theorem dL_others_153 : decode cL_others 153 = .ok (.iconst 3, 1) := by decide +kernel
theorem dL_others_154 : decode cL_others 154 = .ok (.invokestatic 23, 3) := by decide +kernel
theorem dL_others_157 : decode cL_others 157 = .ok (.iadd, 1) := by decide +kernel
theorem dL_others_158 : decode cL_others 158 = .ok (.istore 7, 2) := by decide +kernel
theorem dL_others_160 : decode cL_others 160 = .ok (.iconst 0, 1) := by decide +kernel
theorem dL_others_161 : decode cL_others 161 = .ok (.istore 8, 2) := by decide +kernel
theorem dL_others_163 : decode cL_others 163 = .ok (.iload 8, 2) := by decide +kernel
theorem dL_others_165 : decode cL_others 165 = .ok (.iload 7, 2) := by decide +kernel
theorem dL_others_167 : decode cL_others 167 = .ok (.if_icmp .ge 194, 3) := by decide +kernel
theorem dL_others_170 : decode cL_others 170 = .ok (.iconst 0, 1) := by decide +kernel
theorem dL_others_171 : decode cL_others 171 = .ok (.istore 9, 2) := by decide +kernel
theorem dL_others_173 : decode cL_others 173 = .ok (.iload 9, 2) := by decide +kernel
theorem dL_others_175 : decode cL_others 175 = .ok (.aload_n 3, 1) := by decide +kernel
theorem dL_others_176 : decode cL_others 176 = .ok (.bipush 7, 2) := by decide +kernel
theorem dL_others_178 : decode cL_others 178 = .ok (.iaload, 1) := by decide +kernel
theorem dL_others_179 : decode cL_others 179 = .ok (.if_icmp .ge 104, 3) := by decide +kernel
theorem dL_others_182 : decode cL_others 182 = .ok (.aload 4, 2) := by decide +kernel
theorem dL_others_184 : decode cL_others 184 = .ok (.iload 9, 2) := by decide +kernel
theorem dL_others_186 : decode cL_others 186 = .ok (.laload, 1) := by decide +kernel
theorem dL_others_187 : decode cL_others 187 = .ok (.iconst 4, 1) := by decide +kernel
theorem dL_others_188 : decode cL_others 188 = .ok (.invokestatic 13, 3) := by decide +kernel
theorem dL_others_191 : decode cL_others 191 = .ok (.bipush 8, 2) := by decide +kernel
theorem dL_others_193 : decode cL_others 193 = .ok (.if_icmp .ge 7, 3) := by decide +kernel
theorem dL_others_196 : decode cL_others 196 = .ok (.iconst 2, 1) := by decide +kernel
theorem dL_others_197 : decode cL_others 197 = .ok (.goto 4, 3) := by decide +kernel
theorem dL_others_200 : decode cL_others 200 = .ok (.iconst 1, 1) := by decide +kernel
theorem dL_others_201 : decode cL_others 201 = .ok (.istore 10, 2) := by decide +kernel
theorem dL_others_203 : decode cL_others 203 = .ok (.aload 4, 2) := by decide +kernel
theorem dL_others_205 : decode cL_others 205 = .ok (.iload 9, 2) := by decide +kernel
theorem dL_others_207 : decode cL_others 207 = .ok (.laload, 1) := by decide +kernel
theorem dL_others_208 : decode cL_others 208 = .ok (.iconst 3, 1) := by decide +kernel
theorem dL_others_209 : decode cL_others 209 = .ok (.invokestatic 13, 3) := by decide +kernel
theorem dL_others_212 : decode cL_others 212 = .ok (.ifCond .ne 65, 3) := by decide +kernel
theorem dL_others_215 : decode cL_others 215 = .ok (.aload 4, 2) := by decide +kernel
theorem dL_others_217 : decode cL_others 217 = .ok (.iload 9, 2) := by decide +kernel
theorem dL_others_219 : decode cL_others 219 = .ok (.laload, 1) := by decide +kernel
theorem dL_others_220 : decode cL_others 220 = .ok (.iconst 4, 1) := by decide +kernel
theorem dL_others_221 : decode cL_others 221 = .ok (.invokestatic 13, 3) := by decide +kernel
theorem dL_others_224 : decode cL_others 224 = .ok (.bipush 24, 2) := by decide +kernel
theorem dL_others_226 : decode cL_others 226 = .ok (.if_icmp .ge 51, 3) := by decide +kernel
theorem dL_others_229 : decode cL_others 229 = .ok (.aload 4, 2) := by decide +kernel
theorem dL_others_231 : decode cL_others 231 = .ok (.iload 9, 2) := by decide +kernel
theorem dL_others_233 : decode cL_others 233 = .ok (.aload 4, 2) := by decide +kernel
theorem dL_others_235 : decode cL_others 235 = .ok (.iload 9, 2) := by decide +kernel
theorem dL_others_237 : decode cL_others 237 = .ok (.laload, 1) := by decide +kernel
theorem dL_others_238 : decode cL_others 238 = .ok (.iconst 5, 1) := by decide +kernel
theorem dL_others_239 : decode cL_others 239 = .ok (.aload 4, 2) := by decide +kernel
theorem dL_others_241 : decode cL_others 241 = .ok (.iload 9, 2) := by decide +kernel
theorem dL_others_243 : decode cL_others 243 = .ok (.laload, 1) := by decide +kernel
theorem dL_others_244 : decode cL_others 244 = .ok (.iconst 5, 1) := by decide +kernel
theorem dL_others_245 : decode cL_others 245 = .ok (.invokestatic 13, 3) := by decide +kernel
theorem dL_others_248 : decode cL_others 248 = .ok (.iload 10, 2) := by decide +kernel
theorem dL_others_250 : decode cL_others 250 = .ok (.iadd, 1) := by decide +kernel
theorem dL_others_251 : decode cL_others 251 = .ok (.bipush 60, 2) := by decide +kernel
theorem dL_others_253 : decode cL_others 253 = .ok (.if_icmp .le 8, 3) := by decide +kernel
theorem dL_others_256 : decode cL_others 256 = .ok (.bipush 60, 2) := by decide +kernel
theorem dL_others_258 : decode cL_others 258 = .ok (.goto 15, 3) := by decide +kernel
theorem dL_others_261 : decode cL_others 261 = .ok (.aload 4, 2) := by decide +kernel
theorem dL_others_263 : decode cL_others 263 = .ok (.iload 9, 2) := by decide +kernel
theorem dL_others_265 : decode cL_others 265 = .ok (.laload, 1) := by decide +kernel
theorem dL_others_266 : decode cL_others 266 = .ok (.iconst 5, 1) := by decide +kernel
theorem dL_others_267 : decode cL_others 267 = .ok (.invokestatic 13, 3) := by decide +kernel
theorem dL_others_270 : decode cL_others 270 = .ok (.iload 10, 2) := by decide +kernel
theorem dL_others_272 : decode cL_others 272 = .ok (.iadd, 1) := by decide +kernel
theorem dL_others_273 : decode cL_others 273 = .ok (.invokestatic 51, 3) := by decide +kernel
theorem dL_others_276 : decode cL_others 276 = .ok (.lastore, 1) := by decide +kernel
theorem dL_others_277 : decode cL_others 277 = .ok (.iinc 9 1, 3) := by decide +kernel
theorem dL_others_280 : decode cL_others 280 = .ok (.goto (-107), 3) := by decide +kernel
theorem dL_others_283 : decode cL_others 283 = .ok (.iconst 0, 1) := by decide +kernel
theorem dL_others_284 : decode cL_others 284 = .ok (.istore 9, 2) := by decide +kernel
theorem dL_others_286 : decode cL_others 286 = .ok (.iload 9, 2) := by decide +kernel
theorem dL_others_288 : decode cL_others 288 = .ok (.bipush 30, 2) := by decide +kernel
theorem dL_others_290 : decode cL_others 290 = .ok (.if_icmp .ge 34, 3) := by decide +kernel
theorem dL_others_293 : decode cL_others 293 = .ok (.aload 5, 2) := by decide +kernel
theorem dL_others_295 : decode cL_others 295 = .ok (.iload 9, 2) := by decide +kernel
theorem dL_others_297 : decode cL_others 297 = .ok (.iload 9, 2) := by decide +kernel
theorem dL_others_299 : decode cL_others 299 = .ok (.bipush 6, 2) := by decide +kernel
theorem dL_others_301 : decode cL_others 301 = .ok (.irem, 1) := by decide +kernel
theorem dL_others_302 : decode cL_others 302 = .ok (.iconst 5, 1) := by decide +kernel
theorem dL_others_303 : decode cL_others 303 = .ok (.if_icmp .ge 13, 3) := by decide +kernel
theorem dL_others_306 : decode cL_others 306 = .ok (.aload 5, 2) := by decide +kernel
theorem dL_others_308 : decode cL_others 308 = .ok (.iload 9, 2) := by decide +kernel
theorem dL_others_310 : decode cL_others 310 = .ok (.iconst 1, 1) := by decide +kernel
theorem dL_others_311 : decode cL_others 311 = .ok (.iadd, 1) := by decide +kernel
theorem dL_others_312 : decode cL_others 312 = .ok (.iaload, 1) := by decide +kernel
theorem dL_others_313 : decode cL_others 313 = .ok (.goto 4, 3) := by decide +kernel
theorem dL_others_316 : decode cL_others 316 = .ok (.iconst 0, 1) := by decide +kernel
theorem dL_others_317 : decode cL_others 317 = .ok (.iastore, 1) := by decide +kernel
theorem dL_others_318 : decode cL_others 318 = .ok (.iinc 9 1, 3) := by decide +kernel
theorem dL_others_321 : decode cL_others 321 = .ok (.goto (-35), 3) := by decide +kernel
theorem dL_others_324 : decode cL_others 324 = .ok (.iconst 0, 1) := by decide +kernel
theorem dL_others_325 : decode cL_others 325 = .ok (.istore 9, 2) := by decide +kernel
theorem dL_others_327 : decode cL_others 327 = .ok (.iload 9, 2) := by decide +kernel
theorem dL_others_329 : decode cL_others 329 = .ok (.bipush 10, 2) := by decide +kernel
theorem dL_others_331 : decode cL_others 331 = .ok (.if_icmp .ge 17, 3) := by decide +kernel
theorem dL_others_334 : decode cL_others 334 = .ok (.aload 6, 2) := by decide +kernel
theorem dL_others_336 : decode cL_others 336 = .ok (.iconst 2, 1) := by decide +kernel
theorem dL_others_337 : decode cL_others 337 = .ok (.iload 9, 2) := by decide +kernel
theorem dL_others_339 : decode cL_others 339 = .ok (.imul, 1) := by decide +kernel
theorem dL_others_340 : decode cL_others 340 = .ok (.iconst 0, 1) := by decide +kernel
theorem dL_others_341 : decode cL_others 341 = .ok (.iastore, 1) := by decide +kernel
theorem dL_others_342 : decode cL_others 342 = .ok (.iinc 9 1, 3) := by decide +kernel
theorem dL_others_345 : decode cL_others 345 = .ok (.goto (-18), 3) := by decide +kernel
theorem dL_others_348 : decode cL_others 348 = .ok (.aload_n 3, 1) := by decide +kernel
theorem dL_others_349 : decode cL_others 349 = .ok (.iconst 0, 1) := by decide +kernel
theorem dL_others_350 : decode cL_others 350 = .ok (.dup2, 1) := by decide +kernel
theorem dL_others_351 : decode cL_others 351 = .ok (.iaload, 1) := by decide +kernel
theorem dL_others_352 : decode cL_others 352 = .ok (.iconst 1, 1) := by decide +kernel
theorem dL_others_353 : decode cL_others 353 = .ok (.iadd, 1) := by decide +kernel
theorem dL_others_354 : decode cL_others 354 = .ok (.iastore, 1) := by decide +kernel
theorem dL_others_355 : decode cL_others 355 = .ok (.iinc 8 1, 3) := by decide +kernel
theorem dL_others_358 : decode cL_others 358 = .ok (.goto (-195), 3) := by decide +kernel
theorem dL_others_361 : decode cL_others 361 = .ok (.aload_n 0, 1) := by decide +kernel
theorem dL_others_362 : decode cL_others 362 = .ok (.iload 7, 2) := by decide +kernel
theorem dL_others_364 : decode cL_others 364 = .ok (.invokevirtual 87, 3) := by decide +kernel
theorem dL_others_367 : decode cL_others 367 = .ok (.aload_n 3, 1) := by decide +kernel
theorem dL_others_368 : decode cL_others 368 = .ok (.iconst 0, 1) := by decide +kernel
theorem dL_others_369 : decode cL_others 369 = .ok (.iaload, 1) := by decide +kernel
theorem dL_others_370 : decode cL_others 370 = .ok (.if_icmp .ne 28, 3) := by decide +kernel
theorem dL_others_373 : decode cL_others 373 = .ok (.aload_n 0, 1) := by decide +kernel
theorem dL_others_374 : decode cL_others 374 = .ok (.iconst 0, 1) := by decide +kernel
theorem dL_others_375 : decode cL_others 375 = .ok (.invokevirtual 87, 3) := by decide +kernel
theorem dL_others_378 : decode cL_others 378 = .ok (.bipush (-2), 2) := by decide +kernel
theorem dL_others_380 : decode cL_others 380 = .ok (.if_icmp .ne 18, 3) := by decide +kernel
theorem dL_others_383 : decode cL_others 383 = .ok (.aload_n 0, 1) := by decide +kernel
theorem dL_others_384 : decode cL_others 384 = .ok (.bipush 21, 2) := by decide +kernel
theorem dL_others_386 : decode cL_others 386 = .ok (.invokevirtual 87, 3) := by decide +kernel
theorem dL_others_389 : decode cL_others 389 = .ok (.bipush (-2), 2) := by decide +kernel
theorem dL_others_391 : decode cL_others 391 = .ok (.if_icmp .ne 7, 3) := by decide +kernel
theorem dL_others_394 : decode cL_others 394 = .ok (.iconst 1, 1) := by decide +kernel
theorem dL_others_395 : decode cL_others 395 = .ok (.goto 4, 3) := by decide +kernel
theorem dL_others_398 : decode cL_others 398 = .ok (.iconst 0, 1) := by decide +kernel
theorem dL_others_399 : decode cL_others 399 = .ok (.ireturn, 1) := by decide +kernel
set_option maxRecDepth 20000 in
theorem ggL_isPot_L_part : GoodIn wsL_isPot wsL_part := goodIn_r _ [4, 5] (by decide +kernel) (by decide +kernel)
set_option maxRecDepth 20000 in
theorem gL_isPot_L_part : GoodIn wsL_isPot (va_wsS RL 13 yL_part wsL_part) := goodIn_app (goodIn_of _ (by decide +kernel)) ggL_isPot_L_part
set_option maxRecDepth 20000 in
theorem ggL_isPot_X6_of : GoodIn wsL_isPot wsX6_of := goodIn_r _ [10, 11, 12, 13, 14, 15, 16, 17, 18, 19, 20, 21, 22, 23, 24, 25, 26, 27, 28, 29, 30, 31, 32, 33, 34, 35, 36, 37, 38, 39, 40, 41, 42, 43, 44, 102, 103, 104, 105, 106, 107, 108, 109, 110, 111, 112, 113, 114, 115, 116, 117, 118, 119, 120, 121, 122, 123] (by decide +kernel) (by decide +kernel)
set_option maxRecDepth 20000 in
theorem gL_isPot_X6_of : GoodIn wsL_isPot (wsV RL 90 RX6 yX6_of wsX6_of) := goodIn_app (goodIn_of _ (by decide +kernel)) ggL_isPot_X6_of
set_option maxRecDepth 20000 in
theorem ggL_isPot_X6_why : GoodIn wsL_isPot wsX6_why := goodIn_r _ [48, 11, 49, 50, 51, 15, 52, 17, 53, 18, 19, 20, 21, 22, 23, 24, 25, 26, 27, 28, 29, 30, 31, 32, 33, 34, 35, 36, 37, 38, 39, 54, 55, 56, 57, 58, 59, 60, 61, 40, 62, 63, 64, 65, 66, 67, 68, 69, 70, 71, 72, 73, 74, 75, 76, 77, 78, 79, 80, 81, 82, 83, 42, 43, 44, 102, 103, 104, 105, 106, 107, 108, 109, 110, 111, 112, 113, 114, 115, 116, 117, 118, 119, 120, 121, 122, 123] (by decide +kernel) (by decide +kernel)
set_option maxRecDepth 20000 in
theorem gL_isPot_X6_why : GoodIn wsL_isPot (wsV RL 75 RX6 yX6_why wsX6_why) := goodIn_app (goodIn_of _ (by decide +kernel)) ggL_isPot_X6_why
set_option maxRecDepth 20000 in
theorem ggL_isPot_L_why : GoodIn wsL_isPot wsL_why := goodIn_r _ [86, 1, 2, 3, 4, 5, 87, 88, 89] (by decide +kernel) (by decide +kernel)
set_option maxRecDepth 20000 in
theorem gL_isPot_L_why : GoodIn wsL_isPot (va_wsS RL 71 yL_why wsL_why) := goodIn_app (goodIn_of _ (by decide +kernel)) ggL_isPot_L_why
set_option maxRecDepth 20000 in
theorem ggL_isPot_X6_dryIn : GoodIn wsL_isPot wsX6_dryIn := goodIn_r _ [93, 11, 94, 95, 96, 15, 97, 17, 18, 19, 20, 21, 22, 23, 35, 36, 37, 38, 39, 29, 30, 31, 32, 33, 34, 41, 42, 43, 44, 28, 54, 55, 56, 57, 53, 58, 59, 60, 61, 40, 98, 99, 100, 101, 102, 103, 104, 105, 106, 107, 108, 109, 110, 111, 112, 113, 114, 115, 116, 117, 118, 119, 120, 121, 122, 123] (by decide +kernel) (by decide +kernel)
set_option maxRecDepth 20000 in
theorem gL_isPot_X6_dryIn : GoodIn wsL_isPot (wsV RL 93 RX6 yX6_dryIn wsX6_dryIn) := goodIn_app (goodIn_of _ (by decide +kernel)) ggL_isPot_X6_dryIn
theorem dL_isPot_0 : decode cL_isPot 0 = .ok (.bipush (-6), 2) := by decide +kernel
theorem dL_isPot_2 : decode cL_isPot 2 = .ok (.istore 4, 2) := by decide +kernel
theorem dL_isPot_4 : decode cL_isPot 4 = .ok (.aload_n 3, 1) := by decide +kernel
theorem dL_isPot_5 : decode cL_isPot 5 = .ok (.iload_n 1, 1) := by decide +kernel
theorem dL_isPot_6 : decode cL_isPot 6 = .ok (.laload, 1) := by decide +kernel
theorem dL_isPot_7 : decode cL_isPot 7 = .ok (.iconst 4, 1) := by decide +kernel
theorem dL_isPot_8 : decode cL_isPot 8 = .ok (.invokestatic 13, 3) := by decide +kernel
theorem dL_isPot_11 : decode cL_isPot 11 = .ok (.istore 5, 2) := by decide +kernel
theorem dL_isPot_13 : decode cL_isPot 13 = .ok (.aload_n 3, 1) := by decide +kernel
theorem dL_isPot_14 : decode cL_isPot 14 = .ok (.iload_n 1, 1) := by decide +kernel
theorem dL_isPot_15 : decode cL_isPot 15 = .ok (.laload, 1) := by decide +kernel
theorem dL_isPot_16 : decode cL_isPot 16 = .ok (.iconst 3, 1) := by decide +kernel
theorem dL_isPot_17 : decode cL_isPot 17 = .ok (.invokestatic 13, 3) := by decide +kernel
theorem dL_isPot_20 : decode cL_isPot 20 = .ok (.istore 6, 2) := by decide +kernel
theorem dL_isPot_22 : decode cL_isPot 22 = .ok (.aload_n 3, 1) := by decide +kernel
theorem dL_isPot_23 : decode cL_isPot 23 = .ok (.iload_n 1, 1) := by decide +kernel
theorem dL_isPot_24 : decode cL_isPot 24 = .ok (.laload, 1) := by decide +kernel
theorem dL_isPot_25 : decode cL_isPot 25 = .ok (.iconst 5, 1) := by decide +kernel
theorem dL_isPot_26 : decode cL_isPot 26 = .ok (.invokestatic 13, 3) := by decide +kernel
theorem dL_isPot_29 : decode cL_isPot 29 = .ok (.istore 7, 2) := by decide +kernel
theorem dL_isPot_31 : decode cL_isPot 31 = .ok (.aload_n 2, 1) := by decide +kernel
theorem dL_isPot_32 : decode cL_isPot 32 = .ok (.iconst 2, 1) := by decide +kernel
theorem dL_isPot_33 : decode cL_isPot 33 = .ok (.iaload, 1) := by decide +kernel
theorem dL_isPot_34 : decode cL_isPot 34 = .ok (.aload_n 3, 1) := by decide +kernel
theorem dL_isPot_35 : decode cL_isPot 35 = .ok (.iload_n 1, 1) := by decide +kernel
theorem dL_isPot_36 : decode cL_isPot 36 = .ok (.laload, 1) := by decide +kernel
theorem dL_isPot_37 : decode cL_isPot 37 = .ok (.iconst 1, 1) := by decide +kernel
theorem dL_isPot_38 : decode cL_isPot 38 = .ok (.invokestatic 13, 3) := by decide +kernel
theorem dL_isPot_41 : decode cL_isPot 41 = .ok (.imul, 1) := by decide +kernel
theorem dL_isPot_42 : decode cL_isPot 42 = .ok (.iload 7, 2) := by decide +kernel
theorem dL_isPot_44 : decode cL_isPot 44 = .ok (.isub, 1) := by decide +kernel
theorem dL_isPot_45 : decode cL_isPot 45 = .ok (.istore 8, 2) := by decide +kernel
theorem dL_isPot_47 : decode cL_isPot 47 = .ok (.iload 6, 2) := by decide +kernel
theorem dL_isPot_49 : decode cL_isPot 49 = .ok (.ifCond .eq 7, 3) := by decide +kernel
theorem dL_isPot_52 : decode cL_isPot 52 = .ok (.iconst 0, 1) := by decide +kernel
theorem dL_isPot_53 : decode cL_isPot 53 = .ok (.goto 46, 3) := by decide +kernel
theorem dL_isPot_56 : decode cL_isPot 56 = .ok (.iload 5, 2) := by decide +kernel
theorem dL_isPot_58 : decode cL_isPot 58 = .ok (.bipush 24, 2) := by decide +kernel
theorem dL_isPot_60 : decode cL_isPot 60 = .ok (.if_icmp .ne 8, 3) := by decide +kernel
theorem dL_isPot_63 : decode cL_isPot 63 = .ok (.bipush (-5), 2) := by decide +kernel
theorem dL_isPot_65 : decode cL_isPot 65 = .ok (.goto 34, 3) := by decide +kernel
theorem dL_isPot_68 : decode cL_isPot 68 = .ok (.iload 8, 2) := by decide +kernel
theorem dL_isPot_70 : decode cL_isPot 70 = .ok (.iconst 1, 1) := by decide +kernel
theorem dL_isPot_71 : decode cL_isPot 71 = .ok (.if_icmp .ge 7, 3) := by decide +kernel
theorem dL_isPot_74 : decode cL_isPot 74 = .ok (.iconst 0, 1) := by decide +kernel
theorem dL_isPot_75 : decode cL_isPot 75 = .ok (.goto 24, 3) := by decide +kernel
theorem dL_isPot_78 : decode cL_isPot 78 = .ok (.iload 5, 2) := by decide +kernel
theorem dL_isPot_80 : decode cL_isPot 80 = .ok (.bipush 8, 2) := by decide +kernel
theorem dL_isPot_82 : decode cL_isPot 82 = .ok (.if_icmp .ge 15, 3) := by decide +kernel
theorem dL_isPot_85 : decode cL_isPot 85 = .ok (.iload 8, 2) := by decide +kernel
theorem dL_isPot_87 : decode cL_isPot 87 = .ok (.iconst 2, 1) := by decide +kernel
theorem dL_isPot_88 : decode cL_isPot 88 = .ok (.idiv, 1) := by decide +kernel
theorem dL_isPot_89 : decode cL_isPot 89 = .ok (.iload 8, 2) := by decide +kernel
theorem dL_isPot_91 : decode cL_isPot 91 = .ok (.iconst 2, 1) := by decide +kernel
theorem dL_isPot_92 : decode cL_isPot 92 = .ok (.irem, 1) := by decide +kernel
theorem dL_isPot_93 : decode cL_isPot 93 = .ok (.iadd, 1) := by decide +kernel
theorem dL_isPot_94 : decode cL_isPot 94 = .ok (.goto 5, 3) := by decide +kernel
theorem dL_isPot_97 : decode cL_isPot 97 = .ok (.iload 8, 2) := by decide +kernel
theorem dL_isPot_99 : decode cL_isPot 99 = .ok (.istore 9, 2) := by decide +kernel
theorem dL_isPot_101 : decode cL_isPot 101 = .ok (.aload_n 0, 1) := by decide +kernel
theorem dL_isPot_102 : decode cL_isPot 102 = .ok (.iload_n 1, 1) := by decide +kernel
theorem dL_isPot_103 : decode cL_isPot 103 = .ok (.iconst 0, 1) := by decide +kernel
theorem dL_isPot_104 : decode cL_isPot 104 = .ok (.invokevirtual 90, 3) := by decide +kernel
theorem dL_isPot_107 : decode cL_isPot 107 = .ok (.aload_n 3, 1) := by decide +kernel
theorem dL_isPot_108 : decode cL_isPot 108 = .ok (.iload_n 1, 1) := by decide +kernel
theorem dL_isPot_109 : decode cL_isPot 109 = .ok (.laload, 1) := by decide +kernel
theorem dL_isPot_110 : decode cL_isPot 110 = .ok (.iconst 0, 1) := by decide +kernel
theorem dL_isPot_111 : decode cL_isPot 111 = .ok (.invokestatic 13, 3) := by decide +kernel
theorem dL_isPot_114 : decode cL_isPot 114 = .ok (.if_icmp .ne 211, 3) := by decide +kernel
theorem dL_isPot_117 : decode cL_isPot 117 = .ok (.aload_n 0, 1) := by decide +kernel
theorem dL_isPot_118 : decode cL_isPot 118 = .ok (.iload_n 1, 1) := by decide +kernel
theorem dL_isPot_119 : decode cL_isPot 119 = .ok (.iconst 1, 1) := by decide +kernel
theorem dL_isPot_120 : decode cL_isPot 120 = .ok (.invokevirtual 90, 3) := by decide +kernel
theorem dL_isPot_123 : decode cL_isPot 123 = .ok (.aload_n 3, 1) := by decide +kernel
theorem dL_isPot_124 : decode cL_isPot 124 = .ok (.iload_n 1, 1) := by decide +kernel
theorem dL_isPot_125 : decode cL_isPot 125 = .ok (.laload, 1) := by decide +kernel
theorem dL_isPot_126 : decode cL_isPot 126 = .ok (.iconst 1, 1) := by decide +kernel
theorem dL_isPot_127 : decode cL_isPot 127 = .ok (.invokestatic 13, 3) := by decide +kernel
theorem dL_isPot_130 : decode cL_isPot 130 = .ok (.if_icmp .ne 195, 3) := by decide +kernel
theorem dL_isPot_133 : decode cL_isPot 133 = .ok (.aload_n 0, 1) := by decide +kernel
theorem dL_isPot_134 : decode cL_isPot 134 = .ok (.iload_n 1, 1) := by decide +kernel
theorem dL_isPot_135 : decode cL_isPot 135 = .ok (.iconst 2, 1) := by decide +kernel
theorem dL_isPot_136 : decode cL_isPot 136 = .ok (.invokevirtual 90, 3) := by decide +kernel
theorem dL_isPot_139 : decode cL_isPot 139 = .ok (.iload 6, 2) := by decide +kernel
theorem dL_isPot_141 : decode cL_isPot 141 = .ok (.if_icmp .ne 184, 3) := by decide +kernel
theorem dL_isPot_144 : decode cL_isPot 144 = .ok (.aload_n 0, 1) := by decide +kernel
theorem dL_isPot_145 : decode cL_isPot 145 = .ok (.iload_n 1, 1) := by decide +kernel
theorem dL_isPot_146 : decode cL_isPot 146 = .ok (.iconst 3, 1) := by decide +kernel
theorem dL_isPot_147 : decode cL_isPot 147 = .ok (.invokevirtual 90, 3) := by decide +kernel
theorem dL_isPot_150 : decode cL_isPot 150 = .ok (.iload 5, 2) := by decide +kernel
theorem dL_isPot_152 : decode cL_isPot 152 = .ok (.bipush 24, 2) := by decide +kernel
theorem dL_isPot_154 : decode cL_isPot 154 = .ok (.if_icmp .ge 7, 3) := by decide +kernel
theorem dL_isPot_157 : decode cL_isPot 157 = .ok (.iconst 0, 1) := by decide +kernel
theorem dL_isPot_158 : decode cL_isPot 158 = .ok (.goto 8, 3) := by decide +kernel
theorem dL_isPot_161 : decode cL_isPot 161 = .ok (.iload 5, 2) := by decide +kernel
theorem dL_isPot_163 : decode cL_isPot 163 = .ok (.bipush 23, 2) := by decide +kernel
theorem dL_isPot_165 : decode cL_isPot 165 = .ok (.isub, 1) := by decide +kernel
theorem dL_isPot_166 : decode cL_isPot 166 = .ok (.if_icmp .ne 159, 3) := by decide +kernel
theorem dL_isPot_169 : decode cL_isPot 169 = .ok (.aload_n 0, 1) := by decide +kernel
theorem dL_isPot_170 : decode cL_isPot 170 = .ok (.iload_n 1, 1) := by decide +kernel
theorem dL_isPot_171 : decode cL_isPot 171 = .ok (.iconst 4, 1) := by decide +kernel
theorem dL_isPot_172 : decode cL_isPot 172 = .ok (.invokevirtual 90, 3) := by decide +kernel
theorem dL_isPot_175 : decode cL_isPot 175 = .ok (.iload 5, 2) := by decide +kernel
theorem dL_isPot_177 : decode cL_isPot 177 = .ok (.bipush 24, 2) := by decide +kernel
theorem dL_isPot_179 : decode cL_isPot 179 = .ok (.if_icmp .ge 8, 3) := by decide +kernel
theorem dL_isPot_182 : decode cL_isPot 182 = .ok (.iload 5, 2) := by decide +kernel
theorem dL_isPot_184 : decode cL_isPot 184 = .ok (.goto 5, 3) := by decide +kernel
theorem dL_isPot_187 : decode cL_isPot 187 = .ok (.iload 4, 2) := by decide +kernel
theorem dL_isPot_189 : decode cL_isPot 189 = .ok (.if_icmp .ne 136, 3) := by decide +kernel
theorem dL_isPot_192 : decode cL_isPot 192 = .ok (.iload 7, 2) := by decide +kernel
theorem dL_isPot_194 : decode cL_isPot 194 = .ok (.bipush 60, 2) := by decide +kernel
theorem dL_isPot_196 : decode cL_isPot 196 = .ok (.if_icmp .eq 14, 3) := by decide +kernel
theorem dL_isPot_199 : decode cL_isPot 199 = .ok (.aload_n 0, 1) := by decide +kernel
theorem dL_isPot_200 : decode cL_isPot 200 = .ok (.iload_n 1, 1) := by decide +kernel
theorem dL_isPot_201 : decode cL_isPot 201 = .ok (.iconst 5, 1) := by decide +kernel
theorem dL_isPot_202 : decode cL_isPot 202 = .ok (.invokevirtual 90, 3) := by decide +kernel
theorem dL_isPot_205 : decode cL_isPot 205 = .ok (.iload 7, 2) := by decide +kernel
theorem dL_isPot_207 : decode cL_isPot 207 = .ok (.if_icmp .ne 118, 3) := by decide +kernel
theorem dL_isPot_210 : decode cL_isPot 210 = .ok (.aload_n 0, 1) := by decide +kernel
theorem dL_isPot_211 : decode cL_isPot 211 = .ok (.iload_n 1, 1) := by decide +kernel
theorem dL_isPot_212 : decode cL_isPot 212 = .ok (.bipush 6, 2) := by decide +kernel
theorem dL_isPot_214 : decode cL_isPot 214 = .ok (.invokevirtual 90, 3) := by decide +kernel
theorem dL_isPot_217 : decode cL_isPot 217 = .ok (.aload_n 3, 1) := by decide +kernel
theorem dL_isPot_218 : decode cL_isPot 218 = .ok (.iload_n 1, 1) := by decide +kernel
theorem dL_isPot_219 : decode cL_isPot 219 = .ok (.laload, 1) := by decide +kernel
theorem dL_isPot_220 : decode cL_isPot 220 = .ok (.bipush 7, 2) := by decide +kernel
theorem dL_isPot_222 : decode cL_isPot 222 = .ok (.invokestatic 13, 3) := by decide +kernel
theorem dL_isPot_225 : decode cL_isPot 225 = .ok (.ifCond .le 13, 3) := by decide +kernel
theorem dL_isPot_228 : decode cL_isPot 228 = .ok (.aload_n 3, 1) := by decide +kernel
theorem dL_isPot_229 : decode cL_isPot 229 = .ok (.iload_n 1, 1) := by decide +kernel
theorem dL_isPot_230 : decode cL_isPot 230 = .ok (.laload, 1) := by decide +kernel
theorem dL_isPot_231 : decode cL_isPot 231 = .ok (.iconst 2, 1) := by decide +kernel
theorem dL_isPot_232 : decode cL_isPot 232 = .ok (.invokestatic 13, 3) := by decide +kernel
theorem dL_isPot_235 : decode cL_isPot 235 = .ok (.goto 5, 3) := by decide +kernel
theorem dL_isPot_238 : decode cL_isPot 238 = .ok (.iload 4, 2) := by decide +kernel
theorem dL_isPot_240 : decode cL_isPot 240 = .ok (.if_icmp .ne 85, 3) := by decide +kernel
theorem dL_isPot_243 : decode cL_isPot 243 = .ok (.aload_n 0, 1) := by decide +kernel
theorem dL_isPot_244 : decode cL_isPot 244 = .ok (.iload_n 1, 1) := by decide +kernel
theorem dL_isPot_245 : decode cL_isPot 245 = .ok (.bipush 7, 2) := by decide +kernel
theorem dL_isPot_247 : decode cL_isPot 247 = .ok (.invokevirtual 90, 3) := by decide +kernel
theorem dL_isPot_250 : decode cL_isPot 250 = .ok (.aload_n 3, 1) := by decide +kernel
theorem dL_isPot_251 : decode cL_isPot 251 = .ok (.iload_n 1, 1) := by decide +kernel
theorem dL_isPot_252 : decode cL_isPot 252 = .ok (.laload, 1) := by decide +kernel
theorem dL_isPot_253 : decode cL_isPot 253 = .ok (.bipush 6, 2) := by decide +kernel
theorem dL_isPot_255 : decode cL_isPot 255 = .ok (.invokestatic 13, 3) := by decide +kernel
theorem dL_isPot_258 : decode cL_isPot 258 = .ok (.ifCond .le 16, 3) := by decide +kernel
theorem dL_isPot_261 : decode cL_isPot 261 = .ok (.aload_n 3, 1) := by decide +kernel
theorem dL_isPot_262 : decode cL_isPot 262 = .ok (.iload_n 1, 1) := by decide +kernel
theorem dL_isPot_263 : decode cL_isPot 263 = .ok (.laload, 1) := by decide +kernel
theorem dL_isPot_264 : decode cL_isPot 264 = .ok (.bipush 6, 2) := by decide +kernel
theorem dL_isPot_266 : decode cL_isPot 266 = .ok (.invokestatic 13, 3) := by decide +kernel
theorem dL_isPot_269 : decode cL_isPot 269 = .ok (.iconst 1, 1) := by decide +kernel
theorem dL_isPot_270 : decode cL_isPot 270 = .ok (.isub, 1) := by decide +kernel
theorem dL_isPot_271 : decode cL_isPot 271 = .ok (.goto 5, 3) := by decide +kernel
theorem dL_isPot_274 : decode cL_isPot 274 = .ok (.iload 4, 2) := by decide +kernel
theorem dL_isPot_276 : decode cL_isPot 276 = .ok (.if_icmp .ne 49, 3) := by decide +kernel
theorem dL_isPot_279 : decode cL_isPot 279 = .ok (.aload_n 0, 1) := by decide +kernel
theorem dL_isPot_280 : decode cL_isPot 280 = .ok (.iload_n 1, 1) := by decide +kernel
theorem dL_isPot_281 : decode cL_isPot 281 = .ok (.bipush 8, 2) := by decide +kernel
theorem dL_isPot_283 : decode cL_isPot 283 = .ok (.invokevirtual 90, 3) := by decide +kernel
theorem dL_isPot_286 : decode cL_isPot 286 = .ok (.aload_n 3, 1) := by decide +kernel
theorem dL_isPot_287 : decode cL_isPot 287 = .ok (.iload_n 1, 1) := by decide +kernel
theorem dL_isPot_288 : decode cL_isPot 288 = .ok (.laload, 1) := by decide +kernel
theorem dL_isPot_289 : decode cL_isPot 289 = .ok (.bipush 7, 2) := by decide +kernel
theorem dL_isPot_291 : decode cL_isPot 291 = .ok (.invokestatic 13, 3) := by decide +kernel
theorem dL_isPot_294 : decode cL_isPot 294 = .ok (.if_icmp .ne 31, 3) := by decide +kernel
theorem dL_isPot_297 : decode cL_isPot 297 = .ok (.aload_n 0, 1) := by decide +kernel
theorem dL_isPot_298 : decode cL_isPot 298 = .ok (.iload_n 1, 1) := by decide +kernel
theorem dL_isPot_299 : decode cL_isPot 299 = .ok (.invokevirtual 75, 3) := by decide +kernel
theorem dL_isPot_302 : decode cL_isPot 302 = .ok (.iload_n 1, 1) := by decide +kernel
theorem dL_isPot_303 : decode cL_isPot 303 = .ok (.aload_n 2, 1) := by decide +kernel
theorem dL_isPot_304 : decode cL_isPot 304 = .ok (.aload_n 3, 1) := by decide +kernel
theorem dL_isPot_305 : decode cL_isPot 305 = .ok (.invokestatic 71, 3) := by decide +kernel
theorem dL_isPot_308 : decode cL_isPot 308 = .ok (.if_icmp .ne 17, 3) := by decide +kernel
theorem dL_isPot_311 : decode cL_isPot 311 = .ok (.aload_n 0, 1) := by decide +kernel
theorem dL_isPot_312 : decode cL_isPot 312 = .ok (.iload_n 1, 1) := by decide +kernel
theorem dL_isPot_313 : decode cL_isPot 313 = .ok (.invokevirtual 93, 3) := by decide +kernel
theorem dL_isPot_316 : decode cL_isPot 316 = .ok (.iload 9, 2) := by decide +kernel
theorem dL_isPot_318 : decode cL_isPot 318 = .ok (.if_icmp .ne 7, 3) := by decide +kernel
theorem dL_isPot_321 : decode cL_isPot 321 = .ok (.iconst 1, 1) := by decide +kernel
theorem dL_isPot_322 : decode cL_isPot 322 = .ok (.goto 4, 3) := by decide +kernel
theorem dL_isPot_325 : decode cL_isPot 325 = .ok (.iconst 0, 1) := by decide +kernel
theorem dL_isPot_326 : decode cL_isPot 326 = .ok (.ireturn, 1) := by decide +kernel
set_option maxRecDepth 20000 in
theorem ggL_arePupils_L_part : GoodIn wsL_arePupils wsL_part := goodIn_r _ [4, 5] (by decide +kernel) (by decide +kernel)
set_option maxRecDepth 20000 in
theorem gL_arePupils_L_part : GoodIn wsL_arePupils (va_wsS RL 13 yL_part wsL_part) := goodIn_app (goodIn_of _ (by decide +kernel)) ggL_arePupils_L_part
set_option maxRecDepth 20000 in
theorem ggL_arePupils_L_wheel : GoodIn wsL_arePupils wsL_wheel := goodIn_r _ [8] (by decide +kernel) (by decide +kernel)
set_option maxRecDepth 20000 in
theorem gL_arePupils_L_wheel : GoodIn wsL_arePupils (va_wsS RL 43 yL_wheel wsL_wheel) := goodIn_app (goodIn_of _ (by decide +kernel)) ggL_arePupils_L_wheel
set_option maxRecDepth 20000 in
theorem ggL_arePupils_X6_ofPupil : GoodIn wsL_arePupils wsX6_ofPupil := goodIn_r _ [13, 14, 15, 16, 17, 18, 19, 20, 21, 22, 23, 24, 25, 26, 27, 28, 29, 30, 31, 32, 33, 34, 35, 36, 37, 38, 39, 40, 41, 42, 43, 44, 45, 46, 47, 48, 49, 50, 51, 52, 53, 54, 55, 56, 57, 58, 59, 60, 61, 62, 63, 64, 65, 66, 67, 68, 69, 70, 83, 84, 85, 86, 87, 88, 89, 90, 91, 92, 93, 94, 95, 96, 97, 98, 99, 100, 101, 102, 103, 104, 105, 106, 107] (by decide +kernel) (by decide +kernel)
set_option maxRecDepth 20000 in
theorem gL_arePupils_X6_ofPupil : GoodIn wsL_arePupils (wsV RL 96 RX6 yX6_ofPupil wsX6_ofPupil) := goodIn_app (goodIn_of _ (by decide +kernel)) ggL_arePupils_X6_ofPupil
set_option maxRecDepth 20000 in
theorem ggL_arePupils_X6_firstFree : GoodIn wsL_arePupils wsX6_firstFree := goodIn_r _ [74, 14, 75, 76, 77, 18, 78, 20, 23, 24, 25, 26, 27, 79, 80, 81, 31, 82, 33, 34, 35, 36, 37, 38, 39, 40, 41, 42, 43, 44, 45, 46, 47, 48, 28, 29, 30, 32, 83, 84, 85, 86, 87, 88, 89, 90, 91, 92, 93, 94, 95, 96, 97, 98] (by decide +kernel) (by decide +kernel)
set_option maxRecDepth 20000 in
theorem gL_arePupils_X6_firstFree : GoodIn wsL_arePupils (wsV RL 99 RX6 yX6_firstFree wsX6_firstFree) := goodIn_app (goodIn_of _ (by decide +kernel)) ggL_arePupils_X6_firstFree
theorem dL_arePupils_0 : decode cL_arePupils 0 = .ok (.iconst 0, 1) := by decide +kernel
theorem dL_arePupils_1 : decode cL_arePupils 1 = .ok (.istore 5, 2) := by decide +kernel
theorem dL_arePupils_3 : decode cL_arePupils 3 = .ok (.iload 5, 2) := by decide +kernel
theorem dL_arePupils_5 : decode cL_arePupils 5 = .ok (.aload_n 1, 1) := by decide +kernel
theorem dL_arePupils_6 : decode cL_arePupils 6 = .ok (.bipush 6, 2) := by decide +kernel
theorem dL_arePupils_8 : decode cL_arePupils 8 = .ok (.iaload, 1) := by decide +kernel
theorem dL_arePupils_9 : decode cL_arePupils 9 = .ok (.if_icmp .ge 368, 3) := by decide +kernel
theorem dL_arePupils_12 : decode cL_arePupils 12 = .ok (.iconst 0, 1) := by decide +kernel
theorem dL_arePupils_13 : decode cL_arePupils 13 = .ok (.istore 6, 2) := by decide +kernel
theorem dL_arePupils_15 : decode cL_arePupils 15 = .ok (.iconst 0, 1) := by decide +kernel
theorem dL_arePupils_16 : decode cL_arePupils 16 = .ok (.istore 7, 2) := by decide +kernel
theorem dL_arePupils_18 : decode cL_arePupils 18 = .ok (.iconst 0, 1) := by decide +kernel
theorem dL_arePupils_19 : decode cL_arePupils 19 = .ok (.istore 8, 2) := by decide +kernel
theorem dL_arePupils_21 : decode cL_arePupils 21 = .ok (.iconst 0, 1) := by decide +kernel
theorem dL_arePupils_22 : decode cL_arePupils 22 = .ok (.istore 9, 2) := by decide +kernel
theorem dL_arePupils_24 : decode cL_arePupils 24 = .ok (.iconst (-1), 1) := by decide +kernel
theorem dL_arePupils_25 : decode cL_arePupils 25 = .ok (.istore 10, 2) := by decide +kernel
theorem dL_arePupils_27 : decode cL_arePupils 27 = .ok (.iconst (-1), 1) := by decide +kernel
theorem dL_arePupils_28 : decode cL_arePupils 28 = .ok (.istore 11, 2) := by decide +kernel
theorem dL_arePupils_30 : decode cL_arePupils 30 = .ok (.iconst 0, 1) := by decide +kernel
theorem dL_arePupils_31 : decode cL_arePupils 31 = .ok (.istore 12, 2) := by decide +kernel
theorem dL_arePupils_33 : decode cL_arePupils 33 = .ok (.iload 12, 2) := by decide +kernel
theorem dL_arePupils_35 : decode cL_arePupils 35 = .ok (.aload_n 1, 1) := by decide +kernel
theorem dL_arePupils_36 : decode cL_arePupils 36 = .ok (.bipush 7, 2) := by decide +kernel
theorem dL_arePupils_38 : decode cL_arePupils 38 = .ok (.iaload, 1) := by decide +kernel
theorem dL_arePupils_39 : decode cL_arePupils 39 = .ok (.if_icmp .ge 84, 3) := by decide +kernel
theorem dL_arePupils_42 : decode cL_arePupils 42 = .ok (.aload_n 2, 1) := by decide +kernel
theorem dL_arePupils_43 : decode cL_arePupils 43 = .ok (.iload 12, 2) := by decide +kernel
theorem dL_arePupils_45 : decode cL_arePupils 45 = .ok (.laload, 1) := by decide +kernel
theorem dL_arePupils_46 : decode cL_arePupils 46 = .ok (.iconst 0, 1) := by decide +kernel
theorem dL_arePupils_47 : decode cL_arePupils 47 = .ok (.invokestatic 13, 3) := by decide +kernel
theorem dL_arePupils_50 : decode cL_arePupils 50 = .ok (.iload 5, 2) := by decide +kernel
theorem dL_arePupils_52 : decode cL_arePupils 52 = .ok (.if_icmp .eq 6, 3) := by decide +kernel
theorem dL_arePupils_55 : decode cL_arePupils 55 = .ok (.goto 62, 3) := by decide +kernel
theorem dL_arePupils_58 : decode cL_arePupils 58 = .ok (.iload 6, 2) := by decide +kernel
theorem dL_arePupils_60 : decode cL_arePupils 60 = .ok (.iconst 1, 1) := by decide +kernel
theorem dL_arePupils_61 : decode cL_arePupils 61 = .ok (.iload 12, 2) := by decide +kernel
theorem dL_arePupils_63 : decode cL_arePupils 63 = .ok (.ishl, 1) := by decide +kernel
theorem dL_arePupils_64 : decode cL_arePupils 64 = .ok (.ior, 1) := by decide +kernel
theorem dL_arePupils_65 : decode cL_arePupils 65 = .ok (.istore 6, 2) := by decide +kernel
theorem dL_arePupils_67 : decode cL_arePupils 67 = .ok (.iload 7, 2) := by decide +kernel
theorem dL_arePupils_69 : decode cL_arePupils 69 = .ok (.aload_n 2, 1) := by decide +kernel
theorem dL_arePupils_70 : decode cL_arePupils 70 = .ok (.iload 12, 2) := by decide +kernel
theorem dL_arePupils_72 : decode cL_arePupils 72 = .ok (.laload, 1) := by decide +kernel
theorem dL_arePupils_73 : decode cL_arePupils 73 = .ok (.iconst 3, 1) := by decide +kernel
theorem dL_arePupils_74 : decode cL_arePupils 74 = .ok (.invokestatic 13, 3) := by decide +kernel
theorem dL_arePupils_77 : decode cL_arePupils 77 = .ok (.iconst 3, 1) := by decide +kernel
theorem dL_arePupils_78 : decode cL_arePupils 78 = .ok (.if_icmp .ne 10, 3) := by decide +kernel
theorem dL_arePupils_81 : decode cL_arePupils 81 = .ok (.iconst 1, 1) := by decide +kernel
theorem dL_arePupils_82 : decode cL_arePupils 82 = .ok (.iload 12, 2) := by decide +kernel
theorem dL_arePupils_84 : decode cL_arePupils 84 = .ok (.ishl, 1) := by decide +kernel
theorem dL_arePupils_85 : decode cL_arePupils 85 = .ok (.goto 4, 3) := by decide +kernel
theorem dL_arePupils_88 : decode cL_arePupils 88 = .ok (.iconst 0, 1) := by decide +kernel
theorem dL_arePupils_89 : decode cL_arePupils 89 = .ok (.ior, 1) := by decide +kernel
theorem dL_arePupils_90 : decode cL_arePupils 90 = .ok (.istore 7, 2) := by decide +kernel
theorem dL_arePupils_92 : decode cL_arePupils 92 = .ok (.iload 8, 2) := by decide +kernel
theorem dL_arePupils_94 : decode cL_arePupils 94 = .ok (.aload_n 2, 1) := by decide +kernel
theorem dL_arePupils_95 : decode cL_arePupils 95 = .ok (.iload 12, 2) := by decide +kernel
theorem dL_arePupils_97 : decode cL_arePupils 97 = .ok (.laload, 1) := by decide +kernel
theorem dL_arePupils_98 : decode cL_arePupils 98 = .ok (.iconst 3, 1) := by decide +kernel
theorem dL_arePupils_99 : decode cL_arePupils 99 = .ok (.invokestatic 13, 3) := by decide +kernel
theorem dL_arePupils_102 : decode cL_arePupils 102 = .ok (.iconst 4, 1) := by decide +kernel
theorem dL_arePupils_103 : decode cL_arePupils 103 = .ok (.if_icmp .ne 10, 3) := by decide +kernel
theorem dL_arePupils_106 : decode cL_arePupils 106 = .ok (.iconst 1, 1) := by decide +kernel
theorem dL_arePupils_107 : decode cL_arePupils 107 = .ok (.iload 12, 2) := by decide +kernel
theorem dL_arePupils_109 : decode cL_arePupils 109 = .ok (.ishl, 1) := by decide +kernel
theorem dL_arePupils_110 : decode cL_arePupils 110 = .ok (.goto 4, 3) := by decide +kernel
theorem dL_arePupils_113 : decode cL_arePupils 113 = .ok (.iconst 0, 1) := by decide +kernel
theorem dL_arePupils_114 : decode cL_arePupils 114 = .ok (.ior, 1) := by decide +kernel
theorem dL_arePupils_115 : decode cL_arePupils 115 = .ok (.istore 8, 2) := by decide +kernel
theorem dL_arePupils_117 : decode cL_arePupils 117 = .ok (.iinc 12 1, 3) := by decide +kernel
theorem dL_arePupils_120 : decode cL_arePupils 120 = .ok (.goto (-87), 3) := by decide +kernel
theorem dL_arePupils_123 : decode cL_arePupils 123 = .ok (.iconst 0, 1) := by decide +kernel
theorem dL_arePupils_124 : decode cL_arePupils 124 = .ok (.istore 12, 2) := by decide +kernel
theorem dL_arePupils_126 : decode cL_arePupils 126 = .ok (.iload 12, 2) := by decide +kernel
theorem dL_arePupils_128 : decode cL_arePupils 128 = .ok (.bipush 30, 2) := by decide +kernel
theorem dL_arePupils_130 : decode cL_arePupils 130 = .ok (.if_icmp .ge 30, 3) := by decide +kernel
theorem dL_arePupils_133 : decode cL_arePupils 133 = .ok (.iload 9, 2) := by decide +kernel
theorem dL_arePupils_135 : decode cL_arePupils 135 = .ok (.aload_n 3, 1) := by decide +kernel
theorem dL_arePupils_136 : decode cL_arePupils 136 = .ok (.iload 12, 2) := by decide +kernel
theorem dL_arePupils_138 : decode cL_arePupils 138 = .ok (.iaload, 1) := by decide +kernel
theorem dL_arePupils_139 : decode cL_arePupils 139 = .ok (.iload 5, 2) := by decide +kernel
theorem dL_arePupils_141 : decode cL_arePupils 141 = .ok (.iconst 1, 1) := by decide +kernel
theorem dL_arePupils_142 : decode cL_arePupils 142 = .ok (.iadd, 1) := by decide +kernel
theorem dL_arePupils_143 : decode cL_arePupils 143 = .ok (.if_icmp .ne 7, 3) := by decide +kernel
theorem dL_arePupils_146 : decode cL_arePupils 146 = .ok (.iconst 1, 1) := by decide +kernel
theorem dL_arePupils_147 : decode cL_arePupils 147 = .ok (.goto 4, 3) := by decide +kernel
theorem dL_arePupils_150 : decode cL_arePupils 150 = .ok (.iconst 0, 1) := by decide +kernel
theorem dL_arePupils_151 : decode cL_arePupils 151 = .ok (.iadd, 1) := by decide +kernel
theorem dL_arePupils_152 : decode cL_arePupils 152 = .ok (.istore 9, 2) := by decide +kernel
theorem dL_arePupils_154 : decode cL_arePupils 154 = .ok (.iinc 12 1, 3) := by decide +kernel
theorem dL_arePupils_157 : decode cL_arePupils 157 = .ok (.goto (-31), 3) := by decide +kernel
theorem dL_arePupils_160 : decode cL_arePupils 160 = .ok (.iconst 0, 1) := by decide +kernel
theorem dL_arePupils_161 : decode cL_arePupils 161 = .ok (.istore 12, 2) := by decide +kernel
theorem dL_arePupils_163 : decode cL_arePupils 163 = .ok (.iload 12, 2) := by decide +kernel
theorem dL_arePupils_165 : decode cL_arePupils 165 = .ok (.bipush 7, 2) := by decide +kernel
theorem dL_arePupils_167 : decode cL_arePupils 167 = .ok (.if_icmp .ge 80, 3) := by decide +kernel
theorem dL_arePupils_170 : decode cL_arePupils 170 = .ok (.iload 10, 2) := by decide +kernel
theorem dL_arePupils_172 : decode cL_arePupils 172 = .ok (.ifCond .ge 75, 3) := by decide +kernel
theorem dL_arePupils_175 : decode cL_arePupils 175 = .ok (.iconst 0, 1) := by decide +kernel
theorem dL_arePupils_176 : decode cL_arePupils 176 = .ok (.istore 13, 2) := by decide +kernel
theorem dL_arePupils_178 : decode cL_arePupils 178 = .ok (.iload 13, 2) := by decide +kernel
theorem dL_arePupils_180 : decode cL_arePupils 180 = .ok (.iconst 5, 1) := by decide +kernel
theorem dL_arePupils_181 : decode cL_arePupils 181 = .ok (.if_icmp .ge 60, 3) := by decide +kernel
theorem dL_arePupils_184 : decode cL_arePupils 184 = .ok (.iload 10, 2) := by decide +kernel
theorem dL_arePupils_186 : decode cL_arePupils 186 = .ok (.ifCond .ge 55, 3) := by decide +kernel
theorem dL_arePupils_189 : decode cL_arePupils 189 = .ok (.iload 12, 2) := by decide +kernel
theorem dL_arePupils_191 : decode cL_arePupils 191 = .ok (.bipush 6, 2) := by decide +kernel
theorem dL_arePupils_193 : decode cL_arePupils 193 = .ok (.if_icmp .ge 30, 3) := by decide +kernel
theorem dL_arePupils_196 : decode cL_arePupils 196 = .ok (.aload_n 3, 1) := by decide +kernel
theorem dL_arePupils_197 : decode cL_arePupils 197 = .ok (.bipush 6, 2) := by decide +kernel
theorem dL_arePupils_199 : decode cL_arePupils 199 = .ok (.iload 13, 2) := by decide +kernel
theorem dL_arePupils_201 : decode cL_arePupils 201 = .ok (.imul, 1) := by decide +kernel
theorem dL_arePupils_202 : decode cL_arePupils 202 = .ok (.iload 12, 2) := by decide +kernel
theorem dL_arePupils_204 : decode cL_arePupils 204 = .ok (.iadd, 1) := by decide +kernel
theorem dL_arePupils_205 : decode cL_arePupils 205 = .ok (.iaload, 1) := by decide +kernel
theorem dL_arePupils_206 : decode cL_arePupils 206 = .ok (.ifCond .gt 29, 3) := by decide +kernel
theorem dL_arePupils_209 : decode cL_arePupils 209 = .ok (.iload 5, 2) := by decide +kernel
theorem dL_arePupils_211 : decode cL_arePupils 211 = .ok (.iload 12, 2) := by decide +kernel
theorem dL_arePupils_213 : decode cL_arePupils 213 = .ok (.aload_n 3, 1) := by decide +kernel
theorem dL_arePupils_214 : decode cL_arePupils 214 = .ok (.invokestatic 43, 3) := by decide +kernel
theorem dL_arePupils_217 : decode cL_arePupils 217 = .ok (.ifCond .lt 6, 3) := by decide +kernel
theorem dL_arePupils_220 : decode cL_arePupils 220 = .ok (.goto 15, 3) := by decide +kernel
theorem dL_arePupils_223 : decode cL_arePupils 223 = .ok (.aload_n 1, 1) := by decide +kernel
