theorem dL_law_260 : decode cL_law 260 = .ok (.aload_n 1, 1) := by decide +kernel
theorem dL_law_261 : decode cL_law 261 = .ok (.aload_n 0, 1) := by decide +kernel
theorem dL_law_262 : decode cL_law 262 = .ok (.iload 4, 2) := by decide +kernel
theorem dL_law_264 : decode cL_law 264 = .ok (.iconst 1, 1) := by decide +kernel
theorem dL_law_265 : decode cL_law 265 = .ok (.iadd, 1) := by decide +kernel
theorem dL_law_266 : decode cL_law 266 = .ok (.iaload, 1) := by decide +kernel
theorem dL_law_267 : decode cL_law 267 = .ok (.aload_n 0, 1) := by decide +kernel
theorem dL_law_268 : decode cL_law 268 = .ok (.iload 4, 2) := by decide +kernel
theorem dL_law_270 : decode cL_law 270 = .ok (.iconst 2, 1) := by decide +kernel
theorem dL_law_271 : decode cL_law 271 = .ok (.iadd, 1) := by decide +kernel
theorem dL_law_272 : decode cL_law 272 = .ok (.iaload, 1) := by decide +kernel
theorem dL_law_273 : decode cL_law 273 = .ok (.aload_n 0, 1) := by decide +kernel
theorem dL_law_274 : decode cL_law 274 = .ok (.iload 4, 2) := by decide +kernel
theorem dL_law_276 : decode cL_law 276 = .ok (.iconst 3, 1) := by decide +kernel
theorem dL_law_277 : decode cL_law 277 = .ok (.iadd, 1) := by decide +kernel
theorem dL_law_278 : decode cL_law 278 = .ok (.iaload, 1) := by decide +kernel
theorem dL_law_279 : decode cL_law 279 = .ok (.aload_n 0, 1) := by decide +kernel
theorem dL_law_280 : decode cL_law 280 = .ok (.iload 4, 2) := by decide +kernel
theorem dL_law_282 : decode cL_law 282 = .ok (.iconst 4, 1) := by decide +kernel
theorem dL_law_283 : decode cL_law 283 = .ok (.iadd, 1) := by decide +kernel
theorem dL_law_284 : decode cL_law 284 = .ok (.iaload, 1) := by decide +kernel
theorem dL_law_285 : decode cL_law 285 = .ok (.aload_n 0, 1) := by decide +kernel
theorem dL_law_286 : decode cL_law 286 = .ok (.iload 4, 2) := by decide +kernel
theorem dL_law_288 : decode cL_law 288 = .ok (.iconst 5, 1) := by decide +kernel
theorem dL_law_289 : decode cL_law 289 = .ok (.iadd, 1) := by decide +kernel
theorem dL_law_290 : decode cL_law 290 = .ok (.iaload, 1) := by decide +kernel
theorem dL_law_291 : decode cL_law 291 = .ok (.invokevirtual 19, 3) := by decide +kernel
theorem w_410 : Cond.methodLink "QuarterWalksLaw" 19 yX10_feed ∈ wAll := wIn 410 (by decide +kernel) (by decide +kernel)
theorem w_412 : Cond.selects yX10_feed.cls yX10_feed yX10_feed ∈ wAll := wIn 412 (by decide +kernel) (by decide +kernel)
theorem mk_X10_feed : mk yX10_feed 5 := ⟨by decide +kernel, w_96⟩
theorem w_411 : Cond.instanceMethod yX10_feed ∈ wAll := wIn 411 (by decide +kernel) (by decide +kernel)
theorem w_413 : Cond.code yX10_feed cX10_feed 7 (some .int) ∈ wAll := wIn 413 (by decide +kernel) (by decide +kernel)
theorem dL_law_294 : decode cL_law 294 = .ok (.aload_n 2, 1) := by decide +kernel
theorem dL_law_295 : decode cL_law 295 = .ok (.aload_n 0, 1) := by decide +kernel
theorem dL_law_296 : decode cL_law 296 = .ok (.iload 4, 2) := by decide +kernel
theorem dL_law_298 : decode cL_law 298 = .ok (.iconst 1, 1) := by decide +kernel
theorem dL_law_299 : decode cL_law 299 = .ok (.iadd, 1) := by decide +kernel
theorem dL_law_300 : decode cL_law 300 = .ok (.iaload, 1) := by decide +kernel
theorem dL_law_301 : decode cL_law 301 = .ok (.aload_n 0, 1) := by decide +kernel
theorem dL_law_302 : decode cL_law 302 = .ok (.iload 4, 2) := by decide +kernel
theorem dL_law_304 : decode cL_law 304 = .ok (.iconst 2, 1) := by decide +kernel
theorem dL_law_305 : decode cL_law 305 = .ok (.iadd, 1) := by decide +kernel
theorem dL_law_306 : decode cL_law 306 = .ok (.iaload, 1) := by decide +kernel
theorem dL_law_307 : decode cL_law 307 = .ok (.aload_n 0, 1) := by decide +kernel
theorem dL_law_308 : decode cL_law 308 = .ok (.iload 4, 2) := by decide +kernel
theorem dL_law_310 : decode cL_law 310 = .ok (.iconst 3, 1) := by decide +kernel
theorem dL_law_311 : decode cL_law 311 = .ok (.iadd, 1) := by decide +kernel
theorem dL_law_312 : decode cL_law 312 = .ok (.iaload, 1) := by decide +kernel
theorem dL_law_313 : decode cL_law 313 = .ok (.aload_n 0, 1) := by decide +kernel
theorem dL_law_314 : decode cL_law 314 = .ok (.iload 4, 2) := by decide +kernel
theorem dL_law_316 : decode cL_law 316 = .ok (.iconst 4, 1) := by decide +kernel
theorem dL_law_317 : decode cL_law 317 = .ok (.iadd, 1) := by decide +kernel
theorem dL_law_318 : decode cL_law 318 = .ok (.iaload, 1) := by decide +kernel
theorem dL_law_319 : decode cL_law 319 = .ok (.aload_n 0, 1) := by decide +kernel
theorem dL_law_320 : decode cL_law 320 = .ok (.iload 4, 2) := by decide +kernel
theorem dL_law_322 : decode cL_law 322 = .ok (.iconst 5, 1) := by decide +kernel
theorem dL_law_323 : decode cL_law 323 = .ok (.iadd, 1) := by decide +kernel
theorem dL_law_324 : decode cL_law 324 = .ok (.iaload, 1) := by decide +kernel
theorem dL_law_325 : decode cL_law 325 = .ok (.invokevirtual 23, 3) := by decide +kernel
theorem w_1534 : Cond.methodLink "QuarterWalksLaw" 23 yX11_feed ∈ wAll := wIn 1534 (by decide +kernel) (by decide +kernel)
theorem w_1536 : Cond.selects yX11_feed.cls yX11_feed yX11_feed ∈ wAll := wIn 1536 (by decide +kernel) (by decide +kernel)
theorem mk_X11_feed : mk yX11_feed 5 := ⟨by decide +kernel, w_110⟩
theorem w_1535 : Cond.instanceMethod yX11_feed ∈ wAll := wIn 1535 (by decide +kernel) (by decide +kernel)
theorem w_1537 : Cond.code yX11_feed cX11_feed 6 (some .int) ∈ wAll := wIn 1537 (by decide +kernel) (by decide +kernel)
theorem dL_law_328 : decode cL_law 328 = .ok (.if_icmp .eq 2265, 3) := by decide +kernel
theorem dL_law_333 : decode cL_law 333 = .ok (.aload_n 1, 1) := by decide +kernel
theorem dL_law_334 : decode cL_law 334 = .ok (.aload_n 0, 1) := by decide +kernel
theorem dL_law_335 : decode cL_law 335 = .ok (.iload 4, 2) := by decide +kernel
theorem dL_law_337 : decode cL_law 337 = .ok (.iconst 1, 1) := by decide +kernel
theorem dL_law_338 : decode cL_law 338 = .ok (.iadd, 1) := by decide +kernel
theorem dL_law_339 : decode cL_law 339 = .ok (.iaload, 1) := by decide +kernel
theorem dL_law_340 : decode cL_law 340 = .ok (.invokevirtual 24, 3) := by decide +kernel
theorem w_421 : Cond.methodLink "QuarterWalksLaw" 24 yX10_end ∈ wAll := wIn 421 (by decide +kernel) (by decide +kernel)
theorem w_423 : Cond.selects yX10_end.cls yX10_end yX10_end ∈ wAll := wIn 423 (by decide +kernel) (by decide +kernel)
theorem mk_X10_end : mk yX10_end 1 := ⟨by decide +kernel, w_96⟩
theorem w_422 : Cond.instanceMethod yX10_end ∈ wAll := wIn 422 (by decide +kernel) (by decide +kernel)
theorem w_424 : Cond.code yX10_end cX10_end 2 (some .boolean) ∈ wAll := wIn 424 (by decide +kernel) (by decide +kernel)
theorem dL_law_343 : decode cL_law 343 = .ok (.aload_n 2, 1) := by decide +kernel
theorem dL_law_344 : decode cL_law 344 = .ok (.aload_n 0, 1) := by decide +kernel
theorem dL_law_345 : decode cL_law 345 = .ok (.iload 4, 2) := by decide +kernel
theorem dL_law_347 : decode cL_law 347 = .ok (.iconst 1, 1) := by decide +kernel
theorem dL_law_348 : decode cL_law 348 = .ok (.iadd, 1) := by decide +kernel
theorem dL_law_349 : decode cL_law 349 = .ok (.iaload, 1) := by decide +kernel
theorem dL_law_350 : decode cL_law 350 = .ok (.invokevirtual 28, 3) := by decide +kernel
theorem w_1545 : Cond.methodLink "QuarterWalksLaw" 28 yX11_end ∈ wAll := wIn 1545 (by decide +kernel) (by decide +kernel)
theorem w_1547 : Cond.selects yX11_end.cls yX11_end yX11_end ∈ wAll := wIn 1547 (by decide +kernel) (by decide +kernel)
theorem mk_X11_end : mk yX11_end 1 := ⟨by decide +kernel, w_110⟩
theorem w_1546 : Cond.instanceMethod yX11_end ∈ wAll := wIn 1546 (by decide +kernel) (by decide +kernel)
theorem w_1548 : Cond.code yX11_end cX11_end 2 (some .boolean) ∈ wAll := wIn 1548 (by decide +kernel) (by decide +kernel)
theorem dL_law_353 : decode cL_law 353 = .ok (.if_icmp .eq 2240, 3) := by decide +kernel
theorem dL_law_358 : decode cL_law 358 = .ok (.aload_n 1, 1) := by decide +kernel
theorem dL_law_359 : decode cL_law 359 = .ok (.invokevirtual 29, 3) := by decide +kernel
theorem w_428 : Cond.methodLink "QuarterWalksLaw" 29 yX10_fault ∈ wAll := wIn 428 (by decide +kernel) (by decide +kernel)
theorem w_430 : Cond.selects yX10_fault.cls yX10_fault yX10_fault ∈ wAll := wIn 430 (by decide +kernel) (by decide +kernel)
theorem mk_X10_fault : mk yX10_fault 0 := ⟨by decide +kernel, w_96⟩
theorem w_429 : Cond.instanceMethod yX10_fault ∈ wAll := wIn 429 (by decide +kernel) (by decide +kernel)
theorem w_431 : Cond.code yX10_fault cX10_fault 1 (some .int) ∈ wAll := wIn 431 (by decide +kernel) (by decide +kernel)
theorem dL_law_362 : decode cL_law 362 = .ok (.aload_n 2, 1) := by decide +kernel
theorem dL_law_363 : decode cL_law 363 = .ok (.invokevirtual 33, 3) := by decide +kernel
theorem w_1549 : Cond.methodLink "QuarterWalksLaw" 33 yX11_fault ∈ wAll := wIn 1549 (by decide +kernel) (by decide +kernel)
theorem w_1551 : Cond.selects yX11_fault.cls yX11_fault yX11_fault ∈ wAll := wIn 1551 (by decide +kernel) (by decide +kernel)
theorem mk_X11_fault : mk yX11_fault 0 := ⟨by decide +kernel, w_110⟩
theorem w_1550 : Cond.instanceMethod yX11_fault ∈ wAll := wIn 1550 (by decide +kernel) (by decide +kernel)
theorem w_1552 : Cond.code yX11_fault cX11_fault 1 (some .int) ∈ wAll := wIn 1552 (by decide +kernel) (by decide +kernel)
theorem dL_law_366 : decode cL_law 366 = .ok (.if_icmp .eq 2227, 3) := by decide +kernel
theorem dL_law_371 : decode cL_law 371 = .ok (.aload_n 1, 1) := by decide +kernel
theorem dL_law_372 : decode cL_law 372 = .ok (.invokevirtual 34, 3) := by decide +kernel
theorem w_515 : Cond.methodLink "QuarterWalksLaw" 34 yX10_tell ∈ wAll := wIn 515 (by decide +kernel) (by decide +kernel)
theorem w_517 : Cond.selects yX10_tell.cls yX10_tell yX10_tell ∈ wAll := wIn 517 (by decide +kernel) (by decide +kernel)
theorem mk_X10_tell : mk yX10_tell 0 := ⟨by decide +kernel, w_96⟩
theorem w_516 : Cond.instanceMethod yX10_tell ∈ wAll := wIn 516 (by decide +kernel) (by decide +kernel)
theorem w_518 : Cond.code yX10_tell cX10_tell 1 (some .int) ∈ wAll := wIn 518 (by decide +kernel) (by decide +kernel)
theorem dL_law_375 : decode cL_law 375 = .ok (.aload_n 2, 1) := by decide +kernel
theorem dL_law_376 : decode cL_law 376 = .ok (.invokevirtual 37, 3) := by decide +kernel
theorem w_1604 : Cond.methodLink "QuarterWalksLaw" 37 yX11_tell ∈ wAll := wIn 1604 (by decide +kernel) (by decide +kernel)
theorem w_1606 : Cond.selects yX11_tell.cls yX11_tell yX11_tell ∈ wAll := wIn 1606 (by decide +kernel) (by decide +kernel)
theorem mk_X11_tell : mk yX11_tell 0 := ⟨by decide +kernel, w_110⟩
theorem w_1605 : Cond.instanceMethod yX11_tell ∈ wAll := wIn 1605 (by decide +kernel) (by decide +kernel)
theorem w_1607 : Cond.code yX11_tell cX11_tell 1 (some .int) ∈ wAll := wIn 1607 (by decide +kernel) (by decide +kernel)
theorem dL_law_379 : decode cL_law 379 = .ok (.if_icmp .eq 2214, 3) := by decide +kernel
theorem dL_law_384 : decode cL_law 384 = .ok (.aload_n 1, 1) := by decide +kernel
theorem dL_law_385 : decode cL_law 385 = .ok (.aload_n 0, 1) := by decide +kernel
theorem dL_law_386 : decode cL_law 386 = .ok (.iload 4, 2) := by decide +kernel
theorem dL_law_388 : decode cL_law 388 = .ok (.iconst 1, 1) := by decide +kernel
theorem dL_law_389 : decode cL_law 389 = .ok (.iadd, 1) := by decide +kernel
theorem dL_law_390 : decode cL_law 390 = .ok (.iaload, 1) := by decide +kernel
theorem dL_law_391 : decode cL_law 391 = .ok (.invokevirtual 38, 3) := by decide +kernel
theorem w_590 : Cond.methodLink "QuarterWalksLaw" 38 yX10_drop ∈ wAll := wIn 590 (by decide +kernel) (by decide +kernel)
theorem w_592 : Cond.selects yX10_drop.cls yX10_drop yX10_drop ∈ wAll := wIn 592 (by decide +kernel) (by decide +kernel)
theorem mk_X10_drop : mk yX10_drop 1 := ⟨by decide +kernel, w_96⟩
theorem w_591 : Cond.instanceMethod yX10_drop ∈ wAll := wIn 591 (by decide +kernel) (by decide +kernel)
theorem w_593 : Cond.code yX10_drop cX10_drop 2 (some .int) ∈ wAll := wIn 593 (by decide +kernel) (by decide +kernel)
theorem dL_law_394 : decode cL_law 394 = .ok (.aload_n 2, 1) := by decide +kernel
theorem dL_law_395 : decode cL_law 395 = .ok (.aload_n 0, 1) := by decide +kernel
theorem dL_law_396 : decode cL_law 396 = .ok (.iload 4, 2) := by decide +kernel
theorem dL_law_398 : decode cL_law 398 = .ok (.iconst 1, 1) := by decide +kernel
theorem dL_law_399 : decode cL_law 399 = .ok (.iadd, 1) := by decide +kernel
theorem dL_law_400 : decode cL_law 400 = .ok (.iaload, 1) := by decide +kernel
theorem dL_law_401 : decode cL_law 401 = .ok (.invokevirtual 42, 3) := by decide +kernel
theorem w_1620 : Cond.methodLink "QuarterWalksLaw" 42 yX11_drop ∈ wAll := wIn 1620 (by decide +kernel) (by decide +kernel)
theorem w_1622 : Cond.selects yX11_drop.cls yX11_drop yX11_drop ∈ wAll := wIn 1622 (by decide +kernel) (by decide +kernel)
theorem mk_X11_drop : mk yX11_drop 1 := ⟨by decide +kernel, w_110⟩
theorem w_1621 : Cond.instanceMethod yX11_drop ∈ wAll := wIn 1621 (by decide +kernel) (by decide +kernel)
theorem w_1623 : Cond.code yX11_drop cX11_drop 3 (some .int) ∈ wAll := wIn 1623 (by decide +kernel) (by decide +kernel)
theorem dL_law_404 : decode cL_law 404 = .ok (.if_icmp .eq 2189, 3) := by decide +kernel
theorem dL_law_409 : decode cL_law 409 = .ok (.aload_n 1, 1) := by decide +kernel
theorem dL_law_410 : decode cL_law 410 = .ok (.aload_n 0, 1) := by decide +kernel
theorem dL_law_411 : decode cL_law 411 = .ok (.iload 4, 2) := by decide +kernel
theorem dL_law_413 : decode cL_law 413 = .ok (.iconst 1, 1) := by decide +kernel
theorem dL_law_414 : decode cL_law 414 = .ok (.iadd, 1) := by decide +kernel
theorem dL_law_415 : decode cL_law 415 = .ok (.iaload, 1) := by decide +kernel
theorem dL_law_416 : decode cL_law 416 = .ok (.invokevirtual 43, 3) := by decide +kernel
theorem w_603 : Cond.methodLink "QuarterWalksLaw" 43 yX10_mirror ∈ wAll := wIn 603 (by decide +kernel) (by decide +kernel)
theorem w_605 : Cond.selects yX10_mirror.cls yX10_mirror yX10_mirror ∈ wAll := wIn 605 (by decide +kernel) (by decide +kernel)
theorem mk_X10_mirror : mk yX10_mirror 1 := ⟨by decide +kernel, w_96⟩
theorem w_604 : Cond.instanceMethod yX10_mirror ∈ wAll := wIn 604 (by decide +kernel) (by decide +kernel)
theorem w_606 : Cond.code yX10_mirror cX10_mirror 3 (some .int) ∈ wAll := wIn 606 (by decide +kernel) (by decide +kernel)
theorem dL_law_419 : decode cL_law 419 = .ok (.aload_n 2, 1) := by decide +kernel
theorem dL_law_420 : decode cL_law 420 = .ok (.aload_n 0, 1) := by decide +kernel
theorem dL_law_421 : decode cL_law 421 = .ok (.iload 4, 2) := by decide +kernel
theorem dL_law_423 : decode cL_law 423 = .ok (.iconst 1, 1) := by decide +kernel
theorem dL_law_424 : decode cL_law 424 = .ok (.iadd, 1) := by decide +kernel
theorem dL_law_425 : decode cL_law 425 = .ok (.iaload, 1) := by decide +kernel
theorem dL_law_426 : decode cL_law 426 = .ok (.invokevirtual 46, 3) := by decide +kernel
theorem w_1631 : Cond.methodLink "QuarterWalksLaw" 46 yX11_mirror ∈ wAll := wIn 1631 (by decide +kernel) (by decide +kernel)
theorem w_1633 : Cond.selects yX11_mirror.cls yX11_mirror yX11_mirror ∈ wAll := wIn 1633 (by decide +kernel) (by decide +kernel)
theorem mk_X11_mirror : mk yX11_mirror 1 := ⟨by decide +kernel, w_110⟩
theorem w_1632 : Cond.instanceMethod yX11_mirror ∈ wAll := wIn 1632 (by decide +kernel) (by decide +kernel)
theorem w_1634 : Cond.code yX11_mirror cX11_mirror 3 (some .int) ∈ wAll := wIn 1634 (by decide +kernel) (by decide +kernel)
theorem dL_law_429 : decode cL_law 429 = .ok (.if_icmp .eq 2164, 3) := by decide +kernel
theorem dL_law_434 : decode cL_law 434 = .ok (.aload_n 1, 1) := by decide +kernel
theorem dL_law_435 : decode cL_law 435 = .ok (.aload_n 0, 1) := by decide +kernel
theorem dL_law_436 : decode cL_law 436 = .ok (.iload 4, 2) := by decide +kernel
theorem dL_law_438 : decode cL_law 438 = .ok (.iconst 1, 1) := by decide +kernel
theorem dL_law_439 : decode cL_law 439 = .ok (.iadd, 1) := by decide +kernel
theorem dL_law_440 : decode cL_law 440 = .ok (.iaload, 1) := by decide +kernel
theorem dL_law_441 : decode cL_law 441 = .ok (.invokevirtual 47, 3) := by decide +kernel
theorem w_615 : Cond.methodLink "QuarterWalksLaw" 47 yX10_turn ∈ wAll := wIn 615 (by decide +kernel) (by decide +kernel)
theorem w_617 : Cond.selects yX10_turn.cls yX10_turn yX10_turn ∈ wAll := wIn 617 (by decide +kernel) (by decide +kernel)
theorem mk_X10_turn : mk yX10_turn 1 := ⟨by decide +kernel, w_96⟩
theorem w_616 : Cond.instanceMethod yX10_turn ∈ wAll := wIn 616 (by decide +kernel) (by decide +kernel)
theorem w_618 : Cond.code yX10_turn cX10_turn 3 (some .int) ∈ wAll := wIn 618 (by decide +kernel) (by decide +kernel)
theorem dL_law_444 : decode cL_law 444 = .ok (.aload_n 2, 1) := by decide +kernel
theorem dL_law_445 : decode cL_law 445 = .ok (.aload_n 0, 1) := by decide +kernel
theorem dL_law_446 : decode cL_law 446 = .ok (.iload 4, 2) := by decide +kernel
theorem dL_law_448 : decode cL_law 448 = .ok (.iconst 1, 1) := by decide +kernel
theorem dL_law_449 : decode cL_law 449 = .ok (.iadd, 1) := by decide +kernel
theorem dL_law_450 : decode cL_law 450 = .ok (.iaload, 1) := by decide +kernel
theorem dL_law_451 : decode cL_law 451 = .ok (.invokevirtual 50, 3) := by decide +kernel
theorem w_1639 : Cond.methodLink "QuarterWalksLaw" 50 yX11_turn ∈ wAll := wIn 1639 (by decide +kernel) (by decide +kernel)
theorem w_1641 : Cond.selects yX11_turn.cls yX11_turn yX11_turn ∈ wAll := wIn 1641 (by decide +kernel) (by decide +kernel)
theorem mk_X11_turn : mk yX11_turn 1 := ⟨by decide +kernel, w_110⟩
theorem w_1640 : Cond.instanceMethod yX11_turn ∈ wAll := wIn 1640 (by decide +kernel) (by decide +kernel)
theorem w_1642 : Cond.code yX11_turn cX11_turn 3 (some .int) ∈ wAll := wIn 1642 (by decide +kernel) (by decide +kernel)
theorem dL_law_454 : decode cL_law 454 = .ok (.if_icmp .eq 2139, 3) := by decide +kernel
theorem dL_law_459 : decode cL_law 459 = .ok (.aload_n 1, 1) := by decide +kernel
theorem dL_law_460 : decode cL_law 460 = .ok (.aload_n 0, 1) := by decide +kernel
theorem dL_law_461 : decode cL_law 461 = .ok (.iload 4, 2) := by decide +kernel
theorem dL_law_463 : decode cL_law 463 = .ok (.iconst 1, 1) := by decide +kernel
theorem dL_law_464 : decode cL_law 464 = .ok (.iadd, 1) := by decide +kernel
theorem dL_law_465 : decode cL_law 465 = .ok (.iaload, 1) := by decide +kernel
theorem dL_law_466 : decode cL_law 466 = .ok (.aload_n 0, 1) := by decide +kernel
theorem dL_law_467 : decode cL_law 467 = .ok (.iload 4, 2) := by decide +kernel
theorem dL_law_469 : decode cL_law 469 = .ok (.iconst 2, 1) := by decide +kernel
theorem dL_law_470 : decode cL_law 470 = .ok (.iadd, 1) := by decide +kernel
theorem dL_law_471 : decode cL_law 471 = .ok (.iaload, 1) := by decide +kernel
theorem dL_law_472 : decode cL_law 472 = .ok (.invokevirtual 51, 3) := by decide +kernel
theorem w_621 : Cond.methodLink "QuarterWalksLaw" 51 yX10_join ∈ wAll := wIn 621 (by decide +kernel) (by decide +kernel)
theorem w_623 : Cond.selects yX10_join.cls yX10_join yX10_join ∈ wAll := wIn 623 (by decide +kernel) (by decide +kernel)
theorem mk_X10_join : mk yX10_join 2 := ⟨by decide +kernel, w_96⟩
theorem w_622 : Cond.instanceMethod yX10_join ∈ wAll := wIn 622 (by decide +kernel) (by decide +kernel)
theorem w_624 : Cond.code yX10_join cX10_join 7 (some .int) ∈ wAll := wIn 624 (by decide +kernel) (by decide +kernel)
theorem dL_law_475 : decode cL_law 475 = .ok (.aload_n 2, 1) := by decide +kernel
theorem dL_law_476 : decode cL_law 476 = .ok (.aload_n 0, 1) := by decide +kernel
theorem dL_law_477 : decode cL_law 477 = .ok (.iload 4, 2) := by decide +kernel
theorem dL_law_479 : decode cL_law 479 = .ok (.iconst 1, 1) := by decide +kernel
theorem dL_law_480 : decode cL_law 480 = .ok (.iadd, 1) := by decide +kernel
theorem dL_law_481 : decode cL_law 481 = .ok (.iaload, 1) := by decide +kernel
theorem dL_law_482 : decode cL_law 482 = .ok (.aload_n 0, 1) := by decide +kernel
theorem dL_law_483 : decode cL_law 483 = .ok (.iload 4, 2) := by decide +kernel
theorem dL_law_485 : decode cL_law 485 = .ok (.iconst 2, 1) := by decide +kernel
theorem dL_law_486 : decode cL_law 486 = .ok (.iadd, 1) := by decide +kernel
theorem dL_law_487 : decode cL_law 487 = .ok (.iaload, 1) := by decide +kernel
theorem dL_law_488 : decode cL_law 488 = .ok (.invokevirtual 54, 3) := by decide +kernel
theorem w_1643 : Cond.methodLink "QuarterWalksLaw" 54 yX11_join ∈ wAll := wIn 1643 (by decide +kernel) (by decide +kernel)
theorem w_1645 : Cond.selects yX11_join.cls yX11_join yX11_join ∈ wAll := wIn 1645 (by decide +kernel) (by decide +kernel)
theorem mk_X11_join : mk yX11_join 2 := ⟨by decide +kernel, w_110⟩
theorem w_1644 : Cond.instanceMethod yX11_join ∈ wAll := wIn 1644 (by decide +kernel) (by decide +kernel)
theorem w_1646 : Cond.code yX11_join cX11_join 4 (some .int) ∈ wAll := wIn 1646 (by decide +kernel) (by decide +kernel)
theorem dL_law_491 : decode cL_law 491 = .ok (.if_icmp .eq 2102, 3) := by decide +kernel
theorem dL_law_496 : decode cL_law 496 = .ok (.aload_n 1, 1) := by decide +kernel
theorem dL_law_497 : decode cL_law 497 = .ok (.aload_n 0, 1) := by decide +kernel
theorem dL_law_498 : decode cL_law 498 = .ok (.iload 4, 2) := by decide +kernel
theorem dL_law_500 : decode cL_law 500 = .ok (.iconst 1, 1) := by decide +kernel
theorem dL_law_501 : decode cL_law 501 = .ok (.iadd, 1) := by decide +kernel
theorem dL_law_502 : decode cL_law 502 = .ok (.iaload, 1) := by decide +kernel
theorem dL_law_503 : decode cL_law 503 = .ok (.aload_n 0, 1) := by decide +kernel
theorem dL_law_504 : decode cL_law 504 = .ok (.iload 4, 2) := by decide +kernel
theorem dL_law_506 : decode cL_law 506 = .ok (.iconst 2, 1) := by decide +kernel
theorem dL_law_507 : decode cL_law 507 = .ok (.iadd, 1) := by decide +kernel
theorem dL_law_508 : decode cL_law 508 = .ok (.iaload, 1) := by decide +kernel
theorem dL_law_509 : decode cL_law 509 = .ok (.invokevirtual 55, 3) := by decide +kernel
theorem w_628 : Cond.methodLink "QuarterWalksLaw" 55 yX10_scale ∈ wAll := wIn 628 (by decide +kernel) (by decide +kernel)
theorem w_630 : Cond.selects yX10_scale.cls yX10_scale yX10_scale ∈ wAll := wIn 630 (by decide +kernel) (by decide +kernel)
theorem mk_X10_scale : mk yX10_scale 2 := ⟨by decide +kernel, w_96⟩
theorem w_629 : Cond.instanceMethod yX10_scale ∈ wAll := wIn 629 (by decide +kernel) (by decide +kernel)
theorem w_631 : Cond.code yX10_scale cX10_scale 6 (some .int) ∈ wAll := wIn 631 (by decide +kernel) (by decide +kernel)
theorem dL_law_512 : decode cL_law 512 = .ok (.aload_n 2, 1) := by decide +kernel
theorem dL_law_513 : decode cL_law 513 = .ok (.aload_n 0, 1) := by decide +kernel
theorem dL_law_514 : decode cL_law 514 = .ok (.iload 4, 2) := by decide +kernel
theorem dL_law_516 : decode cL_law 516 = .ok (.iconst 1, 1) := by decide +kernel
theorem dL_law_517 : decode cL_law 517 = .ok (.iadd, 1) := by decide +kernel
theorem dL_law_518 : decode cL_law 518 = .ok (.iaload, 1) := by decide +kernel
theorem dL_law_519 : decode cL_law 519 = .ok (.aload_n 0, 1) := by decide +kernel
theorem dL_law_520 : decode cL_law 520 = .ok (.iload 4, 2) := by decide +kernel
theorem dL_law_522 : decode cL_law 522 = .ok (.iconst 2, 1) := by decide +kernel
theorem dL_law_523 : decode cL_law 523 = .ok (.iadd, 1) := by decide +kernel
theorem dL_law_524 : decode cL_law 524 = .ok (.iaload, 1) := by decide +kernel
theorem dL_law_525 : decode cL_law 525 = .ok (.invokevirtual 58, 3) := by decide +kernel
theorem w_1647 : Cond.methodLink "QuarterWalksLaw" 58 yX11_scale ∈ wAll := wIn 1647 (by decide +kernel) (by decide +kernel)
theorem w_1649 : Cond.selects yX11_scale.cls yX11_scale yX11_scale ∈ wAll := wIn 1649 (by decide +kernel) (by decide +kernel)
theorem mk_X11_scale : mk yX11_scale 2 := ⟨by decide +kernel, w_110⟩
theorem w_1648 : Cond.instanceMethod yX11_scale ∈ wAll := wIn 1648 (by decide +kernel) (by decide +kernel)
theorem w_1650 : Cond.code yX11_scale cX11_scale 4 (some .int) ∈ wAll := wIn 1650 (by decide +kernel) (by decide +kernel)
theorem dL_law_528 : decode cL_law 528 = .ok (.if_icmp .eq 2065, 3) := by decide +kernel
theorem dL_law_533 : decode cL_law 533 = .ok (.aload_n 1, 1) := by decide +kernel
theorem dL_law_534 : decode cL_law 534 = .ok (.aload_n 0, 1) := by decide +kernel
theorem dL_law_535 : decode cL_law 535 = .ok (.iload 4, 2) := by decide +kernel
theorem dL_law_537 : decode cL_law 537 = .ok (.iconst 1, 1) := by decide +kernel
theorem dL_law_538 : decode cL_law 538 = .ok (.iadd, 1) := by decide +kernel
theorem dL_law_539 : decode cL_law 539 = .ok (.iaload, 1) := by decide +kernel
theorem dL_law_540 : decode cL_law 540 = .ok (.aload_n 0, 1) := by decide +kernel
theorem dL_law_541 : decode cL_law 541 = .ok (.iload 4, 2) := by decide +kernel
theorem dL_law_543 : decode cL_law 543 = .ok (.iconst 2, 1) := by decide +kernel
theorem dL_law_544 : decode cL_law 544 = .ok (.iadd, 1) := by decide +kernel
theorem dL_law_545 : decode cL_law 545 = .ok (.iaload, 1) := by decide +kernel
theorem dL_law_546 : decode cL_law 546 = .ok (.aload_n 0, 1) := by decide +kernel
theorem dL_law_547 : decode cL_law 547 = .ok (.iload 4, 2) := by decide +kernel
theorem dL_law_549 : decode cL_law 549 = .ok (.iconst 3, 1) := by decide +kernel
theorem dL_law_550 : decode cL_law 550 = .ok (.iadd, 1) := by decide +kernel
theorem dL_law_551 : decode cL_law 551 = .ok (.iaload, 1) := by decide +kernel
theorem dL_law_552 : decode cL_law 552 = .ok (.invokevirtual 59, 3) := by decide +kernel
theorem w_640 : Cond.methodLink "QuarterWalksLaw" 59 yX10_weigh ∈ wAll := wIn 640 (by decide +kernel) (by decide +kernel)
theorem w_642 : Cond.selects yX10_weigh.cls yX10_weigh yX10_weigh ∈ wAll := wIn 642 (by decide +kernel) (by decide +kernel)
theorem mk_X10_weigh : mk yX10_weigh 3 := ⟨by decide +kernel, w_96⟩
theorem w_641 : Cond.instanceMethod yX10_weigh ∈ wAll := wIn 641 (by decide +kernel) (by decide +kernel)
theorem w_643 : Cond.code yX10_weigh cX10_weigh 7 (some .int) ∈ wAll := wIn 643 (by decide +kernel) (by decide +kernel)
theorem dL_law_555 : decode cL_law 555 = .ok (.aload_n 2, 1) := by decide +kernel
theorem dL_law_556 : decode cL_law 556 = .ok (.aload_n 0, 1) := by decide +kernel
theorem dL_law_557 : decode cL_law 557 = .ok (.iload 4, 2) := by decide +kernel
theorem dL_law_559 : decode cL_law 559 = .ok (.iconst 1, 1) := by decide +kernel
theorem dL_law_560 : decode cL_law 560 = .ok (.iadd, 1) := by decide +kernel
theorem dL_law_561 : decode cL_law 561 = .ok (.iaload, 1) := by decide +kernel
theorem dL_law_562 : decode cL_law 562 = .ok (.aload_n 0, 1) := by decide +kernel
theorem dL_law_563 : decode cL_law 563 = .ok (.iload 4, 2) := by decide +kernel
theorem dL_law_565 : decode cL_law 565 = .ok (.iconst 2, 1) := by decide +kernel
theorem dL_law_566 : decode cL_law 566 = .ok (.iadd, 1) := by decide +kernel
theorem dL_law_567 : decode cL_law 567 = .ok (.iaload, 1) := by decide +kernel
theorem dL_law_568 : decode cL_law 568 = .ok (.aload_n 0, 1) := by decide +kernel
theorem dL_law_569 : decode cL_law 569 = .ok (.iload 4, 2) := by decide +kernel
theorem dL_law_571 : decode cL_law 571 = .ok (.iconst 3, 1) := by decide +kernel
theorem dL_law_572 : decode cL_law 572 = .ok (.iadd, 1) := by decide +kernel
theorem dL_law_573 : decode cL_law 573 = .ok (.iaload, 1) := by decide +kernel
theorem dL_law_574 : decode cL_law 574 = .ok (.invokevirtual 63, 3) := by decide +kernel
theorem w_1657 : Cond.methodLink "QuarterWalksLaw" 63 yX11_weigh ∈ wAll := wIn 1657 (by decide +kernel) (by decide +kernel)
theorem w_1659 : Cond.selects yX11_weigh.cls yX11_weigh yX11_weigh ∈ wAll := wIn 1659 (by decide +kernel) (by decide +kernel)
theorem mk_X11_weigh : mk yX11_weigh 3 := ⟨by decide +kernel, w_110⟩
theorem w_1658 : Cond.instanceMethod yX11_weigh ∈ wAll := wIn 1658 (by decide +kernel) (by decide +kernel)
theorem w_1660 : Cond.code yX11_weigh cX11_weigh 5 (some .int) ∈ wAll := wIn 1660 (by decide +kernel) (by decide +kernel)
theorem dL_law_577 : decode cL_law 577 = .ok (.if_icmp .eq 2016, 3) := by decide +kernel
theorem dL_law_582 : decode cL_law 582 = .ok (.aload_n 1, 1) := by decide +kernel
theorem dL_law_583 : decode cL_law 583 = .ok (.aload_n 0, 1) := by decide +kernel
theorem dL_law_584 : decode cL_law 584 = .ok (.iload 4, 2) := by decide +kernel
theorem dL_law_586 : decode cL_law 586 = .ok (.iconst 1, 1) := by decide +kernel
theorem dL_law_587 : decode cL_law 587 = .ok (.iadd, 1) := by decide +kernel
theorem dL_law_588 : decode cL_law 588 = .ok (.iaload, 1) := by decide +kernel
theorem dL_law_589 : decode cL_law 589 = .ok (.aload_n 0, 1) := by decide +kernel
theorem dL_law_590 : decode cL_law 590 = .ok (.iload 4, 2) := by decide +kernel
theorem dL_law_592 : decode cL_law 592 = .ok (.iconst 2, 1) := by decide +kernel
theorem dL_law_593 : decode cL_law 593 = .ok (.iadd, 1) := by decide +kernel
theorem dL_law_594 : decode cL_law 594 = .ok (.iaload, 1) := by decide +kernel
theorem dL_law_595 : decode cL_law 595 = .ok (.aload_n 0, 1) := by decide +kernel
theorem dL_law_596 : decode cL_law 596 = .ok (.iload 4, 2) := by decide +kernel
theorem dL_law_598 : decode cL_law 598 = .ok (.iconst 3, 1) := by decide +kernel
theorem dL_law_599 : decode cL_law 599 = .ok (.iadd, 1) := by decide +kernel
theorem dL_law_600 : decode cL_law 600 = .ok (.iaload, 1) := by decide +kernel
theorem dL_law_601 : decode cL_law 601 = .ok (.invokevirtual 64, 3) := by decide +kernel
theorem w_645 : Cond.methodLink "QuarterWalksLaw" 64 yX10_start ∈ wAll := wIn 645 (by decide +kernel) (by decide +kernel)
theorem w_647 : Cond.selects yX10_start.cls yX10_start yX10_start ∈ wAll := wIn 647 (by decide +kernel) (by decide +kernel)
theorem mk_X10_start : mk yX10_start 3 := ⟨by decide +kernel, w_96⟩
theorem w_646 : Cond.instanceMethod yX10_start ∈ wAll := wIn 646 (by decide +kernel) (by decide +kernel)
theorem w_648 : Cond.code yX10_start cX10_start 5 (some .int) ∈ wAll := wIn 648 (by decide +kernel) (by decide +kernel)
theorem dL_law_604 : decode cL_law 604 = .ok (.aload_n 2, 1) := by decide +kernel
theorem dL_law_605 : decode cL_law 605 = .ok (.aload_n 0, 1) := by decide +kernel
theorem dL_law_606 : decode cL_law 606 = .ok (.iload 4, 2) := by decide +kernel
theorem dL_law_608 : decode cL_law 608 = .ok (.iconst 1, 1) := by decide +kernel
theorem dL_law_609 : decode cL_law 609 = .ok (.iadd, 1) := by decide +kernel
theorem dL_law_610 : decode cL_law 610 = .ok (.iaload, 1) := by decide +kernel
theorem dL_law_611 : decode cL_law 611 = .ok (.aload_n 0, 1) := by decide +kernel
theorem dL_law_612 : decode cL_law 612 = .ok (.iload 4, 2) := by decide +kernel
theorem dL_law_614 : decode cL_law 614 = .ok (.iconst 2, 1) := by decide +kernel
theorem dL_law_615 : decode cL_law 615 = .ok (.iadd, 1) := by decide +kernel
theorem dL_law_616 : decode cL_law 616 = .ok (.iaload, 1) := by decide +kernel
theorem dL_law_617 : decode cL_law 617 = .ok (.aload_n 0, 1) := by decide +kernel
theorem dL_law_618 : decode cL_law 618 = .ok (.iload 4, 2) := by decide +kernel
theorem dL_law_620 : decode cL_law 620 = .ok (.iconst 3, 1) := by decide +kernel
theorem dL_law_621 : decode cL_law 621 = .ok (.iadd, 1) := by decide +kernel
theorem dL_law_622 : decode cL_law 622 = .ok (.iaload, 1) := by decide +kernel
theorem dL_law_623 : decode cL_law 623 = .ok (.invokevirtual 67, 3) := by decide +kernel
theorem w_1666 : Cond.methodLink "QuarterWalksLaw" 67 yX11_start ∈ wAll := wIn 1666 (by decide +kernel) (by decide +kernel)
theorem w_1668 : Cond.selects yX11_start.cls yX11_start yX11_start ∈ wAll := wIn 1668 (by decide +kernel) (by decide +kernel)
theorem mk_X11_start : mk yX11_start 3 := ⟨by decide +kernel, w_110⟩
theorem w_1667 : Cond.instanceMethod yX11_start ∈ wAll := wIn 1667 (by decide +kernel) (by decide +kernel)
theorem w_1669 : Cond.code yX11_start cX11_start 5 (some .int) ∈ wAll := wIn 1669 (by decide +kernel) (by decide +kernel)
theorem dL_law_626 : decode cL_law 626 = .ok (.if_icmp .eq 1967, 3) := by decide +kernel
theorem dL_law_631 : decode cL_law 631 = .ok (.aload_n 1, 1) := by decide +kernel
theorem dL_law_632 : decode cL_law 632 = .ok (.aload_n 0, 1) := by decide +kernel
theorem dL_law_633 : decode cL_law 633 = .ok (.iload 4, 2) := by decide +kernel
theorem dL_law_635 : decode cL_law 635 = .ok (.iconst 1, 1) := by decide +kernel
theorem dL_law_636 : decode cL_law 636 = .ok (.iadd, 1) := by decide +kernel
theorem dL_law_637 : decode cL_law 637 = .ok (.iaload, 1) := by decide +kernel
theorem dL_law_638 : decode cL_law 638 = .ok (.aload_n 0, 1) := by decide +kernel
theorem dL_law_639 : decode cL_law 639 = .ok (.iload 4, 2) := by decide +kernel
theorem dL_law_641 : decode cL_law 641 = .ok (.iconst 2, 1) := by decide +kernel
theorem dL_law_642 : decode cL_law 642 = .ok (.iadd, 1) := by decide +kernel
theorem dL_law_643 : decode cL_law 643 = .ok (.iaload, 1) := by decide +kernel
theorem dL_law_644 : decode cL_law 644 = .ok (.aload_n 3, 1) := by decide +kernel
theorem dL_law_645 : decode cL_law 645 = .ok (.invokestatic 68, 3) := by decide +kernel
theorem dL_law_648 : decode cL_law 648 = .ok (.istore 5, 2) := by decide +kernel
theorem dL_law_650 : decode cL_law 650 = .ok (.aload_n 2, 1) := by decide +kernel
theorem dL_law_651 : decode cL_law 651 = .ok (.aload_n 0, 1) := by decide +kernel
theorem dL_law_652 : decode cL_law 652 = .ok (.iload 4, 2) := by decide +kernel
theorem dL_law_654 : decode cL_law 654 = .ok (.iconst 1, 1) := by decide +kernel
theorem dL_law_655 : decode cL_law 655 = .ok (.iadd, 1) := by decide +kernel
theorem dL_law_656 : decode cL_law 656 = .ok (.iaload, 1) := by decide +kernel
theorem dL_law_657 : decode cL_law 657 = .ok (.aload_n 0, 1) := by decide +kernel
theorem dL_law_658 : decode cL_law 658 = .ok (.iload 4, 2) := by decide +kernel
theorem dL_law_660 : decode cL_law 660 = .ok (.iconst 2, 1) := by decide +kernel
theorem dL_law_661 : decode cL_law 661 = .ok (.iadd, 1) := by decide +kernel
theorem dL_law_662 : decode cL_law 662 = .ok (.iaload, 1) := by decide +kernel
theorem dL_law_663 : decode cL_law 663 = .ok (.invokevirtual 73, 3) := by decide +kernel
theorem w_1670 : Cond.methodLink "QuarterWalksLaw" 73 yX11_rule ∈ wAll := wIn 1670 (by decide +kernel) (by decide +kernel)
theorem w_1672 : Cond.selects yX11_rule.cls yX11_rule yX11_rule ∈ wAll := wIn 1672 (by decide +kernel) (by decide +kernel)
theorem mk_X11_rule : mk yX11_rule 2 := ⟨by decide +kernel, w_110⟩
theorem w_1671 : Cond.instanceMethod yX11_rule ∈ wAll := wIn 1671 (by decide +kernel) (by decide +kernel)
theorem w_1673 : Cond.code yX11_rule cX11_rule 3 (some .int) ∈ wAll := wIn 1673 (by decide +kernel) (by decide +kernel)
theorem dL_law_666 : decode cL_law 666 = .ok (.istore 6, 2) := by decide +kernel
theorem dL_law_668 : decode cL_law 668 = .ok (.aload_n 2, 1) := by decide +kernel
theorem dL_law_669 : decode cL_law 669 = .ok (.invokevirtual 74, 3) := by decide +kernel
theorem w_1530 : Cond.methodLink "QuarterWalksLaw" 74 yX11_thrown ∈ wAll := wIn 1530 (by decide +kernel) (by decide +kernel)
theorem w_1532 : Cond.selects yX11_thrown.cls yX11_thrown yX11_thrown ∈ wAll := wIn 1532 (by decide +kernel) (by decide +kernel)
theorem mk_X11_thrown : mk yX11_thrown 0 := ⟨by decide +kernel, w_110⟩
theorem w_1531 : Cond.instanceMethod yX11_thrown ∈ wAll := wIn 1531 (by decide +kernel) (by decide +kernel)
theorem w_1533 : Cond.code yX11_thrown cX11_thrown 1 (some .int) ∈ wAll := wIn 1533 (by decide +kernel) (by decide +kernel)
theorem dL_law_672 : decode cL_law 672 = .ok (.iload 5, 2) := by decide +kernel
theorem dL_law_674 : decode cL_law 674 = .ok (.if_icmp .eq 5, 3) := by decide +kernel
theorem dL_law_679 : decode cL_law 679 = .ok (.iload 5, 2) := by decide +kernel
theorem dL_law_681 : decode cL_law 681 = .ok (.ifCond .ne 15, 3) := by decide +kernel
theorem dL_law_696 : decode cL_law 696 = .ok (.goto 1897, 3) := by decide +kernel
theorem dL_law_699 : decode cL_law 699 = .ok (.aload_n 1, 1) := by decide +kernel
theorem dL_law_700 : decode cL_law 700 = .ok (.aload_n 0, 1) := by decide +kernel
theorem dL_law_701 : decode cL_law 701 = .ok (.iload 4, 2) := by decide +kernel
theorem dL_law_703 : decode cL_law 703 = .ok (.iconst 1, 1) := by decide +kernel
theorem dL_law_704 : decode cL_law 704 = .ok (.iadd, 1) := by decide +kernel
theorem dL_law_705 : decode cL_law 705 = .ok (.iaload, 1) := by decide +kernel
theorem dL_law_706 : decode cL_law 706 = .ok (.aload_n 0, 1) := by decide +kernel
theorem dL_law_707 : decode cL_law 707 = .ok (.iload 4, 2) := by decide +kernel
theorem dL_law_709 : decode cL_law 709 = .ok (.iconst 2, 1) := by decide +kernel
theorem dL_law_710 : decode cL_law 710 = .ok (.iadd, 1) := by decide +kernel
theorem dL_law_711 : decode cL_law 711 = .ok (.iaload, 1) := by decide +kernel
theorem dL_law_712 : decode cL_law 712 = .ok (.aload_n 0, 1) := by decide +kernel
theorem dL_law_713 : decode cL_law 713 = .ok (.iload 4, 2) := by decide +kernel
theorem dL_law_715 : decode cL_law 715 = .ok (.iconst 3, 1) := by decide +kernel
theorem dL_law_716 : decode cL_law 716 = .ok (.iadd, 1) := by decide +kernel
theorem dL_law_717 : decode cL_law 717 = .ok (.iaload, 1) := by decide +kernel
theorem dL_law_718 : decode cL_law 718 = .ok (.aload_n 0, 1) := by decide +kernel
theorem dL_law_719 : decode cL_law 719 = .ok (.iload 4, 2) := by decide +kernel
theorem dL_law_721 : decode cL_law 721 = .ok (.iconst 4, 1) := by decide +kernel
theorem dL_law_722 : decode cL_law 722 = .ok (.iadd, 1) := by decide +kernel
theorem dL_law_723 : decode cL_law 723 = .ok (.iaload, 1) := by decide +kernel
theorem dL_law_724 : decode cL_law 724 = .ok (.aload_n 0, 1) := by decide +kernel
theorem dL_law_725 : decode cL_law 725 = .ok (.iload 4, 2) := by decide +kernel
theorem dL_law_727 : decode cL_law 727 = .ok (.iconst 5, 1) := by decide +kernel
theorem dL_law_728 : decode cL_law 728 = .ok (.iadd, 1) := by decide +kernel
theorem dL_law_729 : decode cL_law 729 = .ok (.iaload, 1) := by decide +kernel
theorem dL_law_730 : decode cL_law 730 = .ok (.invokevirtual 77, 3) := by decide +kernel
theorem w_649 : Cond.methodLink "QuarterWalksLaw" 77 yX10_at ∈ wAll := wIn 649 (by decide +kernel) (by decide +kernel)
theorem w_651 : Cond.selects yX10_at.cls yX10_at yX10_at ∈ wAll := wIn 651 (by decide +kernel) (by decide +kernel)
theorem mk_X10_at : mk yX10_at 5 := ⟨by decide +kernel, w_96⟩
theorem w_650 : Cond.instanceMethod yX10_at ∈ wAll := wIn 650 (by decide +kernel) (by decide +kernel)
theorem w_652 : Cond.code yX10_at cX10_at 7 (some .int) ∈ wAll := wIn 652 (by decide +kernel) (by decide +kernel)
theorem dL_law_733 : decode cL_law 733 = .ok (.aload_n 2, 1) := by decide +kernel
theorem dL_law_734 : decode cL_law 734 = .ok (.aload_n 0, 1) := by decide +kernel
theorem dL_law_735 : decode cL_law 735 = .ok (.iload 4, 2) := by decide +kernel
theorem dL_law_737 : decode cL_law 737 = .ok (.iconst 1, 1) := by decide +kernel
theorem dL_law_738 : decode cL_law 738 = .ok (.iadd, 1) := by decide +kernel
theorem dL_law_739 : decode cL_law 739 = .ok (.iaload, 1) := by decide +kernel
theorem dL_law_740 : decode cL_law 740 = .ok (.aload_n 0, 1) := by decide +kernel
theorem dL_law_741 : decode cL_law 741 = .ok (.iload 4, 2) := by decide +kernel
theorem dL_law_743 : decode cL_law 743 = .ok (.iconst 2, 1) := by decide +kernel
theorem dL_law_744 : decode cL_law 744 = .ok (.iadd, 1) := by decide +kernel
theorem dL_law_745 : decode cL_law 745 = .ok (.iaload, 1) := by decide +kernel
theorem dL_law_746 : decode cL_law 746 = .ok (.aload_n 0, 1) := by decide +kernel
theorem dL_law_747 : decode cL_law 747 = .ok (.iload 4, 2) := by decide +kernel
theorem dL_law_749 : decode cL_law 749 = .ok (.iconst 3, 1) := by decide +kernel
theorem dL_law_750 : decode cL_law 750 = .ok (.iadd, 1) := by decide +kernel
theorem dL_law_751 : decode cL_law 751 = .ok (.iaload, 1) := by decide +kernel
theorem dL_law_752 : decode cL_law 752 = .ok (.aload_n 0, 1) := by decide +kernel
theorem dL_law_753 : decode cL_law 753 = .ok (.iload 4, 2) := by decide +kernel
theorem dL_law_755 : decode cL_law 755 = .ok (.iconst 4, 1) := by decide +kernel
theorem dL_law_756 : decode cL_law 756 = .ok (.iadd, 1) := by decide +kernel
theorem dL_law_757 : decode cL_law 757 = .ok (.iaload, 1) := by decide +kernel
theorem dL_law_758 : decode cL_law 758 = .ok (.aload_n 0, 1) := by decide +kernel
theorem dL_law_759 : decode cL_law 759 = .ok (.iload 4, 2) := by decide +kernel
theorem dL_law_761 : decode cL_law 761 = .ok (.iconst 5, 1) := by decide +kernel
theorem dL_law_762 : decode cL_law 762 = .ok (.iadd, 1) := by decide +kernel
theorem dL_law_763 : decode cL_law 763 = .ok (.iaload, 1) := by decide +kernel
theorem dL_law_764 : decode cL_law 764 = .ok (.invokevirtual 80, 3) := by decide +kernel
theorem w_1689 : Cond.methodLink "QuarterWalksLaw" 80 yX11_at ∈ wAll := wIn 1689 (by decide +kernel) (by decide +kernel)
theorem w_1691 : Cond.selects yX11_at.cls yX11_at yX11_at ∈ wAll := wIn 1691 (by decide +kernel) (by decide +kernel)
theorem mk_X11_at : mk yX11_at 5 := ⟨by decide +kernel, w_110⟩
theorem w_1690 : Cond.instanceMethod yX11_at ∈ wAll := wIn 1690 (by decide +kernel) (by decide +kernel)
theorem w_1692 : Cond.code yX11_at cX11_at 6 (some .int) ∈ wAll := wIn 1692 (by decide +kernel) (by decide +kernel)
theorem dL_law_767 : decode cL_law 767 = .ok (.if_icmp .eq 1826, 3) := by decide +kernel
theorem dL_law_772 : decode cL_law 772 = .ok (.aload_n 1, 1) := by decide +kernel
theorem dL_law_773 : decode cL_law 773 = .ok (.aload_n 0, 1) := by decide +kernel
theorem dL_law_774 : decode cL_law 774 = .ok (.iload 4, 2) := by decide +kernel
theorem dL_law_776 : decode cL_law 776 = .ok (.iconst 1, 1) := by decide +kernel
theorem dL_law_777 : decode cL_law 777 = .ok (.iadd, 1) := by decide +kernel
theorem dL_law_778 : decode cL_law 778 = .ok (.iaload, 1) := by decide +kernel
theorem dL_law_779 : decode cL_law 779 = .ok (.aload_n 0, 1) := by decide +kernel
theorem dL_law_780 : decode cL_law 780 = .ok (.iload 4, 2) := by decide +kernel
theorem dL_law_782 : decode cL_law 782 = .ok (.iconst 2, 1) := by decide +kernel
theorem dL_law_783 : decode cL_law 783 = .ok (.iadd, 1) := by decide +kernel
theorem dL_law_784 : decode cL_law 784 = .ok (.iaload, 1) := by decide +kernel
theorem dL_law_785 : decode cL_law 785 = .ok (.aload_n 0, 1) := by decide +kernel
theorem dL_law_786 : decode cL_law 786 = .ok (.iload 4, 2) := by decide +kernel
theorem dL_law_788 : decode cL_law 788 = .ok (.iconst 3, 1) := by decide +kernel
theorem dL_law_789 : decode cL_law 789 = .ok (.iadd, 1) := by decide +kernel
theorem dL_law_790 : decode cL_law 790 = .ok (.iaload, 1) := by decide +kernel
theorem dL_law_791 : decode cL_law 791 = .ok (.invokevirtual 81, 3) := by decide +kernel
theorem w_717 : Cond.methodLink "QuarterWalksLaw" 81 yX10_series ∈ wAll := wIn 717 (by decide +kernel) (by decide +kernel)
theorem w_719 : Cond.selects yX10_series.cls yX10_series yX10_series ∈ wAll := wIn 719 (by decide +kernel) (by decide +kernel)
theorem mk_X10_series : mk yX10_series 3 := ⟨by decide +kernel, w_96⟩
theorem w_718 : Cond.instanceMethod yX10_series ∈ wAll := wIn 718 (by decide +kernel) (by decide +kernel)
theorem w_720 : Cond.code yX10_series cX10_series 5 (some .int) ∈ wAll := wIn 720 (by decide +kernel) (by decide +kernel)
theorem dL_law_794 : decode cL_law 794 = .ok (.aload_n 2, 1) := by decide +kernel
theorem dL_law_795 : decode cL_law 795 = .ok (.aload_n 0, 1) := by decide +kernel
theorem dL_law_796 : decode cL_law 796 = .ok (.iload 4, 2) := by decide +kernel
theorem dL_law_798 : decode cL_law 798 = .ok (.iconst 1, 1) := by decide +kernel
theorem dL_law_799 : decode cL_law 799 = .ok (.iadd, 1) := by decide +kernel
theorem dL_law_800 : decode cL_law 800 = .ok (.iaload, 1) := by decide +kernel
theorem dL_law_801 : decode cL_law 801 = .ok (.aload_n 0, 1) := by decide +kernel
theorem dL_law_802 : decode cL_law 802 = .ok (.iload 4, 2) := by decide +kernel
theorem dL_law_804 : decode cL_law 804 = .ok (.iconst 2, 1) := by decide +kernel
theorem dL_law_805 : decode cL_law 805 = .ok (.iadd, 1) := by decide +kernel
theorem dL_law_806 : decode cL_law 806 = .ok (.iaload, 1) := by decide +kernel
theorem dL_law_807 : decode cL_law 807 = .ok (.aload_n 0, 1) := by decide +kernel
theorem dL_law_808 : decode cL_law 808 = .ok (.iload 4, 2) := by decide +kernel
theorem dL_law_810 : decode cL_law 810 = .ok (.iconst 3, 1) := by decide +kernel
theorem dL_law_811 : decode cL_law 811 = .ok (.iadd, 1) := by decide +kernel
theorem dL_law_812 : decode cL_law 812 = .ok (.iaload, 1) := by decide +kernel
theorem dL_law_813 : decode cL_law 813 = .ok (.invokevirtual 84, 3) := by decide +kernel
theorem w_1730 : Cond.methodLink "QuarterWalksLaw" 84 yX11_series ∈ wAll := wIn 1730 (by decide +kernel) (by decide +kernel)
theorem w_1732 : Cond.selects yX11_series.cls yX11_series yX11_series ∈ wAll := wIn 1732 (by decide +kernel) (by decide +kernel)
theorem mk_X11_series : mk yX11_series 3 := ⟨by decide +kernel, w_110⟩
theorem w_1731 : Cond.instanceMethod yX11_series ∈ wAll := wIn 1731 (by decide +kernel) (by decide +kernel)
theorem w_1733 : Cond.code yX11_series cX11_series 4 (some .int) ∈ wAll := wIn 1733 (by decide +kernel) (by decide +kernel)
theorem dL_law_816 : decode cL_law 816 = .ok (.if_icmp .eq 1777, 3) := by decide +kernel
theorem dL_law_821 : decode cL_law 821 = .ok (.aload_n 1, 1) := by decide +kernel
theorem dL_law_822 : decode cL_law 822 = .ok (.aload_n 0, 1) := by decide +kernel
theorem dL_law_823 : decode cL_law 823 = .ok (.iload 4, 2) := by decide +kernel
theorem dL_law_825 : decode cL_law 825 = .ok (.iconst 1, 1) := by decide +kernel
theorem dL_law_826 : decode cL_law 826 = .ok (.iadd, 1) := by decide +kernel
theorem dL_law_827 : decode cL_law 827 = .ok (.iaload, 1) := by decide +kernel
theorem dL_law_828 : decode cL_law 828 = .ok (.aload_n 0, 1) := by decide +kernel
theorem dL_law_829 : decode cL_law 829 = .ok (.iload 4, 2) := by decide +kernel
theorem dL_law_831 : decode cL_law 831 = .ok (.iconst 2, 1) := by decide +kernel
theorem dL_law_832 : decode cL_law 832 = .ok (.iadd, 1) := by decide +kernel
theorem dL_law_833 : decode cL_law 833 = .ok (.iaload, 1) := by decide +kernel
theorem dL_law_834 : decode cL_law 834 = .ok (.aload_n 0, 1) := by decide +kernel
theorem dL_law_835 : decode cL_law 835 = .ok (.iload 4, 2) := by decide +kernel
theorem dL_law_837 : decode cL_law 837 = .ok (.iconst 3, 1) := by decide +kernel
theorem dL_law_838 : decode cL_law 838 = .ok (.iadd, 1) := by decide +kernel
theorem dL_law_839 : decode cL_law 839 = .ok (.iaload, 1) := by decide +kernel
theorem dL_law_840 : decode cL_law 840 = .ok (.aload_n 0, 1) := by decide +kernel
theorem dL_law_841 : decode cL_law 841 = .ok (.iload 4, 2) := by decide +kernel
theorem dL_law_843 : decode cL_law 843 = .ok (.iconst 4, 1) := by decide +kernel
theorem dL_law_844 : decode cL_law 844 = .ok (.iadd, 1) := by decide +kernel
theorem dL_law_845 : decode cL_law 845 = .ok (.iaload, 1) := by decide +kernel
theorem dL_law_846 : decode cL_law 846 = .ok (.invokevirtual 85, 3) := by decide +kernel
theorem w_749 : Cond.methodLink "QuarterWalksLaw" 85 yX10_exact ∈ wAll := wIn 749 (by decide +kernel) (by decide +kernel)
theorem w_751 : Cond.selects yX10_exact.cls yX10_exact yX10_exact ∈ wAll := wIn 751 (by decide +kernel) (by decide +kernel)
theorem mk_X10_exact : mk yX10_exact 4 := ⟨by decide +kernel, w_96⟩
theorem w_750 : Cond.instanceMethod yX10_exact ∈ wAll := wIn 750 (by decide +kernel) (by decide +kernel)
theorem w_752 : Cond.code yX10_exact cX10_exact 6 (some .long) ∈ wAll := wIn 752 (by decide +kernel) (by decide +kernel)
theorem dL_law_849 : decode cL_law 849 = .ok (.aload_n 2, 1) := by decide +kernel
theorem dL_law_850 : decode cL_law 850 = .ok (.aload_n 0, 1) := by decide +kernel
theorem dL_law_851 : decode cL_law 851 = .ok (.iload 4, 2) := by decide +kernel
theorem dL_law_853 : decode cL_law 853 = .ok (.iconst 1, 1) := by decide +kernel
theorem dL_law_854 : decode cL_law 854 = .ok (.iadd, 1) := by decide +kernel
theorem dL_law_855 : decode cL_law 855 = .ok (.iaload, 1) := by decide +kernel
theorem dL_law_856 : decode cL_law 856 = .ok (.aload_n 0, 1) := by decide +kernel
theorem dL_law_857 : decode cL_law 857 = .ok (.iload 4, 2) := by decide +kernel
theorem dL_law_859 : decode cL_law 859 = .ok (.iconst 2, 1) := by decide +kernel
theorem dL_law_860 : decode cL_law 860 = .ok (.iadd, 1) := by decide +kernel
theorem dL_law_861 : decode cL_law 861 = .ok (.iaload, 1) := by decide +kernel
theorem dL_law_862 : decode cL_law 862 = .ok (.aload_n 0, 1) := by decide +kernel
theorem dL_law_863 : decode cL_law 863 = .ok (.iload 4, 2) := by decide +kernel
theorem dL_law_865 : decode cL_law 865 = .ok (.iconst 3, 1) := by decide +kernel
theorem dL_law_866 : decode cL_law 866 = .ok (.iadd, 1) := by decide +kernel
theorem dL_law_867 : decode cL_law 867 = .ok (.iaload, 1) := by decide +kernel
theorem dL_law_868 : decode cL_law 868 = .ok (.aload_n 0, 1) := by decide +kernel
theorem dL_law_869 : decode cL_law 869 = .ok (.iload 4, 2) := by decide +kernel
theorem dL_law_871 : decode cL_law 871 = .ok (.iconst 4, 1) := by decide +kernel
theorem dL_law_872 : decode cL_law 872 = .ok (.iadd, 1) := by decide +kernel
theorem dL_law_873 : decode cL_law 873 = .ok (.iaload, 1) := by decide +kernel
theorem dL_law_874 : decode cL_law 874 = .ok (.invokevirtual 89, 3) := by decide +kernel
theorem w_1743 : Cond.methodLink "QuarterWalksLaw" 89 yX11_exact ∈ wAll := wIn 1743 (by decide +kernel) (by decide +kernel)
theorem w_1745 : Cond.selects yX11_exact.cls yX11_exact yX11_exact ∈ wAll := wIn 1745 (by decide +kernel) (by decide +kernel)
theorem mk_X11_exact : mk yX11_exact 4 := ⟨by decide +kernel, w_110⟩
theorem w_1744 : Cond.instanceMethod yX11_exact ∈ wAll := wIn 1744 (by decide +kernel) (by decide +kernel)
theorem w_1746 : Cond.code yX11_exact cX11_exact 5 (some .long) ∈ wAll := wIn 1746 (by decide +kernel) (by decide +kernel)
theorem dL_law_877 : decode cL_law 877 = .ok (.lcmp, 1) := by decide +kernel
theorem dL_law_878 : decode cL_law 878 = .ok (.ifCond .eq 1715, 3) := by decide +kernel
theorem dL_law_883 : decode cL_law 883 = .ok (.aload_n 1, 1) := by decide +kernel
theorem dL_law_884 : decode cL_law 884 = .ok (.aload_n 0, 1) := by decide +kernel
theorem dL_law_885 : decode cL_law 885 = .ok (.iload 4, 2) := by decide +kernel
theorem dL_law_887 : decode cL_law 887 = .ok (.iconst 1, 1) := by decide +kernel
theorem dL_law_888 : decode cL_law 888 = .ok (.iadd, 1) := by decide +kernel
theorem dL_law_889 : decode cL_law 889 = .ok (.iaload, 1) := by decide +kernel
theorem dL_law_890 : decode cL_law 890 = .ok (.aload_n 0, 1) := by decide +kernel
theorem dL_law_891 : decode cL_law 891 = .ok (.iload 4, 2) := by decide +kernel
theorem dL_law_893 : decode cL_law 893 = .ok (.iconst 2, 1) := by decide +kernel
theorem dL_law_894 : decode cL_law 894 = .ok (.iadd, 1) := by decide +kernel
theorem dL_law_895 : decode cL_law 895 = .ok (.iaload, 1) := by decide +kernel
theorem dL_law_896 : decode cL_law 896 = .ok (.aload_n 0, 1) := by decide +kernel
theorem dL_law_897 : decode cL_law 897 = .ok (.iload 4, 2) := by decide +kernel
theorem dL_law_899 : decode cL_law 899 = .ok (.iconst 3, 1) := by decide +kernel
theorem dL_law_900 : decode cL_law 900 = .ok (.iadd, 1) := by decide +kernel
theorem dL_law_901 : decode cL_law 901 = .ok (.iaload, 1) := by decide +kernel
theorem dL_law_902 : decode cL_law 902 = .ok (.aload_n 0, 1) := by decide +kernel
theorem dL_law_903 : decode cL_law 903 = .ok (.iload 4, 2) := by decide +kernel
theorem dL_law_905 : decode cL_law 905 = .ok (.iconst 4, 1) := by decide +kernel
theorem dL_law_906 : decode cL_law 906 = .ok (.iadd, 1) := by decide +kernel
theorem dL_law_907 : decode cL_law 907 = .ok (.iaload, 1) := by decide +kernel
theorem dL_law_908 : decode cL_law 908 = .ok (.invokevirtual 90, 3) := by decide +kernel
theorem w_758 : Cond.methodLink "QuarterWalksLaw" 90 yX10_bridge ∈ wAll := wIn 758 (by decide +kernel) (by decide +kernel)
theorem w_760 : Cond.selects yX10_bridge.cls yX10_bridge yX10_bridge ∈ wAll := wIn 760 (by decide +kernel) (by decide +kernel)
theorem mk_X10_bridge : mk yX10_bridge 4 := ⟨by decide +kernel, w_96⟩
theorem w_759 : Cond.instanceMethod yX10_bridge ∈ wAll := wIn 759 (by decide +kernel) (by decide +kernel)
theorem w_761 : Cond.code yX10_bridge cX10_bridge 6 (some .int) ∈ wAll := wIn 761 (by decide +kernel) (by decide +kernel)
theorem dL_law_911 : decode cL_law 911 = .ok (.aload_n 2, 1) := by decide +kernel
theorem dL_law_912 : decode cL_law 912 = .ok (.aload_n 0, 1) := by decide +kernel
theorem dL_law_913 : decode cL_law 913 = .ok (.iload 4, 2) := by decide +kernel
theorem dL_law_915 : decode cL_law 915 = .ok (.iconst 1, 1) := by decide +kernel
theorem dL_law_916 : decode cL_law 916 = .ok (.iadd, 1) := by decide +kernel
theorem dL_law_917 : decode cL_law 917 = .ok (.iaload, 1) := by decide +kernel
theorem dL_law_918 : decode cL_law 918 = .ok (.aload_n 0, 1) := by decide +kernel
theorem dL_law_919 : decode cL_law 919 = .ok (.iload 4, 2) := by decide +kernel
theorem dL_law_921 : decode cL_law 921 = .ok (.iconst 2, 1) := by decide +kernel
theorem dL_law_922 : decode cL_law 922 = .ok (.iadd, 1) := by decide +kernel
theorem dL_law_923 : decode cL_law 923 = .ok (.iaload, 1) := by decide +kernel
theorem dL_law_924 : decode cL_law 924 = .ok (.aload_n 0, 1) := by decide +kernel
theorem dL_law_925 : decode cL_law 925 = .ok (.iload 4, 2) := by decide +kernel
theorem dL_law_927 : decode cL_law 927 = .ok (.iconst 3, 1) := by decide +kernel
theorem dL_law_928 : decode cL_law 928 = .ok (.iadd, 1) := by decide +kernel
theorem dL_law_929 : decode cL_law 929 = .ok (.iaload, 1) := by decide +kernel
theorem dL_law_930 : decode cL_law 930 = .ok (.aload_n 0, 1) := by decide +kernel
theorem dL_law_931 : decode cL_law 931 = .ok (.iload 4, 2) := by decide +kernel
theorem dL_law_933 : decode cL_law 933 = .ok (.iconst 4, 1) := by decide +kernel
theorem dL_law_934 : decode cL_law 934 = .ok (.iadd, 1) := by decide +kernel
theorem dL_law_935 : decode cL_law 935 = .ok (.iaload, 1) := by decide +kernel
theorem dL_law_936 : decode cL_law 936 = .ok (.invokevirtual 94, 3) := by decide +kernel
theorem w_1775 : Cond.methodLink "QuarterWalksLaw" 94 yX11_bridge ∈ wAll := wIn 1775 (by decide +kernel) (by decide +kernel)
theorem w_1777 : Cond.selects yX11_bridge.cls yX11_bridge yX11_bridge ∈ wAll := wIn 1777 (by decide +kernel) (by decide +kernel)
theorem mk_X11_bridge : mk yX11_bridge 4 := ⟨by decide +kernel, w_110⟩
theorem w_1776 : Cond.instanceMethod yX11_bridge ∈ wAll := wIn 1776 (by decide +kernel) (by decide +kernel)
theorem w_1778 : Cond.code yX11_bridge cX11_bridge 6 (some .int) ∈ wAll := wIn 1778 (by decide +kernel) (by decide +kernel)
theorem dL_law_939 : decode cL_law 939 = .ok (.if_icmp .eq 1654, 3) := by decide +kernel
theorem dL_law_944 : decode cL_law 944 = .ok (.aload_n 1, 1) := by decide +kernel
theorem dL_law_945 : decode cL_law 945 = .ok (.aload_n 0, 1) := by decide +kernel
theorem dL_law_946 : decode cL_law 946 = .ok (.iload 4, 2) := by decide +kernel
theorem dL_law_948 : decode cL_law 948 = .ok (.iconst 1, 1) := by decide +kernel
theorem dL_law_949 : decode cL_law 949 = .ok (.iadd, 1) := by decide +kernel
theorem dL_law_950 : decode cL_law 950 = .ok (.iaload, 1) := by decide +kernel
theorem dL_law_951 : decode cL_law 951 = .ok (.aload_n 0, 1) := by decide +kernel
theorem dL_law_952 : decode cL_law 952 = .ok (.iload 4, 2) := by decide +kernel
theorem dL_law_954 : decode cL_law 954 = .ok (.iconst 2, 1) := by decide +kernel
theorem dL_law_955 : decode cL_law 955 = .ok (.iadd, 1) := by decide +kernel
theorem dL_law_956 : decode cL_law 956 = .ok (.iaload, 1) := by decide +kernel
theorem dL_law_957 : decode cL_law 957 = .ok (.aload_n 0, 1) := by decide +kernel
theorem dL_law_958 : decode cL_law 958 = .ok (.iload 4, 2) := by decide +kernel
theorem dL_law_960 : decode cL_law 960 = .ok (.iconst 3, 1) := by decide +kernel
theorem dL_law_961 : decode cL_law 961 = .ok (.iadd, 1) := by decide +kernel
theorem dL_law_962 : decode cL_law 962 = .ok (.iaload, 1) := by decide +kernel
theorem dL_law_963 : decode cL_law 963 = .ok (.aload_n 0, 1) := by decide +kernel
theorem dL_law_964 : decode cL_law 964 = .ok (.iload 4, 2) := by decide +kernel
theorem dL_law_966 : decode cL_law 966 = .ok (.iconst 4, 1) := by decide +kernel
theorem dL_law_967 : decode cL_law 967 = .ok (.iadd, 1) := by decide +kernel
theorem dL_law_968 : decode cL_law 968 = .ok (.iaload, 1) := by decide +kernel
theorem dL_law_969 : decode cL_law 969 = .ok (.invokevirtual 95, 3) := by decide +kernel
theorem w_768 : Cond.methodLink "QuarterWalksLaw" 95 yX10_reflected ∈ wAll := wIn 768 (by decide +kernel) (by decide +kernel)
theorem w_770 : Cond.selects yX10_reflected.cls yX10_reflected yX10_reflected ∈ wAll := wIn 770 (by decide +kernel) (by decide +kernel)
theorem mk_X10_reflected : mk yX10_reflected 4 := ⟨by decide +kernel, w_96⟩
theorem w_769 : Cond.instanceMethod yX10_reflected ∈ wAll := wIn 769 (by decide +kernel) (by decide +kernel)
theorem w_771 : Cond.code yX10_reflected cX10_reflected 10 (some .int) ∈ wAll := wIn 771 (by decide +kernel) (by decide +kernel)
theorem dL_law_972 : decode cL_law 972 = .ok (.aload_n 2, 1) := by decide +kernel
theorem dL_law_973 : decode cL_law 973 = .ok (.aload_n 0, 1) := by decide +kernel
theorem dL_law_974 : decode cL_law 974 = .ok (.iload 4, 2) := by decide +kernel
theorem dL_law_976 : decode cL_law 976 = .ok (.iconst 1, 1) := by decide +kernel
theorem dL_law_977 : decode cL_law 977 = .ok (.iadd, 1) := by decide +kernel
theorem dL_law_978 : decode cL_law 978 = .ok (.iaload, 1) := by decide +kernel
theorem dL_law_979 : decode cL_law 979 = .ok (.aload_n 0, 1) := by decide +kernel
theorem dL_law_980 : decode cL_law 980 = .ok (.iload 4, 2) := by decide +kernel
theorem dL_law_982 : decode cL_law 982 = .ok (.iconst 2, 1) := by decide +kernel
theorem dL_law_983 : decode cL_law 983 = .ok (.iadd, 1) := by decide +kernel
theorem dL_law_984 : decode cL_law 984 = .ok (.iaload, 1) := by decide +kernel
theorem dL_law_985 : decode cL_law 985 = .ok (.aload_n 0, 1) := by decide +kernel
theorem dL_law_986 : decode cL_law 986 = .ok (.iload 4, 2) := by decide +kernel
theorem dL_law_988 : decode cL_law 988 = .ok (.iconst 3, 1) := by decide +kernel
theorem dL_law_989 : decode cL_law 989 = .ok (.iadd, 1) := by decide +kernel
theorem dL_law_990 : decode cL_law 990 = .ok (.iaload, 1) := by decide +kernel
theorem dL_law_991 : decode cL_law 991 = .ok (.aload_n 0, 1) := by decide +kernel
theorem dL_law_992 : decode cL_law 992 = .ok (.iload 4, 2) := by decide +kernel
theorem dL_law_994 : decode cL_law 994 = .ok (.iconst 4, 1) := by decide +kernel
theorem dL_law_995 : decode cL_law 995 = .ok (.iadd, 1) := by decide +kernel
theorem dL_law_996 : decode cL_law 996 = .ok (.iaload, 1) := by decide +kernel
theorem dL_law_997 : decode cL_law 997 = .ok (.invokevirtual 98, 3) := by decide +kernel
theorem w_1783 : Cond.methodLink "QuarterWalksLaw" 98 yX11_reflected ∈ wAll := wIn 1783 (by decide +kernel) (by decide +kernel)
theorem w_1785 : Cond.selects yX11_reflected.cls yX11_reflected yX11_reflected ∈ wAll := wIn 1785 (by decide +kernel) (by decide +kernel)
theorem mk_X11_reflected : mk yX11_reflected 4 := ⟨by decide +kernel, w_110⟩
theorem w_1784 : Cond.instanceMethod yX11_reflected ∈ wAll := wIn 1784 (by decide +kernel) (by decide +kernel)
theorem w_1786 : Cond.code yX11_reflected cX11_reflected 7 (some .int) ∈ wAll := wIn 1786 (by decide +kernel) (by decide +kernel)
theorem dL_law_1000 : decode cL_law 1000 = .ok (.if_icmp .eq 1593, 3) := by decide +kernel
theorem dL_law_1005 : decode cL_law 1005 = .ok (.aload_n 1, 1) := by decide +kernel
theorem dL_law_1006 : decode cL_law 1006 = .ok (.aload_n 0, 1) := by decide +kernel
theorem dL_law_1007 : decode cL_law 1007 = .ok (.iload 4, 2) := by decide +kernel
theorem dL_law_1009 : decode cL_law 1009 = .ok (.iconst 1, 1) := by decide +kernel
theorem dL_law_1010 : decode cL_law 1010 = .ok (.iadd, 1) := by decide +kernel
theorem dL_law_1011 : decode cL_law 1011 = .ok (.iaload, 1) := by decide +kernel
theorem dL_law_1012 : decode cL_law 1012 = .ok (.aload_n 0, 1) := by decide +kernel
theorem dL_law_1013 : decode cL_law 1013 = .ok (.iload 4, 2) := by decide +kernel
theorem dL_law_1015 : decode cL_law 1015 = .ok (.iconst 2, 1) := by decide +kernel
theorem dL_law_1016 : decode cL_law 1016 = .ok (.iadd, 1) := by decide +kernel
theorem dL_law_1017 : decode cL_law 1017 = .ok (.iaload, 1) := by decide +kernel
theorem dL_law_1018 : decode cL_law 1018 = .ok (.invokevirtual 99, 3) := by decide +kernel
theorem w_782 : Cond.methodLink "QuarterWalksLaw" 99 yX10_rank ∈ wAll := wIn 782 (by decide +kernel) (by decide +kernel)
theorem w_784 : Cond.selects yX10_rank.cls yX10_rank yX10_rank ∈ wAll := wIn 784 (by decide +kernel) (by decide +kernel)
theorem mk_X10_rank : mk yX10_rank 2 := ⟨by decide +kernel, w_96⟩
theorem w_783 : Cond.instanceMethod yX10_rank ∈ wAll := wIn 783 (by decide +kernel) (by decide +kernel)
theorem w_785 : Cond.code yX10_rank cX10_rank 6 (some .int) ∈ wAll := wIn 785 (by decide +kernel) (by decide +kernel)
theorem dL_law_1021 : decode cL_law 1021 = .ok (.aload_n 2, 1) := by decide +kernel
theorem dL_law_1022 : decode cL_law 1022 = .ok (.aload_n 0, 1) := by decide +kernel
theorem dL_law_1023 : decode cL_law 1023 = .ok (.iload 4, 2) := by decide +kernel
theorem dL_law_1025 : decode cL_law 1025 = .ok (.iconst 1, 1) := by decide +kernel
theorem dL_law_1026 : decode cL_law 1026 = .ok (.iadd, 1) := by decide +kernel
theorem dL_law_1027 : decode cL_law 1027 = .ok (.iaload, 1) := by decide +kernel
theorem dL_law_1028 : decode cL_law 1028 = .ok (.aload_n 0, 1) := by decide +kernel
theorem dL_law_1029 : decode cL_law 1029 = .ok (.iload 4, 2) := by decide +kernel
theorem dL_law_1031 : decode cL_law 1031 = .ok (.iconst 2, 1) := by decide +kernel
theorem dL_law_1032 : decode cL_law 1032 = .ok (.iadd, 1) := by decide +kernel
theorem dL_law_1033 : decode cL_law 1033 = .ok (.iaload, 1) := by decide +kernel
theorem dL_law_1034 : decode cL_law 1034 = .ok (.invokevirtual 102, 3) := by decide +kernel
theorem w_1811 : Cond.methodLink "QuarterWalksLaw" 102 yX11_rank ∈ wAll := wIn 1811 (by decide +kernel) (by decide +kernel)
theorem w_1813 : Cond.selects yX11_rank.cls yX11_rank yX11_rank ∈ wAll := wIn 1813 (by decide +kernel) (by decide +kernel)
theorem mk_X11_rank : mk yX11_rank 2 := ⟨by decide +kernel, w_110⟩
theorem w_1812 : Cond.instanceMethod yX11_rank ∈ wAll := wIn 1812 (by decide +kernel) (by decide +kernel)
theorem w_1814 : Cond.code yX11_rank cX11_rank 5 (some .int) ∈ wAll := wIn 1814 (by decide +kernel) (by decide +kernel)
theorem dL_law_1037 : decode cL_law 1037 = .ok (.if_icmp .eq 1556, 3) := by decide +kernel
theorem dL_law_1042 : decode cL_law 1042 = .ok (.aload_n 1, 1) := by decide +kernel
theorem dL_law_1043 : decode cL_law 1043 = .ok (.aload_n 0, 1) := by decide +kernel
theorem dL_law_1044 : decode cL_law 1044 = .ok (.iload 4, 2) := by decide +kernel
theorem dL_law_1046 : decode cL_law 1046 = .ok (.iconst 1, 1) := by decide +kernel
theorem dL_law_1047 : decode cL_law 1047 = .ok (.iadd, 1) := by decide +kernel
theorem dL_law_1048 : decode cL_law 1048 = .ok (.iaload, 1) := by decide +kernel
theorem dL_law_1049 : decode cL_law 1049 = .ok (.aload_n 0, 1) := by decide +kernel
theorem dL_law_1050 : decode cL_law 1050 = .ok (.iload 4, 2) := by decide +kernel
theorem dL_law_1052 : decode cL_law 1052 = .ok (.iconst 2, 1) := by decide +kernel
theorem dL_law_1053 : decode cL_law 1053 = .ok (.iadd, 1) := by decide +kernel
theorem dL_law_1054 : decode cL_law 1054 = .ok (.iaload, 1) := by decide +kernel
theorem dL_law_1055 : decode cL_law 1055 = .ok (.aload_n 0, 1) := by decide +kernel
theorem dL_law_1056 : decode cL_law 1056 = .ok (.iload 4, 2) := by decide +kernel
theorem dL_law_1058 : decode cL_law 1058 = .ok (.iconst 3, 1) := by decide +kernel
theorem dL_law_1059 : decode cL_law 1059 = .ok (.iadd, 1) := by decide +kernel
theorem dL_law_1060 : decode cL_law 1060 = .ok (.iaload, 1) := by decide +kernel
theorem dL_law_1061 : decode cL_law 1061 = .ok (.invokevirtual 103, 3) := by decide +kernel
theorem w_817 : Cond.methodLink "QuarterWalksLaw" 103 yX10_ratio ∈ wAll := wIn 817 (by decide +kernel) (by decide +kernel)
theorem w_819 : Cond.selects yX10_ratio.cls yX10_ratio yX10_ratio ∈ wAll := wIn 819 (by decide +kernel) (by decide +kernel)
theorem mk_X10_ratio : mk yX10_ratio 3 := ⟨by decide +kernel, w_96⟩
theorem w_818 : Cond.instanceMethod yX10_ratio ∈ wAll := wIn 818 (by decide +kernel) (by decide +kernel)
theorem w_820 : Cond.code yX10_ratio cX10_ratio 6 (some .int) ∈ wAll := wIn 820 (by decide +kernel) (by decide +kernel)
theorem dL_law_1064 : decode cL_law 1064 = .ok (.aload_n 2, 1) := by decide +kernel
theorem dL_law_1065 : decode cL_law 1065 = .ok (.aload_n 0, 1) := by decide +kernel
theorem dL_law_1066 : decode cL_law 1066 = .ok (.iload 4, 2) := by decide +kernel
theorem dL_law_1068 : decode cL_law 1068 = .ok (.iconst 1, 1) := by decide +kernel
theorem dL_law_1069 : decode cL_law 1069 = .ok (.iadd, 1) := by decide +kernel
theorem dL_law_1070 : decode cL_law 1070 = .ok (.iaload, 1) := by decide +kernel
theorem dL_law_1071 : decode cL_law 1071 = .ok (.aload_n 0, 1) := by decide +kernel
theorem dL_law_1072 : decode cL_law 1072 = .ok (.iload 4, 2) := by decide +kernel
theorem dL_law_1074 : decode cL_law 1074 = .ok (.iconst 2, 1) := by decide +kernel
theorem dL_law_1075 : decode cL_law 1075 = .ok (.iadd, 1) := by decide +kernel
theorem dL_law_1076 : decode cL_law 1076 = .ok (.iaload, 1) := by decide +kernel
theorem dL_law_1077 : decode cL_law 1077 = .ok (.aload_n 0, 1) := by decide +kernel
theorem dL_law_1078 : decode cL_law 1078 = .ok (.iload 4, 2) := by decide +kernel
theorem dL_law_1080 : decode cL_law 1080 = .ok (.iconst 3, 1) := by decide +kernel
theorem dL_law_1081 : decode cL_law 1081 = .ok (.iadd, 1) := by decide +kernel
theorem dL_law_1082 : decode cL_law 1082 = .ok (.iaload, 1) := by decide +kernel
theorem dL_law_1083 : decode cL_law 1083 = .ok (.invokevirtual 106, 3) := by decide +kernel
theorem w_1816 : Cond.methodLink "QuarterWalksLaw" 106 yX11_ratio ∈ wAll := wIn 1816 (by decide +kernel) (by decide +kernel)
theorem w_1818 : Cond.selects yX11_ratio.cls yX11_ratio yX11_ratio ∈ wAll := wIn 1818 (by decide +kernel) (by decide +kernel)
theorem mk_X11_ratio : mk yX11_ratio 3 := ⟨by decide +kernel, w_110⟩
theorem w_1817 : Cond.instanceMethod yX11_ratio ∈ wAll := wIn 1817 (by decide +kernel) (by decide +kernel)
theorem w_1819 : Cond.code yX11_ratio cX11_ratio 4 (some .int) ∈ wAll := wIn 1819 (by decide +kernel) (by decide +kernel)
theorem dL_law_1086 : decode cL_law 1086 = .ok (.if_icmp .eq 1507, 3) := by decide +kernel
theorem dL_law_1091 : decode cL_law 1091 = .ok (.aload_n 1, 1) := by decide +kernel
theorem dL_law_1092 : decode cL_law 1092 = .ok (.aload_n 0, 1) := by decide +kernel
theorem dL_law_1093 : decode cL_law 1093 = .ok (.iload 4, 2) := by decide +kernel
theorem dL_law_1095 : decode cL_law 1095 = .ok (.iconst 1, 1) := by decide +kernel
theorem dL_law_1096 : decode cL_law 1096 = .ok (.iadd, 1) := by decide +kernel
theorem dL_law_1097 : decode cL_law 1097 = .ok (.iaload, 1) := by decide +kernel
theorem dL_law_1098 : decode cL_law 1098 = .ok (.aload_n 0, 1) := by decide +kernel
theorem dL_law_1099 : decode cL_law 1099 = .ok (.iload 4, 2) := by decide +kernel
theorem dL_law_1101 : decode cL_law 1101 = .ok (.iconst 2, 1) := by decide +kernel
theorem dL_law_1102 : decode cL_law 1102 = .ok (.iadd, 1) := by decide +kernel
theorem dL_law_1103 : decode cL_law 1103 = .ok (.iaload, 1) := by decide +kernel
theorem dL_law_1104 : decode cL_law 1104 = .ok (.aload_n 0, 1) := by decide +kernel
theorem dL_law_1105 : decode cL_law 1105 = .ok (.iload 4, 2) := by decide +kernel
theorem dL_law_1107 : decode cL_law 1107 = .ok (.iconst 3, 1) := by decide +kernel
theorem dL_law_1108 : decode cL_law 1108 = .ok (.iadd, 1) := by decide +kernel
theorem dL_law_1109 : decode cL_law 1109 = .ok (.iaload, 1) := by decide +kernel
theorem dL_law_1110 : decode cL_law 1110 = .ok (.invokevirtual 107, 3) := by decide +kernel
theorem w_823 : Cond.methodLink "QuarterWalksLaw" 107 yX10_hankel ∈ wAll := wIn 823 (by decide +kernel) (by decide +kernel)
theorem w_825 : Cond.selects yX10_hankel.cls yX10_hankel yX10_hankel ∈ wAll := wIn 825 (by decide +kernel) (by decide +kernel)
theorem mk_X10_hankel : mk yX10_hankel 3 := ⟨by decide +kernel, w_96⟩
theorem w_824 : Cond.instanceMethod yX10_hankel ∈ wAll := wIn 824 (by decide +kernel) (by decide +kernel)
theorem w_826 : Cond.code yX10_hankel cX10_hankel 7 (some .int) ∈ wAll := wIn 826 (by decide +kernel) (by decide +kernel)
theorem dL_law_1113 : decode cL_law 1113 = .ok (.aload_n 2, 1) := by decide +kernel
theorem dL_law_1114 : decode cL_law 1114 = .ok (.aload_n 0, 1) := by decide +kernel
theorem dL_law_1115 : decode cL_law 1115 = .ok (.iload 4, 2) := by decide +kernel
theorem dL_law_1117 : decode cL_law 1117 = .ok (.iconst 1, 1) := by decide +kernel
theorem dL_law_1118 : decode cL_law 1118 = .ok (.iadd, 1) := by decide +kernel
theorem dL_law_1119 : decode cL_law 1119 = .ok (.iaload, 1) := by decide +kernel
theorem dL_law_1120 : decode cL_law 1120 = .ok (.aload_n 0, 1) := by decide +kernel
theorem dL_law_1121 : decode cL_law 1121 = .ok (.iload 4, 2) := by decide +kernel
theorem dL_law_1123 : decode cL_law 1123 = .ok (.iconst 2, 1) := by decide +kernel
theorem dL_law_1124 : decode cL_law 1124 = .ok (.iadd, 1) := by decide +kernel
theorem dL_law_1125 : decode cL_law 1125 = .ok (.iaload, 1) := by decide +kernel
theorem dL_law_1126 : decode cL_law 1126 = .ok (.aload_n 0, 1) := by decide +kernel
theorem dL_law_1127 : decode cL_law 1127 = .ok (.iload 4, 2) := by decide +kernel
theorem dL_law_1129 : decode cL_law 1129 = .ok (.iconst 3, 1) := by decide +kernel
theorem dL_law_1130 : decode cL_law 1130 = .ok (.iadd, 1) := by decide +kernel
theorem dL_law_1131 : decode cL_law 1131 = .ok (.iaload, 1) := by decide +kernel
theorem dL_law_1132 : decode cL_law 1132 = .ok (.invokevirtual 110, 3) := by decide +kernel
theorem w_1795 : Cond.methodLink "QuarterWalksLaw" 110 yX11_hankel ∈ wAll := wIn 1795 (by decide +kernel) (by decide +kernel)
theorem w_1797 : Cond.selects yX11_hankel.cls yX11_hankel yX11_hankel ∈ wAll := wIn 1797 (by decide +kernel) (by decide +kernel)
theorem mk_X11_hankel : mk yX11_hankel 3 := ⟨by decide +kernel, w_110⟩
theorem w_1796 : Cond.instanceMethod yX11_hankel ∈ wAll := wIn 1796 (by decide +kernel) (by decide +kernel)
theorem w_1798 : Cond.code yX11_hankel cX11_hankel 6 (some .int) ∈ wAll := wIn 1798 (by decide +kernel) (by decide +kernel)
theorem dL_law_1135 : decode cL_law 1135 = .ok (.if_icmp .eq 1458, 3) := by decide +kernel
theorem dL_law_1140 : decode cL_law 1140 = .ok (.aload_n 1, 1) := by decide +kernel
theorem dL_law_1141 : decode cL_law 1141 = .ok (.aload_n 0, 1) := by decide +kernel
theorem dL_law_1142 : decode cL_law 1142 = .ok (.iload 4, 2) := by decide +kernel
theorem dL_law_1144 : decode cL_law 1144 = .ok (.iconst 1, 1) := by decide +kernel
theorem dL_law_1145 : decode cL_law 1145 = .ok (.iadd, 1) := by decide +kernel
theorem dL_law_1146 : decode cL_law 1146 = .ok (.iaload, 1) := by decide +kernel
theorem dL_law_1147 : decode cL_law 1147 = .ok (.aload_n 0, 1) := by decide +kernel
theorem dL_law_1148 : decode cL_law 1148 = .ok (.iload 4, 2) := by decide +kernel
theorem dL_law_1150 : decode cL_law 1150 = .ok (.iconst 2, 1) := by decide +kernel
theorem dL_law_1151 : decode cL_law 1151 = .ok (.iadd, 1) := by decide +kernel
theorem dL_law_1152 : decode cL_law 1152 = .ok (.iaload, 1) := by decide +kernel
theorem dL_law_1153 : decode cL_law 1153 = .ok (.aload_n 0, 1) := by decide +kernel
theorem dL_law_1154 : decode cL_law 1154 = .ok (.iload 4, 2) := by decide +kernel
theorem dL_law_1156 : decode cL_law 1156 = .ok (.iconst 3, 1) := by decide +kernel
theorem dL_law_1157 : decode cL_law 1157 = .ok (.iadd, 1) := by decide +kernel
theorem dL_law_1158 : decode cL_law 1158 = .ok (.iaload, 1) := by decide +kernel
theorem dL_law_1159 : decode cL_law 1159 = .ok (.aload_n 0, 1) := by decide +kernel
theorem dL_law_1160 : decode cL_law 1160 = .ok (.iload 4, 2) := by decide +kernel
theorem dL_law_1162 : decode cL_law 1162 = .ok (.iconst 4, 1) := by decide +kernel
theorem dL_law_1163 : decode cL_law 1163 = .ok (.iadd, 1) := by decide +kernel
theorem dL_law_1164 : decode cL_law 1164 = .ok (.iaload, 1) := by decide +kernel
theorem dL_law_1165 : decode cL_law 1165 = .ok (.aload_n 0, 1) := by decide +kernel
theorem dL_law_1166 : decode cL_law 1166 = .ok (.iload 4, 2) := by decide +kernel
theorem dL_law_1168 : decode cL_law 1168 = .ok (.iconst 5, 1) := by decide +kernel
theorem dL_law_1169 : decode cL_law 1169 = .ok (.iadd, 1) := by decide +kernel
theorem dL_law_1170 : decode cL_law 1170 = .ok (.iaload, 1) := by decide +kernel
theorem dL_law_1171 : decode cL_law 1171 = .ok (.invokevirtual 111, 3) := by decide +kernel
theorem w_831 : Cond.methodLink "QuarterWalksLaw" 111 yX10_convolved ∈ wAll := wIn 831 (by decide +kernel) (by decide +kernel)
theorem w_833 : Cond.selects yX10_convolved.cls yX10_convolved yX10_convolved ∈ wAll := wIn 833 (by decide +kernel) (by decide +kernel)
theorem mk_X10_convolved : mk yX10_convolved 5 := ⟨by decide +kernel, w_96⟩
theorem w_832 : Cond.instanceMethod yX10_convolved ∈ wAll := wIn 832 (by decide +kernel) (by decide +kernel)
theorem w_834 : Cond.code yX10_convolved cX10_convolved 11 (some .int) ∈ wAll := wIn 834 (by decide +kernel) (by decide +kernel)
theorem dL_law_1174 : decode cL_law 1174 = .ok (.aload_n 2, 1) := by decide +kernel
theorem dL_law_1175 : decode cL_law 1175 = .ok (.aload_n 0, 1) := by decide +kernel
theorem dL_law_1176 : decode cL_law 1176 = .ok (.iload 4, 2) := by decide +kernel
theorem dL_law_1178 : decode cL_law 1178 = .ok (.iconst 1, 1) := by decide +kernel
theorem dL_law_1179 : decode cL_law 1179 = .ok (.iadd, 1) := by decide +kernel
theorem dL_law_1180 : decode cL_law 1180 = .ok (.iaload, 1) := by decide +kernel
theorem dL_law_1181 : decode cL_law 1181 = .ok (.aload_n 0, 1) := by decide +kernel
theorem dL_law_1182 : decode cL_law 1182 = .ok (.iload 4, 2) := by decide +kernel
theorem dL_law_1184 : decode cL_law 1184 = .ok (.iconst 2, 1) := by decide +kernel
theorem dL_law_1185 : decode cL_law 1185 = .ok (.iadd, 1) := by decide +kernel
theorem dL_law_1186 : decode cL_law 1186 = .ok (.iaload, 1) := by decide +kernel
theorem dL_law_1187 : decode cL_law 1187 = .ok (.aload_n 0, 1) := by decide +kernel
theorem dL_law_1188 : decode cL_law 1188 = .ok (.iload 4, 2) := by decide +kernel
theorem dL_law_1190 : decode cL_law 1190 = .ok (.iconst 3, 1) := by decide +kernel
theorem dL_law_1191 : decode cL_law 1191 = .ok (.iadd, 1) := by decide +kernel
theorem dL_law_1192 : decode cL_law 1192 = .ok (.iaload, 1) := by decide +kernel
theorem dL_law_1193 : decode cL_law 1193 = .ok (.aload_n 0, 1) := by decide +kernel
theorem dL_law_1194 : decode cL_law 1194 = .ok (.iload 4, 2) := by decide +kernel
theorem dL_law_1196 : decode cL_law 1196 = .ok (.iconst 4, 1) := by decide +kernel
theorem dL_law_1197 : decode cL_law 1197 = .ok (.iadd, 1) := by decide +kernel
theorem dL_law_1198 : decode cL_law 1198 = .ok (.iaload, 1) := by decide +kernel
theorem dL_law_1199 : decode cL_law 1199 = .ok (.aload_n 0, 1) := by decide +kernel
theorem dL_law_1200 : decode cL_law 1200 = .ok (.iload 4, 2) := by decide +kernel
theorem dL_law_1202 : decode cL_law 1202 = .ok (.iconst 5, 1) := by decide +kernel
theorem dL_law_1203 : decode cL_law 1203 = .ok (.iadd, 1) := by decide +kernel
theorem dL_law_1204 : decode cL_law 1204 = .ok (.iaload, 1) := by decide +kernel
theorem dL_law_1205 : decode cL_law 1205 = .ok (.invokevirtual 114, 3) := by decide +kernel
theorem w_1771 : Cond.methodLink "QuarterWalksLaw" 114 yX11_convolved ∈ wAll := wIn 1771 (by decide +kernel) (by decide +kernel)
theorem w_1773 : Cond.selects yX11_convolved.cls yX11_convolved yX11_convolved ∈ wAll := wIn 1773 (by decide +kernel) (by decide +kernel)
theorem mk_X11_convolved : mk yX11_convolved 5 := ⟨by decide +kernel, w_110⟩
theorem w_1772 : Cond.instanceMethod yX11_convolved ∈ wAll := wIn 1772 (by decide +kernel) (by decide +kernel)
theorem w_1774 : Cond.code yX11_convolved cX11_convolved 9 (some .int) ∈ wAll := wIn 1774 (by decide +kernel) (by decide +kernel)
theorem dL_law_1208 : decode cL_law 1208 = .ok (.if_icmp .eq 1385, 3) := by decide +kernel
theorem dL_law_1213 : decode cL_law 1213 = .ok (.aload_n 1, 1) := by decide +kernel
theorem dL_law_1214 : decode cL_law 1214 = .ok (.aload_n 0, 1) := by decide +kernel
theorem dL_law_1215 : decode cL_law 1215 = .ok (.iload 4, 2) := by decide +kernel
theorem dL_law_1217 : decode cL_law 1217 = .ok (.iconst 1, 1) := by decide +kernel
theorem dL_law_1218 : decode cL_law 1218 = .ok (.iadd, 1) := by decide +kernel
theorem dL_law_1219 : decode cL_law 1219 = .ok (.iaload, 1) := by decide +kernel
theorem dL_law_1220 : decode cL_law 1220 = .ok (.aload_n 0, 1) := by decide +kernel
theorem dL_law_1221 : decode cL_law 1221 = .ok (.iload 4, 2) := by decide +kernel
theorem dL_law_1223 : decode cL_law 1223 = .ok (.iconst 2, 1) := by decide +kernel
theorem dL_law_1224 : decode cL_law 1224 = .ok (.iadd, 1) := by decide +kernel
theorem dL_law_1225 : decode cL_law 1225 = .ok (.iaload, 1) := by decide +kernel
theorem dL_law_1226 : decode cL_law 1226 = .ok (.invokevirtual 115, 3) := by decide +kernel
theorem w_835 : Cond.methodLink "QuarterWalksLaw" 115 yX10_out ∈ wAll := wIn 835 (by decide +kernel) (by decide +kernel)
theorem w_837 : Cond.selects yX10_out.cls yX10_out yX10_out ∈ wAll := wIn 837 (by decide +kernel) (by decide +kernel)
theorem mk_X10_out : mk yX10_out 2 := ⟨by decide +kernel, w_96⟩
theorem w_836 : Cond.instanceMethod yX10_out ∈ wAll := wIn 836 (by decide +kernel) (by decide +kernel)
theorem w_838 : Cond.code yX10_out cX10_out 4 (some .int) ∈ wAll := wIn 838 (by decide +kernel) (by decide +kernel)
theorem dL_law_1229 : decode cL_law 1229 = .ok (.aload_n 2, 1) := by decide +kernel
theorem dL_law_1230 : decode cL_law 1230 = .ok (.aload_n 0, 1) := by decide +kernel
theorem dL_law_1231 : decode cL_law 1231 = .ok (.iload 4, 2) := by decide +kernel
theorem dL_law_1233 : decode cL_law 1233 = .ok (.iconst 1, 1) := by decide +kernel
theorem dL_law_1234 : decode cL_law 1234 = .ok (.iadd, 1) := by decide +kernel
theorem dL_law_1235 : decode cL_law 1235 = .ok (.iaload, 1) := by decide +kernel
theorem dL_law_1236 : decode cL_law 1236 = .ok (.aload_n 0, 1) := by decide +kernel
theorem dL_law_1237 : decode cL_law 1237 = .ok (.iload 4, 2) := by decide +kernel
theorem dL_law_1239 : decode cL_law 1239 = .ok (.iconst 2, 1) := by decide +kernel
theorem dL_law_1240 : decode cL_law 1240 = .ok (.iadd, 1) := by decide +kernel
theorem dL_law_1241 : decode cL_law 1241 = .ok (.iaload, 1) := by decide +kernel
theorem dL_law_1242 : decode cL_law 1242 = .ok (.invokevirtual 118, 3) := by decide +kernel
theorem w_1753 : Cond.methodLink "QuarterWalksLaw" 118 yX11_out ∈ wAll := wIn 1753 (by decide +kernel) (by decide +kernel)
theorem w_1755 : Cond.selects yX11_out.cls yX11_out yX11_out ∈ wAll := wIn 1755 (by decide +kernel) (by decide +kernel)
theorem mk_X11_out : mk yX11_out 2 := ⟨by decide +kernel, w_110⟩
theorem w_1754 : Cond.instanceMethod yX11_out ∈ wAll := wIn 1754 (by decide +kernel) (by decide +kernel)
theorem w_1756 : Cond.code yX11_out cX11_out 9 (some .int) ∈ wAll := wIn 1756 (by decide +kernel) (by decide +kernel)
theorem dL_law_1245 : decode cL_law 1245 = .ok (.if_icmp .eq 1348, 3) := by decide +kernel
theorem dL_law_1250 : decode cL_law 1250 = .ok (.aload_n 1, 1) := by decide +kernel
theorem dL_law_1251 : decode cL_law 1251 = .ok (.aload_n 0, 1) := by decide +kernel
theorem dL_law_1252 : decode cL_law 1252 = .ok (.iload 4, 2) := by decide +kernel
theorem dL_law_1254 : decode cL_law 1254 = .ok (.iconst 1, 1) := by decide +kernel
theorem dL_law_1255 : decode cL_law 1255 = .ok (.iadd, 1) := by decide +kernel
theorem dL_law_1256 : decode cL_law 1256 = .ok (.iaload, 1) := by decide +kernel
theorem dL_law_1257 : decode cL_law 1257 = .ok (.aload_n 0, 1) := by decide +kernel
theorem dL_law_1258 : decode cL_law 1258 = .ok (.iload 4, 2) := by decide +kernel
theorem dL_law_1260 : decode cL_law 1260 = .ok (.iconst 2, 1) := by decide +kernel
theorem dL_law_1261 : decode cL_law 1261 = .ok (.iadd, 1) := by decide +kernel
theorem dL_law_1262 : decode cL_law 1262 = .ok (.iaload, 1) := by decide +kernel
theorem dL_law_1263 : decode cL_law 1263 = .ok (.invokevirtual 119, 3) := by decide +kernel
theorem w_847 : Cond.methodLink "QuarterWalksLaw" 119 yX10_arches ∈ wAll := wIn 847 (by decide +kernel) (by decide +kernel)
theorem w_849 : Cond.selects yX10_arches.cls yX10_arches yX10_arches ∈ wAll := wIn 849 (by decide +kernel) (by decide +kernel)
theorem mk_X10_arches : mk yX10_arches 2 := ⟨by decide +kernel, w_96⟩
theorem w_848 : Cond.instanceMethod yX10_arches ∈ wAll := wIn 848 (by decide +kernel) (by decide +kernel)
theorem w_850 : Cond.code yX10_arches cX10_arches 8 (some .int) ∈ wAll := wIn 850 (by decide +kernel) (by decide +kernel)
theorem dL_law_1266 : decode cL_law 1266 = .ok (.aload_n 2, 1) := by decide +kernel
theorem dL_law_1267 : decode cL_law 1267 = .ok (.aload_n 0, 1) := by decide +kernel
theorem dL_law_1268 : decode cL_law 1268 = .ok (.iload 4, 2) := by decide +kernel
theorem dL_law_1270 : decode cL_law 1270 = .ok (.iconst 1, 1) := by decide +kernel
theorem dL_law_1271 : decode cL_law 1271 = .ok (.iadd, 1) := by decide +kernel
theorem dL_law_1272 : decode cL_law 1272 = .ok (.iaload, 1) := by decide +kernel
theorem dL_law_1273 : decode cL_law 1273 = .ok (.aload_n 0, 1) := by decide +kernel
theorem dL_law_1274 : decode cL_law 1274 = .ok (.iload 4, 2) := by decide +kernel
theorem dL_law_1276 : decode cL_law 1276 = .ok (.iconst 2, 1) := by decide +kernel
theorem dL_law_1277 : decode cL_law 1277 = .ok (.iadd, 1) := by decide +kernel
theorem dL_law_1278 : decode cL_law 1278 = .ok (.iaload, 1) := by decide +kernel
theorem dL_law_1279 : decode cL_law 1279 = .ok (.invokevirtual 122, 3) := by decide +kernel
theorem w_1757 : Cond.methodLink "QuarterWalksLaw" 122 yX11_arches ∈ wAll := wIn 1757 (by decide +kernel) (by decide +kernel)
theorem w_1759 : Cond.selects yX11_arches.cls yX11_arches yX11_arches ∈ wAll := wIn 1759 (by decide +kernel) (by decide +kernel)
theorem mk_X11_arches : mk yX11_arches 2 := ⟨by decide +kernel, w_110⟩
theorem w_1758 : Cond.instanceMethod yX11_arches ∈ wAll := wIn 1758 (by decide +kernel) (by decide +kernel)
theorem w_1760 : Cond.code yX11_arches cX11_arches 7 (some .int) ∈ wAll := wIn 1760 (by decide +kernel) (by decide +kernel)
theorem dL_law_1282 : decode cL_law 1282 = .ok (.if_icmp .eq 1311, 3) := by decide +kernel
theorem dL_law_1287 : decode cL_law 1287 = .ok (.aload_n 1, 1) := by decide +kernel
theorem dL_law_1288 : decode cL_law 1288 = .ok (.aload_n 0, 1) := by decide +kernel
theorem dL_law_1289 : decode cL_law 1289 = .ok (.iload 4, 2) := by decide +kernel
theorem dL_law_1291 : decode cL_law 1291 = .ok (.iconst 1, 1) := by decide +kernel
theorem dL_law_1292 : decode cL_law 1292 = .ok (.iadd, 1) := by decide +kernel
theorem dL_law_1293 : decode cL_law 1293 = .ok (.iaload, 1) := by decide +kernel
theorem dL_law_1294 : decode cL_law 1294 = .ok (.aload_n 0, 1) := by decide +kernel
theorem dL_law_1295 : decode cL_law 1295 = .ok (.iload 4, 2) := by decide +kernel
theorem dL_law_1297 : decode cL_law 1297 = .ok (.iconst 2, 1) := by decide +kernel
theorem dL_law_1298 : decode cL_law 1298 = .ok (.iadd, 1) := by decide +kernel
theorem dL_law_1299 : decode cL_law 1299 = .ok (.iaload, 1) := by decide +kernel
theorem dL_law_1300 : decode cL_law 1300 = .ok (.aload_n 0, 1) := by decide +kernel
theorem dL_law_1301 : decode cL_law 1301 = .ok (.iload 4, 2) := by decide +kernel
theorem dL_law_1303 : decode cL_law 1303 = .ok (.iconst 3, 1) := by decide +kernel
theorem dL_law_1304 : decode cL_law 1304 = .ok (.iadd, 1) := by decide +kernel
theorem dL_law_1305 : decode cL_law 1305 = .ok (.iaload, 1) := by decide +kernel
theorem dL_law_1306 : decode cL_law 1306 = .ok (.aload_n 0, 1) := by decide +kernel
theorem dL_law_1307 : decode cL_law 1307 = .ok (.iload 4, 2) := by decide +kernel
theorem dL_law_1309 : decode cL_law 1309 = .ok (.iconst 4, 1) := by decide +kernel
theorem dL_law_1310 : decode cL_law 1310 = .ok (.iadd, 1) := by decide +kernel
theorem dL_law_1311 : decode cL_law 1311 = .ok (.iaload, 1) := by decide +kernel
theorem dL_law_1312 : decode cL_law 1312 = .ok (.invokevirtual 123, 3) := by decide +kernel
theorem w_851 : Cond.methodLink "QuarterWalksLaw" 123 yX10_value ∈ wAll := wIn 851 (by decide +kernel) (by decide +kernel)
theorem w_853 : Cond.selects yX10_value.cls yX10_value yX10_value ∈ wAll := wIn 853 (by decide +kernel) (by decide +kernel)
theorem mk_X10_value : mk yX10_value 4 := ⟨by decide +kernel, w_96⟩
theorem w_852 : Cond.instanceMethod yX10_value ∈ wAll := wIn 852 (by decide +kernel) (by decide +kernel)
theorem w_854 : Cond.code yX10_value cX10_value 6 (some .int) ∈ wAll := wIn 854 (by decide +kernel) (by decide +kernel)
theorem dL_law_1315 : decode cL_law 1315 = .ok (.aload_n 2, 1) := by decide +kernel
theorem dL_law_1316 : decode cL_law 1316 = .ok (.aload_n 0, 1) := by decide +kernel
theorem dL_law_1317 : decode cL_law 1317 = .ok (.iload 4, 2) := by decide +kernel
theorem dL_law_1319 : decode cL_law 1319 = .ok (.iconst 1, 1) := by decide +kernel
theorem dL_law_1320 : decode cL_law 1320 = .ok (.iadd, 1) := by decide +kernel
theorem dL_law_1321 : decode cL_law 1321 = .ok (.iaload, 1) := by decide +kernel
theorem dL_law_1322 : decode cL_law 1322 = .ok (.aload_n 0, 1) := by decide +kernel
theorem dL_law_1323 : decode cL_law 1323 = .ok (.iload 4, 2) := by decide +kernel
theorem dL_law_1325 : decode cL_law 1325 = .ok (.iconst 2, 1) := by decide +kernel
theorem dL_law_1326 : decode cL_law 1326 = .ok (.iadd, 1) := by decide +kernel
theorem dL_law_1327 : decode cL_law 1327 = .ok (.iaload, 1) := by decide +kernel
theorem dL_law_1328 : decode cL_law 1328 = .ok (.aload_n 0, 1) := by decide +kernel
theorem dL_law_1329 : decode cL_law 1329 = .ok (.iload 4, 2) := by decide +kernel
theorem dL_law_1331 : decode cL_law 1331 = .ok (.iconst 3, 1) := by decide +kernel
theorem dL_law_1332 : decode cL_law 1332 = .ok (.iadd, 1) := by decide +kernel
theorem dL_law_1333 : decode cL_law 1333 = .ok (.iaload, 1) := by decide +kernel
theorem dL_law_1334 : decode cL_law 1334 = .ok (.aload_n 0, 1) := by decide +kernel
theorem dL_law_1335 : decode cL_law 1335 = .ok (.iload 4, 2) := by decide +kernel
theorem dL_law_1337 : decode cL_law 1337 = .ok (.iconst 4, 1) := by decide +kernel
theorem dL_law_1338 : decode cL_law 1338 = .ok (.iadd, 1) := by decide +kernel
theorem dL_law_1339 : decode cL_law 1339 = .ok (.iaload, 1) := by decide +kernel
theorem dL_law_1340 : decode cL_law 1340 = .ok (.invokevirtual 126, 3) := by decide +kernel
theorem w_1766 : Cond.methodLink "QuarterWalksLaw" 126 yX11_value ∈ wAll := wIn 1766 (by decide +kernel) (by decide +kernel)
theorem w_1768 : Cond.selects yX11_value.cls yX11_value yX11_value ∈ wAll := wIn 1768 (by decide +kernel) (by decide +kernel)
theorem mk_X11_value : mk yX11_value 4 := ⟨by decide +kernel, w_110⟩
theorem w_1767 : Cond.instanceMethod yX11_value ∈ wAll := wIn 1767 (by decide +kernel) (by decide +kernel)
theorem w_1769 : Cond.code yX11_value cX11_value 13 (some .int) ∈ wAll := wIn 1769 (by decide +kernel) (by decide +kernel)
theorem dL_law_1343 : decode cL_law 1343 = .ok (.if_icmp .eq 1250, 3) := by decide +kernel
theorem dL_law_1348 : decode cL_law 1348 = .ok (.aload_n 1, 1) := by decide +kernel
theorem dL_law_1349 : decode cL_law 1349 = .ok (.aload_n 0, 1) := by decide +kernel
theorem dL_law_1350 : decode cL_law 1350 = .ok (.iload 4, 2) := by decide +kernel
theorem dL_law_1352 : decode cL_law 1352 = .ok (.iconst 1, 1) := by decide +kernel
theorem dL_law_1353 : decode cL_law 1353 = .ok (.iadd, 1) := by decide +kernel
theorem dL_law_1354 : decode cL_law 1354 = .ok (.iaload, 1) := by decide +kernel
theorem dL_law_1355 : decode cL_law 1355 = .ok (.aload_n 0, 1) := by decide +kernel
theorem dL_law_1356 : decode cL_law 1356 = .ok (.iload 4, 2) := by decide +kernel
theorem dL_law_1358 : decode cL_law 1358 = .ok (.iconst 2, 1) := by decide +kernel
theorem dL_law_1359 : decode cL_law 1359 = .ok (.iadd, 1) := by decide +kernel
theorem dL_law_1360 : decode cL_law 1360 = .ok (.iaload, 1) := by decide +kernel
theorem dL_law_1361 : decode cL_law 1361 = .ok (.aload_n 0, 1) := by decide +kernel
theorem dL_law_1362 : decode cL_law 1362 = .ok (.iload 4, 2) := by decide +kernel
theorem dL_law_1364 : decode cL_law 1364 = .ok (.iconst 3, 1) := by decide +kernel
theorem dL_law_1365 : decode cL_law 1365 = .ok (.iadd, 1) := by decide +kernel
theorem dL_law_1366 : decode cL_law 1366 = .ok (.iaload, 1) := by decide +kernel
theorem dL_law_1367 : decode cL_law 1367 = .ok (.aload_n 0, 1) := by decide +kernel
theorem dL_law_1368 : decode cL_law 1368 = .ok (.iload 4, 2) := by decide +kernel
theorem dL_law_1370 : decode cL_law 1370 = .ok (.iconst 4, 1) := by decide +kernel
theorem dL_law_1371 : decode cL_law 1371 = .ok (.iadd, 1) := by decide +kernel
theorem dL_law_1372 : decode cL_law 1372 = .ok (.iaload, 1) := by decide +kernel
theorem dL_law_1373 : decode cL_law 1373 = .ok (.aload_n 0, 1) := by decide +kernel
theorem dL_law_1374 : decode cL_law 1374 = .ok (.iload 4, 2) := by decide +kernel
theorem dL_law_1376 : decode cL_law 1376 = .ok (.iconst 5, 1) := by decide +kernel
theorem dL_law_1377 : decode cL_law 1377 = .ok (.iadd, 1) := by decide +kernel
theorem dL_law_1378 : decode cL_law 1378 = .ok (.iaload, 1) := by decide +kernel
theorem dL_law_1379 : decode cL_law 1379 = .ok (.aload_n 0, 1) := by decide +kernel
theorem dL_law_1380 : decode cL_law 1380 = .ok (.iload 4, 2) := by decide +kernel
theorem dL_law_1382 : decode cL_law 1382 = .ok (.bipush 6, 2) := by decide +kernel
theorem dL_law_1384 : decode cL_law 1384 = .ok (.iadd, 1) := by decide +kernel
theorem dL_law_1385 : decode cL_law 1385 = .ok (.iaload, 1) := by decide +kernel
theorem dL_law_1386 : decode cL_law 1386 = .ok (.invokevirtual 127, 3) := by decide +kernel
theorem w_860 : Cond.methodLink "QuarterWalksLaw" 127 yX10_walk ∈ wAll := wIn 860 (by decide +kernel) (by decide +kernel)
theorem w_862 : Cond.selects yX10_walk.cls yX10_walk yX10_walk ∈ wAll := wIn 862 (by decide +kernel) (by decide +kernel)
theorem mk_X10_walk : mk yX10_walk 6 := ⟨by decide +kernel, w_96⟩
theorem w_861 : Cond.instanceMethod yX10_walk ∈ wAll := wIn 861 (by decide +kernel) (by decide +kernel)
theorem w_863 : Cond.code yX10_walk cX10_walk 9 (some .int) ∈ wAll := wIn 863 (by decide +kernel) (by decide +kernel)
theorem dL_law_1389 : decode cL_law 1389 = .ok (.aload_n 2, 1) := by decide +kernel
theorem dL_law_1390 : decode cL_law 1390 = .ok (.aload_n 0, 1) := by decide +kernel
theorem dL_law_1391 : decode cL_law 1391 = .ok (.iload 4, 2) := by decide +kernel
theorem dL_law_1393 : decode cL_law 1393 = .ok (.iconst 1, 1) := by decide +kernel
theorem dL_law_1394 : decode cL_law 1394 = .ok (.iadd, 1) := by decide +kernel
theorem dL_law_1395 : decode cL_law 1395 = .ok (.iaload, 1) := by decide +kernel
theorem dL_law_1396 : decode cL_law 1396 = .ok (.aload_n 0, 1) := by decide +kernel
theorem dL_law_1397 : decode cL_law 1397 = .ok (.iload 4, 2) := by decide +kernel
theorem dL_law_1399 : decode cL_law 1399 = .ok (.iconst 2, 1) := by decide +kernel
theorem dL_law_1400 : decode cL_law 1400 = .ok (.iadd, 1) := by decide +kernel
theorem dL_law_1401 : decode cL_law 1401 = .ok (.iaload, 1) := by decide +kernel
theorem dL_law_1402 : decode cL_law 1402 = .ok (.aload_n 0, 1) := by decide +kernel
theorem dL_law_1403 : decode cL_law 1403 = .ok (.iload 4, 2) := by decide +kernel
theorem dL_law_1405 : decode cL_law 1405 = .ok (.iconst 3, 1) := by decide +kernel
theorem dL_law_1406 : decode cL_law 1406 = .ok (.iadd, 1) := by decide +kernel
theorem dL_law_1407 : decode cL_law 1407 = .ok (.iaload, 1) := by decide +kernel
theorem dL_law_1408 : decode cL_law 1408 = .ok (.aload_n 0, 1) := by decide +kernel
theorem dL_law_1409 : decode cL_law 1409 = .ok (.iload 4, 2) := by decide +kernel
theorem dL_law_1411 : decode cL_law 1411 = .ok (.iconst 4, 1) := by decide +kernel
theorem dL_law_1412 : decode cL_law 1412 = .ok (.iadd, 1) := by decide +kernel
theorem dL_law_1413 : decode cL_law 1413 = .ok (.iaload, 1) := by decide +kernel
theorem dL_law_1414 : decode cL_law 1414 = .ok (.aload_n 0, 1) := by decide +kernel
theorem dL_law_1415 : decode cL_law 1415 = .ok (.iload 4, 2) := by decide +kernel
theorem dL_law_1417 : decode cL_law 1417 = .ok (.iconst 5, 1) := by decide +kernel
theorem dL_law_1418 : decode cL_law 1418 = .ok (.iadd, 1) := by decide +kernel
theorem dL_law_1419 : decode cL_law 1419 = .ok (.iaload, 1) := by decide +kernel
theorem dL_law_1420 : decode cL_law 1420 = .ok (.aload_n 0, 1) := by decide +kernel
theorem dL_law_1421 : decode cL_law 1421 = .ok (.iload 4, 2) := by decide +kernel
theorem dL_law_1423 : decode cL_law 1423 = .ok (.bipush 6, 2) := by decide +kernel
theorem dL_law_1425 : decode cL_law 1425 = .ok (.iadd, 1) := by decide +kernel
theorem dL_law_1426 : decode cL_law 1426 = .ok (.iaload, 1) := by decide +kernel
theorem dL_law_1427 : decode cL_law 1427 = .ok (.invokevirtual 131, 3) := by decide +kernel
theorem w_1820 : Cond.methodLink "QuarterWalksLaw" 131 yX11_walk ∈ wAll := wIn 1820 (by decide +kernel) (by decide +kernel)
theorem w_1822 : Cond.selects yX11_walk.cls yX11_walk yX11_walk ∈ wAll := wIn 1822 (by decide +kernel) (by decide +kernel)
theorem mk_X11_walk : mk yX11_walk 6 := ⟨by decide +kernel, w_110⟩
theorem w_1821 : Cond.instanceMethod yX11_walk ∈ wAll := wIn 1821 (by decide +kernel) (by decide +kernel)
theorem w_1823 : Cond.code yX11_walk cX11_walk 9 (some .int) ∈ wAll := wIn 1823 (by decide +kernel) (by decide +kernel)
theorem dL_law_1430 : decode cL_law 1430 = .ok (.if_icmp .eq 1163, 3) := by decide +kernel
theorem dL_law_1435 : decode cL_law 1435 = .ok (.aload_n 1, 1) := by decide +kernel
theorem dL_law_1436 : decode cL_law 1436 = .ok (.aload_n 0, 1) := by decide +kernel
theorem dL_law_1437 : decode cL_law 1437 = .ok (.iload 4, 2) := by decide +kernel
theorem dL_law_1439 : decode cL_law 1439 = .ok (.iconst 1, 1) := by decide +kernel
theorem dL_law_1440 : decode cL_law 1440 = .ok (.iadd, 1) := by decide +kernel
theorem dL_law_1441 : decode cL_law 1441 = .ok (.iaload, 1) := by decide +kernel
theorem dL_law_1442 : decode cL_law 1442 = .ok (.aload_n 0, 1) := by decide +kernel
theorem dL_law_1443 : decode cL_law 1443 = .ok (.iload 4, 2) := by decide +kernel
theorem dL_law_1445 : decode cL_law 1445 = .ok (.iconst 2, 1) := by decide +kernel
theorem dL_law_1446 : decode cL_law 1446 = .ok (.iadd, 1) := by decide +kernel
theorem dL_law_1447 : decode cL_law 1447 = .ok (.iaload, 1) := by decide +kernel
theorem dL_law_1448 : decode cL_law 1448 = .ok (.aload_n 0, 1) := by decide +kernel
theorem dL_law_1449 : decode cL_law 1449 = .ok (.iload 4, 2) := by decide +kernel
theorem dL_law_1451 : decode cL_law 1451 = .ok (.iconst 3, 1) := by decide +kernel
theorem dL_law_1452 : decode cL_law 1452 = .ok (.iadd, 1) := by decide +kernel
theorem dL_law_1453 : decode cL_law 1453 = .ok (.iaload, 1) := by decide +kernel
theorem dL_law_1454 : decode cL_law 1454 = .ok (.aload_n 0, 1) := by decide +kernel
theorem dL_law_1455 : decode cL_law 1455 = .ok (.iload 4, 2) := by decide +kernel
theorem dL_law_1457 : decode cL_law 1457 = .ok (.iconst 4, 1) := by decide +kernel
theorem dL_law_1458 : decode cL_law 1458 = .ok (.iadd, 1) := by decide +kernel
theorem dL_law_1459 : decode cL_law 1459 = .ok (.iaload, 1) := by decide +kernel
theorem dL_law_1460 : decode cL_law 1460 = .ok (.aload_n 0, 1) := by decide +kernel
theorem dL_law_1461 : decode cL_law 1461 = .ok (.iload 4, 2) := by decide +kernel
theorem dL_law_1463 : decode cL_law 1463 = .ok (.iconst 5, 1) := by decide +kernel
theorem dL_law_1464 : decode cL_law 1464 = .ok (.iadd, 1) := by decide +kernel
theorem dL_law_1465 : decode cL_law 1465 = .ok (.iaload, 1) := by decide +kernel
theorem dL_law_1466 : decode cL_law 1466 = .ok (.i2l, 1) := by decide +kernel
theorem dL_law_1467 : decode cL_law 1467 = .ok (.bipush 32, 2) := by decide +kernel
theorem dL_law_1469 : decode cL_law 1469 = .ok (.lshl, 1) := by decide +kernel
theorem dL_law_1470 : decode cL_law 1470 = .ok (.aload_n 0, 1) := by decide +kernel
theorem dL_law_1471 : decode cL_law 1471 = .ok (.iload 4, 2) := by decide +kernel
theorem dL_law_1473 : decode cL_law 1473 = .ok (.bipush 6, 2) := by decide +kernel
theorem dL_law_1475 : decode cL_law 1475 = .ok (.iadd, 1) := by decide +kernel
theorem dL_law_1476 : decode cL_law 1476 = .ok (.iaload, 1) := by decide +kernel
theorem dL_law_1477 : decode cL_law 1477 = .ok (.i2l, 1) := by decide +kernel
theorem dL_law_1478 : decode cL_law 1478 = .ok (.ldc2_w 132, 3) := by decide +kernel
theorem w_2062 : Cond.constantLong "QuarterWalksLaw" 132 4294967295 ∈ wAll := wIn 2062 (by decide +kernel) (by decide +kernel)
theorem dL_law_1481 : decode cL_law 1481 = .ok (.land, 1) := by decide +kernel
theorem dL_law_1482 : decode cL_law 1482 = .ok (.lor, 1) := by decide +kernel
theorem dL_law_1483 : decode cL_law 1483 = .ok (.aload_n 0, 1) := by decide +kernel
theorem dL_law_1484 : decode cL_law 1484 = .ok (.iload 4, 2) := by decide +kernel
theorem dL_law_1486 : decode cL_law 1486 = .ok (.bipush 7, 2) := by decide +kernel
theorem dL_law_1488 : decode cL_law 1488 = .ok (.iadd, 1) := by decide +kernel
theorem dL_law_1489 : decode cL_law 1489 = .ok (.iaload, 1) := by decide +kernel
theorem dL_law_1490 : decode cL_law 1490 = .ok (.invokevirtual 134, 3) := by decide +kernel
theorem w_890 : Cond.methodLink "QuarterWalksLaw" 134 yX10_drawn ∈ wAll := wIn 890 (by decide +kernel) (by decide +kernel)
theorem w_892 : Cond.selects yX10_drawn.cls yX10_drawn yX10_drawn ∈ wAll := wIn 892 (by decide +kernel) (by decide +kernel)
theorem mk_X10_drawn : mk yX10_drawn 6 := ⟨by decide +kernel, w_96⟩
theorem w_891 : Cond.instanceMethod yX10_drawn ∈ wAll := wIn 891 (by decide +kernel) (by decide +kernel)
theorem w_893 : Cond.code yX10_drawn cX10_drawn 12 (some .int) ∈ wAll := wIn 893 (by decide +kernel) (by decide +kernel)
theorem dL_law_1493 : decode cL_law 1493 = .ok (.aload_n 2, 1) := by decide +kernel
theorem dL_law_1494 : decode cL_law 1494 = .ok (.aload_n 0, 1) := by decide +kernel
theorem dL_law_1495 : decode cL_law 1495 = .ok (.iload 4, 2) := by decide +kernel
theorem dL_law_1497 : decode cL_law 1497 = .ok (.iconst 1, 1) := by decide +kernel
theorem dL_law_1498 : decode cL_law 1498 = .ok (.iadd, 1) := by decide +kernel
theorem dL_law_1499 : decode cL_law 1499 = .ok (.iaload, 1) := by decide +kernel
theorem dL_law_1500 : decode cL_law 1500 = .ok (.aload_n 0, 1) := by decide +kernel
theorem dL_law_1501 : decode cL_law 1501 = .ok (.iload 4, 2) := by decide +kernel
theorem dL_law_1503 : decode cL_law 1503 = .ok (.iconst 2, 1) := by decide +kernel
theorem dL_law_1504 : decode cL_law 1504 = .ok (.iadd, 1) := by decide +kernel
theorem dL_law_1505 : decode cL_law 1505 = .ok (.iaload, 1) := by decide +kernel
theorem dL_law_1506 : decode cL_law 1506 = .ok (.aload_n 0, 1) := by decide +kernel
theorem dL_law_1507 : decode cL_law 1507 = .ok (.iload 4, 2) := by decide +kernel
theorem dL_law_1509 : decode cL_law 1509 = .ok (.iconst 3, 1) := by decide +kernel
theorem dL_law_1510 : decode cL_law 1510 = .ok (.iadd, 1) := by decide +kernel
theorem dL_law_1511 : decode cL_law 1511 = .ok (.iaload, 1) := by decide +kernel
theorem dL_law_1512 : decode cL_law 1512 = .ok (.aload_n 0, 1) := by decide +kernel
theorem dL_law_1513 : decode cL_law 1513 = .ok (.iload 4, 2) := by decide +kernel
theorem dL_law_1515 : decode cL_law 1515 = .ok (.iconst 4, 1) := by decide +kernel
theorem dL_law_1516 : decode cL_law 1516 = .ok (.iadd, 1) := by decide +kernel
theorem dL_law_1517 : decode cL_law 1517 = .ok (.iaload, 1) := by decide +kernel
theorem dL_law_1518 : decode cL_law 1518 = .ok (.aload_n 0, 1) := by decide +kernel
theorem dL_law_1519 : decode cL_law 1519 = .ok (.iload 4, 2) := by decide +kernel
theorem dL_law_1521 : decode cL_law 1521 = .ok (.iconst 5, 1) := by decide +kernel
theorem dL_law_1522 : decode cL_law 1522 = .ok (.iadd, 1) := by decide +kernel
theorem dL_law_1523 : decode cL_law 1523 = .ok (.iaload, 1) := by decide +kernel
theorem dL_law_1524 : decode cL_law 1524 = .ok (.i2l, 1) := by decide +kernel
theorem dL_law_1525 : decode cL_law 1525 = .ok (.bipush 32, 2) := by decide +kernel
theorem dL_law_1527 : decode cL_law 1527 = .ok (.lshl, 1) := by decide +kernel
theorem dL_law_1528 : decode cL_law 1528 = .ok (.aload_n 0, 1) := by decide +kernel
theorem dL_law_1529 : decode cL_law 1529 = .ok (.iload 4, 2) := by decide +kernel
theorem dL_law_1531 : decode cL_law 1531 = .ok (.bipush 6, 2) := by decide +kernel
theorem dL_law_1533 : decode cL_law 1533 = .ok (.iadd, 1) := by decide +kernel
theorem dL_law_1534 : decode cL_law 1534 = .ok (.iaload, 1) := by decide +kernel
theorem dL_law_1535 : decode cL_law 1535 = .ok (.i2l, 1) := by decide +kernel
theorem dL_law_1536 : decode cL_law 1536 = .ok (.ldc2_w 132, 3) := by decide +kernel
theorem dL_law_1539 : decode cL_law 1539 = .ok (.land, 1) := by decide +kernel
theorem dL_law_1540 : decode cL_law 1540 = .ok (.lor, 1) := by decide +kernel
theorem dL_law_1541 : decode cL_law 1541 = .ok (.aload_n 0, 1) := by decide +kernel
theorem dL_law_1542 : decode cL_law 1542 = .ok (.iload 4, 2) := by decide +kernel
theorem dL_law_1544 : decode cL_law 1544 = .ok (.bipush 7, 2) := by decide +kernel
theorem dL_law_1546 : decode cL_law 1546 = .ok (.iadd, 1) := by decide +kernel
theorem dL_law_1547 : decode cL_law 1547 = .ok (.iaload, 1) := by decide +kernel
theorem dL_law_1548 : decode cL_law 1548 = .ok (.invokevirtual 138, 3) := by decide +kernel
theorem w_1840 : Cond.methodLink "QuarterWalksLaw" 138 yX11_drawn ∈ wAll := wIn 1840 (by decide +kernel) (by decide +kernel)
theorem w_1842 : Cond.selects yX11_drawn.cls yX11_drawn yX11_drawn ∈ wAll := wIn 1842 (by decide +kernel) (by decide +kernel)
theorem mk_X11_drawn : mk yX11_drawn 6 := ⟨by decide +kernel, w_110⟩
theorem w_1841 : Cond.instanceMethod yX11_drawn ∈ wAll := wIn 1841 (by decide +kernel) (by decide +kernel)
theorem w_1843 : Cond.code yX11_drawn cX11_drawn 12 (some .int) ∈ wAll := wIn 1843 (by decide +kernel) (by decide +kernel)
theorem dL_law_1551 : decode cL_law 1551 = .ok (.if_icmp .eq 1042, 3) := by decide +kernel
theorem dL_law_1556 : decode cL_law 1556 = .ok (.aload_n 1, 1) := by decide +kernel
theorem dL_law_1557 : decode cL_law 1557 = .ok (.aload_n 0, 1) := by decide +kernel
theorem dL_law_1558 : decode cL_law 1558 = .ok (.iload 4, 2) := by decide +kernel
theorem dL_law_1560 : decode cL_law 1560 = .ok (.iconst 1, 1) := by decide +kernel
theorem dL_law_1561 : decode cL_law 1561 = .ok (.iadd, 1) := by decide +kernel
theorem dL_law_1562 : decode cL_law 1562 = .ok (.iaload, 1) := by decide +kernel
theorem dL_law_1563 : decode cL_law 1563 = .ok (.aload_n 0, 1) := by decide +kernel
theorem dL_law_1564 : decode cL_law 1564 = .ok (.iload 4, 2) := by decide +kernel
theorem dL_law_1566 : decode cL_law 1566 = .ok (.iconst 2, 1) := by decide +kernel
theorem dL_law_1567 : decode cL_law 1567 = .ok (.iadd, 1) := by decide +kernel
theorem dL_law_1568 : decode cL_law 1568 = .ok (.iaload, 1) := by decide +kernel
theorem dL_law_1569 : decode cL_law 1569 = .ok (.aload_n 0, 1) := by decide +kernel
theorem dL_law_1570 : decode cL_law 1570 = .ok (.iload 4, 2) := by decide +kernel
theorem dL_law_1572 : decode cL_law 1572 = .ok (.iconst 3, 1) := by decide +kernel
theorem dL_law_1573 : decode cL_law 1573 = .ok (.iadd, 1) := by decide +kernel
theorem dL_law_1574 : decode cL_law 1574 = .ok (.iaload, 1) := by decide +kernel
theorem dL_law_1575 : decode cL_law 1575 = .ok (.invokevirtual 139, 3) := by decide +kernel
theorem w_896 : Cond.methodLink "QuarterWalksLaw" 139 yX10_peak ∈ wAll := wIn 896 (by decide +kernel) (by decide +kernel)
theorem w_898 : Cond.selects yX10_peak.cls yX10_peak yX10_peak ∈ wAll := wIn 898 (by decide +kernel) (by decide +kernel)
theorem mk_X10_peak : mk yX10_peak 3 := ⟨by decide +kernel, w_96⟩
theorem w_897 : Cond.instanceMethod yX10_peak ∈ wAll := wIn 897 (by decide +kernel) (by decide +kernel)
theorem w_899 : Cond.code yX10_peak cX10_peak 5 (some .int) ∈ wAll := wIn 899 (by decide +kernel) (by decide +kernel)
theorem dL_law_1578 : decode cL_law 1578 = .ok (.aload_n 2, 1) := by decide +kernel
theorem dL_law_1579 : decode cL_law 1579 = .ok (.aload_n 0, 1) := by decide +kernel
theorem dL_law_1580 : decode cL_law 1580 = .ok (.iload 4, 2) := by decide +kernel
theorem dL_law_1582 : decode cL_law 1582 = .ok (.iconst 1, 1) := by decide +kernel
theorem dL_law_1583 : decode cL_law 1583 = .ok (.iadd, 1) := by decide +kernel
theorem dL_law_1584 : decode cL_law 1584 = .ok (.iaload, 1) := by decide +kernel
theorem dL_law_1585 : decode cL_law 1585 = .ok (.aload_n 0, 1) := by decide +kernel
theorem dL_law_1586 : decode cL_law 1586 = .ok (.iload 4, 2) := by decide +kernel
theorem dL_law_1588 : decode cL_law 1588 = .ok (.iconst 2, 1) := by decide +kernel
theorem dL_law_1589 : decode cL_law 1589 = .ok (.iadd, 1) := by decide +kernel
theorem dL_law_1590 : decode cL_law 1590 = .ok (.iaload, 1) := by decide +kernel
theorem dL_law_1591 : decode cL_law 1591 = .ok (.aload_n 0, 1) := by decide +kernel
theorem dL_law_1592 : decode cL_law 1592 = .ok (.iload 4, 2) := by decide +kernel
theorem dL_law_1594 : decode cL_law 1594 = .ok (.iconst 3, 1) := by decide +kernel
theorem dL_law_1595 : decode cL_law 1595 = .ok (.iadd, 1) := by decide +kernel
theorem dL_law_1596 : decode cL_law 1596 = .ok (.iaload, 1) := by decide +kernel
theorem dL_law_1597 : decode cL_law 1597 = .ok (.invokevirtual 142, 3) := by decide +kernel
theorem w_1846 : Cond.methodLink "QuarterWalksLaw" 142 yX11_peak ∈ wAll := wIn 1846 (by decide +kernel) (by decide +kernel)
theorem w_1848 : Cond.selects yX11_peak.cls yX11_peak yX11_peak ∈ wAll := wIn 1848 (by decide +kernel) (by decide +kernel)
theorem mk_X11_peak : mk yX11_peak 3 := ⟨by decide +kernel, w_110⟩
theorem w_1847 : Cond.instanceMethod yX11_peak ∈ wAll := wIn 1847 (by decide +kernel) (by decide +kernel)
theorem w_1849 : Cond.code yX11_peak cX11_peak 10 (some .int) ∈ wAll := wIn 1849 (by decide +kernel) (by decide +kernel)
theorem dL_law_1600 : decode cL_law 1600 = .ok (.if_icmp .eq 993, 3) := by decide +kernel
theorem dL_law_1605 : decode cL_law 1605 = .ok (.aload_n 1, 1) := by decide +kernel
theorem dL_law_1606 : decode cL_law 1606 = .ok (.aload_n 0, 1) := by decide +kernel
theorem dL_law_1607 : decode cL_law 1607 = .ok (.iload 4, 2) := by decide +kernel
theorem dL_law_1609 : decode cL_law 1609 = .ok (.iconst 1, 1) := by decide +kernel
theorem dL_law_1610 : decode cL_law 1610 = .ok (.iadd, 1) := by decide +kernel
theorem dL_law_1611 : decode cL_law 1611 = .ok (.iaload, 1) := by decide +kernel
theorem dL_law_1612 : decode cL_law 1612 = .ok (.aload_n 0, 1) := by decide +kernel
theorem dL_law_1613 : decode cL_law 1613 = .ok (.iload 4, 2) := by decide +kernel
theorem dL_law_1615 : decode cL_law 1615 = .ok (.iconst 2, 1) := by decide +kernel
theorem dL_law_1616 : decode cL_law 1616 = .ok (.iadd, 1) := by decide +kernel
theorem dL_law_1617 : decode cL_law 1617 = .ok (.iaload, 1) := by decide +kernel
theorem dL_law_1618 : decode cL_law 1618 = .ok (.invokevirtual 143, 3) := by decide +kernel
theorem w_905 : Cond.methodLink "QuarterWalksLaw" 143 yX10_points ∈ wAll := wIn 905 (by decide +kernel) (by decide +kernel)
theorem w_907 : Cond.selects yX10_points.cls yX10_points yX10_points ∈ wAll := wIn 907 (by decide +kernel) (by decide +kernel)
theorem mk_X10_points : mk yX10_points 2 := ⟨by decide +kernel, w_96⟩
theorem w_906 : Cond.instanceMethod yX10_points ∈ wAll := wIn 906 (by decide +kernel) (by decide +kernel)
theorem w_908 : Cond.code yX10_points cX10_points 4 (some .int) ∈ wAll := wIn 908 (by decide +kernel) (by decide +kernel)
theorem dL_law_1621 : decode cL_law 1621 = .ok (.aload_n 2, 1) := by decide +kernel
theorem dL_law_1622 : decode cL_law 1622 = .ok (.aload_n 0, 1) := by decide +kernel
theorem dL_law_1623 : decode cL_law 1623 = .ok (.iload 4, 2) := by decide +kernel
theorem dL_law_1625 : decode cL_law 1625 = .ok (.iconst 1, 1) := by decide +kernel
theorem dL_law_1626 : decode cL_law 1626 = .ok (.iadd, 1) := by decide +kernel
theorem dL_law_1627 : decode cL_law 1627 = .ok (.iaload, 1) := by decide +kernel
theorem dL_law_1628 : decode cL_law 1628 = .ok (.aload_n 0, 1) := by decide +kernel
theorem dL_law_1629 : decode cL_law 1629 = .ok (.iload 4, 2) := by decide +kernel
theorem dL_law_1631 : decode cL_law 1631 = .ok (.iconst 2, 1) := by decide +kernel
theorem dL_law_1632 : decode cL_law 1632 = .ok (.iadd, 1) := by decide +kernel
theorem dL_law_1633 : decode cL_law 1633 = .ok (.iaload, 1) := by decide +kernel
theorem dL_law_1634 : decode cL_law 1634 = .ok (.invokevirtual 146, 3) := by decide +kernel
theorem w_1850 : Cond.methodLink "QuarterWalksLaw" 146 yX11_points ∈ wAll := wIn 1850 (by decide +kernel) (by decide +kernel)
theorem w_1852 : Cond.selects yX11_points.cls yX11_points yX11_points ∈ wAll := wIn 1852 (by decide +kernel) (by decide +kernel)
theorem mk_X11_points : mk yX11_points 2 := ⟨by decide +kernel, w_110⟩
theorem w_1851 : Cond.instanceMethod yX11_points ∈ wAll := wIn 1851 (by decide +kernel) (by decide +kernel)
theorem w_1853 : Cond.code yX11_points cX11_points 5 (some .int) ∈ wAll := wIn 1853 (by decide +kernel) (by decide +kernel)
theorem dL_law_1637 : decode cL_law 1637 = .ok (.if_icmp .eq 956, 3) := by decide +kernel
theorem dL_law_1642 : decode cL_law 1642 = .ok (.aload_n 1, 1) := by decide +kernel
theorem dL_law_1643 : decode cL_law 1643 = .ok (.aload_n 0, 1) := by decide +kernel
theorem dL_law_1644 : decode cL_law 1644 = .ok (.iload 4, 2) := by decide +kernel
theorem dL_law_1646 : decode cL_law 1646 = .ok (.iconst 1, 1) := by decide +kernel
theorem dL_law_1647 : decode cL_law 1647 = .ok (.iadd, 1) := by decide +kernel
theorem dL_law_1648 : decode cL_law 1648 = .ok (.iaload, 1) := by decide +kernel
theorem dL_law_1649 : decode cL_law 1649 = .ok (.aload_n 0, 1) := by decide +kernel
theorem dL_law_1650 : decode cL_law 1650 = .ok (.iload 4, 2) := by decide +kernel
theorem dL_law_1652 : decode cL_law 1652 = .ok (.iconst 2, 1) := by decide +kernel
theorem dL_law_1653 : decode cL_law 1653 = .ok (.iadd, 1) := by decide +kernel
theorem dL_law_1654 : decode cL_law 1654 = .ok (.iaload, 1) := by decide +kernel
theorem dL_law_1655 : decode cL_law 1655 = .ok (.aload_n 0, 1) := by decide +kernel
theorem dL_law_1656 : decode cL_law 1656 = .ok (.iload 4, 2) := by decide +kernel
theorem dL_law_1658 : decode cL_law 1658 = .ok (.iconst 3, 1) := by decide +kernel
theorem dL_law_1659 : decode cL_law 1659 = .ok (.iadd, 1) := by decide +kernel
theorem dL_law_1660 : decode cL_law 1660 = .ok (.iaload, 1) := by decide +kernel
theorem dL_law_1661 : decode cL_law 1661 = .ok (.invokevirtual 147, 3) := by decide +kernel
theorem w_913 : Cond.methodLink "QuarterWalksLaw" 147 yX10_fewest ∈ wAll := wIn 913 (by decide +kernel) (by decide +kernel)
theorem w_915 : Cond.selects yX10_fewest.cls yX10_fewest yX10_fewest ∈ wAll := wIn 915 (by decide +kernel) (by decide +kernel)
theorem mk_X10_fewest : mk yX10_fewest 3 := ⟨by decide +kernel, w_96⟩
theorem w_914 : Cond.instanceMethod yX10_fewest ∈ wAll := wIn 914 (by decide +kernel) (by decide +kernel)
theorem w_916 : Cond.code yX10_fewest cX10_fewest 6 (some .int) ∈ wAll := wIn 916 (by decide +kernel) (by decide +kernel)
theorem dL_law_1664 : decode cL_law 1664 = .ok (.aload_n 2, 1) := by decide +kernel
theorem dL_law_1665 : decode cL_law 1665 = .ok (.aload_n 0, 1) := by decide +kernel
theorem dL_law_1666 : decode cL_law 1666 = .ok (.iload 4, 2) := by decide +kernel
theorem dL_law_1668 : decode cL_law 1668 = .ok (.iconst 1, 1) := by decide +kernel
theorem dL_law_1669 : decode cL_law 1669 = .ok (.iadd, 1) := by decide +kernel
theorem dL_law_1670 : decode cL_law 1670 = .ok (.iaload, 1) := by decide +kernel
theorem dL_law_1671 : decode cL_law 1671 = .ok (.aload_n 0, 1) := by decide +kernel
theorem dL_law_1672 : decode cL_law 1672 = .ok (.iload 4, 2) := by decide +kernel
theorem dL_law_1674 : decode cL_law 1674 = .ok (.iconst 2, 1) := by decide +kernel
theorem dL_law_1675 : decode cL_law 1675 = .ok (.iadd, 1) := by decide +kernel
theorem dL_law_1676 : decode cL_law 1676 = .ok (.iaload, 1) := by decide +kernel
theorem dL_law_1677 : decode cL_law 1677 = .ok (.aload_n 0, 1) := by decide +kernel
theorem dL_law_1678 : decode cL_law 1678 = .ok (.iload 4, 2) := by decide +kernel
theorem dL_law_1680 : decode cL_law 1680 = .ok (.iconst 3, 1) := by decide +kernel
theorem dL_law_1681 : decode cL_law 1681 = .ok (.iadd, 1) := by decide +kernel
theorem dL_law_1682 : decode cL_law 1682 = .ok (.iaload, 1) := by decide +kernel
theorem dL_law_1683 : decode cL_law 1683 = .ok (.invokevirtual 150, 3) := by decide +kernel
theorem w_1854 : Cond.methodLink "QuarterWalksLaw" 150 yX11_fewest ∈ wAll := wIn 1854 (by decide +kernel) (by decide +kernel)
theorem w_1856 : Cond.selects yX11_fewest.cls yX11_fewest yX11_fewest ∈ wAll := wIn 1856 (by decide +kernel) (by decide +kernel)
theorem mk_X11_fewest : mk yX11_fewest 3 := ⟨by decide +kernel, w_110⟩
theorem w_1855 : Cond.instanceMethod yX11_fewest ∈ wAll := wIn 1855 (by decide +kernel) (by decide +kernel)
theorem w_1857 : Cond.code yX11_fewest cX11_fewest 4 (some .int) ∈ wAll := wIn 1857 (by decide +kernel) (by decide +kernel)
theorem dL_law_1686 : decode cL_law 1686 = .ok (.if_icmp .eq 907, 3) := by decide +kernel
theorem dL_law_1691 : decode cL_law 1691 = .ok (.aload_n 1, 1) := by decide +kernel
theorem dL_law_1692 : decode cL_law 1692 = .ok (.aload_n 0, 1) := by decide +kernel
theorem dL_law_1693 : decode cL_law 1693 = .ok (.iload 4, 2) := by decide +kernel
theorem dL_law_1695 : decode cL_law 1695 = .ok (.iconst 1, 1) := by decide +kernel
theorem dL_law_1696 : decode cL_law 1696 = .ok (.iadd, 1) := by decide +kernel
theorem dL_law_1697 : decode cL_law 1697 = .ok (.iaload, 1) := by decide +kernel
theorem dL_law_1698 : decode cL_law 1698 = .ok (.invokevirtual 151, 3) := by decide +kernel
theorem w_917 : Cond.methodLink "QuarterWalksLaw" 151 yX10_period ∈ wAll := wIn 917 (by decide +kernel) (by decide +kernel)
theorem w_919 : Cond.selects yX10_period.cls yX10_period yX10_period ∈ wAll := wIn 919 (by decide +kernel) (by decide +kernel)
theorem mk_X10_period : mk yX10_period 1 := ⟨by decide +kernel, w_96⟩
theorem w_918 : Cond.instanceMethod yX10_period ∈ wAll := wIn 918 (by decide +kernel) (by decide +kernel)
theorem w_920 : Cond.code yX10_period cX10_period 5 (some .int) ∈ wAll := wIn 920 (by decide +kernel) (by decide +kernel)
theorem dL_law_1701 : decode cL_law 1701 = .ok (.aload_n 2, 1) := by decide +kernel
theorem dL_law_1702 : decode cL_law 1702 = .ok (.aload_n 0, 1) := by decide +kernel
theorem dL_law_1703 : decode cL_law 1703 = .ok (.iload 4, 2) := by decide +kernel
theorem dL_law_1705 : decode cL_law 1705 = .ok (.iconst 1, 1) := by decide +kernel
theorem dL_law_1706 : decode cL_law 1706 = .ok (.iadd, 1) := by decide +kernel
theorem dL_law_1707 : decode cL_law 1707 = .ok (.iaload, 1) := by decide +kernel
theorem dL_law_1708 : decode cL_law 1708 = .ok (.invokevirtual 154, 3) := by decide +kernel
theorem w_1858 : Cond.methodLink "QuarterWalksLaw" 154 yX11_period ∈ wAll := wIn 1858 (by decide +kernel) (by decide +kernel)
theorem w_1860 : Cond.selects yX11_period.cls yX11_period yX11_period ∈ wAll := wIn 1860 (by decide +kernel) (by decide +kernel)
theorem mk_X11_period : mk yX11_period 1 := ⟨by decide +kernel, w_110⟩
theorem w_1859 : Cond.instanceMethod yX11_period ∈ wAll := wIn 1859 (by decide +kernel) (by decide +kernel)
theorem w_1861 : Cond.code yX11_period cX11_period 4 (some .int) ∈ wAll := wIn 1861 (by decide +kernel) (by decide +kernel)
theorem dL_law_1711 : decode cL_law 1711 = .ok (.if_icmp .eq 882, 3) := by decide +kernel
theorem dL_law_1716 : decode cL_law 1716 = .ok (.aload_n 1, 1) := by decide +kernel
theorem dL_law_1717 : decode cL_law 1717 = .ok (.aload_n 0, 1) := by decide +kernel
theorem dL_law_1718 : decode cL_law 1718 = .ok (.iload 4, 2) := by decide +kernel
theorem dL_law_1720 : decode cL_law 1720 = .ok (.iconst 1, 1) := by decide +kernel
theorem dL_law_1721 : decode cL_law 1721 = .ok (.iadd, 1) := by decide +kernel
theorem dL_law_1722 : decode cL_law 1722 = .ok (.iaload, 1) := by decide +kernel
theorem dL_law_1723 : decode cL_law 1723 = .ok (.aload_n 0, 1) := by decide +kernel
theorem dL_law_1724 : decode cL_law 1724 = .ok (.iload 4, 2) := by decide +kernel
theorem dL_law_1726 : decode cL_law 1726 = .ok (.iconst 2, 1) := by decide +kernel
theorem dL_law_1727 : decode cL_law 1727 = .ok (.iadd, 1) := by decide +kernel
theorem dL_law_1728 : decode cL_law 1728 = .ok (.iaload, 1) := by decide +kernel
theorem dL_law_1729 : decode cL_law 1729 = .ok (.aload_n 0, 1) := by decide +kernel
theorem dL_law_1730 : decode cL_law 1730 = .ok (.iload 4, 2) := by decide +kernel
theorem dL_law_1732 : decode cL_law 1732 = .ok (.iconst 3, 1) := by decide +kernel
theorem dL_law_1733 : decode cL_law 1733 = .ok (.iadd, 1) := by decide +kernel
theorem dL_law_1734 : decode cL_law 1734 = .ok (.iaload, 1) := by decide +kernel
theorem dL_law_1735 : decode cL_law 1735 = .ok (.invokevirtual 155, 3) := by decide +kernel
theorem w_924 : Cond.methodLink "QuarterWalksLaw" 155 yX10_meet ∈ wAll := wIn 924 (by decide +kernel) (by decide +kernel)
theorem w_926 : Cond.selects yX10_meet.cls yX10_meet yX10_meet ∈ wAll := wIn 926 (by decide +kernel) (by decide +kernel)
theorem mk_X10_meet : mk yX10_meet 3 := ⟨by decide +kernel, w_96⟩
theorem w_925 : Cond.instanceMethod yX10_meet ∈ wAll := wIn 925 (by decide +kernel) (by decide +kernel)
theorem w_927 : Cond.code yX10_meet cX10_meet 6 (some .int) ∈ wAll := wIn 927 (by decide +kernel) (by decide +kernel)
theorem dL_law_1738 : decode cL_law 1738 = .ok (.aload_n 2, 1) := by decide +kernel
theorem dL_law_1739 : decode cL_law 1739 = .ok (.aload_n 0, 1) := by decide +kernel
theorem dL_law_1740 : decode cL_law 1740 = .ok (.iload 4, 2) := by decide +kernel
theorem dL_law_1742 : decode cL_law 1742 = .ok (.iconst 1, 1) := by decide +kernel
theorem dL_law_1743 : decode cL_law 1743 = .ok (.iadd, 1) := by decide +kernel
theorem dL_law_1744 : decode cL_law 1744 = .ok (.iaload, 1) := by decide +kernel
theorem dL_law_1745 : decode cL_law 1745 = .ok (.aload_n 0, 1) := by decide +kernel
theorem dL_law_1746 : decode cL_law 1746 = .ok (.iload 4, 2) := by decide +kernel
theorem dL_law_1748 : decode cL_law 1748 = .ok (.iconst 2, 1) := by decide +kernel
theorem dL_law_1749 : decode cL_law 1749 = .ok (.iadd, 1) := by decide +kernel
theorem dL_law_1750 : decode cL_law 1750 = .ok (.iaload, 1) := by decide +kernel
theorem dL_law_1751 : decode cL_law 1751 = .ok (.aload_n 0, 1) := by decide +kernel
theorem dL_law_1752 : decode cL_law 1752 = .ok (.iload 4, 2) := by decide +kernel
theorem dL_law_1754 : decode cL_law 1754 = .ok (.iconst 3, 1) := by decide +kernel
theorem dL_law_1755 : decode cL_law 1755 = .ok (.iadd, 1) := by decide +kernel
theorem dL_law_1756 : decode cL_law 1756 = .ok (.iaload, 1) := by decide +kernel
theorem dL_law_1757 : decode cL_law 1757 = .ok (.invokevirtual 158, 3) := by decide +kernel
theorem w_1865 : Cond.methodLink "QuarterWalksLaw" 158 yX11_meet ∈ wAll := wIn 1865 (by decide +kernel) (by decide +kernel)
theorem w_1867 : Cond.selects yX11_meet.cls yX11_meet yX11_meet ∈ wAll := wIn 1867 (by decide +kernel) (by decide +kernel)
theorem mk_X11_meet : mk yX11_meet 3 := ⟨by decide +kernel, w_110⟩
theorem w_1866 : Cond.instanceMethod yX11_meet ∈ wAll := wIn 1866 (by decide +kernel) (by decide +kernel)
theorem w_1868 : Cond.code yX11_meet cX11_meet 7 (some .int) ∈ wAll := wIn 1868 (by decide +kernel) (by decide +kernel)
theorem dL_law_1760 : decode cL_law 1760 = .ok (.if_icmp .eq 833, 3) := by decide +kernel
theorem dL_law_1765 : decode cL_law 1765 = .ok (.aload_n 1, 1) := by decide +kernel
theorem dL_law_1766 : decode cL_law 1766 = .ok (.aload_n 0, 1) := by decide +kernel
theorem dL_law_1767 : decode cL_law 1767 = .ok (.iload 4, 2) := by decide +kernel
theorem dL_law_1769 : decode cL_law 1769 = .ok (.iconst 1, 1) := by decide +kernel
theorem dL_law_1770 : decode cL_law 1770 = .ok (.iadd, 1) := by decide +kernel
theorem dL_law_1771 : decode cL_law 1771 = .ok (.iaload, 1) := by decide +kernel
theorem dL_law_1772 : decode cL_law 1772 = .ok (.aload_n 0, 1) := by decide +kernel
theorem dL_law_1773 : decode cL_law 1773 = .ok (.iload 4, 2) := by decide +kernel
theorem dL_law_1775 : decode cL_law 1775 = .ok (.iconst 2, 1) := by decide +kernel
theorem dL_law_1776 : decode cL_law 1776 = .ok (.iadd, 1) := by decide +kernel
theorem dL_law_1777 : decode cL_law 1777 = .ok (.iaload, 1) := by decide +kernel
theorem dL_law_1778 : decode cL_law 1778 = .ok (.aload_n 0, 1) := by decide +kernel
theorem dL_law_1779 : decode cL_law 1779 = .ok (.iload 4, 2) := by decide +kernel
theorem dL_law_1781 : decode cL_law 1781 = .ok (.iconst 3, 1) := by decide +kernel
theorem dL_law_1782 : decode cL_law 1782 = .ok (.iadd, 1) := by decide +kernel
theorem dL_law_1783 : decode cL_law 1783 = .ok (.iaload, 1) := by decide +kernel
theorem dL_law_1784 : decode cL_law 1784 = .ok (.invokevirtual 159, 3) := by decide +kernel
theorem w_937 : Cond.methodLink "QuarterWalksLaw" 159 yX10_kernel ∈ wAll := wIn 937 (by decide +kernel) (by decide +kernel)
theorem w_939 : Cond.selects yX10_kernel.cls yX10_kernel yX10_kernel ∈ wAll := wIn 939 (by decide +kernel) (by decide +kernel)
theorem mk_X10_kernel : mk yX10_kernel 3 := ⟨by decide +kernel, w_96⟩
theorem w_938 : Cond.instanceMethod yX10_kernel ∈ wAll := wIn 938 (by decide +kernel) (by decide +kernel)
theorem w_940 : Cond.code yX10_kernel cX10_kernel 5 (some .int) ∈ wAll := wIn 940 (by decide +kernel) (by decide +kernel)
theorem dL_law_1787 : decode cL_law 1787 = .ok (.aload_n 2, 1) := by decide +kernel
theorem dL_law_1788 : decode cL_law 1788 = .ok (.aload_n 0, 1) := by decide +kernel
theorem dL_law_1789 : decode cL_law 1789 = .ok (.iload 4, 2) := by decide +kernel
theorem dL_law_1791 : decode cL_law 1791 = .ok (.iconst 1, 1) := by decide +kernel
theorem dL_law_1792 : decode cL_law 1792 = .ok (.iadd, 1) := by decide +kernel
theorem dL_law_1793 : decode cL_law 1793 = .ok (.iaload, 1) := by decide +kernel
theorem dL_law_1794 : decode cL_law 1794 = .ok (.aload_n 0, 1) := by decide +kernel
theorem dL_law_1795 : decode cL_law 1795 = .ok (.iload 4, 2) := by decide +kernel
theorem dL_law_1797 : decode cL_law 1797 = .ok (.iconst 2, 1) := by decide +kernel
theorem dL_law_1798 : decode cL_law 1798 = .ok (.iadd, 1) := by decide +kernel
theorem dL_law_1799 : decode cL_law 1799 = .ok (.iaload, 1) := by decide +kernel
theorem dL_law_1800 : decode cL_law 1800 = .ok (.aload_n 0, 1) := by decide +kernel
theorem dL_law_1801 : decode cL_law 1801 = .ok (.iload 4, 2) := by decide +kernel
theorem dL_law_1803 : decode cL_law 1803 = .ok (.iconst 3, 1) := by decide +kernel
theorem dL_law_1804 : decode cL_law 1804 = .ok (.iadd, 1) := by decide +kernel
theorem dL_law_1805 : decode cL_law 1805 = .ok (.iaload, 1) := by decide +kernel
theorem dL_law_1806 : decode cL_law 1806 = .ok (.invokevirtual 162, 3) := by decide +kernel
theorem w_1869 : Cond.methodLink "QuarterWalksLaw" 162 yX11_kernel ∈ wAll := wIn 1869 (by decide +kernel) (by decide +kernel)
theorem w_1871 : Cond.selects yX11_kernel.cls yX11_kernel yX11_kernel ∈ wAll := wIn 1871 (by decide +kernel) (by decide +kernel)
theorem mk_X11_kernel : mk yX11_kernel 3 := ⟨by decide +kernel, w_110⟩
theorem w_1870 : Cond.instanceMethod yX11_kernel ∈ wAll := wIn 1870 (by decide +kernel) (by decide +kernel)
theorem w_1872 : Cond.code yX11_kernel cX11_kernel 7 (some .int) ∈ wAll := wIn 1872 (by decide +kernel) (by decide +kernel)
theorem dL_law_1809 : decode cL_law 1809 = .ok (.if_icmp .eq 784, 3) := by decide +kernel
theorem dL_law_1814 : decode cL_law 1814 = .ok (.aload_n 1, 1) := by decide +kernel
theorem dL_law_1815 : decode cL_law 1815 = .ok (.aload_n 0, 1) := by decide +kernel
theorem dL_law_1816 : decode cL_law 1816 = .ok (.iload 4, 2) := by decide +kernel
theorem dL_law_1818 : decode cL_law 1818 = .ok (.iconst 1, 1) := by decide +kernel
theorem dL_law_1819 : decode cL_law 1819 = .ok (.iadd, 1) := by decide +kernel
theorem dL_law_1820 : decode cL_law 1820 = .ok (.iaload, 1) := by decide +kernel
theorem dL_law_1821 : decode cL_law 1821 = .ok (.aload_n 0, 1) := by decide +kernel
theorem dL_law_1822 : decode cL_law 1822 = .ok (.iload 4, 2) := by decide +kernel
theorem dL_law_1824 : decode cL_law 1824 = .ok (.iconst 2, 1) := by decide +kernel
theorem dL_law_1825 : decode cL_law 1825 = .ok (.iadd, 1) := by decide +kernel
theorem dL_law_1826 : decode cL_law 1826 = .ok (.iaload, 1) := by decide +kernel
theorem dL_law_1827 : decode cL_law 1827 = .ok (.aload_n 0, 1) := by decide +kernel
theorem dL_law_1828 : decode cL_law 1828 = .ok (.iload 4, 2) := by decide +kernel
theorem dL_law_1830 : decode cL_law 1830 = .ok (.iconst 3, 1) := by decide +kernel
theorem dL_law_1831 : decode cL_law 1831 = .ok (.iadd, 1) := by decide +kernel
theorem dL_law_1832 : decode cL_law 1832 = .ok (.iaload, 1) := by decide +kernel
theorem dL_law_1833 : decode cL_law 1833 = .ok (.aload_n 0, 1) := by decide +kernel
theorem dL_law_1834 : decode cL_law 1834 = .ok (.iload 4, 2) := by decide +kernel
theorem dL_law_1836 : decode cL_law 1836 = .ok (.iconst 4, 1) := by decide +kernel
theorem dL_law_1837 : decode cL_law 1837 = .ok (.iadd, 1) := by decide +kernel
theorem dL_law_1838 : decode cL_law 1838 = .ok (.iaload, 1) := by decide +kernel
theorem dL_law_1839 : decode cL_law 1839 = .ok (.invokevirtual 163, 3) := by decide +kernel
theorem w_953 : Cond.methodLink "QuarterWalksLaw" 163 yX10_turned ∈ wAll := wIn 953 (by decide +kernel) (by decide +kernel)
theorem w_955 : Cond.selects yX10_turned.cls yX10_turned yX10_turned ∈ wAll := wIn 955 (by decide +kernel) (by decide +kernel)
theorem mk_X10_turned : mk yX10_turned 4 := ⟨by decide +kernel, w_96⟩
theorem w_954 : Cond.instanceMethod yX10_turned ∈ wAll := wIn 954 (by decide +kernel) (by decide +kernel)
theorem w_956 : Cond.code yX10_turned cX10_turned 6 (some .int) ∈ wAll := wIn 956 (by decide +kernel) (by decide +kernel)
theorem dL_law_1842 : decode cL_law 1842 = .ok (.aload_n 2, 1) := by decide +kernel
theorem dL_law_1843 : decode cL_law 1843 = .ok (.aload_n 0, 1) := by decide +kernel
theorem dL_law_1844 : decode cL_law 1844 = .ok (.iload 4, 2) := by decide +kernel
theorem dL_law_1846 : decode cL_law 1846 = .ok (.iconst 1, 1) := by decide +kernel
theorem dL_law_1847 : decode cL_law 1847 = .ok (.iadd, 1) := by decide +kernel
theorem dL_law_1848 : decode cL_law 1848 = .ok (.iaload, 1) := by decide +kernel
theorem dL_law_1849 : decode cL_law 1849 = .ok (.aload_n 0, 1) := by decide +kernel
theorem dL_law_1850 : decode cL_law 1850 = .ok (.iload 4, 2) := by decide +kernel
theorem dL_law_1852 : decode cL_law 1852 = .ok (.iconst 2, 1) := by decide +kernel
theorem dL_law_1853 : decode cL_law 1853 = .ok (.iadd, 1) := by decide +kernel
theorem dL_law_1854 : decode cL_law 1854 = .ok (.iaload, 1) := by decide +kernel
theorem dL_law_1855 : decode cL_law 1855 = .ok (.aload_n 0, 1) := by decide +kernel
theorem dL_law_1856 : decode cL_law 1856 = .ok (.iload 4, 2) := by decide +kernel
theorem dL_law_1858 : decode cL_law 1858 = .ok (.iconst 3, 1) := by decide +kernel
theorem dL_law_1859 : decode cL_law 1859 = .ok (.iadd, 1) := by decide +kernel
theorem dL_law_1860 : decode cL_law 1860 = .ok (.iaload, 1) := by decide +kernel
theorem dL_law_1861 : decode cL_law 1861 = .ok (.aload_n 0, 1) := by decide +kernel
theorem dL_law_1862 : decode cL_law 1862 = .ok (.iload 4, 2) := by decide +kernel
theorem dL_law_1864 : decode cL_law 1864 = .ok (.iconst 4, 1) := by decide +kernel
theorem dL_law_1865 : decode cL_law 1865 = .ok (.iadd, 1) := by decide +kernel
theorem dL_law_1866 : decode cL_law 1866 = .ok (.iaload, 1) := by decide +kernel
theorem dL_law_1867 : decode cL_law 1867 = .ok (.invokevirtual 166, 3) := by decide +kernel
theorem w_1879 : Cond.methodLink "QuarterWalksLaw" 166 yX11_turned ∈ wAll := wIn 1879 (by decide +kernel) (by decide +kernel)
theorem w_1881 : Cond.selects yX11_turned.cls yX11_turned yX11_turned ∈ wAll := wIn 1881 (by decide +kernel) (by decide +kernel)
theorem mk_X11_turned : mk yX11_turned 4 := ⟨by decide +kernel, w_110⟩
theorem w_1880 : Cond.instanceMethod yX11_turned ∈ wAll := wIn 1880 (by decide +kernel) (by decide +kernel)
theorem w_1882 : Cond.code yX11_turned cX11_turned 5 (some .int) ∈ wAll := wIn 1882 (by decide +kernel) (by decide +kernel)
theorem dL_law_1870 : decode cL_law 1870 = .ok (.if_icmp .eq 723, 3) := by decide +kernel
theorem dL_law_1875 : decode cL_law 1875 = .ok (.aload_n 1, 1) := by decide +kernel
theorem dL_law_1876 : decode cL_law 1876 = .ok (.aload_n 0, 1) := by decide +kernel
theorem dL_law_1877 : decode cL_law 1877 = .ok (.iload 4, 2) := by decide +kernel
theorem dL_law_1879 : decode cL_law 1879 = .ok (.iconst 1, 1) := by decide +kernel
theorem dL_law_1880 : decode cL_law 1880 = .ok (.iadd, 1) := by decide +kernel
theorem dL_law_1881 : decode cL_law 1881 = .ok (.iaload, 1) := by decide +kernel
theorem dL_law_1882 : decode cL_law 1882 = .ok (.aload_n 0, 1) := by decide +kernel
theorem dL_law_1883 : decode cL_law 1883 = .ok (.iload 4, 2) := by decide +kernel
theorem dL_law_1885 : decode cL_law 1885 = .ok (.iconst 2, 1) := by decide +kernel
theorem dL_law_1886 : decode cL_law 1886 = .ok (.iadd, 1) := by decide +kernel
theorem dL_law_1887 : decode cL_law 1887 = .ok (.iaload, 1) := by decide +kernel
theorem dL_law_1888 : decode cL_law 1888 = .ok (.aload_n 0, 1) := by decide +kernel
theorem dL_law_1889 : decode cL_law 1889 = .ok (.iload 4, 2) := by decide +kernel
theorem dL_law_1891 : decode cL_law 1891 = .ok (.iconst 3, 1) := by decide +kernel
theorem dL_law_1892 : decode cL_law 1892 = .ok (.iadd, 1) := by decide +kernel
theorem dL_law_1893 : decode cL_law 1893 = .ok (.iaload, 1) := by decide +kernel
theorem dL_law_1894 : decode cL_law 1894 = .ok (.aload_n 0, 1) := by decide +kernel
theorem dL_law_1895 : decode cL_law 1895 = .ok (.iload 4, 2) := by decide +kernel
theorem dL_law_1897 : decode cL_law 1897 = .ok (.iconst 4, 1) := by decide +kernel
theorem dL_law_1898 : decode cL_law 1898 = .ok (.iadd, 1) := by decide +kernel
theorem dL_law_1899 : decode cL_law 1899 = .ok (.iaload, 1) := by decide +kernel
theorem dL_law_1900 : decode cL_law 1900 = .ok (.aload_n 0, 1) := by decide +kernel
theorem dL_law_1901 : decode cL_law 1901 = .ok (.iload 4, 2) := by decide +kernel
theorem dL_law_1903 : decode cL_law 1903 = .ok (.iconst 5, 1) := by decide +kernel
theorem dL_law_1904 : decode cL_law 1904 = .ok (.iadd, 1) := by decide +kernel
theorem dL_law_1905 : decode cL_law 1905 = .ok (.iaload, 1) := by decide +kernel
theorem dL_law_1906 : decode cL_law 1906 = .ok (.invokevirtual 167, 3) := by decide +kernel
theorem w_966 : Cond.methodLink "QuarterWalksLaw" 167 yX10_orbit ∈ wAll := wIn 966 (by decide +kernel) (by decide +kernel)
theorem w_968 : Cond.selects yX10_orbit.cls yX10_orbit yX10_orbit ∈ wAll := wIn 968 (by decide +kernel) (by decide +kernel)
theorem mk_X10_orbit : mk yX10_orbit 5 := ⟨by decide +kernel, w_96⟩
theorem w_967 : Cond.instanceMethod yX10_orbit ∈ wAll := wIn 967 (by decide +kernel) (by decide +kernel)
theorem w_969 : Cond.code yX10_orbit cX10_orbit 9 (some .int) ∈ wAll := wIn 969 (by decide +kernel) (by decide +kernel)
theorem dL_law_1909 : decode cL_law 1909 = .ok (.aload_n 2, 1) := by decide +kernel
theorem dL_law_1910 : decode cL_law 1910 = .ok (.aload_n 0, 1) := by decide +kernel
theorem dL_law_1911 : decode cL_law 1911 = .ok (.iload 4, 2) := by decide +kernel
theorem dL_law_1913 : decode cL_law 1913 = .ok (.iconst 1, 1) := by decide +kernel
theorem dL_law_1914 : decode cL_law 1914 = .ok (.iadd, 1) := by decide +kernel
theorem dL_law_1915 : decode cL_law 1915 = .ok (.iaload, 1) := by decide +kernel
theorem dL_law_1916 : decode cL_law 1916 = .ok (.aload_n 0, 1) := by decide +kernel
theorem dL_law_1917 : decode cL_law 1917 = .ok (.iload 4, 2) := by decide +kernel
theorem dL_law_1919 : decode cL_law 1919 = .ok (.iconst 2, 1) := by decide +kernel
theorem dL_law_1920 : decode cL_law 1920 = .ok (.iadd, 1) := by decide +kernel
theorem dL_law_1921 : decode cL_law 1921 = .ok (.iaload, 1) := by decide +kernel
theorem dL_law_1922 : decode cL_law 1922 = .ok (.aload_n 0, 1) := by decide +kernel
theorem dL_law_1923 : decode cL_law 1923 = .ok (.iload 4, 2) := by decide +kernel
theorem dL_law_1925 : decode cL_law 1925 = .ok (.iconst 3, 1) := by decide +kernel
theorem dL_law_1926 : decode cL_law 1926 = .ok (.iadd, 1) := by decide +kernel
theorem dL_law_1927 : decode cL_law 1927 = .ok (.iaload, 1) := by decide +kernel
theorem dL_law_1928 : decode cL_law 1928 = .ok (.aload_n 0, 1) := by decide +kernel
theorem dL_law_1929 : decode cL_law 1929 = .ok (.iload 4, 2) := by decide +kernel
theorem dL_law_1931 : decode cL_law 1931 = .ok (.iconst 4, 1) := by decide +kernel
theorem dL_law_1932 : decode cL_law 1932 = .ok (.iadd, 1) := by decide +kernel
theorem dL_law_1933 : decode cL_law 1933 = .ok (.iaload, 1) := by decide +kernel
theorem dL_law_1934 : decode cL_law 1934 = .ok (.aload_n 0, 1) := by decide +kernel
theorem dL_law_1935 : decode cL_law 1935 = .ok (.iload 4, 2) := by decide +kernel
theorem dL_law_1937 : decode cL_law 1937 = .ok (.iconst 5, 1) := by decide +kernel
theorem dL_law_1938 : decode cL_law 1938 = .ok (.iadd, 1) := by decide +kernel
theorem dL_law_1939 : decode cL_law 1939 = .ok (.iaload, 1) := by decide +kernel
theorem dL_law_1940 : decode cL_law 1940 = .ok (.invokevirtual 170, 3) := by decide +kernel
theorem w_1891 : Cond.methodLink "QuarterWalksLaw" 170 yX11_orbit ∈ wAll := wIn 1891 (by decide +kernel) (by decide +kernel)
theorem w_1893 : Cond.selects yX11_orbit.cls yX11_orbit yX11_orbit ∈ wAll := wIn 1893 (by decide +kernel) (by decide +kernel)
theorem mk_X11_orbit : mk yX11_orbit 5 := ⟨by decide +kernel, w_110⟩
theorem w_1892 : Cond.instanceMethod yX11_orbit ∈ wAll := wIn 1892 (by decide +kernel) (by decide +kernel)
theorem w_1894 : Cond.code yX11_orbit cX11_orbit 7 (some .int) ∈ wAll := wIn 1894 (by decide +kernel) (by decide +kernel)
theorem dL_law_1943 : decode cL_law 1943 = .ok (.if_icmp .eq 650, 3) := by decide +kernel
theorem dL_law_1948 : decode cL_law 1948 = .ok (.aload_n 1, 1) := by decide +kernel
theorem dL_law_1949 : decode cL_law 1949 = .ok (.aload_n 0, 1) := by decide +kernel
theorem dL_law_1950 : decode cL_law 1950 = .ok (.iload 4, 2) := by decide +kernel
theorem dL_law_1952 : decode cL_law 1952 = .ok (.iconst 1, 1) := by decide +kernel
theorem dL_law_1953 : decode cL_law 1953 = .ok (.iadd, 1) := by decide +kernel
theorem dL_law_1954 : decode cL_law 1954 = .ok (.iaload, 1) := by decide +kernel
theorem dL_law_1955 : decode cL_law 1955 = .ok (.invokevirtual 171, 3) := by decide +kernel
theorem w_976 : Cond.methodLink "QuarterWalksLaw" 171 yX10_group ∈ wAll := wIn 976 (by decide +kernel) (by decide +kernel)
theorem w_978 : Cond.selects yX10_group.cls yX10_group yX10_group ∈ wAll := wIn 978 (by decide +kernel) (by decide +kernel)
theorem mk_X10_group : mk yX10_group 1 := ⟨by decide +kernel, w_96⟩
theorem w_977 : Cond.instanceMethod yX10_group ∈ wAll := wIn 977 (by decide +kernel) (by decide +kernel)
theorem w_979 : Cond.code yX10_group cX10_group 3 (some .int) ∈ wAll := wIn 979 (by decide +kernel) (by decide +kernel)
theorem dL_law_1958 : decode cL_law 1958 = .ok (.aload_n 2, 1) := by decide +kernel
theorem dL_law_1959 : decode cL_law 1959 = .ok (.aload_n 0, 1) := by decide +kernel
theorem dL_law_1960 : decode cL_law 1960 = .ok (.iload 4, 2) := by decide +kernel
theorem dL_law_1962 : decode cL_law 1962 = .ok (.iconst 1, 1) := by decide +kernel
theorem dL_law_1963 : decode cL_law 1963 = .ok (.iadd, 1) := by decide +kernel
theorem dL_law_1964 : decode cL_law 1964 = .ok (.iaload, 1) := by decide +kernel
theorem dL_law_1965 : decode cL_law 1965 = .ok (.invokevirtual 174, 3) := by decide +kernel
theorem w_1899 : Cond.methodLink "QuarterWalksLaw" 174 yX11_group ∈ wAll := wIn 1899 (by decide +kernel) (by decide +kernel)
theorem w_1901 : Cond.selects yX11_group.cls yX11_group yX11_group ∈ wAll := wIn 1901 (by decide +kernel) (by decide +kernel)
theorem mk_X11_group : mk yX11_group 1 := ⟨by decide +kernel, w_110⟩
theorem w_1900 : Cond.instanceMethod yX11_group ∈ wAll := wIn 1900 (by decide +kernel) (by decide +kernel)
theorem w_1902 : Cond.code yX11_group cX11_group 2 (some .int) ∈ wAll := wIn 1902 (by decide +kernel) (by decide +kernel)
theorem dL_law_1968 : decode cL_law 1968 = .ok (.if_icmp .eq 625, 3) := by decide +kernel
theorem dL_law_1973 : decode cL_law 1973 = .ok (.aload_n 1, 1) := by decide +kernel
theorem dL_law_1974 : decode cL_law 1974 = .ok (.aload_n 0, 1) := by decide +kernel
theorem dL_law_1975 : decode cL_law 1975 = .ok (.iload 4, 2) := by decide +kernel
theorem dL_law_1977 : decode cL_law 1977 = .ok (.iconst 1, 1) := by decide +kernel
theorem dL_law_1978 : decode cL_law 1978 = .ok (.iadd, 1) := by decide +kernel
theorem dL_law_1979 : decode cL_law 1979 = .ok (.iaload, 1) := by decide +kernel
theorem dL_law_1980 : decode cL_law 1980 = .ok (.aload_n 0, 1) := by decide +kernel
theorem dL_law_1981 : decode cL_law 1981 = .ok (.iload 4, 2) := by decide +kernel
theorem dL_law_1983 : decode cL_law 1983 = .ok (.iconst 2, 1) := by decide +kernel
theorem dL_law_1984 : decode cL_law 1984 = .ok (.iadd, 1) := by decide +kernel
theorem dL_law_1985 : decode cL_law 1985 = .ok (.iaload, 1) := by decide +kernel
theorem dL_law_1986 : decode cL_law 1986 = .ok (.aload_n 0, 1) := by decide +kernel
theorem dL_law_1987 : decode cL_law 1987 = .ok (.iload 4, 2) := by decide +kernel
theorem dL_law_1989 : decode cL_law 1989 = .ok (.iconst 3, 1) := by decide +kernel
theorem dL_law_1990 : decode cL_law 1990 = .ok (.iadd, 1) := by decide +kernel
theorem dL_law_1991 : decode cL_law 1991 = .ok (.iaload, 1) := by decide +kernel
theorem dL_law_1992 : decode cL_law 1992 = .ok (.invokevirtual 175, 3) := by decide +kernel
theorem w_986 : Cond.methodLink "QuarterWalksLaw" 175 yX10_sum ∈ wAll := wIn 986 (by decide +kernel) (by decide +kernel)
theorem w_988 : Cond.selects yX10_sum.cls yX10_sum yX10_sum ∈ wAll := wIn 988 (by decide +kernel) (by decide +kernel)
theorem mk_X10_sum : mk yX10_sum 3 := ⟨by decide +kernel, w_96⟩
theorem w_987 : Cond.instanceMethod yX10_sum ∈ wAll := wIn 987 (by decide +kernel) (by decide +kernel)
theorem w_989 : Cond.code yX10_sum cX10_sum 6 (some .int) ∈ wAll := wIn 989 (by decide +kernel) (by decide +kernel)
theorem dL_law_1995 : decode cL_law 1995 = .ok (.aload_n 2, 1) := by decide +kernel
theorem dL_law_1996 : decode cL_law 1996 = .ok (.aload_n 0, 1) := by decide +kernel
theorem dL_law_1997 : decode cL_law 1997 = .ok (.iload 4, 2) := by decide +kernel
theorem dL_law_1999 : decode cL_law 1999 = .ok (.iconst 1, 1) := by decide +kernel
theorem dL_law_2000 : decode cL_law 2000 = .ok (.iadd, 1) := by decide +kernel
theorem dL_law_2001 : decode cL_law 2001 = .ok (.iaload, 1) := by decide +kernel
theorem dL_law_2002 : decode cL_law 2002 = .ok (.aload_n 0, 1) := by decide +kernel
theorem dL_law_2003 : decode cL_law 2003 = .ok (.iload 4, 2) := by decide +kernel
theorem dL_law_2005 : decode cL_law 2005 = .ok (.iconst 2, 1) := by decide +kernel
theorem dL_law_2006 : decode cL_law 2006 = .ok (.iadd, 1) := by decide +kernel
theorem dL_law_2007 : decode cL_law 2007 = .ok (.iaload, 1) := by decide +kernel
theorem dL_law_2008 : decode cL_law 2008 = .ok (.aload_n 0, 1) := by decide +kernel
theorem dL_law_2009 : decode cL_law 2009 = .ok (.iload 4, 2) := by decide +kernel
theorem dL_law_2011 : decode cL_law 2011 = .ok (.iconst 3, 1) := by decide +kernel
theorem dL_law_2012 : decode cL_law 2012 = .ok (.iadd, 1) := by decide +kernel
theorem dL_law_2013 : decode cL_law 2013 = .ok (.iaload, 1) := by decide +kernel
theorem dL_law_2014 : decode cL_law 2014 = .ok (.invokevirtual 178, 3) := by decide +kernel
theorem w_1908 : Cond.methodLink "QuarterWalksLaw" 178 yX11_sum ∈ wAll := wIn 1908 (by decide +kernel) (by decide +kernel)
theorem w_1910 : Cond.selects yX11_sum.cls yX11_sum yX11_sum ∈ wAll := wIn 1910 (by decide +kernel) (by decide +kernel)
theorem mk_X11_sum : mk yX11_sum 3 := ⟨by decide +kernel, w_110⟩
theorem w_1909 : Cond.instanceMethod yX11_sum ∈ wAll := wIn 1909 (by decide +kernel) (by decide +kernel)
theorem w_1911 : Cond.code yX11_sum cX11_sum 10 (some .int) ∈ wAll := wIn 1911 (by decide +kernel) (by decide +kernel)
theorem dL_law_2017 : decode cL_law 2017 = .ok (.if_icmp .eq 576, 3) := by decide +kernel
theorem dL_law_2022 : decode cL_law 2022 = .ok (.aload_n 1, 1) := by decide +kernel
theorem dL_law_2023 : decode cL_law 2023 = .ok (.aload_n 0, 1) := by decide +kernel
theorem dL_law_2024 : decode cL_law 2024 = .ok (.iload 4, 2) := by decide +kernel
theorem dL_law_2026 : decode cL_law 2026 = .ok (.iconst 1, 1) := by decide +kernel
theorem dL_law_2027 : decode cL_law 2027 = .ok (.iadd, 1) := by decide +kernel
theorem dL_law_2028 : decode cL_law 2028 = .ok (.iaload, 1) := by decide +kernel
theorem dL_law_2029 : decode cL_law 2029 = .ok (.invokevirtual 179, 3) := by decide +kernel
theorem w_994 : Cond.methodLink "QuarterWalksLaw" 179 yX10_noUse ∈ wAll := wIn 994 (by decide +kernel) (by decide +kernel)
theorem w_996 : Cond.selects yX10_noUse.cls yX10_noUse yX10_noUse ∈ wAll := wIn 996 (by decide +kernel) (by decide +kernel)
theorem mk_X10_noUse : mk yX10_noUse 1 := ⟨by decide +kernel, w_96⟩
theorem w_995 : Cond.instanceMethod yX10_noUse ∈ wAll := wIn 995 (by decide +kernel) (by decide +kernel)
theorem w_997 : Cond.code yX10_noUse cX10_noUse 5 (some .int) ∈ wAll := wIn 997 (by decide +kernel) (by decide +kernel)
theorem dL_law_2032 : decode cL_law 2032 = .ok (.aload_n 2, 1) := by decide +kernel
theorem dL_law_2033 : decode cL_law 2033 = .ok (.aload_n 0, 1) := by decide +kernel
theorem dL_law_2034 : decode cL_law 2034 = .ok (.iload 4, 2) := by decide +kernel
theorem dL_law_2036 : decode cL_law 2036 = .ok (.iconst 1, 1) := by decide +kernel
theorem dL_law_2037 : decode cL_law 2037 = .ok (.iadd, 1) := by decide +kernel
theorem dL_law_2038 : decode cL_law 2038 = .ok (.iaload, 1) := by decide +kernel
theorem dL_law_2039 : decode cL_law 2039 = .ok (.invokevirtual 182, 3) := by decide +kernel
theorem w_1912 : Cond.methodLink "QuarterWalksLaw" 182 yX11_noUse ∈ wAll := wIn 1912 (by decide +kernel) (by decide +kernel)
theorem w_1914 : Cond.selects yX11_noUse.cls yX11_noUse yX11_noUse ∈ wAll := wIn 1914 (by decide +kernel) (by decide +kernel)
theorem mk_X11_noUse : mk yX11_noUse 1 := ⟨by decide +kernel, w_110⟩
theorem w_1913 : Cond.instanceMethod yX11_noUse ∈ wAll := wIn 1913 (by decide +kernel) (by decide +kernel)
theorem w_1915 : Cond.code yX11_noUse cX11_noUse 7 (some .int) ∈ wAll := wIn 1915 (by decide +kernel) (by decide +kernel)
theorem dL_law_2042 : decode cL_law 2042 = .ok (.if_icmp .eq 551, 3) := by decide +kernel
theorem dL_law_2047 : decode cL_law 2047 = .ok (.aload_n 1, 1) := by decide +kernel
theorem dL_law_2048 : decode cL_law 2048 = .ok (.aload_n 0, 1) := by decide +kernel
theorem dL_law_2049 : decode cL_law 2049 = .ok (.iload 4, 2) := by decide +kernel
theorem dL_law_2051 : decode cL_law 2051 = .ok (.iconst 1, 1) := by decide +kernel
theorem dL_law_2052 : decode cL_law 2052 = .ok (.iadd, 1) := by decide +kernel
theorem dL_law_2053 : decode cL_law 2053 = .ok (.iaload, 1) := by decide +kernel
theorem dL_law_2054 : decode cL_law 2054 = .ok (.invokevirtual 183, 3) := by decide +kernel
theorem w_1006 : Cond.methodLink "QuarterWalksLaw" 183 yX10_enough ∈ wAll := wIn 1006 (by decide +kernel) (by decide +kernel)
theorem w_1008 : Cond.selects yX10_enough.cls yX10_enough yX10_enough ∈ wAll := wIn 1008 (by decide +kernel) (by decide +kernel)
theorem mk_X10_enough : mk yX10_enough 1 := ⟨by decide +kernel, w_96⟩
theorem w_1007 : Cond.instanceMethod yX10_enough ∈ wAll := wIn 1007 (by decide +kernel) (by decide +kernel)
theorem w_1009 : Cond.code yX10_enough cX10_enough 3 (some .int) ∈ wAll := wIn 1009 (by decide +kernel) (by decide +kernel)
theorem dL_law_2057 : decode cL_law 2057 = .ok (.aload_n 2, 1) := by decide +kernel
theorem dL_law_2058 : decode cL_law 2058 = .ok (.aload_n 0, 1) := by decide +kernel
theorem dL_law_2059 : decode cL_law 2059 = .ok (.iload 4, 2) := by decide +kernel
theorem dL_law_2061 : decode cL_law 2061 = .ok (.iconst 1, 1) := by decide +kernel
theorem dL_law_2062 : decode cL_law 2062 = .ok (.iadd, 1) := by decide +kernel
theorem dL_law_2063 : decode cL_law 2063 = .ok (.iaload, 1) := by decide +kernel
theorem dL_law_2064 : decode cL_law 2064 = .ok (.invokevirtual 186, 3) := by decide +kernel
theorem w_1916 : Cond.methodLink "QuarterWalksLaw" 186 yX11_enough ∈ wAll := wIn 1916 (by decide +kernel) (by decide +kernel)
theorem w_1918 : Cond.selects yX11_enough.cls yX11_enough yX11_enough ∈ wAll := wIn 1918 (by decide +kernel) (by decide +kernel)
theorem mk_X11_enough : mk yX11_enough 1 := ⟨by decide +kernel, w_110⟩
theorem w_1917 : Cond.instanceMethod yX11_enough ∈ wAll := wIn 1917 (by decide +kernel) (by decide +kernel)
theorem w_1919 : Cond.code yX11_enough cX11_enough 2 (some .int) ∈ wAll := wIn 1919 (by decide +kernel) (by decide +kernel)
theorem dL_law_2067 : decode cL_law 2067 = .ok (.if_icmp .eq 526, 3) := by decide +kernel
theorem dL_law_2072 : decode cL_law 2072 = .ok (.aload_n 1, 1) := by decide +kernel
theorem dL_law_2073 : decode cL_law 2073 = .ok (.aload_n 0, 1) := by decide +kernel
theorem dL_law_2074 : decode cL_law 2074 = .ok (.iload 4, 2) := by decide +kernel
theorem dL_law_2076 : decode cL_law 2076 = .ok (.iconst 1, 1) := by decide +kernel
theorem dL_law_2077 : decode cL_law 2077 = .ok (.iadd, 1) := by decide +kernel
theorem dL_law_2078 : decode cL_law 2078 = .ok (.iaload, 1) := by decide +kernel
theorem dL_law_2079 : decode cL_law 2079 = .ok (.invokevirtual 187, 3) := by decide +kernel
theorem w_1015 : Cond.methodLink "QuarterWalksLaw" 187 yX10_alike ∈ wAll := wIn 1015 (by decide +kernel) (by decide +kernel)
theorem w_1017 : Cond.selects yX10_alike.cls yX10_alike yX10_alike ∈ wAll := wIn 1017 (by decide +kernel) (by decide +kernel)
theorem mk_X10_alike : mk yX10_alike 1 := ⟨by decide +kernel, w_96⟩
theorem w_1016 : Cond.instanceMethod yX10_alike ∈ wAll := wIn 1016 (by decide +kernel) (by decide +kernel)
theorem w_1018 : Cond.code yX10_alike cX10_alike 5 (some .int) ∈ wAll := wIn 1018 (by decide +kernel) (by decide +kernel)
theorem dL_law_2082 : decode cL_law 2082 = .ok (.aload_n 2, 1) := by decide +kernel
theorem dL_law_2083 : decode cL_law 2083 = .ok (.aload_n 0, 1) := by decide +kernel
theorem dL_law_2084 : decode cL_law 2084 = .ok (.iload 4, 2) := by decide +kernel
theorem dL_law_2086 : decode cL_law 2086 = .ok (.iconst 1, 1) := by decide +kernel
theorem dL_law_2087 : decode cL_law 2087 = .ok (.iadd, 1) := by decide +kernel
theorem dL_law_2088 : decode cL_law 2088 = .ok (.iaload, 1) := by decide +kernel
theorem dL_law_2089 : decode cL_law 2089 = .ok (.invokevirtual 190, 3) := by decide +kernel
theorem w_1924 : Cond.methodLink "QuarterWalksLaw" 190 yX11_alike ∈ wAll := wIn 1924 (by decide +kernel) (by decide +kernel)
theorem w_1926 : Cond.selects yX11_alike.cls yX11_alike yX11_alike ∈ wAll := wIn 1926 (by decide +kernel) (by decide +kernel)
theorem mk_X11_alike : mk yX11_alike 1 := ⟨by decide +kernel, w_110⟩
theorem w_1925 : Cond.instanceMethod yX11_alike ∈ wAll := wIn 1925 (by decide +kernel) (by decide +kernel)
theorem w_1927 : Cond.code yX11_alike cX11_alike 3 (some .int) ∈ wAll := wIn 1927 (by decide +kernel) (by decide +kernel)
theorem dL_law_2092 : decode cL_law 2092 = .ok (.if_icmp .eq 501, 3) := by decide +kernel
theorem dL_law_2097 : decode cL_law 2097 = .ok (.aload_n 1, 1) := by decide +kernel
theorem dL_law_2098 : decode cL_law 2098 = .ok (.aload_n 0, 1) := by decide +kernel
theorem dL_law_2099 : decode cL_law 2099 = .ok (.iload 4, 2) := by decide +kernel
theorem dL_law_2101 : decode cL_law 2101 = .ok (.iconst 1, 1) := by decide +kernel
theorem dL_law_2102 : decode cL_law 2102 = .ok (.iadd, 1) := by decide +kernel
theorem dL_law_2103 : decode cL_law 2103 = .ok (.iaload, 1) := by decide +kernel
theorem dL_law_2104 : decode cL_law 2104 = .ok (.aload_n 0, 1) := by decide +kernel
theorem dL_law_2105 : decode cL_law 2105 = .ok (.iload 4, 2) := by decide +kernel
theorem dL_law_2107 : decode cL_law 2107 = .ok (.iconst 2, 1) := by decide +kernel
theorem dL_law_2108 : decode cL_law 2108 = .ok (.iadd, 1) := by decide +kernel
theorem dL_law_2109 : decode cL_law 2109 = .ok (.iaload, 1) := by decide +kernel
theorem dL_law_2110 : decode cL_law 2110 = .ok (.aload_n 0, 1) := by decide +kernel
theorem dL_law_2111 : decode cL_law 2111 = .ok (.iload 4, 2) := by decide +kernel
theorem dL_law_2113 : decode cL_law 2113 = .ok (.iconst 3, 1) := by decide +kernel
theorem dL_law_2114 : decode cL_law 2114 = .ok (.iadd, 1) := by decide +kernel
theorem dL_law_2115 : decode cL_law 2115 = .ok (.iaload, 1) := by decide +kernel
theorem dL_law_2116 : decode cL_law 2116 = .ok (.aload_n 0, 1) := by decide +kernel
theorem dL_law_2117 : decode cL_law 2117 = .ok (.iload 4, 2) := by decide +kernel
theorem dL_law_2119 : decode cL_law 2119 = .ok (.iconst 4, 1) := by decide +kernel
theorem dL_law_2120 : decode cL_law 2120 = .ok (.iadd, 1) := by decide +kernel
theorem dL_law_2121 : decode cL_law 2121 = .ok (.iaload, 1) := by decide +kernel
theorem dL_law_2122 : decode cL_law 2122 = .ok (.aload_n 0, 1) := by decide +kernel
theorem dL_law_2123 : decode cL_law 2123 = .ok (.iload 4, 2) := by decide +kernel
theorem dL_law_2125 : decode cL_law 2125 = .ok (.iconst 5, 1) := by decide +kernel
theorem dL_law_2126 : decode cL_law 2126 = .ok (.iadd, 1) := by decide +kernel
theorem dL_law_2127 : decode cL_law 2127 = .ok (.iaload, 1) := by decide +kernel
theorem dL_law_2128 : decode cL_law 2128 = .ok (.aload_n 0, 1) := by decide +kernel
theorem dL_law_2129 : decode cL_law 2129 = .ok (.iload 4, 2) := by decide +kernel
theorem dL_law_2131 : decode cL_law 2131 = .ok (.bipush 6, 2) := by decide +kernel
theorem dL_law_2133 : decode cL_law 2133 = .ok (.iadd, 1) := by decide +kernel
theorem dL_law_2134 : decode cL_law 2134 = .ok (.iaload, 1) := by decide +kernel
theorem dL_law_2135 : decode cL_law 2135 = .ok (.invokevirtual 191, 3) := by decide +kernel
theorem w_1022 : Cond.methodLink "QuarterWalksLaw" 191 yX10_recurrence ∈ wAll := wIn 1022 (by decide +kernel) (by decide +kernel)
theorem w_1024 : Cond.selects yX10_recurrence.cls yX10_recurrence yX10_recurrence ∈ wAll := wIn 1024 (by decide +kernel) (by decide +kernel)
theorem mk_X10_recurrence : mk yX10_recurrence 6 := ⟨by decide +kernel, w_96⟩
theorem w_1023 : Cond.instanceMethod yX10_recurrence ∈ wAll := wIn 1023 (by decide +kernel) (by decide +kernel)
theorem w_1025 : Cond.code yX10_recurrence cX10_recurrence 8 (some .int) ∈ wAll := wIn 1025 (by decide +kernel) (by decide +kernel)
theorem dL_law_2138 : decode cL_law 2138 = .ok (.aload_n 2, 1) := by decide +kernel
theorem dL_law_2139 : decode cL_law 2139 = .ok (.aload_n 0, 1) := by decide +kernel
theorem dL_law_2140 : decode cL_law 2140 = .ok (.iload 4, 2) := by decide +kernel
theorem dL_law_2142 : decode cL_law 2142 = .ok (.iconst 1, 1) := by decide +kernel
theorem dL_law_2143 : decode cL_law 2143 = .ok (.iadd, 1) := by decide +kernel
theorem dL_law_2144 : decode cL_law 2144 = .ok (.iaload, 1) := by decide +kernel
theorem dL_law_2145 : decode cL_law 2145 = .ok (.aload_n 0, 1) := by decide +kernel
theorem dL_law_2146 : decode cL_law 2146 = .ok (.iload 4, 2) := by decide +kernel
theorem dL_law_2148 : decode cL_law 2148 = .ok (.iconst 2, 1) := by decide +kernel
theorem dL_law_2149 : decode cL_law 2149 = .ok (.iadd, 1) := by decide +kernel
theorem dL_law_2150 : decode cL_law 2150 = .ok (.iaload, 1) := by decide +kernel
theorem dL_law_2151 : decode cL_law 2151 = .ok (.aload_n 0, 1) := by decide +kernel
theorem dL_law_2152 : decode cL_law 2152 = .ok (.iload 4, 2) := by decide +kernel
theorem dL_law_2154 : decode cL_law 2154 = .ok (.iconst 3, 1) := by decide +kernel
theorem dL_law_2155 : decode cL_law 2155 = .ok (.iadd, 1) := by decide +kernel
theorem dL_law_2156 : decode cL_law 2156 = .ok (.iaload, 1) := by decide +kernel
theorem dL_law_2157 : decode cL_law 2157 = .ok (.aload_n 0, 1) := by decide +kernel
theorem dL_law_2158 : decode cL_law 2158 = .ok (.iload 4, 2) := by decide +kernel
theorem dL_law_2160 : decode cL_law 2160 = .ok (.iconst 4, 1) := by decide +kernel
theorem dL_law_2161 : decode cL_law 2161 = .ok (.iadd, 1) := by decide +kernel
theorem dL_law_2162 : decode cL_law 2162 = .ok (.iaload, 1) := by decide +kernel
theorem dL_law_2163 : decode cL_law 2163 = .ok (.aload_n 0, 1) := by decide +kernel
theorem dL_law_2164 : decode cL_law 2164 = .ok (.iload 4, 2) := by decide +kernel
theorem dL_law_2166 : decode cL_law 2166 = .ok (.iconst 5, 1) := by decide +kernel
theorem dL_law_2167 : decode cL_law 2167 = .ok (.iadd, 1) := by decide +kernel
theorem dL_law_2168 : decode cL_law 2168 = .ok (.iaload, 1) := by decide +kernel
theorem dL_law_2169 : decode cL_law 2169 = .ok (.aload_n 0, 1) := by decide +kernel
theorem dL_law_2170 : decode cL_law 2170 = .ok (.iload 4, 2) := by decide +kernel
theorem dL_law_2172 : decode cL_law 2172 = .ok (.bipush 6, 2) := by decide +kernel
theorem dL_law_2174 : decode cL_law 2174 = .ok (.iadd, 1) := by decide +kernel
theorem dL_law_2175 : decode cL_law 2175 = .ok (.iaload, 1) := by decide +kernel
theorem dL_law_2176 : decode cL_law 2176 = .ok (.invokevirtual 194, 3) := by decide +kernel
theorem w_1932 : Cond.methodLink "QuarterWalksLaw" 194 yX11_recurrence ∈ wAll := wIn 1932 (by decide +kernel) (by decide +kernel)
theorem w_1934 : Cond.selects yX11_recurrence.cls yX11_recurrence yX11_recurrence ∈ wAll := wIn 1934 (by decide +kernel) (by decide +kernel)
theorem mk_X11_recurrence : mk yX11_recurrence 6 := ⟨by decide +kernel, w_110⟩
theorem w_1933 : Cond.instanceMethod yX11_recurrence ∈ wAll := wIn 1933 (by decide +kernel) (by decide +kernel)
theorem w_1935 : Cond.code yX11_recurrence cX11_recurrence 7 (some .int) ∈ wAll := wIn 1935 (by decide +kernel) (by decide +kernel)
theorem dL_law_2179 : decode cL_law 2179 = .ok (.if_icmp .eq 414, 3) := by decide +kernel
theorem dL_law_2184 : decode cL_law 2184 = .ok (.aload_n 1, 1) := by decide +kernel
theorem dL_law_2185 : decode cL_law 2185 = .ok (.aload_n 0, 1) := by decide +kernel
theorem dL_law_2186 : decode cL_law 2186 = .ok (.iload 4, 2) := by decide +kernel
theorem dL_law_2188 : decode cL_law 2188 = .ok (.iconst 1, 1) := by decide +kernel
theorem dL_law_2189 : decode cL_law 2189 = .ok (.iadd, 1) := by decide +kernel
theorem dL_law_2190 : decode cL_law 2190 = .ok (.iaload, 1) := by decide +kernel
theorem dL_law_2191 : decode cL_law 2191 = .ok (.aload_n 0, 1) := by decide +kernel
theorem dL_law_2192 : decode cL_law 2192 = .ok (.iload 4, 2) := by decide +kernel
theorem dL_law_2194 : decode cL_law 2194 = .ok (.iconst 2, 1) := by decide +kernel
theorem dL_law_2195 : decode cL_law 2195 = .ok (.iadd, 1) := by decide +kernel
theorem dL_law_2196 : decode cL_law 2196 = .ok (.iaload, 1) := by decide +kernel
theorem dL_law_2197 : decode cL_law 2197 = .ok (.aload_n 0, 1) := by decide +kernel
theorem dL_law_2198 : decode cL_law 2198 = .ok (.iload 4, 2) := by decide +kernel
theorem dL_law_2200 : decode cL_law 2200 = .ok (.iconst 3, 1) := by decide +kernel
theorem dL_law_2201 : decode cL_law 2201 = .ok (.iadd, 1) := by decide +kernel
theorem dL_law_2202 : decode cL_law 2202 = .ok (.iaload, 1) := by decide +kernel
theorem dL_law_2203 : decode cL_law 2203 = .ok (.aload_n 0, 1) := by decide +kernel
theorem dL_law_2204 : decode cL_law 2204 = .ok (.iload 4, 2) := by decide +kernel
theorem dL_law_2206 : decode cL_law 2206 = .ok (.iconst 4, 1) := by decide +kernel
theorem dL_law_2207 : decode cL_law 2207 = .ok (.iadd, 1) := by decide +kernel
theorem dL_law_2208 : decode cL_law 2208 = .ok (.iaload, 1) := by decide +kernel
theorem dL_law_2209 : decode cL_law 2209 = .ok (.invokevirtual 195, 3) := by decide +kernel
theorem w_1067 : Cond.methodLink "QuarterWalksLaw" 195 yX10_fails ∈ wAll := wIn 1067 (by decide +kernel) (by decide +kernel)
theorem w_1069 : Cond.selects yX10_fails.cls yX10_fails yX10_fails ∈ wAll := wIn 1069 (by decide +kernel) (by decide +kernel)
theorem mk_X10_fails : mk yX10_fails 4 := ⟨by decide +kernel, w_96⟩
theorem w_1068 : Cond.instanceMethod yX10_fails ∈ wAll := wIn 1068 (by decide +kernel) (by decide +kernel)
theorem w_1070 : Cond.code yX10_fails cX10_fails 5 (some .int) ∈ wAll := wIn 1070 (by decide +kernel) (by decide +kernel)
theorem dL_law_2212 : decode cL_law 2212 = .ok (.aload_n 2, 1) := by decide +kernel
theorem dL_law_2213 : decode cL_law 2213 = .ok (.aload_n 0, 1) := by decide +kernel
theorem dL_law_2214 : decode cL_law 2214 = .ok (.iload 4, 2) := by decide +kernel
theorem dL_law_2216 : decode cL_law 2216 = .ok (.iconst 1, 1) := by decide +kernel
theorem dL_law_2217 : decode cL_law 2217 = .ok (.iadd, 1) := by decide +kernel
theorem dL_law_2218 : decode cL_law 2218 = .ok (.iaload, 1) := by decide +kernel
theorem dL_law_2219 : decode cL_law 2219 = .ok (.aload_n 0, 1) := by decide +kernel
theorem dL_law_2220 : decode cL_law 2220 = .ok (.iload 4, 2) := by decide +kernel
theorem dL_law_2222 : decode cL_law 2222 = .ok (.iconst 2, 1) := by decide +kernel
theorem dL_law_2223 : decode cL_law 2223 = .ok (.iadd, 1) := by decide +kernel
theorem dL_law_2224 : decode cL_law 2224 = .ok (.iaload, 1) := by decide +kernel
theorem dL_law_2225 : decode cL_law 2225 = .ok (.aload_n 0, 1) := by decide +kernel
theorem dL_law_2226 : decode cL_law 2226 = .ok (.iload 4, 2) := by decide +kernel
theorem dL_law_2228 : decode cL_law 2228 = .ok (.iconst 3, 1) := by decide +kernel
theorem dL_law_2229 : decode cL_law 2229 = .ok (.iadd, 1) := by decide +kernel
theorem dL_law_2230 : decode cL_law 2230 = .ok (.iaload, 1) := by decide +kernel
theorem dL_law_2231 : decode cL_law 2231 = .ok (.aload_n 0, 1) := by decide +kernel
theorem dL_law_2232 : decode cL_law 2232 = .ok (.iload 4, 2) := by decide +kernel
theorem dL_law_2234 : decode cL_law 2234 = .ok (.iconst 4, 1) := by decide +kernel
theorem dL_law_2235 : decode cL_law 2235 = .ok (.iadd, 1) := by decide +kernel
theorem dL_law_2236 : decode cL_law 2236 = .ok (.iaload, 1) := by decide +kernel
theorem dL_law_2237 : decode cL_law 2237 = .ok (.invokevirtual 198, 3) := by decide +kernel
theorem w_1977 : Cond.methodLink "QuarterWalksLaw" 198 yX11_fails_ ∈ wAll := wIn 1977 (by decide +kernel) (by decide +kernel)
theorem w_1979 : Cond.selects yX11_fails_.cls yX11_fails_ yX11_fails_ ∈ wAll := wIn 1979 (by decide +kernel) (by decide +kernel)
theorem mk_X11_fails_ : mk yX11_fails_ 4 := ⟨by decide +kernel, w_110⟩
theorem w_1978 : Cond.instanceMethod yX11_fails_ ∈ wAll := wIn 1978 (by decide +kernel) (by decide +kernel)
theorem w_1980 : Cond.code yX11_fails_ cX11_fails_ 5 (some .int) ∈ wAll := wIn 1980 (by decide +kernel) (by decide +kernel)
theorem dL_law_2240 : decode cL_law 2240 = .ok (.if_icmp .eq 353, 3) := by decide +kernel
theorem dL_law_2245 : decode cL_law 2245 = .ok (.aload_n 1, 1) := by decide +kernel
theorem dL_law_2246 : decode cL_law 2246 = .ok (.aload_n 0, 1) := by decide +kernel
theorem dL_law_2247 : decode cL_law 2247 = .ok (.iload 4, 2) := by decide +kernel
theorem dL_law_2249 : decode cL_law 2249 = .ok (.iconst 1, 1) := by decide +kernel
theorem dL_law_2250 : decode cL_law 2250 = .ok (.iadd, 1) := by decide +kernel
theorem dL_law_2251 : decode cL_law 2251 = .ok (.iaload, 1) := by decide +kernel
theorem dL_law_2252 : decode cL_law 2252 = .ok (.aload_n 0, 1) := by decide +kernel
theorem dL_law_2253 : decode cL_law 2253 = .ok (.iload 4, 2) := by decide +kernel
theorem dL_law_2255 : decode cL_law 2255 = .ok (.iconst 2, 1) := by decide +kernel
theorem dL_law_2256 : decode cL_law 2256 = .ok (.iadd, 1) := by decide +kernel
theorem dL_law_2257 : decode cL_law 2257 = .ok (.iaload, 1) := by decide +kernel
theorem dL_law_2258 : decode cL_law 2258 = .ok (.aload_n 0, 1) := by decide +kernel
theorem dL_law_2259 : decode cL_law 2259 = .ok (.iload 4, 2) := by decide +kernel
theorem dL_law_2261 : decode cL_law 2261 = .ok (.iconst 3, 1) := by decide +kernel
theorem dL_law_2262 : decode cL_law 2262 = .ok (.iadd, 1) := by decide +kernel
theorem dL_law_2263 : decode cL_law 2263 = .ok (.iaload, 1) := by decide +kernel
theorem dL_law_2264 : decode cL_law 2264 = .ok (.aload_n 0, 1) := by decide +kernel
theorem dL_law_2265 : decode cL_law 2265 = .ok (.iload 4, 2) := by decide +kernel
theorem dL_law_2267 : decode cL_law 2267 = .ok (.iconst 4, 1) := by decide +kernel
theorem dL_law_2268 : decode cL_law 2268 = .ok (.iadd, 1) := by decide +kernel
theorem dL_law_2269 : decode cL_law 2269 = .ok (.iaload, 1) := by decide +kernel
theorem dL_law_2270 : decode cL_law 2270 = .ok (.aload_n 0, 1) := by decide +kernel
theorem dL_law_2271 : decode cL_law 2271 = .ok (.iload 4, 2) := by decide +kernel
theorem dL_law_2273 : decode cL_law 2273 = .ok (.iconst 5, 1) := by decide +kernel
theorem dL_law_2274 : decode cL_law 2274 = .ok (.iadd, 1) := by decide +kernel
theorem dL_law_2275 : decode cL_law 2275 = .ok (.iaload, 1) := by decide +kernel
theorem dL_law_2276 : decode cL_law 2276 = .ok (.aload_n 0, 1) := by decide +kernel
theorem dL_law_2277 : decode cL_law 2277 = .ok (.iload 4, 2) := by decide +kernel
theorem dL_law_2279 : decode cL_law 2279 = .ok (.bipush 6, 2) := by decide +kernel
theorem dL_law_2281 : decode cL_law 2281 = .ok (.iadd, 1) := by decide +kernel
theorem dL_law_2282 : decode cL_law 2282 = .ok (.iaload, 1) := by decide +kernel
theorem dL_law_2283 : decode cL_law 2283 = .ok (.invokevirtual 199, 3) := by decide +kernel
theorem w_1079 : Cond.methodLink "QuarterWalksLaw" 199 yX10_equation ∈ wAll := wIn 1079 (by decide +kernel) (by decide +kernel)
theorem w_1081 : Cond.selects yX10_equation.cls yX10_equation yX10_equation ∈ wAll := wIn 1081 (by decide +kernel) (by decide +kernel)
theorem mk_X10_equation : mk yX10_equation 6 := ⟨by decide +kernel, w_96⟩
theorem w_1080 : Cond.instanceMethod yX10_equation ∈ wAll := wIn 1080 (by decide +kernel) (by decide +kernel)
theorem w_1082 : Cond.code yX10_equation cX10_equation 8 (some .int) ∈ wAll := wIn 1082 (by decide +kernel) (by decide +kernel)
theorem dL_law_2286 : decode cL_law 2286 = .ok (.aload_n 2, 1) := by decide +kernel
theorem dL_law_2287 : decode cL_law 2287 = .ok (.aload_n 0, 1) := by decide +kernel
theorem dL_law_2288 : decode cL_law 2288 = .ok (.iload 4, 2) := by decide +kernel
theorem dL_law_2290 : decode cL_law 2290 = .ok (.iconst 1, 1) := by decide +kernel
theorem dL_law_2291 : decode cL_law 2291 = .ok (.iadd, 1) := by decide +kernel
theorem dL_law_2292 : decode cL_law 2292 = .ok (.iaload, 1) := by decide +kernel
theorem dL_law_2293 : decode cL_law 2293 = .ok (.aload_n 0, 1) := by decide +kernel
theorem dL_law_2294 : decode cL_law 2294 = .ok (.iload 4, 2) := by decide +kernel
theorem dL_law_2296 : decode cL_law 2296 = .ok (.iconst 2, 1) := by decide +kernel
theorem dL_law_2297 : decode cL_law 2297 = .ok (.iadd, 1) := by decide +kernel
theorem dL_law_2298 : decode cL_law 2298 = .ok (.iaload, 1) := by decide +kernel
theorem dL_law_2299 : decode cL_law 2299 = .ok (.aload_n 0, 1) := by decide +kernel
theorem dL_law_2300 : decode cL_law 2300 = .ok (.iload 4, 2) := by decide +kernel
theorem dL_law_2302 : decode cL_law 2302 = .ok (.iconst 3, 1) := by decide +kernel
theorem dL_law_2303 : decode cL_law 2303 = .ok (.iadd, 1) := by decide +kernel
theorem dL_law_2304 : decode cL_law 2304 = .ok (.iaload, 1) := by decide +kernel
theorem dL_law_2305 : decode cL_law 2305 = .ok (.aload_n 0, 1) := by decide +kernel
theorem dL_law_2306 : decode cL_law 2306 = .ok (.iload 4, 2) := by decide +kernel
theorem dL_law_2308 : decode cL_law 2308 = .ok (.iconst 4, 1) := by decide +kernel
theorem dL_law_2309 : decode cL_law 2309 = .ok (.iadd, 1) := by decide +kernel
theorem dL_law_2310 : decode cL_law 2310 = .ok (.iaload, 1) := by decide +kernel
theorem dL_law_2311 : decode cL_law 2311 = .ok (.aload_n 0, 1) := by decide +kernel
theorem dL_law_2312 : decode cL_law 2312 = .ok (.iload 4, 2) := by decide +kernel
theorem dL_law_2314 : decode cL_law 2314 = .ok (.iconst 5, 1) := by decide +kernel
theorem dL_law_2315 : decode cL_law 2315 = .ok (.iadd, 1) := by decide +kernel
theorem dL_law_2316 : decode cL_law 2316 = .ok (.iaload, 1) := by decide +kernel
theorem dL_law_2317 : decode cL_law 2317 = .ok (.aload_n 0, 1) := by decide +kernel
theorem dL_law_2318 : decode cL_law 2318 = .ok (.iload 4, 2) := by decide +kernel
theorem dL_law_2320 : decode cL_law 2320 = .ok (.bipush 6, 2) := by decide +kernel
theorem dL_law_2322 : decode cL_law 2322 = .ok (.iadd, 1) := by decide +kernel
theorem dL_law_2323 : decode cL_law 2323 = .ok (.iaload, 1) := by decide +kernel
theorem dL_law_2324 : decode cL_law 2324 = .ok (.invokevirtual 202, 3) := by decide +kernel
theorem w_1989 : Cond.methodLink "QuarterWalksLaw" 202 yX11_equation ∈ wAll := wIn 1989 (by decide +kernel) (by decide +kernel)
theorem w_1991 : Cond.selects yX11_equation.cls yX11_equation yX11_equation ∈ wAll := wIn 1991 (by decide +kernel) (by decide +kernel)
theorem mk_X11_equation : mk yX11_equation 6 := ⟨by decide +kernel, w_110⟩
theorem w_1990 : Cond.instanceMethod yX11_equation ∈ wAll := wIn 1990 (by decide +kernel) (by decide +kernel)
theorem w_1992 : Cond.code yX11_equation cX11_equation 7 (some .int) ∈ wAll := wIn 1992 (by decide +kernel) (by decide +kernel)
theorem dL_law_2327 : decode cL_law 2327 = .ok (.if_icmp .eq 266, 3) := by decide +kernel
theorem dL_law_2332 : decode cL_law 2332 = .ok (.aload_n 1, 1) := by decide +kernel
theorem dL_law_2333 : decode cL_law 2333 = .ok (.aload_n 0, 1) := by decide +kernel
theorem dL_law_2334 : decode cL_law 2334 = .ok (.iload 4, 2) := by decide +kernel
theorem dL_law_2336 : decode cL_law 2336 = .ok (.iconst 1, 1) := by decide +kernel
theorem dL_law_2337 : decode cL_law 2337 = .ok (.iadd, 1) := by decide +kernel
theorem dL_law_2338 : decode cL_law 2338 = .ok (.iaload, 1) := by decide +kernel
theorem dL_law_2339 : decode cL_law 2339 = .ok (.aload_n 0, 1) := by decide +kernel
theorem dL_law_2340 : decode cL_law 2340 = .ok (.iload 4, 2) := by decide +kernel
theorem dL_law_2342 : decode cL_law 2342 = .ok (.iconst 2, 1) := by decide +kernel
theorem dL_law_2343 : decode cL_law 2343 = .ok (.iadd, 1) := by decide +kernel
theorem dL_law_2344 : decode cL_law 2344 = .ok (.iaload, 1) := by decide +kernel
theorem dL_law_2345 : decode cL_law 2345 = .ok (.aload_n 0, 1) := by decide +kernel
theorem dL_law_2346 : decode cL_law 2346 = .ok (.iload 4, 2) := by decide +kernel
theorem dL_law_2348 : decode cL_law 2348 = .ok (.iconst 3, 1) := by decide +kernel
theorem dL_law_2349 : decode cL_law 2349 = .ok (.iadd, 1) := by decide +kernel
theorem dL_law_2350 : decode cL_law 2350 = .ok (.iaload, 1) := by decide +kernel
theorem dL_law_2351 : decode cL_law 2351 = .ok (.aload_n 0, 1) := by decide +kernel
theorem dL_law_2352 : decode cL_law 2352 = .ok (.iload 4, 2) := by decide +kernel
theorem dL_law_2354 : decode cL_law 2354 = .ok (.iconst 4, 1) := by decide +kernel
theorem dL_law_2355 : decode cL_law 2355 = .ok (.iadd, 1) := by decide +kernel
theorem dL_law_2356 : decode cL_law 2356 = .ok (.iaload, 1) := by decide +kernel
theorem dL_law_2357 : decode cL_law 2357 = .ok (.invokevirtual 203, 3) := by decide +kernel
theorem w_1083 : Cond.methodLink "QuarterWalksLaw" 203 yX10_breaks ∈ wAll := wIn 1083 (by decide +kernel) (by decide +kernel)
theorem w_1085 : Cond.selects yX10_breaks.cls yX10_breaks yX10_breaks ∈ wAll := wIn 1085 (by decide +kernel) (by decide +kernel)
theorem mk_X10_breaks : mk yX10_breaks 4 := ⟨by decide +kernel, w_96⟩
theorem w_1084 : Cond.instanceMethod yX10_breaks ∈ wAll := wIn 1084 (by decide +kernel) (by decide +kernel)
theorem w_1086 : Cond.code yX10_breaks cX10_breaks 5 (some .int) ∈ wAll := wIn 1086 (by decide +kernel) (by decide +kernel)
theorem dL_law_2360 : decode cL_law 2360 = .ok (.aload_n 2, 1) := by decide +kernel
theorem dL_law_2361 : decode cL_law 2361 = .ok (.aload_n 0, 1) := by decide +kernel
theorem dL_law_2362 : decode cL_law 2362 = .ok (.iload 4, 2) := by decide +kernel
theorem dL_law_2364 : decode cL_law 2364 = .ok (.iconst 1, 1) := by decide +kernel
theorem dL_law_2365 : decode cL_law 2365 = .ok (.iadd, 1) := by decide +kernel
theorem dL_law_2366 : decode cL_law 2366 = .ok (.iaload, 1) := by decide +kernel
theorem dL_law_2367 : decode cL_law 2367 = .ok (.aload_n 0, 1) := by decide +kernel
theorem dL_law_2368 : decode cL_law 2368 = .ok (.iload 4, 2) := by decide +kernel
theorem dL_law_2370 : decode cL_law 2370 = .ok (.iconst 2, 1) := by decide +kernel
theorem dL_law_2371 : decode cL_law 2371 = .ok (.iadd, 1) := by decide +kernel
theorem dL_law_2372 : decode cL_law 2372 = .ok (.iaload, 1) := by decide +kernel
theorem dL_law_2373 : decode cL_law 2373 = .ok (.aload_n 0, 1) := by decide +kernel
theorem dL_law_2374 : decode cL_law 2374 = .ok (.iload 4, 2) := by decide +kernel
theorem dL_law_2376 : decode cL_law 2376 = .ok (.iconst 3, 1) := by decide +kernel
theorem dL_law_2377 : decode cL_law 2377 = .ok (.iadd, 1) := by decide +kernel
theorem dL_law_2378 : decode cL_law 2378 = .ok (.iaload, 1) := by decide +kernel
theorem dL_law_2379 : decode cL_law 2379 = .ok (.aload_n 0, 1) := by decide +kernel
theorem dL_law_2380 : decode cL_law 2380 = .ok (.iload 4, 2) := by decide +kernel
theorem dL_law_2382 : decode cL_law 2382 = .ok (.iconst 4, 1) := by decide +kernel
theorem dL_law_2383 : decode cL_law 2383 = .ok (.iadd, 1) := by decide +kernel
theorem dL_law_2384 : decode cL_law 2384 = .ok (.iaload, 1) := by decide +kernel
theorem dL_law_2385 : decode cL_law 2385 = .ok (.invokevirtual 206, 3) := by decide +kernel
theorem w_1993 : Cond.methodLink "QuarterWalksLaw" 206 yX11_breaks ∈ wAll := wIn 1993 (by decide +kernel) (by decide +kernel)
theorem w_1995 : Cond.selects yX11_breaks.cls yX11_breaks yX11_breaks ∈ wAll := wIn 1995 (by decide +kernel) (by decide +kernel)
theorem mk_X11_breaks : mk yX11_breaks 4 := ⟨by decide +kernel, w_110⟩
theorem w_1994 : Cond.instanceMethod yX11_breaks ∈ wAll := wIn 1994 (by decide +kernel) (by decide +kernel)
theorem w_1996 : Cond.code yX11_breaks cX11_breaks 5 (some .int) ∈ wAll := wIn 1996 (by decide +kernel) (by decide +kernel)
theorem dL_law_2388 : decode cL_law 2388 = .ok (.if_icmp .eq 205, 3) := by decide +kernel
theorem dL_law_2393 : decode cL_law 2393 = .ok (.aload_n 1, 1) := by decide +kernel
theorem dL_law_2394 : decode cL_law 2394 = .ok (.aload_n 0, 1) := by decide +kernel
theorem dL_law_2395 : decode cL_law 2395 = .ok (.iload 4, 2) := by decide +kernel
theorem dL_law_2397 : decode cL_law 2397 = .ok (.iconst 1, 1) := by decide +kernel
theorem dL_law_2398 : decode cL_law 2398 = .ok (.iadd, 1) := by decide +kernel
theorem dL_law_2399 : decode cL_law 2399 = .ok (.iaload, 1) := by decide +kernel
theorem dL_law_2400 : decode cL_law 2400 = .ok (.aload_n 0, 1) := by decide +kernel
theorem dL_law_2401 : decode cL_law 2401 = .ok (.iload 4, 2) := by decide +kernel
theorem dL_law_2403 : decode cL_law 2403 = .ok (.iconst 2, 1) := by decide +kernel
theorem dL_law_2404 : decode cL_law 2404 = .ok (.iadd, 1) := by decide +kernel
theorem dL_law_2405 : decode cL_law 2405 = .ok (.iaload, 1) := by decide +kernel
theorem dL_law_2406 : decode cL_law 2406 = .ok (.aload_n 0, 1) := by decide +kernel
theorem dL_law_2407 : decode cL_law 2407 = .ok (.iload 4, 2) := by decide +kernel
theorem dL_law_2409 : decode cL_law 2409 = .ok (.iconst 3, 1) := by decide +kernel
theorem dL_law_2410 : decode cL_law 2410 = .ok (.iadd, 1) := by decide +kernel
theorem dL_law_2411 : decode cL_law 2411 = .ok (.iaload, 1) := by decide +kernel
theorem dL_law_2412 : decode cL_law 2412 = .ok (.invokevirtual 207, 3) := by decide +kernel
theorem w_1087 : Cond.methodLink "QuarterWalksLaw" 207 yX10_least ∈ wAll := wIn 1087 (by decide +kernel) (by decide +kernel)
theorem w_1089 : Cond.selects yX10_least.cls yX10_least yX10_least ∈ wAll := wIn 1089 (by decide +kernel) (by decide +kernel)
theorem mk_X10_least : mk yX10_least 3 := ⟨by decide +kernel, w_96⟩
theorem w_1088 : Cond.instanceMethod yX10_least ∈ wAll := wIn 1088 (by decide +kernel) (by decide +kernel)
theorem w_1090 : Cond.code yX10_least cX10_least 5 (some .int) ∈ wAll := wIn 1090 (by decide +kernel) (by decide +kernel)
theorem dL_law_2415 : decode cL_law 2415 = .ok (.aload_n 2, 1) := by decide +kernel
theorem dL_law_2416 : decode cL_law 2416 = .ok (.aload_n 0, 1) := by decide +kernel
theorem dL_law_2417 : decode cL_law 2417 = .ok (.iload 4, 2) := by decide +kernel
theorem dL_law_2419 : decode cL_law 2419 = .ok (.iconst 1, 1) := by decide +kernel
theorem dL_law_2420 : decode cL_law 2420 = .ok (.iadd, 1) := by decide +kernel
theorem dL_law_2421 : decode cL_law 2421 = .ok (.iaload, 1) := by decide +kernel
theorem dL_law_2422 : decode cL_law 2422 = .ok (.aload_n 0, 1) := by decide +kernel
theorem dL_law_2423 : decode cL_law 2423 = .ok (.iload 4, 2) := by decide +kernel
theorem dL_law_2425 : decode cL_law 2425 = .ok (.iconst 2, 1) := by decide +kernel
theorem dL_law_2426 : decode cL_law 2426 = .ok (.iadd, 1) := by decide +kernel
theorem dL_law_2427 : decode cL_law 2427 = .ok (.iaload, 1) := by decide +kernel
theorem dL_law_2428 : decode cL_law 2428 = .ok (.aload_n 0, 1) := by decide +kernel
theorem dL_law_2429 : decode cL_law 2429 = .ok (.iload 4, 2) := by decide +kernel
theorem dL_law_2431 : decode cL_law 2431 = .ok (.iconst 3, 1) := by decide +kernel
theorem dL_law_2432 : decode cL_law 2432 = .ok (.iadd, 1) := by decide +kernel
theorem dL_law_2433 : decode cL_law 2433 = .ok (.iaload, 1) := by decide +kernel
theorem dL_law_2434 : decode cL_law 2434 = .ok (.invokevirtual 210, 3) := by decide +kernel
theorem w_1997 : Cond.methodLink "QuarterWalksLaw" 210 yX11_least ∈ wAll := wIn 1997 (by decide +kernel) (by decide +kernel)
theorem w_1999 : Cond.selects yX11_least.cls yX11_least yX11_least ∈ wAll := wIn 1999 (by decide +kernel) (by decide +kernel)
theorem mk_X11_least : mk yX11_least 3 := ⟨by decide +kernel, w_110⟩
theorem w_1998 : Cond.instanceMethod yX11_least ∈ wAll := wIn 1998 (by decide +kernel) (by decide +kernel)
theorem w_2000 : Cond.code yX11_least cX11_least 9 (some .int) ∈ wAll := wIn 2000 (by decide +kernel) (by decide +kernel)
theorem dL_law_2437 : decode cL_law 2437 = .ok (.if_icmp .eq 156, 3) := by decide +kernel
theorem dL_law_2442 : decode cL_law 2442 = .ok (.aload_n 1, 1) := by decide +kernel
theorem dL_law_2443 : decode cL_law 2443 = .ok (.aload_n 0, 1) := by decide +kernel
theorem dL_law_2444 : decode cL_law 2444 = .ok (.iload 4, 2) := by decide +kernel
theorem dL_law_2446 : decode cL_law 2446 = .ok (.iconst 1, 1) := by decide +kernel
theorem dL_law_2447 : decode cL_law 2447 = .ok (.iadd, 1) := by decide +kernel
theorem dL_law_2448 : decode cL_law 2448 = .ok (.iaload, 1) := by decide +kernel
theorem dL_law_2449 : decode cL_law 2449 = .ok (.aload_n 0, 1) := by decide +kernel
theorem dL_law_2450 : decode cL_law 2450 = .ok (.iload 4, 2) := by decide +kernel
theorem dL_law_2452 : decode cL_law 2452 = .ok (.iconst 2, 1) := by decide +kernel
theorem dL_law_2453 : decode cL_law 2453 = .ok (.iadd, 1) := by decide +kernel
theorem dL_law_2454 : decode cL_law 2454 = .ok (.iaload, 1) := by decide +kernel
theorem dL_law_2455 : decode cL_law 2455 = .ok (.invokevirtual 211, 3) := by decide +kernel
theorem w_1096 : Cond.methodLink "QuarterWalksLaw" 211 yX10_written ∈ wAll := wIn 1096 (by decide +kernel) (by decide +kernel)
theorem w_1098 : Cond.selects yX10_written.cls yX10_written yX10_written ∈ wAll := wIn 1098 (by decide +kernel) (by decide +kernel)
theorem mk_X10_written : mk yX10_written 2 := ⟨by decide +kernel, w_96⟩
theorem w_1097 : Cond.instanceMethod yX10_written ∈ wAll := wIn 1097 (by decide +kernel) (by decide +kernel)
theorem w_1099 : Cond.code yX10_written cX10_written 4 (some .int) ∈ wAll := wIn 1099 (by decide +kernel) (by decide +kernel)
theorem dL_law_2458 : decode cL_law 2458 = .ok (.aload_n 2, 1) := by decide +kernel
theorem dL_law_2459 : decode cL_law 2459 = .ok (.aload_n 0, 1) := by decide +kernel
theorem dL_law_2460 : decode cL_law 2460 = .ok (.iload 4, 2) := by decide +kernel
theorem dL_law_2462 : decode cL_law 2462 = .ok (.iconst 1, 1) := by decide +kernel
theorem dL_law_2463 : decode cL_law 2463 = .ok (.iadd, 1) := by decide +kernel
theorem dL_law_2464 : decode cL_law 2464 = .ok (.iaload, 1) := by decide +kernel
theorem dL_law_2465 : decode cL_law 2465 = .ok (.aload_n 0, 1) := by decide +kernel
theorem dL_law_2466 : decode cL_law 2466 = .ok (.iload 4, 2) := by decide +kernel
theorem dL_law_2468 : decode cL_law 2468 = .ok (.iconst 2, 1) := by decide +kernel
theorem dL_law_2469 : decode cL_law 2469 = .ok (.iadd, 1) := by decide +kernel
theorem dL_law_2470 : decode cL_law 2470 = .ok (.iaload, 1) := by decide +kernel
theorem dL_law_2471 : decode cL_law 2471 = .ok (.invokevirtual 214, 3) := by decide +kernel
theorem w_2001 : Cond.methodLink "QuarterWalksLaw" 214 yX11_written ∈ wAll := wIn 2001 (by decide +kernel) (by decide +kernel)
theorem w_2003 : Cond.selects yX11_written.cls yX11_written yX11_written ∈ wAll := wIn 2003 (by decide +kernel) (by decide +kernel)
theorem mk_X11_written : mk yX11_written 2 := ⟨by decide +kernel, w_110⟩
theorem w_2002 : Cond.instanceMethod yX11_written ∈ wAll := wIn 2002 (by decide +kernel) (by decide +kernel)
theorem w_2004 : Cond.code yX11_written cX11_written 3 (some .int) ∈ wAll := wIn 2004 (by decide +kernel) (by decide +kernel)
theorem dL_law_2474 : decode cL_law 2474 = .ok (.if_icmp .eq 119, 3) := by decide +kernel
theorem dL_law_2479 : decode cL_law 2479 = .ok (.aload_n 1, 1) := by decide +kernel
theorem dL_law_2480 : decode cL_law 2480 = .ok (.invokevirtual 215, 3) := by decide +kernel
theorem w_1285 : Cond.methodLink "QuarterWalksLaw" 215 yX10_undo ∈ wAll := wIn 1285 (by decide +kernel) (by decide +kernel)
theorem w_1287 : Cond.selects yX10_undo.cls yX10_undo yX10_undo ∈ wAll := wIn 1287 (by decide +kernel) (by decide +kernel)
theorem mk_X10_undo : mk yX10_undo 0 := ⟨by decide +kernel, w_96⟩
theorem w_1286 : Cond.instanceMethod yX10_undo ∈ wAll := wIn 1286 (by decide +kernel) (by decide +kernel)
theorem w_1288 : Cond.code yX10_undo cX10_undo 1 (some .int) ∈ wAll := wIn 1288 (by decide +kernel) (by decide +kernel)
theorem dL_law_2483 : decode cL_law 2483 = .ok (.aload_n 2, 1) := by decide +kernel
theorem dL_law_2484 : decode cL_law 2484 = .ok (.invokevirtual 218, 3) := by decide +kernel
theorem w_2022 : Cond.methodLink "QuarterWalksLaw" 218 yX11_undo ∈ wAll := wIn 2022 (by decide +kernel) (by decide +kernel)
theorem w_2024 : Cond.selects yX11_undo.cls yX11_undo yX11_undo ∈ wAll := wIn 2024 (by decide +kernel) (by decide +kernel)
theorem mk_X11_undo : mk yX11_undo 0 := ⟨by decide +kernel, w_110⟩
theorem w_2023 : Cond.instanceMethod yX11_undo ∈ wAll := wIn 2023 (by decide +kernel) (by decide +kernel)
theorem w_2025 : Cond.code yX11_undo cX11_undo 2 (some .int) ∈ wAll := wIn 2025 (by decide +kernel) (by decide +kernel)
theorem dL_law_2487 : decode cL_law 2487 = .ok (.if_icmp .eq 106, 3) := by decide +kernel
theorem dL_law_2492 : decode cL_law 2492 = .ok (.aload_n 1, 1) := by decide +kernel
theorem dL_law_2493 : decode cL_law 2493 = .ok (.invokevirtual 219, 3) := by decide +kernel
theorem w_1293 : Cond.methodLink "QuarterWalksLaw" 219 yX10_image ∈ wAll := wIn 1293 (by decide +kernel) (by decide +kernel)
theorem w_1295 : Cond.selects yX10_image.cls yX10_image yX10_image ∈ wAll := wIn 1295 (by decide +kernel) (by decide +kernel)
theorem mk_X10_image : mk yX10_image 0 := ⟨by decide +kernel, w_96⟩
theorem w_1294 : Cond.instanceMethod yX10_image ∈ wAll := wIn 1294 (by decide +kernel) (by decide +kernel)
theorem w_1296 : Cond.code yX10_image cX10_image 1 (some .int) ∈ wAll := wIn 1296 (by decide +kernel) (by decide +kernel)
theorem dL_law_2496 : decode cL_law 2496 = .ok (.aload_n 2, 1) := by decide +kernel
theorem dL_law_2497 : decode cL_law 2497 = .ok (.invokevirtual 222, 3) := by decide +kernel
theorem w_2026 : Cond.methodLink "QuarterWalksLaw" 222 yX11_image ∈ wAll := wIn 2026 (by decide +kernel) (by decide +kernel)
theorem w_2028 : Cond.selects yX11_image.cls yX11_image yX11_image ∈ wAll := wIn 2028 (by decide +kernel) (by decide +kernel)
theorem mk_X11_image : mk yX11_image 0 := ⟨by decide +kernel, w_110⟩
theorem w_2027 : Cond.instanceMethod yX11_image ∈ wAll := wIn 2027 (by decide +kernel) (by decide +kernel)
theorem w_2029 : Cond.code yX11_image cX11_image 2 (some .int) ∈ wAll := wIn 2029 (by decide +kernel) (by decide +kernel)
theorem dL_law_2500 : decode cL_law 2500 = .ok (.if_icmp .eq 93, 3) := by decide +kernel
theorem dL_law_2505 : decode cL_law 2505 = .ok (.aload_n 1, 1) := by decide +kernel
theorem dL_law_2506 : decode cL_law 2506 = .ok (.invokevirtual 223, 3) := by decide +kernel
theorem w_1301 : Cond.methodLink "QuarterWalksLaw" 223 yX10_back ∈ wAll := wIn 1301 (by decide +kernel) (by decide +kernel)
theorem w_1303 : Cond.selects yX10_back.cls yX10_back yX10_back ∈ wAll := wIn 1303 (by decide +kernel) (by decide +kernel)
theorem mk_X10_back : mk yX10_back 0 := ⟨by decide +kernel, w_96⟩
theorem w_1302 : Cond.instanceMethod yX10_back ∈ wAll := wIn 1302 (by decide +kernel) (by decide +kernel)
theorem w_1304 : Cond.code yX10_back cX10_back 1 (some .int) ∈ wAll := wIn 1304 (by decide +kernel) (by decide +kernel)
theorem dL_law_2509 : decode cL_law 2509 = .ok (.aload_n 2, 1) := by decide +kernel
theorem dL_law_2510 : decode cL_law 2510 = .ok (.invokevirtual 226, 3) := by decide +kernel
theorem w_2030 : Cond.methodLink "QuarterWalksLaw" 226 yX11_back ∈ wAll := wIn 2030 (by decide +kernel) (by decide +kernel)
theorem w_2032 : Cond.selects yX11_back.cls yX11_back yX11_back ∈ wAll := wIn 2032 (by decide +kernel) (by decide +kernel)
theorem mk_X11_back : mk yX11_back 0 := ⟨by decide +kernel, w_110⟩
theorem w_2031 : Cond.instanceMethod yX11_back ∈ wAll := wIn 2031 (by decide +kernel) (by decide +kernel)
theorem w_2033 : Cond.code yX11_back cX11_back 2 (some .int) ∈ wAll := wIn 2033 (by decide +kernel) (by decide +kernel)
theorem dL_law_2513 : decode cL_law 2513 = .ok (.if_icmp .eq 80, 3) := by decide +kernel
theorem dL_law_2518 : decode cL_law 2518 = .ok (.aload_n 1, 1) := by decide +kernel
theorem dL_law_2519 : decode cL_law 2519 = .ok (.aload_n 0, 1) := by decide +kernel
theorem dL_law_2520 : decode cL_law 2520 = .ok (.iload 4, 2) := by decide +kernel
theorem dL_law_2522 : decode cL_law 2522 = .ok (.iconst 1, 1) := by decide +kernel
theorem dL_law_2523 : decode cL_law 2523 = .ok (.iadd, 1) := by decide +kernel
theorem dL_law_2524 : decode cL_law 2524 = .ok (.iaload, 1) := by decide +kernel
theorem dL_law_2525 : decode cL_law 2525 = .ok (.invokevirtual 227, 3) := by decide +kernel
theorem w_1309 : Cond.methodLink "QuarterWalksLaw" 227 yX10_status ∈ wAll := wIn 1309 (by decide +kernel) (by decide +kernel)
theorem w_1311 : Cond.selects yX10_status.cls yX10_status yX10_status ∈ wAll := wIn 1311 (by decide +kernel) (by decide +kernel)
theorem mk_X10_status : mk yX10_status 1 := ⟨by decide +kernel, w_96⟩
theorem w_1310 : Cond.instanceMethod yX10_status ∈ wAll := wIn 1310 (by decide +kernel) (by decide +kernel)
theorem w_1312 : Cond.code yX10_status cX10_status 2 (some .int) ∈ wAll := wIn 1312 (by decide +kernel) (by decide +kernel)
theorem dL_law_2528 : decode cL_law 2528 = .ok (.aload_n 2, 1) := by decide +kernel
theorem dL_law_2529 : decode cL_law 2529 = .ok (.aload_n 0, 1) := by decide +kernel
theorem dL_law_2530 : decode cL_law 2530 = .ok (.iload 4, 2) := by decide +kernel
theorem dL_law_2532 : decode cL_law 2532 = .ok (.iconst 1, 1) := by decide +kernel
theorem dL_law_2533 : decode cL_law 2533 = .ok (.iadd, 1) := by decide +kernel
theorem dL_law_2534 : decode cL_law 2534 = .ok (.iaload, 1) := by decide +kernel
theorem dL_law_2535 : decode cL_law 2535 = .ok (.invokevirtual 230, 3) := by decide +kernel
theorem w_2034 : Cond.methodLink "QuarterWalksLaw" 230 yX11_status ∈ wAll := wIn 2034 (by decide +kernel) (by decide +kernel)
theorem w_2036 : Cond.selects yX11_status.cls yX11_status yX11_status ∈ wAll := wIn 2036 (by decide +kernel) (by decide +kernel)
theorem mk_X11_status : mk yX11_status 1 := ⟨by decide +kernel, w_110⟩
theorem w_2035 : Cond.instanceMethod yX11_status ∈ wAll := wIn 2035 (by decide +kernel) (by decide +kernel)
theorem w_2037 : Cond.code yX11_status cX11_status 2 (some .int) ∈ wAll := wIn 2037 (by decide +kernel) (by decide +kernel)
theorem dL_law_2538 : decode cL_law 2538 = .ok (.if_icmp .eq 55, 3) := by decide +kernel
theorem dL_law_2543 : decode cL_law 2543 = .ok (.aload_n 1, 1) := by decide +kernel
theorem dL_law_2544 : decode cL_law 2544 = .ok (.aload_n 0, 1) := by decide +kernel
theorem dL_law_2545 : decode cL_law 2545 = .ok (.iload 4, 2) := by decide +kernel
theorem dL_law_2547 : decode cL_law 2547 = .ok (.iconst 1, 1) := by decide +kernel
theorem dL_law_2548 : decode cL_law 2548 = .ok (.iadd, 1) := by decide +kernel
theorem dL_law_2549 : decode cL_law 2549 = .ok (.iaload, 1) := by decide +kernel
theorem dL_law_2550 : decode cL_law 2550 = .ok (.invokevirtual 231, 3) := by decide +kernel
theorem w_1313 : Cond.methodLink "QuarterWalksLaw" 231 yX10_most ∈ wAll := wIn 1313 (by decide +kernel) (by decide +kernel)
theorem w_1315 : Cond.selects yX10_most.cls yX10_most yX10_most ∈ wAll := wIn 1315 (by decide +kernel) (by decide +kernel)
theorem mk_X10_most : mk yX10_most 1 := ⟨by decide +kernel, w_96⟩
theorem w_1314 : Cond.instanceMethod yX10_most ∈ wAll := wIn 1314 (by decide +kernel) (by decide +kernel)
theorem w_1316 : Cond.code yX10_most cX10_most 2 (some .int) ∈ wAll := wIn 1316 (by decide +kernel) (by decide +kernel)
theorem dL_law_2553 : decode cL_law 2553 = .ok (.aload_n 2, 1) := by decide +kernel
theorem dL_law_2554 : decode cL_law 2554 = .ok (.aload_n 0, 1) := by decide +kernel
theorem dL_law_2555 : decode cL_law 2555 = .ok (.iload 4, 2) := by decide +kernel
theorem dL_law_2557 : decode cL_law 2557 = .ok (.iconst 1, 1) := by decide +kernel
theorem dL_law_2558 : decode cL_law 2558 = .ok (.iadd, 1) := by decide +kernel
theorem dL_law_2559 : decode cL_law 2559 = .ok (.iaload, 1) := by decide +kernel
theorem dL_law_2560 : decode cL_law 2560 = .ok (.invokevirtual 234, 3) := by decide +kernel
theorem w_2038 : Cond.methodLink "QuarterWalksLaw" 234 yX11_most ∈ wAll := wIn 2038 (by decide +kernel) (by decide +kernel)
theorem w_2040 : Cond.selects yX11_most.cls yX11_most yX11_most ∈ wAll := wIn 2040 (by decide +kernel) (by decide +kernel)
theorem mk_X11_most : mk yX11_most 1 := ⟨by decide +kernel, w_110⟩
theorem w_2039 : Cond.instanceMethod yX11_most ∈ wAll := wIn 2039 (by decide +kernel) (by decide +kernel)
theorem w_2041 : Cond.code yX11_most cX11_most 4 (some .int) ∈ wAll := wIn 2041 (by decide +kernel) (by decide +kernel)
theorem dL_law_2563 : decode cL_law 2563 = .ok (.if_icmp .eq 30, 3) := by decide +kernel
theorem dL_law_2568 : decode cL_law 2568 = .ok (.aload_n 1, 1) := by decide +kernel
theorem dL_law_2569 : decode cL_law 2569 = .ok (.aload_n 0, 1) := by decide +kernel
theorem dL_law_2570 : decode cL_law 2570 = .ok (.iload 4, 2) := by decide +kernel
theorem dL_law_2572 : decode cL_law 2572 = .ok (.iconst 1, 1) := by decide +kernel
theorem dL_law_2573 : decode cL_law 2573 = .ok (.iadd, 1) := by decide +kernel
theorem dL_law_2574 : decode cL_law 2574 = .ok (.iaload, 1) := by decide +kernel
theorem dL_law_2575 : decode cL_law 2575 = .ok (.invokevirtual 235, 3) := by decide +kernel
theorem w_1348 : Cond.methodLink "QuarterWalksLaw" 235 yX10_count ∈ wAll := wIn 1348 (by decide +kernel) (by decide +kernel)
theorem w_1350 : Cond.selects yX10_count.cls yX10_count yX10_count ∈ wAll := wIn 1350 (by decide +kernel) (by decide +kernel)
theorem mk_X10_count : mk yX10_count 1 := ⟨by decide +kernel, w_96⟩
theorem w_1349 : Cond.instanceMethod yX10_count ∈ wAll := wIn 1349 (by decide +kernel) (by decide +kernel)
theorem w_1351 : Cond.code yX10_count cX10_count 2 (some .int) ∈ wAll := wIn 1351 (by decide +kernel) (by decide +kernel)
theorem dL_law_2578 : decode cL_law 2578 = .ok (.aload_n 2, 1) := by decide +kernel
theorem dL_law_2579 : decode cL_law 2579 = .ok (.aload_n 0, 1) := by decide +kernel
theorem dL_law_2580 : decode cL_law 2580 = .ok (.iload 4, 2) := by decide +kernel
theorem dL_law_2582 : decode cL_law 2582 = .ok (.iconst 1, 1) := by decide +kernel
theorem dL_law_2583 : decode cL_law 2583 = .ok (.iadd, 1) := by decide +kernel
theorem dL_law_2584 : decode cL_law 2584 = .ok (.iaload, 1) := by decide +kernel
theorem dL_law_2585 : decode cL_law 2585 = .ok (.invokevirtual 238, 3) := by decide +kernel
theorem w_2058 : Cond.methodLink "QuarterWalksLaw" 238 yX11_count ∈ wAll := wIn 2058 (by decide +kernel) (by decide +kernel)
theorem w_2060 : Cond.selects yX11_count.cls yX11_count yX11_count ∈ wAll := wIn 2060 (by decide +kernel) (by decide +kernel)
theorem mk_X11_count : mk yX11_count 1 := ⟨by decide +kernel, w_110⟩
theorem w_2059 : Cond.instanceMethod yX11_count ∈ wAll := wIn 2059 (by decide +kernel) (by decide +kernel)
theorem w_2061 : Cond.code yX11_count cX11_count 2 (some .int) ∈ wAll := wIn 2061 (by decide +kernel) (by decide +kernel)
theorem dL_law_2588 : decode cL_law 2588 = .ok (.if_icmp .eq 5, 3) := by decide +kernel
theorem dL_law_23 : decode cL_law 23 = .ok (.iload 4, 2) := by decide +kernel
theorem dL_law_25 : decode cL_law 25 = .ok (.aload_n 0, 1) := by decide +kernel
theorem dL_law_26 : decode cL_law 26 = .ok (.arraylength, 1) := by decide +kernel
theorem dL_law_27 : decode cL_law 27 = .ok (.bipush 8, 2) := by decide +kernel
theorem dL_law_29 : decode cL_law 29 = .ok (.isub, 1) := by decide +kernel
theorem dL_law_30 : decode cL_law 30 = .ok (.if_icmp .gt 2569, 3) := by decide +kernel
theorem dL_law_2593 : decode cL_law 2593 = .ok (.iinc 4 8, 3) := by decide +kernel
theorem dL_law_2596 : decode cL_law 2596 = .ok (.goto (-2573), 3) := by decide +kernel
theorem dL_law_2599 : decode cL_law 2599 = .ok (.iconst 1, 1) := by decide +kernel
theorem dL_law_2600 : decode cL_law 2600 = .ok (.ireturn, 1) := by decide +kernel
theorem w_1352 : Cond.methodLink "QuarterWalksLaw" 68 yL_rule ∈ wAll := wIn 1352 (by decide +kernel) (by decide +kernel)
theorem w_1353 : Cond.static yL_rule ∈ wAll := wIn 1353 (by decide +kernel) (by decide +kernel)
theorem w_95 : Cond.initialized yL_rule.cls ∈ wAll := wIn 95 (by decide +kernel) (by decide +kernel)
-- ===== end of PART A; then your names; then what follows =====
/-! THE CLAIM OUT OF ONE WALK OF THE LAW'S BODY. Your part is whole_start (and what it stands on); all else here is the same for every law, but numbers. -/
def R_law : String := "QuarterWalksLaw"
def lw_P (b : Addr) (xs : List Int32) (args : Array Value) (s : State) : Prop := args = #[.ref b] ∧ s.IntsAt b xs ∧ xs.length ≤ 8 ∧ (Jvm.Cond.and given_1 narrow_1).before args s = true
def lw_Q (_ : Array Value) (s : State) (o : Outcome) (t : State) : Prop := o = .returned (some (.int 1)) ∧ Framed s o t [] 600002 7302232
def lw_Z (below : List Frame) (a : Array Value) (s : State) : State → Prop := fun t => ∃ o, t.status = .running ∧ Ended t below o ∧ lw_Q a s o t
/-- the law's own end, with 1 on the stack, nothing written that was there before, its room as the claim has it -/
theorem lw_ret {p : Program} {l : Launch} {e : Env} {s : State} {m : MethodId} {below : List Frame} {meth : Method} {c : Code} {b : Nat} (hx : p.tables.exec = Jvm.exec) (hb : c.code = code) (hr : meth.sig.returnType = ret) (hlocks : meth.locks = false) {pc : Nat} {H : Heap} {ls : Array Slot} (hdg : decode code pc = .ok (.ireturn, 1)) : W p l e room_1 s m #[Value.ref b] below meth c H [] 600002 7302232 (lw_Z below #[Value.ref b] s) (F0 m pc ls [.int 1]) := by
  intro T hT X
  obtain ⟨fs, hret, hrun, hended, hW, hframe⟩ := X.leave (v := some (.int 1)) (hlocks := hlocks) (fun h => by rw [hr] at h; cases h)
  have hmeth' : T.vm.method? m = some meth := X.method'
  refine ⟨T.setFrames fs, ?_, .returned (some (.int 1)), hrun, hended, rfl, ⟨_, rfl⟩, hW, hframe⟩
  jvm_step X.here [X.here.top, hx, hb, hdg, hmeth', hr, ret, narrow_b1]
  (try refine ⟨rfl, ?_⟩); (try refine ⟨rfl, ?_⟩)
  first | (intro acts; rw [hret _ acts rfl rfl rfl]) | rw [hret _ _ rfl rfl rfl]
  exact Steps.refl _
/-- what holds at the law's entry: the machine, the code, the tables' words (any of lw_tbl by 'hts w (by decide +kernel)'), the script of L ints xs at the cell b, what the Statement gives of the start (any of its parts by flat_of_before) -/
def lw_At (p : Program) (s : State) (m : MethodId) (meth : Method) (c : Code) (b L : Nat) (xs : Nat → Int32) : Prop :=
  p.tables.exec = Jvm.exec ∧ c.code = code ∧ meth.sig.returnType = ret ∧ c.maxLocals = 7 ∧ s.vm.findClass R_law = some m.cls ∧ (∀ w ∈ lw_tbl, w.before #[Value.ref b] s = true) ∧ va_X b L xs s s.heap ∧ b < s.heap.size ∧ meth.locks = false ∧ (Jvm.Cond.and given_1 narrow_1).before #[Value.ref b] s = true

theorem lrule_in : GoodIn wAll (va_wsS RL 68 yL_rule (Cond.codeWith yL_rule cL_rule 5 (some .int) [(0, 10, 13, 13)] :: wAll)) := fun w hw => by
  rcases List.mem_append.mp hw with h | h
  · have : w ∈ wAll := (List.forall_mem_cons.mpr ⟨w_1352, List.forall_mem_cons.mpr ⟨w_1353, List.forall_mem_cons.mpr ⟨w_95, fun _ h => absurd h List.not_mem_nil⟩⟩⟩ : ∀ w ∈ ([.methodLink RL 68 yL_rule, .static yL_rule, .initialized yL_rule.cls] : List Cond), w ∈ wAll) w h
    exact ⟨this, wAll_good _ this⟩
  · rcases List.mem_cons.mp h with rfl | q
    · exact ⟨w_1354, wAll_good _ w_1354⟩
    · exact ⟨q, wAll_good _ q⟩
set_option maxRecDepth 100000 in
set_option maxHeartbeats 4000000 in
theorem law_end {p : Program} {l : Launch} {e : Env} {s : State} {m : MethodId} {below : List Frame} {meth : Method} {c : Code} {b : Nat} {xs : Nat → Int32} (C0 : lw_At p s m meth c b 8 xs) {D : va_G} {G : Nat → Nat} {b0 : Nat} (hb0 : s.heap.size = b0) (hE0 : hE D G b0 s s.heap) {f : hM} {H : Heap} {locs : List Loc} {ls : Array Slot} {cells slots : Nat} (h : hw D b0 s.heap f H locs) (hl : lv_has ls 7 [(4, .int 0), (0, .ref b)]) (hc : cells ≤ 600002) (hs : slots ≤ 7302232) : W p l e room_1 s m #[Value.ref b] below meth c H locs cells slots (lw_Z below #[Value.ref b] s) (F0 m 2593 ls []) := by
  obtain ⟨hx, hb, hr, hml, hown, hts0, hXs, hbl, hlk, hgv⟩ := id C0
  have hts : ∀ w ∈ wAll, w.before #[Value.ref b] s = true := fun w hw => hts0 w (wAll_tbl w hw)
  have C : hC p s m #[Value.ref b] meth c cL_law 7 RL D G b0 := ⟨hx, hb, hml, hown, hts, hE0, hlk⟩
  have hbA : ¬ hA b0 b := by rw [← hb0]; exact Nat.not_le.mpr hbl
  refine lv_iinc (v := 8) (lv' := [(4, .int 8), (0, .ref b)]) hx hb dL_law_2593 hl (k := 0) rfl (by decide) (by decide) rfl (fun ls hl => ?_)
  refine lv_goto (tgt := 23) hx hb dL_law_2596 (by decide) ?_
  refine lv_iload hx hb dL_law_23 (lv_at hl 0 rfl) ?_
  refine lv_aload_n hx hb dL_law_25 rfl (lv_at hl 1 rfl) ?_
  refine va_slen hx hb hXs hbl hbA h.2.2.1 dL_law_26 ?_
  refine lv_bipush (v := 8) hx hb dL_law_27 (by decide) ?_
  refine lv_isub hx hb dL_law_29 ?_
  refine lv_icmp_gt (tgt := 2599) hx hb dL_law_30 (by decide) (fun c_ => ?_) (fun c_ => ?_)
  · refine lv_iconst (v := 1) hx hb dL_law_2599 (by decide) ?_
    refine va_forget (fun q hq => by have := h.2.2.1.2.2 q hq; rw [hb0]; exact this) ?_
    refine W.widen hc hs ?_
    exact lw_ret hx hb hr hlk dL_law_2600
  · exact absurd (by decide) c_

set_option maxRecDepth 100000 in
set_option maxHeartbeats 4000000 in
theorem law_0 {p : Program} {l : Launch} {e : Env} {s : State} {m : MethodId} {below : List Frame} {meth : Method} {c : Code} (hst : l.stackTraces = false) {b : Nat} {xs : Nat → Int32} (C0 : lw_At p s m meth c b 8 xs) {D : va_G} {G : Nat → Nat} {b0 : Nat} (hb0 : s.heap.size = b0) (hE0 : hE D G b0 s s.heap) {f : hM} {X M : Nat → Nat} {o : Nat} (hX : xw G f X) (hM : mw G f M) (hMX : ∀ i, i ∈ XI → M 0 ≠ X i ∧ M 1 ≠ X i ∧ M 2 ≠ X i ∧ M 3 ≠ X i ∧ M 4 ≠ X i ∧ M 6 ≠ X i) {H : Heap} {locs : List Loc} {ls : Array Slot} (h : hw D b0 s.heap f H locs) (hl : lv_has ls 7 [(4, .int 0), (3, .ref o), (2, .ref (M 0)), (1, .ref (X 0)), (0, .ref b)]) : W p l e room_1 s m #[Value.ref b] below meth c H locs 125 106894 (lw_Z below #[Value.ref b] s) (F0 m 260 ls []) := by
  obtain ⟨hx, hb, hr, hml, hown, hts0, hXs, hbl, hlk, hgv⟩ := id C0
  have hts : ∀ w ∈ wAll, w.before #[Value.ref b] s = true := fun w hw => hts0 w (wAll_tbl w hw)
  have C : hC p s m #[Value.ref b] meth c cL_law 7 RL D G b0 := ⟨hx, hb, hml, hown, hts, hE0, hlk⟩
  have hbA : ¬ hA b0 b := by rw [← hb0]; exact Nat.not_le.mpr hbl
  obtain ⟨kx0, kx1, kx2, kx3, kx4, kx5, kx6, kx7, kx8, kx9⟩ := (id hX)
  obtain ⟨km0, km1, km2, km3, km4, km5⟩ := (id hM)
  refine lv_aload_n hx hb dL_law_260 rfl (lv_at hl 3 rfl) ?_
  refine lv_aload_n hx hb dL_law_261 rfl (lv_at hl 4 rfl) ?_
  refine lv_iload hx hb dL_law_262 (lv_at hl 0 rfl) ?_
  refine lv_iconst (v := 1) hx hb dL_law_264 (by decide) ?_
  refine lv_iadd hx hb dL_law_265 ?_
  refine lv_topi (fun x_ e_ => ?_)
  obtain rfl : 1 = x_ := by rw [e_]; decide
  refine va_sld hx hb hXs hbl hbA h.2.2.1 (by unfold vp_in; decide) dL_law_266 ?_
  refine lv_aload_n hx hb dL_law_267 rfl (lv_at hl 4 rfl) ?_
  refine lv_iload hx hb dL_law_268 (lv_at hl 0 rfl) ?_
  refine lv_iconst (v := 2) hx hb dL_law_270 (by decide) ?_
  refine lv_iadd hx hb dL_law_271 ?_
  refine lv_topi (fun x_ e_ => ?_)
  obtain rfl : 2 = x_ := by rw [e_]; decide
  refine va_sld hx hb hXs hbl hbA h.2.2.1 (by unfold vp_in; decide) dL_law_272 ?_
  refine lv_aload_n hx hb dL_law_273 rfl (lv_at hl 4 rfl) ?_
  refine lv_iload hx hb dL_law_274 (lv_at hl 0 rfl) ?_
  refine lv_iconst (v := 3) hx hb dL_law_276 (by decide) ?_
  refine lv_iadd hx hb dL_law_277 ?_
  refine lv_topi (fun x_ e_ => ?_)
  obtain rfl : 3 = x_ := by rw [e_]; decide
  refine va_sld hx hb hXs hbl hbA h.2.2.1 (by unfold vp_in; decide) dL_law_278 ?_
  refine lv_aload_n hx hb dL_law_279 rfl (lv_at hl 4 rfl) ?_
  refine lv_iload hx hb dL_law_280 (lv_at hl 0 rfl) ?_
  refine lv_iconst (v := 4) hx hb dL_law_282 (by decide) ?_
  refine lv_iadd hx hb dL_law_283 ?_
  refine lv_topi (fun x_ e_ => ?_)
  obtain rfl : 4 = x_ := by rw [e_]; decide
  refine va_sld hx hb hXs hbl hbA h.2.2.1 (by unfold vp_in; decide) dL_law_284 ?_
  refine lv_aload_n hx hb dL_law_285 rfl (lv_at hl 4 rfl) ?_
  refine lv_iload hx hb dL_law_286 (lv_at hl 0 rfl) ?_
  refine lv_iconst (v := 5) hx hb dL_law_288 (by decide) ?_
  refine lv_iadd hx hb dL_law_289 ?_
  refine lv_topi (fun x_ e_ => ?_)
  obtain rfl : 5 = x_ := by rw [e_]; decide
  refine va_sld hx hb hXs hbl hbA h.2.2.1 (by unfold vp_in; decide) dL_law_290 ?_
  refine k_i (r_V C h hl (As := [.int (xs (Int32.toNatClampNeg 1)), .int (xs (Int32.toNatClampNeg 2)), .int (xs (Int32.toNatClampNeg 3)), .int (xs (Int32.toNatClampNeg 4)), .int (xs (Int32.toNatClampNeg 5))]) (rest := []) (c_X10_feed l D G b0 f X hX (xs (Int32.toNatClampNeg 1)) (xs (Int32.toNatClampNeg 2)) (xs (Int32.toNatClampNeg 3)) (xs (Int32.toNatClampNeg 4)) (xs (Int32.toNatClampNeg 5))) kx0 (Cn := RX10) (T := TX10) (N := 10) rfl rfl mk_X10_feed w_410 w_411 w_412 w_413 ⟨Nat.le_of_ble_eq_true rfl, Nat.le_of_ble_eq_true rfl⟩ rfl (Nat.le_of_ble_eq_true rfl) ⟨Nat.le_of_ble_eq_true rfl, Nat.le_of_ble_eq_true rfl⟩ rfl dL_law_291) h (fun r_3604 f_3605 H locs p_3606 h => ?_)
  obtain ⟨rfl, p_3606⟩ := p_3606
  have k_3607 : f_3605 (M 0) = some (.inr (12, [.int 0, .ref (M 1), .int 0, .int 0, .int 0, .ref (M 2), .ref (M 3), .ref (M 4), .ref (M 5), .ref (M 6), .int 0, .int 0, .ref (M 7), .ref (M 8), .int 0, .ref (M 9), .ref (M 10), .ref (M 11), .long 0, .ref (M 12), .ref (M 13), .ref (M 14), .ref (M 15), .ref (M 16), .ref (M 17), .ref (M 18), .ref (M 19), .int 0, .int 0, .ref (M 20), .ref (M 21), .int 0])) := (p_3606 _ (fun i hi => (hMX i hi).1)).trans km0
  have k_3608 : f_3605 (M 1) = some (.inl (G 0, 200, .inl (fun _ => 0))) := (p_3606 _ (fun i hi => (hMX i hi).2.1)).trans km1
  have k_3609 : f_3605 (M 2) = some (.inl (G 1, 10, .inl (fun _ => 0))) := (p_3606 _ (fun i hi => (hMX i hi).2.2.1)).trans km2
  have k_3610 : f_3605 (M 3) = some (.inl (G 1, 81, .inl (fun _ => 0))) := (p_3606 _ (fun i hi => (hMX i hi).2.2.2.1)).trans km3
  have k_3611 : f_3605 (M 4) = some (.inl (G 1, 81, .inl (fun _ => 0))) := (p_3606 _ (fun i hi => (hMX i hi).2.2.2.2.1)).trans km4
  have k_3612 : f_3605 (M 6) = some (.inl (G 1, 4, .inl (fun _ => 0))) := (p_3606 _ (fun i hi => (hMX i hi).2.2.2.2.2)).trans km5
  refine lv_aload_n hx hb dL_law_294 rfl (lv_at hl 2 rfl) ?_
  refine lv_aload_n hx hb dL_law_295 rfl (lv_at hl 4 rfl) ?_
  refine lv_iload hx hb dL_law_296 (lv_at hl 0 rfl) ?_
  refine lv_iconst (v := 1) hx hb dL_law_298 (by decide) ?_
  refine lv_iadd hx hb dL_law_299 ?_
  refine lv_topi (fun x_ e_ => ?_)
  obtain rfl : 1 = x_ := by rw [e_]; decide
  refine va_sld hx hb hXs hbl hbA h.2.2.1 (by unfold vp_in; decide) dL_law_300 ?_
  refine lv_aload_n hx hb dL_law_301 rfl (lv_at hl 4 rfl) ?_
  refine lv_iload hx hb dL_law_302 (lv_at hl 0 rfl) ?_
  refine lv_iconst (v := 2) hx hb dL_law_304 (by decide) ?_
  refine lv_iadd hx hb dL_law_305 ?_
  refine lv_topi (fun x_ e_ => ?_)
  obtain rfl : 2 = x_ := by rw [e_]; decide
  refine va_sld hx hb hXs hbl hbA h.2.2.1 (by unfold vp_in; decide) dL_law_306 ?_
  refine lv_aload_n hx hb dL_law_307 rfl (lv_at hl 4 rfl) ?_
  refine lv_iload hx hb dL_law_308 (lv_at hl 0 rfl) ?_
  refine lv_iconst (v := 3) hx hb dL_law_310 (by decide) ?_
  refine lv_iadd hx hb dL_law_311 ?_
  refine lv_topi (fun x_ e_ => ?_)
  obtain rfl : 3 = x_ := by rw [e_]; decide
  refine va_sld hx hb hXs hbl hbA h.2.2.1 (by unfold vp_in; decide) dL_law_312 ?_
  refine lv_aload_n hx hb dL_law_313 rfl (lv_at hl 4 rfl) ?_
  refine lv_iload hx hb dL_law_314 (lv_at hl 0 rfl) ?_
  refine lv_iconst (v := 4) hx hb dL_law_316 (by decide) ?_
  refine lv_iadd hx hb dL_law_317 ?_
  refine lv_topi (fun x_ e_ => ?_)
  obtain rfl : 4 = x_ := by rw [e_]; decide
  refine va_sld hx hb hXs hbl hbA h.2.2.1 (by unfold vp_in; decide) dL_law_318 ?_
  refine lv_aload_n hx hb dL_law_319 rfl (lv_at hl 4 rfl) ?_
  refine lv_iload hx hb dL_law_320 (lv_at hl 0 rfl) ?_
  refine lv_iconst (v := 5) hx hb dL_law_322 (by decide) ?_
  refine lv_iadd hx hb dL_law_323 ?_
  refine lv_topi (fun x_ e_ => ?_)
  obtain rfl : 5 = x_ := by rw [e_]; decide
  refine va_sld hx hb hXs hbl hbA h.2.2.1 (by unfold vp_in; decide) dL_law_324 ?_
  refine k_i (r_V C h hl (As := [.int (xs (Int32.toNatClampNeg 1)), .int (xs (Int32.toNatClampNeg 2)), .int (xs (Int32.toNatClampNeg 3)), .int (xs (Int32.toNatClampNeg 4)), .int (xs (Int32.toNatClampNeg 5))]) (rest := [.int (Vfeed (xs (Int32.toNatClampNeg 1)) (xs (Int32.toNatClampNeg 2)) (xs (Int32.toNatClampNeg 3)) (xs (Int32.toNatClampNeg 4)) (xs (Int32.toNatClampNeg 5)))]) (c_X11_feed l D G b0 f_3605 M ⟨k_3607, k_3608, k_3609, k_3610, k_3611, k_3612⟩ (xs (Int32.toNatClampNeg 1)) (xs (Int32.toNatClampNeg 2)) (xs (Int32.toNatClampNeg 3)) (xs (Int32.toNatClampNeg 4)) (xs (Int32.toNatClampNeg 5))) k_3607 (Cn := RX11) (T := TX11) (N := 32) rfl rfl mk_X11_feed w_1534 w_1535 w_1536 w_1537 ⟨Nat.le_of_ble_eq_true rfl, Nat.le_of_ble_eq_true rfl⟩ rfl (Nat.le_of_ble_eq_true rfl) ⟨Nat.le_of_ble_eq_true rfl, Nat.le_of_ble_eq_true rfl⟩ rfl dL_law_325) h (fun r_3613 f_3614 H locs p_3615 h => ?_)
  subst p_3615
  refine lv_icmp_eq (tgt := 2593) hx hb dL_law_328 (by decide) (fun c_3616 => ?_) (fun c_3616 => ?_)
  · exact law_end C0 hb0 hE0 h (lv_sub hl [0, 4] rfl) (Nat.le_of_ble_eq_true rfl) (Nat.le_of_ble_eq_true rfl)
  · exact absurd rfl c_3616
set_option maxRecDepth 100000 in
set_option maxHeartbeats 4000000 in
theorem law_1 {p : Program} {l : Launch} {e : Env} {s : State} {m : MethodId} {below : List Frame} {meth : Method} {c : Code} (hst : l.stackTraces = false) {b : Nat} {xs : Nat → Int32} (C0 : lw_At p s m meth c b 8 xs) {D : va_G} {G : Nat → Nat} {b0 : Nat} (hb0 : s.heap.size = b0) (hE0 : hE D G b0 s s.heap) {f : hM} {X M : Nat → Nat} {o : Nat} (hX : xw G f X) (hM : mw G f M) (hMX : ∀ i, i ∈ XI → M 0 ≠ X i ∧ M 1 ≠ X i ∧ M 2 ≠ X i ∧ M 3 ≠ X i ∧ M 4 ≠ X i ∧ M 6 ≠ X i) {H : Heap} {locs : List Loc} {ls : Array Slot} (h : hw D b0 s.heap f H locs) (hl : lv_has ls 7 [(4, .int 0), (3, .ref o), (2, .ref (M 0)), (1, .ref (X 0)), (0, .ref b)]) : W p l e room_1 s m #[Value.ref b] below meth c H locs 125 106894 (lw_Z below #[Value.ref b] s) (F0 m 333 ls []) := by
  obtain ⟨hx, hb, hr, hml, hown, hts0, hXs, hbl, hlk, hgv⟩ := id C0
  have hts : ∀ w ∈ wAll, w.before #[Value.ref b] s = true := fun w hw => hts0 w (wAll_tbl w hw)
  have C : hC p s m #[Value.ref b] meth c cL_law 7 RL D G b0 := ⟨hx, hb, hml, hown, hts, hE0, hlk⟩
  have hbA : ¬ hA b0 b := by rw [← hb0]; exact Nat.not_le.mpr hbl
  obtain ⟨kx0, kx1, kx2, kx3, kx4, kx5, kx6, kx7, kx8, kx9⟩ := (id hX)
  obtain ⟨km0, km1, km2, km3, km4, km5⟩ := (id hM)
  refine lv_aload_n hx hb dL_law_333 rfl (lv_at hl 3 rfl) ?_
  refine lv_aload_n hx hb dL_law_334 rfl (lv_at hl 4 rfl) ?_
  refine lv_iload hx hb dL_law_335 (lv_at hl 0 rfl) ?_
  refine lv_iconst (v := 1) hx hb dL_law_337 (by decide) ?_
  refine lv_iadd hx hb dL_law_338 ?_
  refine lv_topi (fun x_ e_ => ?_)
  obtain rfl : 1 = x_ := by rw [e_]; decide
  refine va_sld hx hb hXs hbl hbA h.2.2.1 (by unfold vp_in; decide) dL_law_339 ?_
  refine k_i (r_V C h hl (As := [.int (xs (Int32.toNatClampNeg 1))]) (rest := []) (c_X10_end l D G b0 f X hX (xs (Int32.toNatClampNeg 1))) kx0 (Cn := RX10) (T := TX10) (N := 10) rfl rfl mk_X10_end w_421 w_422 w_423 w_424 ⟨Nat.le_of_ble_eq_true rfl, Nat.le_of_ble_eq_true rfl⟩ rfl (Nat.le_of_ble_eq_true rfl) ⟨Nat.le_of_ble_eq_true rfl, Nat.le_of_ble_eq_true rfl⟩ rfl dL_law_340) h (fun r_3617 f_3618 H locs p_3619 h => ?_)
  obtain ⟨rfl, p_3619⟩ := p_3619
  have k_3620 : f_3618 (M 0) = some (.inr (12, [.int 0, .ref (M 1), .int 0, .int 0, .int 0, .ref (M 2), .ref (M 3), .ref (M 4), .ref (M 5), .ref (M 6), .int 0, .int 0, .ref (M 7), .ref (M 8), .int 0, .ref (M 9), .ref (M 10), .ref (M 11), .long 0, .ref (M 12), .ref (M 13), .ref (M 14), .ref (M 15), .ref (M 16), .ref (M 17), .ref (M 18), .ref (M 19), .int 0, .int 0, .ref (M 20), .ref (M 21), .int 0])) := (p_3619 _ (fun i hi => (hMX i hi).1)).trans km0
  have k_3621 : f_3618 (M 1) = some (.inl (G 0, 200, .inl (fun _ => 0))) := (p_3619 _ (fun i hi => (hMX i hi).2.1)).trans km1
  have k_3622 : f_3618 (M 2) = some (.inl (G 1, 10, .inl (fun _ => 0))) := (p_3619 _ (fun i hi => (hMX i hi).2.2.1)).trans km2
  have k_3623 : f_3618 (M 3) = some (.inl (G 1, 81, .inl (fun _ => 0))) := (p_3619 _ (fun i hi => (hMX i hi).2.2.2.1)).trans km3
  have k_3624 : f_3618 (M 4) = some (.inl (G 1, 81, .inl (fun _ => 0))) := (p_3619 _ (fun i hi => (hMX i hi).2.2.2.2.1)).trans km4
  have k_3625 : f_3618 (M 6) = some (.inl (G 1, 4, .inl (fun _ => 0))) := (p_3619 _ (fun i hi => (hMX i hi).2.2.2.2.2)).trans km5
  refine lv_aload_n hx hb dL_law_343 rfl (lv_at hl 2 rfl) ?_
  refine lv_aload_n hx hb dL_law_344 rfl (lv_at hl 4 rfl) ?_
  refine lv_iload hx hb dL_law_345 (lv_at hl 0 rfl) ?_
  refine lv_iconst (v := 1) hx hb dL_law_347 (by decide) ?_
  refine lv_iadd hx hb dL_law_348 ?_
  refine lv_topi (fun x_ e_ => ?_)
  obtain rfl : 1 = x_ := by rw [e_]; decide
  refine va_sld hx hb hXs hbl hbA h.2.2.1 (by unfold vp_in; decide) dL_law_349 ?_
  refine k_i (r_V C h hl (As := [.int (xs (Int32.toNatClampNeg 1))]) (rest := [.int (wi (xs (Int32.toNatClampNeg 1)) 0 0)]) (c_X11_end l D G b0 f_3618 M ⟨k_3620, k_3621, k_3622, k_3623, k_3624, k_3625⟩ (xs (Int32.toNatClampNeg 1))) k_3620 (Cn := RX11) (T := TX11) (N := 32) rfl rfl mk_X11_end w_1545 w_1546 w_1547 w_1548 ⟨Nat.le_of_ble_eq_true rfl, Nat.le_of_ble_eq_true rfl⟩ rfl (Nat.le_of_ble_eq_true rfl) ⟨Nat.le_of_ble_eq_true rfl, Nat.le_of_ble_eq_true rfl⟩ rfl dL_law_350) h (fun r_3626 f_3627 H locs p_3628 h => ?_)
  subst p_3628
  refine lv_icmp_eq (tgt := 2593) hx hb dL_law_353 (by decide) (fun c_3629 => ?_) (fun c_3629 => ?_)
  · exact law_end C0 hb0 hE0 h (lv_sub hl [0, 4] rfl) (Nat.le_of_ble_eq_true rfl) (Nat.le_of_ble_eq_true rfl)
  · exact absurd rfl c_3629
set_option maxRecDepth 100000 in
set_option maxHeartbeats 4000000 in
theorem law_2 {p : Program} {l : Launch} {e : Env} {s : State} {m : MethodId} {below : List Frame} {meth : Method} {c : Code} (hst : l.stackTraces = false) {b : Nat} {xs : Nat → Int32} (C0 : lw_At p s m meth c b 8 xs) {D : va_G} {G : Nat → Nat} {b0 : Nat} (hb0 : s.heap.size = b0) (hE0 : hE D G b0 s s.heap) {f : hM} {X M : Nat → Nat} {o : Nat} (hX : xw G f X) (hM : mw G f M) (hMX : ∀ i, i ∈ XI → M 0 ≠ X i ∧ M 1 ≠ X i ∧ M 2 ≠ X i ∧ M 3 ≠ X i ∧ M 4 ≠ X i ∧ M 6 ≠ X i) {H : Heap} {locs : List Loc} {ls : Array Slot} (h : hw D b0 s.heap f H locs) (hl : lv_has ls 7 [(4, .int 0), (3, .ref o), (2, .ref (M 0)), (1, .ref (X 0)), (0, .ref b)]) : W p l e room_1 s m #[Value.ref b] below meth c H locs 125 106894 (lw_Z below #[Value.ref b] s) (F0 m 358 ls []) := by
  obtain ⟨hx, hb, hr, hml, hown, hts0, hXs, hbl, hlk, hgv⟩ := id C0
  have hts : ∀ w ∈ wAll, w.before #[Value.ref b] s = true := fun w hw => hts0 w (wAll_tbl w hw)
  have C : hC p s m #[Value.ref b] meth c cL_law 7 RL D G b0 := ⟨hx, hb, hml, hown, hts, hE0, hlk⟩
  have hbA : ¬ hA b0 b := by rw [← hb0]; exact Nat.not_le.mpr hbl
  obtain ⟨kx0, kx1, kx2, kx3, kx4, kx5, kx6, kx7, kx8, kx9⟩ := (id hX)
  obtain ⟨km0, km1, km2, km3, km4, km5⟩ := (id hM)
  refine lv_aload_n hx hb dL_law_358 rfl (lv_at hl 3 rfl) ?_
  refine k_i (r_V C h hl (As := []) (rest := []) (c_X10_fault l D G b0 f X hX ) kx0 (Cn := RX10) (T := TX10) (N := 10) rfl rfl mk_X10_fault w_428 w_429 w_430 w_431 ⟨Nat.le_of_ble_eq_true rfl, Nat.le_of_ble_eq_true rfl⟩ rfl (Nat.le_of_ble_eq_true rfl) ⟨Nat.le_of_ble_eq_true rfl, Nat.le_of_ble_eq_true rfl⟩ rfl dL_law_359) h (fun r_3630 f_3631 H locs p_3632 h => ?_)
  obtain ⟨rfl, p_3632⟩ := p_3632
  have k_3633 : f_3631 (M 0) = some (.inr (12, [.int 0, .ref (M 1), .int 0, .int 0, .int 0, .ref (M 2), .ref (M 3), .ref (M 4), .ref (M 5), .ref (M 6), .int 0, .int 0, .ref (M 7), .ref (M 8), .int 0, .ref (M 9), .ref (M 10), .ref (M 11), .long 0, .ref (M 12), .ref (M 13), .ref (M 14), .ref (M 15), .ref (M 16), .ref (M 17), .ref (M 18), .ref (M 19), .int 0, .int 0, .ref (M 20), .ref (M 21), .int 0])) := (p_3632 _ (fun i hi => (hMX i hi).1)).trans km0
  have k_3634 : f_3631 (M 1) = some (.inl (G 0, 200, .inl (fun _ => 0))) := (p_3632 _ (fun i hi => (hMX i hi).2.1)).trans km1
  have k_3635 : f_3631 (M 2) = some (.inl (G 1, 10, .inl (fun _ => 0))) := (p_3632 _ (fun i hi => (hMX i hi).2.2.1)).trans km2
  have k_3636 : f_3631 (M 3) = some (.inl (G 1, 81, .inl (fun _ => 0))) := (p_3632 _ (fun i hi => (hMX i hi).2.2.2.1)).trans km3
  have k_3637 : f_3631 (M 4) = some (.inl (G 1, 81, .inl (fun _ => 0))) := (p_3632 _ (fun i hi => (hMX i hi).2.2.2.2.1)).trans km4
  have k_3638 : f_3631 (M 6) = some (.inl (G 1, 4, .inl (fun _ => 0))) := (p_3632 _ (fun i hi => (hMX i hi).2.2.2.2.2)).trans km5
  refine lv_aload_n hx hb dL_law_362 rfl (lv_at hl 2 rfl) ?_
  refine k_i (r_V C h hl (As := []) (rest := [.int 0]) (c_X11_fault l D G b0 f_3631 M ⟨k_3633, k_3634, k_3635, k_3636, k_3637, k_3638⟩ ) k_3633 (Cn := RX11) (T := TX11) (N := 32) rfl rfl mk_X11_fault w_1549 w_1550 w_1551 w_1552 ⟨Nat.le_of_ble_eq_true rfl, Nat.le_of_ble_eq_true rfl⟩ rfl (Nat.le_of_ble_eq_true rfl) ⟨Nat.le_of_ble_eq_true rfl, Nat.le_of_ble_eq_true rfl⟩ rfl dL_law_363) h (fun r_3639 f_3640 H locs p_3641 h => ?_)
  subst p_3641
  refine lv_icmp_eq (tgt := 2593) hx hb dL_law_366 (by decide) (fun c_3642 => ?_) (fun c_3642 => ?_)
  · exact law_end C0 hb0 hE0 h (lv_sub hl [0, 4] rfl) (Nat.le_of_ble_eq_true rfl) (Nat.le_of_ble_eq_true rfl)
  · exact absurd c_3642 (by decide)
set_option maxRecDepth 100000 in
set_option maxHeartbeats 4000000 in
theorem law_3 {p : Program} {l : Launch} {e : Env} {s : State} {m : MethodId} {below : List Frame} {meth : Method} {c : Code} (hst : l.stackTraces = false) {b : Nat} {xs : Nat → Int32} (C0 : lw_At p s m meth c b 8 xs) {D : va_G} {G : Nat → Nat} {b0 : Nat} (hb0 : s.heap.size = b0) (hE0 : hE D G b0 s s.heap) {f : hM} {X M : Nat → Nat} {o : Nat} (hX : xw G f X) (hM : mw G f M) (hMX : ∀ i, i ∈ XI → M 0 ≠ X i ∧ M 1 ≠ X i ∧ M 2 ≠ X i ∧ M 3 ≠ X i ∧ M 4 ≠ X i ∧ M 6 ≠ X i) {H : Heap} {locs : List Loc} {ls : Array Slot} (h : hw D b0 s.heap f H locs) (hl : lv_has ls 7 [(4, .int 0), (3, .ref o), (2, .ref (M 0)), (1, .ref (X 0)), (0, .ref b)]) : W p l e room_1 s m #[Value.ref b] below meth c H locs 125 106894 (lw_Z below #[Value.ref b] s) (F0 m 371 ls []) := by
  obtain ⟨hx, hb, hr, hml, hown, hts0, hXs, hbl, hlk, hgv⟩ := id C0
  have hts : ∀ w ∈ wAll, w.before #[Value.ref b] s = true := fun w hw => hts0 w (wAll_tbl w hw)
  have C : hC p s m #[Value.ref b] meth c cL_law 7 RL D G b0 := ⟨hx, hb, hml, hown, hts, hE0, hlk⟩
  have hbA : ¬ hA b0 b := by rw [← hb0]; exact Nat.not_le.mpr hbl
  obtain ⟨kx0, kx1, kx2, kx3, kx4, kx5, kx6, kx7, kx8, kx9⟩ := (id hX)
  obtain ⟨km0, km1, km2, km3, km4, km5⟩ := (id hM)
  refine lv_aload_n hx hb dL_law_371 rfl (lv_at hl 3 rfl) ?_
  refine k_i (r_V C h hl (As := []) (rest := []) (c_X10_tell l D G b0 f X hX ) kx0 (Cn := RX10) (T := TX10) (N := 10) rfl rfl mk_X10_tell w_515 w_516 w_517 w_518 ⟨Nat.le_of_ble_eq_true rfl, Nat.le_of_ble_eq_true rfl⟩ rfl (Nat.le_of_ble_eq_true rfl) ⟨Nat.le_of_ble_eq_true rfl, Nat.le_of_ble_eq_true rfl⟩ rfl dL_law_372) h (fun r_3643 f_3644 H locs p_3645 h => ?_)
  obtain ⟨rfl, p_3645⟩ := p_3645
  have k_3646 : f_3644 (M 0) = some (.inr (12, [.int 0, .ref (M 1), .int 0, .int 0, .int 0, .ref (M 2), .ref (M 3), .ref (M 4), .ref (M 5), .ref (M 6), .int 0, .int 0, .ref (M 7), .ref (M 8), .int 0, .ref (M 9), .ref (M 10), .ref (M 11), .long 0, .ref (M 12), .ref (M 13), .ref (M 14), .ref (M 15), .ref (M 16), .ref (M 17), .ref (M 18), .ref (M 19), .int 0, .int 0, .ref (M 20), .ref (M 21), .int 0])) := (p_3645 _ (fun i hi => (hMX i hi).1)).trans km0
  have k_3647 : f_3644 (M 1) = some (.inl (G 0, 200, .inl (fun _ => 0))) := (p_3645 _ (fun i hi => (hMX i hi).2.1)).trans km1
  have k_3648 : f_3644 (M 2) = some (.inl (G 1, 10, .inl (fun _ => 0))) := (p_3645 _ (fun i hi => (hMX i hi).2.2.1)).trans km2
  have k_3649 : f_3644 (M 3) = some (.inl (G 1, 81, .inl (fun _ => 0))) := (p_3645 _ (fun i hi => (hMX i hi).2.2.2.1)).trans km3
  have k_3650 : f_3644 (M 4) = some (.inl (G 1, 81, .inl (fun _ => 0))) := (p_3645 _ (fun i hi => (hMX i hi).2.2.2.2.1)).trans km4
  have k_3651 : f_3644 (M 6) = some (.inl (G 1, 4, .inl (fun _ => 0))) := (p_3645 _ (fun i hi => (hMX i hi).2.2.2.2.2)).trans km5
  refine lv_aload_n hx hb dL_law_375 rfl (lv_at hl 2 rfl) ?_
  refine k_i (r_V C h hl (As := []) (rest := [.int (-1)]) (c_X11_tell l D G b0 f_3644 M ⟨k_3646, k_3647, k_3648, k_3649, k_3650, k_3651⟩ ) k_3646 (Cn := RX11) (T := TX11) (N := 32) rfl rfl mk_X11_tell w_1604 w_1605 w_1606 w_1607 ⟨Nat.le_of_ble_eq_true rfl, Nat.le_of_ble_eq_true rfl⟩ rfl (Nat.le_of_ble_eq_true rfl) ⟨Nat.le_of_ble_eq_true rfl, Nat.le_of_ble_eq_true rfl⟩ rfl dL_law_376) h (fun r_3652 f_3653 H locs p_3654 h => ?_)
  subst p_3654
  refine lv_icmp_eq (tgt := 2593) hx hb dL_law_379 (by decide) (fun c_3655 => ?_) (fun c_3655 => ?_)
  · exact law_end C0 hb0 hE0 h (lv_sub hl [0, 4] rfl) (Nat.le_of_ble_eq_true rfl) (Nat.le_of_ble_eq_true rfl)
  · exact absurd c_3655 (by decide)
set_option maxRecDepth 100000 in
set_option maxHeartbeats 4000000 in
theorem law_4 {p : Program} {l : Launch} {e : Env} {s : State} {m : MethodId} {below : List Frame} {meth : Method} {c : Code} (hst : l.stackTraces = false) {b : Nat} {xs : Nat → Int32} (C0 : lw_At p s m meth c b 8 xs) {D : va_G} {G : Nat → Nat} {b0 : Nat} (hb0 : s.heap.size = b0) (hE0 : hE D G b0 s s.heap) {f : hM} {X M : Nat → Nat} {o : Nat} (hX : xw G f X) (hM : mw G f M) (hMX : ∀ i, i ∈ XI → M 0 ≠ X i ∧ M 1 ≠ X i ∧ M 2 ≠ X i ∧ M 3 ≠ X i ∧ M 4 ≠ X i ∧ M 6 ≠ X i) {H : Heap} {locs : List Loc} {ls : Array Slot} (h : hw D b0 s.heap f H locs) (hl : lv_has ls 7 [(4, .int 0), (3, .ref o), (2, .ref (M 0)), (1, .ref (X 0)), (0, .ref b)]) : W p l e room_1 s m #[Value.ref b] below meth c H locs 125 106894 (lw_Z below #[Value.ref b] s) (F0 m 384 ls []) := by
  obtain ⟨hx, hb, hr, hml, hown, hts0, hXs, hbl, hlk, hgv⟩ := id C0
  have hts : ∀ w ∈ wAll, w.before #[Value.ref b] s = true := fun w hw => hts0 w (wAll_tbl w hw)
  have C : hC p s m #[Value.ref b] meth c cL_law 7 RL D G b0 := ⟨hx, hb, hml, hown, hts, hE0, hlk⟩
  have hbA : ¬ hA b0 b := by rw [← hb0]; exact Nat.not_le.mpr hbl
  obtain ⟨kx0, kx1, kx2, kx3, kx4, kx5, kx6, kx7, kx8, kx9⟩ := (id hX)
  obtain ⟨km0, km1, km2, km3, km4, km5⟩ := (id hM)
  refine lv_aload_n hx hb dL_law_384 rfl (lv_at hl 3 rfl) ?_
  refine lv_aload_n hx hb dL_law_385 rfl (lv_at hl 4 rfl) ?_
  refine lv_iload hx hb dL_law_386 (lv_at hl 0 rfl) ?_
  refine lv_iconst (v := 1) hx hb dL_law_388 (by decide) ?_
  refine lv_iadd hx hb dL_law_389 ?_
  refine lv_topi (fun x_ e_ => ?_)
  obtain rfl : 1 = x_ := by rw [e_]; decide
  refine va_sld hx hb hXs hbl hbA h.2.2.1 (by unfold vp_in; decide) dL_law_390 ?_
  refine k_i (r_V C h hl (As := [.int (xs (Int32.toNatClampNeg 1))]) (rest := []) (c_X10_drop l D G b0 f X hX (xs (Int32.toNatClampNeg 1))) kx0 (Cn := RX10) (T := TX10) (N := 10) rfl rfl mk_X10_drop w_590 w_591 w_592 w_593 ⟨Nat.le_of_ble_eq_true rfl, Nat.le_of_ble_eq_true rfl⟩ rfl (Nat.le_of_ble_eq_true rfl) ⟨Nat.le_of_ble_eq_true rfl, Nat.le_of_ble_eq_true rfl⟩ rfl dL_law_391) h (fun r_3656 f_3657 H locs p_3658 h => ?_)
  obtain ⟨rfl, p_3658⟩ := p_3658
  have k_3659 : f_3657 (M 0) = some (.inr (12, [.int 0, .ref (M 1), .int 0, .int 0, .int 0, .ref (M 2), .ref (M 3), .ref (M 4), .ref (M 5), .ref (M 6), .int 0, .int 0, .ref (M 7), .ref (M 8), .int 0, .ref (M 9), .ref (M 10), .ref (M 11), .long 0, .ref (M 12), .ref (M 13), .ref (M 14), .ref (M 15), .ref (M 16), .ref (M 17), .ref (M 18), .ref (M 19), .int 0, .int 0, .ref (M 20), .ref (M 21), .int 0])) := (p_3658 _ (fun i hi => (hMX i hi).1)).trans km0
  have k_3660 : f_3657 (M 1) = some (.inl (G 0, 200, .inl (fun _ => 0))) := (p_3658 _ (fun i hi => (hMX i hi).2.1)).trans km1
  have k_3661 : f_3657 (M 2) = some (.inl (G 1, 10, .inl (fun _ => 0))) := (p_3658 _ (fun i hi => (hMX i hi).2.2.1)).trans km2
  have k_3662 : f_3657 (M 3) = some (.inl (G 1, 81, .inl (fun _ => 0))) := (p_3658 _ (fun i hi => (hMX i hi).2.2.2.1)).trans km3
  have k_3663 : f_3657 (M 4) = some (.inl (G 1, 81, .inl (fun _ => 0))) := (p_3658 _ (fun i hi => (hMX i hi).2.2.2.2.1)).trans km4
  have k_3664 : f_3657 (M 6) = some (.inl (G 1, 4, .inl (fun _ => 0))) := (p_3658 _ (fun i hi => (hMX i hi).2.2.2.2.2)).trans km5
  refine lv_aload_n hx hb dL_law_394 rfl (lv_at hl 2 rfl) ?_
  refine lv_aload_n hx hb dL_law_395 rfl (lv_at hl 4 rfl) ?_
  refine lv_iload hx hb dL_law_396 (lv_at hl 0 rfl) ?_
  refine lv_iconst (v := 1) hx hb dL_law_398 (by decide) ?_
  refine lv_iadd hx hb dL_law_399 ?_
  refine lv_topi (fun x_ e_ => ?_)
  obtain rfl : 1 = x_ := by rw [e_]; decide
  refine va_sld hx hb hXs hbl hbA h.2.2.1 (by unfold vp_in; decide) dL_law_400 ?_
  refine k_i (r_V C h hl (As := [.int (xs (Int32.toNatClampNeg 1))]) (rest := [.int (-1)]) (c_X11_drop l D G b0 f_3657 M ⟨k_3659, k_3660, k_3661, k_3662, k_3663, k_3664⟩ (xs (Int32.toNatClampNeg 1))) k_3659 (Cn := RX11) (T := TX11) (N := 32) rfl rfl mk_X11_drop w_1620 w_1621 w_1622 w_1623 ⟨Nat.le_of_ble_eq_true rfl, Nat.le_of_ble_eq_true rfl⟩ rfl (Nat.le_of_ble_eq_true rfl) ⟨Nat.le_of_ble_eq_true rfl, Nat.le_of_ble_eq_true rfl⟩ rfl dL_law_401) h (fun r_3665 f_3666 H locs p_3667 h => ?_)
  subst p_3667
  refine lv_icmp_eq (tgt := 2593) hx hb dL_law_404 (by decide) (fun c_3668 => ?_) (fun c_3668 => ?_)
  · exact law_end C0 hb0 hE0 h (lv_sub hl [0, 4] rfl) (Nat.le_of_ble_eq_true rfl) (Nat.le_of_ble_eq_true rfl)
  · exact absurd c_3668 (by decide)
set_option maxRecDepth 100000 in
set_option maxHeartbeats 4000000 in
theorem law_5 {p : Program} {l : Launch} {e : Env} {s : State} {m : MethodId} {below : List Frame} {meth : Method} {c : Code} (hst : l.stackTraces = false) {b : Nat} {xs : Nat → Int32} (C0 : lw_At p s m meth c b 8 xs) {D : va_G} {G : Nat → Nat} {b0 : Nat} (hb0 : s.heap.size = b0) (hE0 : hE D G b0 s s.heap) {f : hM} {X M : Nat → Nat} {o : Nat} (hX : xw G f X) (hM : mw G f M) (hMX : ∀ i, i ∈ XI → M 0 ≠ X i ∧ M 1 ≠ X i ∧ M 2 ≠ X i ∧ M 3 ≠ X i ∧ M 4 ≠ X i ∧ M 6 ≠ X i) {H : Heap} {locs : List Loc} {ls : Array Slot} (h : hw D b0 s.heap f H locs) (hl : lv_has ls 7 [(4, .int 0), (3, .ref o), (2, .ref (M 0)), (1, .ref (X 0)), (0, .ref b)]) : W p l e room_1 s m #[Value.ref b] below meth c H locs 125 106894 (lw_Z below #[Value.ref b] s) (F0 m 409 ls []) := by
  obtain ⟨hx, hb, hr, hml, hown, hts0, hXs, hbl, hlk, hgv⟩ := id C0
  have hts : ∀ w ∈ wAll, w.before #[Value.ref b] s = true := fun w hw => hts0 w (wAll_tbl w hw)
  have C : hC p s m #[Value.ref b] meth c cL_law 7 RL D G b0 := ⟨hx, hb, hml, hown, hts, hE0, hlk⟩
  have hbA : ¬ hA b0 b := by rw [← hb0]; exact Nat.not_le.mpr hbl
  obtain ⟨kx0, kx1, kx2, kx3, kx4, kx5, kx6, kx7, kx8, kx9⟩ := (id hX)
  obtain ⟨km0, km1, km2, km3, km4, km5⟩ := (id hM)
  refine lv_aload_n hx hb dL_law_409 rfl (lv_at hl 3 rfl) ?_
  refine lv_aload_n hx hb dL_law_410 rfl (lv_at hl 4 rfl) ?_
  refine lv_iload hx hb dL_law_411 (lv_at hl 0 rfl) ?_
  refine lv_iconst (v := 1) hx hb dL_law_413 (by decide) ?_
  refine lv_iadd hx hb dL_law_414 ?_
  refine lv_topi (fun x_ e_ => ?_)
  obtain rfl : 1 = x_ := by rw [e_]; decide
  refine va_sld hx hb hXs hbl hbA h.2.2.1 (by unfold vp_in; decide) dL_law_415 ?_
  refine k_i (r_V C h hl (As := [.int (xs (Int32.toNatClampNeg 1))]) (rest := []) (c_X10_mirror l D G b0 f X hX (xs (Int32.toNatClampNeg 1))) kx0 (Cn := RX10) (T := TX10) (N := 10) rfl rfl mk_X10_mirror w_603 w_604 w_605 w_606 ⟨Nat.le_of_ble_eq_true rfl, Nat.le_of_ble_eq_true rfl⟩ rfl (Nat.le_of_ble_eq_true rfl) ⟨Nat.le_of_ble_eq_true rfl, Nat.le_of_ble_eq_true rfl⟩ rfl dL_law_416) h (fun r_3669 f_3670 H locs p_3671 h => ?_)
  obtain ⟨rfl, p_3671⟩ := p_3671
  have k_3672 : f_3670 (M 0) = some (.inr (12, [.int 0, .ref (M 1), .int 0, .int 0, .int 0, .ref (M 2), .ref (M 3), .ref (M 4), .ref (M 5), .ref (M 6), .int 0, .int 0, .ref (M 7), .ref (M 8), .int 0, .ref (M 9), .ref (M 10), .ref (M 11), .long 0, .ref (M 12), .ref (M 13), .ref (M 14), .ref (M 15), .ref (M 16), .ref (M 17), .ref (M 18), .ref (M 19), .int 0, .int 0, .ref (M 20), .ref (M 21), .int 0])) := (p_3671 _ (fun i hi => (hMX i hi).1)).trans km0
  have k_3673 : f_3670 (M 1) = some (.inl (G 0, 200, .inl (fun _ => 0))) := (p_3671 _ (fun i hi => (hMX i hi).2.1)).trans km1
  have k_3674 : f_3670 (M 2) = some (.inl (G 1, 10, .inl (fun _ => 0))) := (p_3671 _ (fun i hi => (hMX i hi).2.2.1)).trans km2
  have k_3675 : f_3670 (M 3) = some (.inl (G 1, 81, .inl (fun _ => 0))) := (p_3671 _ (fun i hi => (hMX i hi).2.2.2.1)).trans km3
  have k_3676 : f_3670 (M 4) = some (.inl (G 1, 81, .inl (fun _ => 0))) := (p_3671 _ (fun i hi => (hMX i hi).2.2.2.2.1)).trans km4
  have k_3677 : f_3670 (M 6) = some (.inl (G 1, 4, .inl (fun _ => 0))) := (p_3671 _ (fun i hi => (hMX i hi).2.2.2.2.2)).trans km5
  refine lv_aload_n hx hb dL_law_419 rfl (lv_at hl 2 rfl) ?_
  refine lv_aload_n hx hb dL_law_420 rfl (lv_at hl 4 rfl) ?_
  refine lv_iload hx hb dL_law_421 (lv_at hl 0 rfl) ?_
  refine lv_iconst (v := 1) hx hb dL_law_423 (by decide) ?_
  refine lv_iadd hx hb dL_law_424 ?_
  refine lv_topi (fun x_ e_ => ?_)
  obtain rfl : 1 = x_ := by rw [e_]; decide
  refine va_sld hx hb hXs hbl hbA h.2.2.1 (by unfold vp_in; decide) dL_law_425 ?_
  refine k_i (r_V C h hl (As := [.int (xs (Int32.toNatClampNeg 1))]) (rest := [.int (-1)]) (c_X11_mirror l D G b0 f_3670 M ⟨k_3672, k_3673, k_3674, k_3675, k_3676, k_3677⟩ (xs (Int32.toNatClampNeg 1))) k_3672 (Cn := RX11) (T := TX11) (N := 32) rfl rfl mk_X11_mirror w_1631 w_1632 w_1633 w_1634 ⟨Nat.le_of_ble_eq_true rfl, Nat.le_of_ble_eq_true rfl⟩ rfl (Nat.le_of_ble_eq_true rfl) ⟨Nat.le_of_ble_eq_true rfl, Nat.le_of_ble_eq_true rfl⟩ rfl dL_law_426) h (fun r_3678 f_3679 H locs p_3680 h => ?_)
  subst p_3680
  refine lv_icmp_eq (tgt := 2593) hx hb dL_law_429 (by decide) (fun c_3681 => ?_) (fun c_3681 => ?_)
  · exact law_end C0 hb0 hE0 h (lv_sub hl [0, 4] rfl) (Nat.le_of_ble_eq_true rfl) (Nat.le_of_ble_eq_true rfl)
  · exact absurd c_3681 (by decide)
set_option maxRecDepth 100000 in
set_option maxHeartbeats 4000000 in
theorem law_6 {p : Program} {l : Launch} {e : Env} {s : State} {m : MethodId} {below : List Frame} {meth : Method} {c : Code} (hst : l.stackTraces = false) {b : Nat} {xs : Nat → Int32} (C0 : lw_At p s m meth c b 8 xs) {D : va_G} {G : Nat → Nat} {b0 : Nat} (hb0 : s.heap.size = b0) (hE0 : hE D G b0 s s.heap) {f : hM} {X M : Nat → Nat} {o : Nat} (hX : xw G f X) (hM : mw G f M) (hMX : ∀ i, i ∈ XI → M 0 ≠ X i ∧ M 1 ≠ X i ∧ M 2 ≠ X i ∧ M 3 ≠ X i ∧ M 4 ≠ X i ∧ M 6 ≠ X i) {H : Heap} {locs : List Loc} {ls : Array Slot} (h : hw D b0 s.heap f H locs) (hl : lv_has ls 7 [(4, .int 0), (3, .ref o), (2, .ref (M 0)), (1, .ref (X 0)), (0, .ref b)]) : W p l e room_1 s m #[Value.ref b] below meth c H locs 125 106894 (lw_Z below #[Value.ref b] s) (F0 m 434 ls []) := by
  obtain ⟨hx, hb, hr, hml, hown, hts0, hXs, hbl, hlk, hgv⟩ := id C0
  have hts : ∀ w ∈ wAll, w.before #[Value.ref b] s = true := fun w hw => hts0 w (wAll_tbl w hw)
  have C : hC p s m #[Value.ref b] meth c cL_law 7 RL D G b0 := ⟨hx, hb, hml, hown, hts, hE0, hlk⟩
  have hbA : ¬ hA b0 b := by rw [← hb0]; exact Nat.not_le.mpr hbl
  obtain ⟨kx0, kx1, kx2, kx3, kx4, kx5, kx6, kx7, kx8, kx9⟩ := (id hX)
  obtain ⟨km0, km1, km2, km3, km4, km5⟩ := (id hM)
  refine lv_aload_n hx hb dL_law_434 rfl (lv_at hl 3 rfl) ?_
  refine lv_aload_n hx hb dL_law_435 rfl (lv_at hl 4 rfl) ?_
  refine lv_iload hx hb dL_law_436 (lv_at hl 0 rfl) ?_
  refine lv_iconst (v := 1) hx hb dL_law_438 (by decide) ?_
  refine lv_iadd hx hb dL_law_439 ?_
  refine lv_topi (fun x_ e_ => ?_)
  obtain rfl : 1 = x_ := by rw [e_]; decide
  refine va_sld hx hb hXs hbl hbA h.2.2.1 (by unfold vp_in; decide) dL_law_440 ?_
  refine k_i (r_V C h hl (As := [.int (xs (Int32.toNatClampNeg 1))]) (rest := []) (c_X10_turn l D G b0 f X hX (xs (Int32.toNatClampNeg 1))) kx0 (Cn := RX10) (T := TX10) (N := 10) rfl rfl mk_X10_turn w_615 w_616 w_617 w_618 ⟨Nat.le_of_ble_eq_true rfl, Nat.le_of_ble_eq_true rfl⟩ rfl (Nat.le_of_ble_eq_true rfl) ⟨Nat.le_of_ble_eq_true rfl, Nat.le_of_ble_eq_true rfl⟩ rfl dL_law_441) h (fun r_3682 f_3683 H locs p_3684 h => ?_)
  obtain ⟨rfl, p_3684⟩ := p_3684
  have k_3685 : f_3683 (M 0) = some (.inr (12, [.int 0, .ref (M 1), .int 0, .int 0, .int 0, .ref (M 2), .ref (M 3), .ref (M 4), .ref (M 5), .ref (M 6), .int 0, .int 0, .ref (M 7), .ref (M 8), .int 0, .ref (M 9), .ref (M 10), .ref (M 11), .long 0, .ref (M 12), .ref (M 13), .ref (M 14), .ref (M 15), .ref (M 16), .ref (M 17), .ref (M 18), .ref (M 19), .int 0, .int 0, .ref (M 20), .ref (M 21), .int 0])) := (p_3684 _ (fun i hi => (hMX i hi).1)).trans km0
  have k_3686 : f_3683 (M 1) = some (.inl (G 0, 200, .inl (fun _ => 0))) := (p_3684 _ (fun i hi => (hMX i hi).2.1)).trans km1
  have k_3687 : f_3683 (M 2) = some (.inl (G 1, 10, .inl (fun _ => 0))) := (p_3684 _ (fun i hi => (hMX i hi).2.2.1)).trans km2
  have k_3688 : f_3683 (M 3) = some (.inl (G 1, 81, .inl (fun _ => 0))) := (p_3684 _ (fun i hi => (hMX i hi).2.2.2.1)).trans km3
  have k_3689 : f_3683 (M 4) = some (.inl (G 1, 81, .inl (fun _ => 0))) := (p_3684 _ (fun i hi => (hMX i hi).2.2.2.2.1)).trans km4
  have k_3690 : f_3683 (M 6) = some (.inl (G 1, 4, .inl (fun _ => 0))) := (p_3684 _ (fun i hi => (hMX i hi).2.2.2.2.2)).trans km5
  refine lv_aload_n hx hb dL_law_444 rfl (lv_at hl 2 rfl) ?_
  refine lv_aload_n hx hb dL_law_445 rfl (lv_at hl 4 rfl) ?_
  refine lv_iload hx hb dL_law_446 (lv_at hl 0 rfl) ?_
  refine lv_iconst (v := 1) hx hb dL_law_448 (by decide) ?_
  refine lv_iadd hx hb dL_law_449 ?_
  refine lv_topi (fun x_ e_ => ?_)
  obtain rfl : 1 = x_ := by rw [e_]; decide
  refine va_sld hx hb hXs hbl hbA h.2.2.1 (by unfold vp_in; decide) dL_law_450 ?_
  refine k_i (r_V C h hl (As := [.int (xs (Int32.toNatClampNeg 1))]) (rest := [.int (-1)]) (c_X11_turn l D G b0 f_3683 M ⟨k_3685, k_3686, k_3687, k_3688, k_3689, k_3690⟩ (xs (Int32.toNatClampNeg 1))) k_3685 (Cn := RX11) (T := TX11) (N := 32) rfl rfl mk_X11_turn w_1639 w_1640 w_1641 w_1642 ⟨Nat.le_of_ble_eq_true rfl, Nat.le_of_ble_eq_true rfl⟩ rfl (Nat.le_of_ble_eq_true rfl) ⟨Nat.le_of_ble_eq_true rfl, Nat.le_of_ble_eq_true rfl⟩ rfl dL_law_451) h (fun r_3691 f_3692 H locs p_3693 h => ?_)
  subst p_3693
  refine lv_icmp_eq (tgt := 2593) hx hb dL_law_454 (by decide) (fun c_3694 => ?_) (fun c_3694 => ?_)
  · exact law_end C0 hb0 hE0 h (lv_sub hl [0, 4] rfl) (Nat.le_of_ble_eq_true rfl) (Nat.le_of_ble_eq_true rfl)
  · exact absurd c_3694 (by decide)
set_option maxRecDepth 100000 in
set_option maxHeartbeats 4000000 in
theorem law_7 {p : Program} {l : Launch} {e : Env} {s : State} {m : MethodId} {below : List Frame} {meth : Method} {c : Code} (hst : l.stackTraces = false) {b : Nat} {xs : Nat → Int32} (C0 : lw_At p s m meth c b 8 xs) {D : va_G} {G : Nat → Nat} {b0 : Nat} (hb0 : s.heap.size = b0) (hE0 : hE D G b0 s s.heap) {f : hM} {X M : Nat → Nat} {o : Nat} (hX : xw G f X) (hM : mw G f M) (hMX : ∀ i, i ∈ XI → M 0 ≠ X i ∧ M 1 ≠ X i ∧ M 2 ≠ X i ∧ M 3 ≠ X i ∧ M 4 ≠ X i ∧ M 6 ≠ X i) {H : Heap} {locs : List Loc} {ls : Array Slot} (h : hw D b0 s.heap f H locs) (hl : lv_has ls 7 [(4, .int 0), (3, .ref o), (2, .ref (M 0)), (1, .ref (X 0)), (0, .ref b)]) : W p l e room_1 s m #[Value.ref b] below meth c H locs 125 106894 (lw_Z below #[Value.ref b] s) (F0 m 459 ls []) := by
  obtain ⟨hx, hb, hr, hml, hown, hts0, hXs, hbl, hlk, hgv⟩ := id C0
  have hts : ∀ w ∈ wAll, w.before #[Value.ref b] s = true := fun w hw => hts0 w (wAll_tbl w hw)
  have C : hC p s m #[Value.ref b] meth c cL_law 7 RL D G b0 := ⟨hx, hb, hml, hown, hts, hE0, hlk⟩
  have hbA : ¬ hA b0 b := by rw [← hb0]; exact Nat.not_le.mpr hbl
  obtain ⟨kx0, kx1, kx2, kx3, kx4, kx5, kx6, kx7, kx8, kx9⟩ := (id hX)
  obtain ⟨km0, km1, km2, km3, km4, km5⟩ := (id hM)
  refine lv_aload_n hx hb dL_law_459 rfl (lv_at hl 3 rfl) ?_
  refine lv_aload_n hx hb dL_law_460 rfl (lv_at hl 4 rfl) ?_
  refine lv_iload hx hb dL_law_461 (lv_at hl 0 rfl) ?_
  refine lv_iconst (v := 1) hx hb dL_law_463 (by decide) ?_
  refine lv_iadd hx hb dL_law_464 ?_
  refine lv_topi (fun x_ e_ => ?_)
  obtain rfl : 1 = x_ := by rw [e_]; decide
  refine va_sld hx hb hXs hbl hbA h.2.2.1 (by unfold vp_in; decide) dL_law_465 ?_
  refine lv_aload_n hx hb dL_law_466 rfl (lv_at hl 4 rfl) ?_
  refine lv_iload hx hb dL_law_467 (lv_at hl 0 rfl) ?_
  refine lv_iconst (v := 2) hx hb dL_law_469 (by decide) ?_
  refine lv_iadd hx hb dL_law_470 ?_
  refine lv_topi (fun x_ e_ => ?_)
  obtain rfl : 2 = x_ := by rw [e_]; decide
  refine va_sld hx hb hXs hbl hbA h.2.2.1 (by unfold vp_in; decide) dL_law_471 ?_
  refine k_i (r_V C h hl (As := [.int (xs (Int32.toNatClampNeg 1)), .int (xs (Int32.toNatClampNeg 2))]) (rest := []) (c_X10_join l D G b0 f X hX (xs (Int32.toNatClampNeg 1)) (xs (Int32.toNatClampNeg 2))) kx0 (Cn := RX10) (T := TX10) (N := 10) rfl rfl mk_X10_join w_621 w_622 w_623 w_624 ⟨Nat.le_of_ble_eq_true rfl, Nat.le_of_ble_eq_true rfl⟩ rfl (Nat.le_of_ble_eq_true rfl) ⟨Nat.le_of_ble_eq_true rfl, Nat.le_of_ble_eq_true rfl⟩ rfl dL_law_472) h (fun r_3695 f_3696 H locs p_3697 h => ?_)
  obtain ⟨rfl, p_3697⟩ := p_3697
  have k_3698 : f_3696 (M 0) = some (.inr (12, [.int 0, .ref (M 1), .int 0, .int 0, .int 0, .ref (M 2), .ref (M 3), .ref (M 4), .ref (M 5), .ref (M 6), .int 0, .int 0, .ref (M 7), .ref (M 8), .int 0, .ref (M 9), .ref (M 10), .ref (M 11), .long 0, .ref (M 12), .ref (M 13), .ref (M 14), .ref (M 15), .ref (M 16), .ref (M 17), .ref (M 18), .ref (M 19), .int 0, .int 0, .ref (M 20), .ref (M 21), .int 0])) := (p_3697 _ (fun i hi => (hMX i hi).1)).trans km0
  have k_3699 : f_3696 (M 1) = some (.inl (G 0, 200, .inl (fun _ => 0))) := (p_3697 _ (fun i hi => (hMX i hi).2.1)).trans km1
  have k_3700 : f_3696 (M 2) = some (.inl (G 1, 10, .inl (fun _ => 0))) := (p_3697 _ (fun i hi => (hMX i hi).2.2.1)).trans km2
  have k_3701 : f_3696 (M 3) = some (.inl (G 1, 81, .inl (fun _ => 0))) := (p_3697 _ (fun i hi => (hMX i hi).2.2.2.1)).trans km3
  have k_3702 : f_3696 (M 4) = some (.inl (G 1, 81, .inl (fun _ => 0))) := (p_3697 _ (fun i hi => (hMX i hi).2.2.2.2.1)).trans km4
  have k_3703 : f_3696 (M 6) = some (.inl (G 1, 4, .inl (fun _ => 0))) := (p_3697 _ (fun i hi => (hMX i hi).2.2.2.2.2)).trans km5
  refine lv_aload_n hx hb dL_law_475 rfl (lv_at hl 2 rfl) ?_
  refine lv_aload_n hx hb dL_law_476 rfl (lv_at hl 4 rfl) ?_
  refine lv_iload hx hb dL_law_477 (lv_at hl 0 rfl) ?_
  refine lv_iconst (v := 1) hx hb dL_law_479 (by decide) ?_
  refine lv_iadd hx hb dL_law_480 ?_
  refine lv_topi (fun x_ e_ => ?_)
  obtain rfl : 1 = x_ := by rw [e_]; decide
  refine va_sld hx hb hXs hbl hbA h.2.2.1 (by unfold vp_in; decide) dL_law_481 ?_
  refine lv_aload_n hx hb dL_law_482 rfl (lv_at hl 4 rfl) ?_
  refine lv_iload hx hb dL_law_483 (lv_at hl 0 rfl) ?_
  refine lv_iconst (v := 2) hx hb dL_law_485 (by decide) ?_
  refine lv_iadd hx hb dL_law_486 ?_
  refine lv_topi (fun x_ e_ => ?_)
  obtain rfl : 2 = x_ := by rw [e_]; decide
  refine va_sld hx hb hXs hbl hbA h.2.2.1 (by unfold vp_in; decide) dL_law_487 ?_
  refine k_i (r_V C h hl (As := [.int (xs (Int32.toNatClampNeg 1)), .int (xs (Int32.toNatClampNeg 2))]) (rest := [.int (-1)]) (c_X11_join l D G b0 f_3696 M ⟨k_3698, k_3699, k_3700, k_3701, k_3702, k_3703⟩ (xs (Int32.toNatClampNeg 1)) (xs (Int32.toNatClampNeg 2))) k_3698 (Cn := RX11) (T := TX11) (N := 32) rfl rfl mk_X11_join w_1643 w_1644 w_1645 w_1646 ⟨Nat.le_of_ble_eq_true rfl, Nat.le_of_ble_eq_true rfl⟩ rfl (Nat.le_of_ble_eq_true rfl) ⟨Nat.le_of_ble_eq_true rfl, Nat.le_of_ble_eq_true rfl⟩ rfl dL_law_488) h (fun r_3704 f_3705 H locs p_3706 h => ?_)
  subst p_3706
  refine lv_icmp_eq (tgt := 2593) hx hb dL_law_491 (by decide) (fun c_3707 => ?_) (fun c_3707 => ?_)
  · exact law_end C0 hb0 hE0 h (lv_sub hl [0, 4] rfl) (Nat.le_of_ble_eq_true rfl) (Nat.le_of_ble_eq_true rfl)
  · exact absurd c_3707 (by decide)
set_option maxRecDepth 100000 in
set_option maxHeartbeats 4000000 in
theorem law_8 {p : Program} {l : Launch} {e : Env} {s : State} {m : MethodId} {below : List Frame} {meth : Method} {c : Code} (hst : l.stackTraces = false) {b : Nat} {xs : Nat → Int32} (C0 : lw_At p s m meth c b 8 xs) {D : va_G} {G : Nat → Nat} {b0 : Nat} (hb0 : s.heap.size = b0) (hE0 : hE D G b0 s s.heap) {f : hM} {X M : Nat → Nat} {o : Nat} (hX : xw G f X) (hM : mw G f M) (hMX : ∀ i, i ∈ XI → M 0 ≠ X i ∧ M 1 ≠ X i ∧ M 2 ≠ X i ∧ M 3 ≠ X i ∧ M 4 ≠ X i ∧ M 6 ≠ X i) {H : Heap} {locs : List Loc} {ls : Array Slot} (h : hw D b0 s.heap f H locs) (hl : lv_has ls 7 [(4, .int 0), (3, .ref o), (2, .ref (M 0)), (1, .ref (X 0)), (0, .ref b)]) : W p l e room_1 s m #[Value.ref b] below meth c H locs 125 106894 (lw_Z below #[Value.ref b] s) (F0 m 496 ls []) := by
  obtain ⟨hx, hb, hr, hml, hown, hts0, hXs, hbl, hlk, hgv⟩ := id C0
  have hts : ∀ w ∈ wAll, w.before #[Value.ref b] s = true := fun w hw => hts0 w (wAll_tbl w hw)
  have C : hC p s m #[Value.ref b] meth c cL_law 7 RL D G b0 := ⟨hx, hb, hml, hown, hts, hE0, hlk⟩
  have hbA : ¬ hA b0 b := by rw [← hb0]; exact Nat.not_le.mpr hbl
  obtain ⟨kx0, kx1, kx2, kx3, kx4, kx5, kx6, kx7, kx8, kx9⟩ := (id hX)
  obtain ⟨km0, km1, km2, km3, km4, km5⟩ := (id hM)
  refine lv_aload_n hx hb dL_law_496 rfl (lv_at hl 3 rfl) ?_
  refine lv_aload_n hx hb dL_law_497 rfl (lv_at hl 4 rfl) ?_
  refine lv_iload hx hb dL_law_498 (lv_at hl 0 rfl) ?_
  refine lv_iconst (v := 1) hx hb dL_law_500 (by decide) ?_
  refine lv_iadd hx hb dL_law_501 ?_
  refine lv_topi (fun x_ e_ => ?_)
  obtain rfl : 1 = x_ := by rw [e_]; decide
  refine va_sld hx hb hXs hbl hbA h.2.2.1 (by unfold vp_in; decide) dL_law_502 ?_
  refine lv_aload_n hx hb dL_law_503 rfl (lv_at hl 4 rfl) ?_
  refine lv_iload hx hb dL_law_504 (lv_at hl 0 rfl) ?_
  refine lv_iconst (v := 2) hx hb dL_law_506 (by decide) ?_
  refine lv_iadd hx hb dL_law_507 ?_
  refine lv_topi (fun x_ e_ => ?_)
  obtain rfl : 2 = x_ := by rw [e_]; decide
  refine va_sld hx hb hXs hbl hbA h.2.2.1 (by unfold vp_in; decide) dL_law_508 ?_
  refine k_i (r_V C h hl (As := [.int (xs (Int32.toNatClampNeg 1)), .int (xs (Int32.toNatClampNeg 2))]) (rest := []) (c_X10_scale l D G b0 f X hX (xs (Int32.toNatClampNeg 1)) (xs (Int32.toNatClampNeg 2))) kx0 (Cn := RX10) (T := TX10) (N := 10) rfl rfl mk_X10_scale w_628 w_629 w_630 w_631 ⟨Nat.le_of_ble_eq_true rfl, Nat.le_of_ble_eq_true rfl⟩ rfl (Nat.le_of_ble_eq_true rfl) ⟨Nat.le_of_ble_eq_true rfl, Nat.le_of_ble_eq_true rfl⟩ rfl dL_law_509) h (fun r_3708 f_3709 H locs p_3710 h => ?_)
  obtain ⟨rfl, p_3710⟩ := p_3710
  have k_3711 : f_3709 (M 0) = some (.inr (12, [.int 0, .ref (M 1), .int 0, .int 0, .int 0, .ref (M 2), .ref (M 3), .ref (M 4), .ref (M 5), .ref (M 6), .int 0, .int 0, .ref (M 7), .ref (M 8), .int 0, .ref (M 9), .ref (M 10), .ref (M 11), .long 0, .ref (M 12), .ref (M 13), .ref (M 14), .ref (M 15), .ref (M 16), .ref (M 17), .ref (M 18), .ref (M 19), .int 0, .int 0, .ref (M 20), .ref (M 21), .int 0])) := (p_3710 _ (fun i hi => (hMX i hi).1)).trans km0
  have k_3712 : f_3709 (M 1) = some (.inl (G 0, 200, .inl (fun _ => 0))) := (p_3710 _ (fun i hi => (hMX i hi).2.1)).trans km1
  have k_3713 : f_3709 (M 2) = some (.inl (G 1, 10, .inl (fun _ => 0))) := (p_3710 _ (fun i hi => (hMX i hi).2.2.1)).trans km2
  have k_3714 : f_3709 (M 3) = some (.inl (G 1, 81, .inl (fun _ => 0))) := (p_3710 _ (fun i hi => (hMX i hi).2.2.2.1)).trans km3
  have k_3715 : f_3709 (M 4) = some (.inl (G 1, 81, .inl (fun _ => 0))) := (p_3710 _ (fun i hi => (hMX i hi).2.2.2.2.1)).trans km4
  have k_3716 : f_3709 (M 6) = some (.inl (G 1, 4, .inl (fun _ => 0))) := (p_3710 _ (fun i hi => (hMX i hi).2.2.2.2.2)).trans km5
  refine lv_aload_n hx hb dL_law_512 rfl (lv_at hl 2 rfl) ?_
  refine lv_aload_n hx hb dL_law_513 rfl (lv_at hl 4 rfl) ?_
  refine lv_iload hx hb dL_law_514 (lv_at hl 0 rfl) ?_
  refine lv_iconst (v := 1) hx hb dL_law_516 (by decide) ?_
  refine lv_iadd hx hb dL_law_517 ?_
  refine lv_topi (fun x_ e_ => ?_)
  obtain rfl : 1 = x_ := by rw [e_]; decide
  refine va_sld hx hb hXs hbl hbA h.2.2.1 (by unfold vp_in; decide) dL_law_518 ?_
  refine lv_aload_n hx hb dL_law_519 rfl (lv_at hl 4 rfl) ?_
  refine lv_iload hx hb dL_law_520 (lv_at hl 0 rfl) ?_
  refine lv_iconst (v := 2) hx hb dL_law_522 (by decide) ?_
  refine lv_iadd hx hb dL_law_523 ?_
  refine lv_topi (fun x_ e_ => ?_)
  obtain rfl : 2 = x_ := by rw [e_]; decide
  refine va_sld hx hb hXs hbl hbA h.2.2.1 (by unfold vp_in; decide) dL_law_524 ?_
  refine k_i (r_V C h hl (As := [.int (xs (Int32.toNatClampNeg 1)), .int (xs (Int32.toNatClampNeg 2))]) (rest := [.int (-1)]) (c_X11_scale l D G b0 f_3709 M ⟨k_3711, k_3712, k_3713, k_3714, k_3715, k_3716⟩ (xs (Int32.toNatClampNeg 1)) (xs (Int32.toNatClampNeg 2))) k_3711 (Cn := RX11) (T := TX11) (N := 32) rfl rfl mk_X11_scale w_1647 w_1648 w_1649 w_1650 ⟨Nat.le_of_ble_eq_true rfl, Nat.le_of_ble_eq_true rfl⟩ rfl (Nat.le_of_ble_eq_true rfl) ⟨Nat.le_of_ble_eq_true rfl, Nat.le_of_ble_eq_true rfl⟩ rfl dL_law_525) h (fun r_3717 f_3718 H locs p_3719 h => ?_)
  subst p_3719
  refine lv_icmp_eq (tgt := 2593) hx hb dL_law_528 (by decide) (fun c_3720 => ?_) (fun c_3720 => ?_)
  · exact law_end C0 hb0 hE0 h (lv_sub hl [0, 4] rfl) (Nat.le_of_ble_eq_true rfl) (Nat.le_of_ble_eq_true rfl)
  · exact absurd c_3720 (by decide)
set_option maxRecDepth 100000 in
set_option maxHeartbeats 4000000 in
theorem law_9 {p : Program} {l : Launch} {e : Env} {s : State} {m : MethodId} {below : List Frame} {meth : Method} {c : Code} (hst : l.stackTraces = false) {b : Nat} {xs : Nat → Int32} (C0 : lw_At p s m meth c b 8 xs) {D : va_G} {G : Nat → Nat} {b0 : Nat} (hb0 : s.heap.size = b0) (hE0 : hE D G b0 s s.heap) {f : hM} {X M : Nat → Nat} {o : Nat} (hX : xw G f X) (hM : mw G f M) (hMX : ∀ i, i ∈ XI → M 0 ≠ X i ∧ M 1 ≠ X i ∧ M 2 ≠ X i ∧ M 3 ≠ X i ∧ M 4 ≠ X i ∧ M 6 ≠ X i) {H : Heap} {locs : List Loc} {ls : Array Slot} (h : hw D b0 s.heap f H locs) (hl : lv_has ls 7 [(4, .int 0), (3, .ref o), (2, .ref (M 0)), (1, .ref (X 0)), (0, .ref b)]) : W p l e room_1 s m #[Value.ref b] below meth c H locs 125 106894 (lw_Z below #[Value.ref b] s) (F0 m 533 ls []) := by
  obtain ⟨hx, hb, hr, hml, hown, hts0, hXs, hbl, hlk, hgv⟩ := id C0
  have hts : ∀ w ∈ wAll, w.before #[Value.ref b] s = true := fun w hw => hts0 w (wAll_tbl w hw)
  have C : hC p s m #[Value.ref b] meth c cL_law 7 RL D G b0 := ⟨hx, hb, hml, hown, hts, hE0, hlk⟩
  have hbA : ¬ hA b0 b := by rw [← hb0]; exact Nat.not_le.mpr hbl
  obtain ⟨kx0, kx1, kx2, kx3, kx4, kx5, kx6, kx7, kx8, kx9⟩ := (id hX)
  obtain ⟨km0, km1, km2, km3, km4, km5⟩ := (id hM)
  refine lv_aload_n hx hb dL_law_533 rfl (lv_at hl 3 rfl) ?_
  refine lv_aload_n hx hb dL_law_534 rfl (lv_at hl 4 rfl) ?_
  refine lv_iload hx hb dL_law_535 (lv_at hl 0 rfl) ?_
  refine lv_iconst (v := 1) hx hb dL_law_537 (by decide) ?_
  refine lv_iadd hx hb dL_law_538 ?_
  refine lv_topi (fun x_ e_ => ?_)
  obtain rfl : 1 = x_ := by rw [e_]; decide
  refine va_sld hx hb hXs hbl hbA h.2.2.1 (by unfold vp_in; decide) dL_law_539 ?_
  refine lv_aload_n hx hb dL_law_540 rfl (lv_at hl 4 rfl) ?_
  refine lv_iload hx hb dL_law_541 (lv_at hl 0 rfl) ?_
  refine lv_iconst (v := 2) hx hb dL_law_543 (by decide) ?_
  refine lv_iadd hx hb dL_law_544 ?_
  refine lv_topi (fun x_ e_ => ?_)
  obtain rfl : 2 = x_ := by rw [e_]; decide
  refine va_sld hx hb hXs hbl hbA h.2.2.1 (by unfold vp_in; decide) dL_law_545 ?_
  refine lv_aload_n hx hb dL_law_546 rfl (lv_at hl 4 rfl) ?_
  refine lv_iload hx hb dL_law_547 (lv_at hl 0 rfl) ?_
  refine lv_iconst (v := 3) hx hb dL_law_549 (by decide) ?_
  refine lv_iadd hx hb dL_law_550 ?_
  refine lv_topi (fun x_ e_ => ?_)
  obtain rfl : 3 = x_ := by rw [e_]; decide
  refine va_sld hx hb hXs hbl hbA h.2.2.1 (by unfold vp_in; decide) dL_law_551 ?_
  refine k_i (r_V C h hl (As := [.int (xs (Int32.toNatClampNeg 1)), .int (xs (Int32.toNatClampNeg 2)), .int (xs (Int32.toNatClampNeg 3))]) (rest := []) (c_X10_weigh l D G b0 f X hX (xs (Int32.toNatClampNeg 1)) (xs (Int32.toNatClampNeg 2)) (xs (Int32.toNatClampNeg 3))) kx0 (Cn := RX10) (T := TX10) (N := 10) rfl rfl mk_X10_weigh w_640 w_641 w_642 w_643 ⟨Nat.le_of_ble_eq_true rfl, Nat.le_of_ble_eq_true rfl⟩ rfl (Nat.le_of_ble_eq_true rfl) ⟨Nat.le_of_ble_eq_true rfl, Nat.le_of_ble_eq_true rfl⟩ rfl dL_law_552) h (fun r_3721 f_3722 H locs p_3723 h => ?_)
  obtain ⟨rfl, p_3723⟩ := p_3723
  have k_3724 : f_3722 (M 0) = some (.inr (12, [.int 0, .ref (M 1), .int 0, .int 0, .int 0, .ref (M 2), .ref (M 3), .ref (M 4), .ref (M 5), .ref (M 6), .int 0, .int 0, .ref (M 7), .ref (M 8), .int 0, .ref (M 9), .ref (M 10), .ref (M 11), .long 0, .ref (M 12), .ref (M 13), .ref (M 14), .ref (M 15), .ref (M 16), .ref (M 17), .ref (M 18), .ref (M 19), .int 0, .int 0, .ref (M 20), .ref (M 21), .int 0])) := (p_3723 _ (fun i hi => (hMX i hi).1)).trans km0
  have k_3725 : f_3722 (M 1) = some (.inl (G 0, 200, .inl (fun _ => 0))) := (p_3723 _ (fun i hi => (hMX i hi).2.1)).trans km1
  have k_3726 : f_3722 (M 2) = some (.inl (G 1, 10, .inl (fun _ => 0))) := (p_3723 _ (fun i hi => (hMX i hi).2.2.1)).trans km2
  have k_3727 : f_3722 (M 3) = some (.inl (G 1, 81, .inl (fun _ => 0))) := (p_3723 _ (fun i hi => (hMX i hi).2.2.2.1)).trans km3
  have k_3728 : f_3722 (M 4) = some (.inl (G 1, 81, .inl (fun _ => 0))) := (p_3723 _ (fun i hi => (hMX i hi).2.2.2.2.1)).trans km4
  have k_3729 : f_3722 (M 6) = some (.inl (G 1, 4, .inl (fun _ => 0))) := (p_3723 _ (fun i hi => (hMX i hi).2.2.2.2.2)).trans km5
  refine lv_aload_n hx hb dL_law_555 rfl (lv_at hl 2 rfl) ?_
  refine lv_aload_n hx hb dL_law_556 rfl (lv_at hl 4 rfl) ?_
  refine lv_iload hx hb dL_law_557 (lv_at hl 0 rfl) ?_
  refine lv_iconst (v := 1) hx hb dL_law_559 (by decide) ?_
  refine lv_iadd hx hb dL_law_560 ?_
  refine lv_topi (fun x_ e_ => ?_)
  obtain rfl : 1 = x_ := by rw [e_]; decide
  refine va_sld hx hb hXs hbl hbA h.2.2.1 (by unfold vp_in; decide) dL_law_561 ?_
  refine lv_aload_n hx hb dL_law_562 rfl (lv_at hl 4 rfl) ?_
  refine lv_iload hx hb dL_law_563 (lv_at hl 0 rfl) ?_
  refine lv_iconst (v := 2) hx hb dL_law_565 (by decide) ?_
  refine lv_iadd hx hb dL_law_566 ?_
  refine lv_topi (fun x_ e_ => ?_)
  obtain rfl : 2 = x_ := by rw [e_]; decide
  refine va_sld hx hb hXs hbl hbA h.2.2.1 (by unfold vp_in; decide) dL_law_567 ?_
  refine lv_aload_n hx hb dL_law_568 rfl (lv_at hl 4 rfl) ?_
  refine lv_iload hx hb dL_law_569 (lv_at hl 0 rfl) ?_
  refine lv_iconst (v := 3) hx hb dL_law_571 (by decide) ?_
  refine lv_iadd hx hb dL_law_572 ?_
  refine lv_topi (fun x_ e_ => ?_)
  obtain rfl : 3 = x_ := by rw [e_]; decide
  refine va_sld hx hb hXs hbl hbA h.2.2.1 (by unfold vp_in; decide) dL_law_573 ?_
  refine k_i (r_V C h hl (As := [.int (xs (Int32.toNatClampNeg 1)), .int (xs (Int32.toNatClampNeg 2)), .int (xs (Int32.toNatClampNeg 3))]) (rest := [.int (-1)]) (c_X11_weigh l D G b0 f_3722 M ⟨k_3724, k_3725, k_3726, k_3727, k_3728, k_3729⟩ (xs (Int32.toNatClampNeg 1)) (xs (Int32.toNatClampNeg 2)) (xs (Int32.toNatClampNeg 3))) k_3724 (Cn := RX11) (T := TX11) (N := 32) rfl rfl mk_X11_weigh w_1657 w_1658 w_1659 w_1660 ⟨Nat.le_of_ble_eq_true rfl, Nat.le_of_ble_eq_true rfl⟩ rfl (Nat.le_of_ble_eq_true rfl) ⟨Nat.le_of_ble_eq_true rfl, Nat.le_of_ble_eq_true rfl⟩ rfl dL_law_574) h (fun r_3730 f_3731 H locs p_3732 h => ?_)
  subst p_3732
  refine lv_icmp_eq (tgt := 2593) hx hb dL_law_577 (by decide) (fun c_3733 => ?_) (fun c_3733 => ?_)
  · exact law_end C0 hb0 hE0 h (lv_sub hl [0, 4] rfl) (Nat.le_of_ble_eq_true rfl) (Nat.le_of_ble_eq_true rfl)
  · exact absurd c_3733 (by decide)
set_option maxRecDepth 100000 in
set_option maxHeartbeats 4000000 in
theorem law_10 {p : Program} {l : Launch} {e : Env} {s : State} {m : MethodId} {below : List Frame} {meth : Method} {c : Code} (hst : l.stackTraces = false) {b : Nat} {xs : Nat → Int32} (C0 : lw_At p s m meth c b 8 xs) {D : va_G} {G : Nat → Nat} {b0 : Nat} (hb0 : s.heap.size = b0) (hE0 : hE D G b0 s s.heap) {f : hM} {X M : Nat → Nat} {o : Nat} (hX : xw G f X) (hM : mw G f M) (hMX : ∀ i, i ∈ XI → M 0 ≠ X i ∧ M 1 ≠ X i ∧ M 2 ≠ X i ∧ M 3 ≠ X i ∧ M 4 ≠ X i ∧ M 6 ≠ X i) {H : Heap} {locs : List Loc} {ls : Array Slot} (h : hw D b0 s.heap f H locs) (hl : lv_has ls 7 [(4, .int 0), (3, .ref o), (2, .ref (M 0)), (1, .ref (X 0)), (0, .ref b)]) : W p l e room_1 s m #[Value.ref b] below meth c H locs 125 106894 (lw_Z below #[Value.ref b] s) (F0 m 582 ls []) := by
  obtain ⟨hx, hb, hr, hml, hown, hts0, hXs, hbl, hlk, hgv⟩ := id C0
  have hts : ∀ w ∈ wAll, w.before #[Value.ref b] s = true := fun w hw => hts0 w (wAll_tbl w hw)
  have C : hC p s m #[Value.ref b] meth c cL_law 7 RL D G b0 := ⟨hx, hb, hml, hown, hts, hE0, hlk⟩
  have hbA : ¬ hA b0 b := by rw [← hb0]; exact Nat.not_le.mpr hbl
  obtain ⟨kx0, kx1, kx2, kx3, kx4, kx5, kx6, kx7, kx8, kx9⟩ := (id hX)
  obtain ⟨km0, km1, km2, km3, km4, km5⟩ := (id hM)
  refine lv_aload_n hx hb dL_law_582 rfl (lv_at hl 3 rfl) ?_
  refine lv_aload_n hx hb dL_law_583 rfl (lv_at hl 4 rfl) ?_
  refine lv_iload hx hb dL_law_584 (lv_at hl 0 rfl) ?_
  refine lv_iconst (v := 1) hx hb dL_law_586 (by decide) ?_
  refine lv_iadd hx hb dL_law_587 ?_
  refine lv_topi (fun x_ e_ => ?_)
  obtain rfl : 1 = x_ := by rw [e_]; decide
  refine va_sld hx hb hXs hbl hbA h.2.2.1 (by unfold vp_in; decide) dL_law_588 ?_
  refine lv_aload_n hx hb dL_law_589 rfl (lv_at hl 4 rfl) ?_
  refine lv_iload hx hb dL_law_590 (lv_at hl 0 rfl) ?_
  refine lv_iconst (v := 2) hx hb dL_law_592 (by decide) ?_
  refine lv_iadd hx hb dL_law_593 ?_
  refine lv_topi (fun x_ e_ => ?_)
  obtain rfl : 2 = x_ := by rw [e_]; decide
  refine va_sld hx hb hXs hbl hbA h.2.2.1 (by unfold vp_in; decide) dL_law_594 ?_
  refine lv_aload_n hx hb dL_law_595 rfl (lv_at hl 4 rfl) ?_
  refine lv_iload hx hb dL_law_596 (lv_at hl 0 rfl) ?_
  refine lv_iconst (v := 3) hx hb dL_law_598 (by decide) ?_
  refine lv_iadd hx hb dL_law_599 ?_
  refine lv_topi (fun x_ e_ => ?_)
  obtain rfl : 3 = x_ := by rw [e_]; decide
  refine va_sld hx hb hXs hbl hbA h.2.2.1 (by unfold vp_in; decide) dL_law_600 ?_
  refine k_i (r_V C h hl (As := [.int (xs (Int32.toNatClampNeg 1)), .int (xs (Int32.toNatClampNeg 2)), .int (xs (Int32.toNatClampNeg 3))]) (rest := []) (c_X10_start l D G b0 f X hX (xs (Int32.toNatClampNeg 1)) (xs (Int32.toNatClampNeg 2)) (xs (Int32.toNatClampNeg 3))) kx0 (Cn := RX10) (T := TX10) (N := 10) rfl rfl mk_X10_start w_645 w_646 w_647 w_648 ⟨Nat.le_of_ble_eq_true rfl, Nat.le_of_ble_eq_true rfl⟩ rfl (Nat.le_of_ble_eq_true rfl) ⟨Nat.le_of_ble_eq_true rfl, Nat.le_of_ble_eq_true rfl⟩ rfl dL_law_601) h (fun r_3734 f_3735 H locs p_3736 h => ?_)
  obtain ⟨rfl, p_3736⟩ := p_3736
  have k_3737 : f_3735 (M 0) = some (.inr (12, [.int 0, .ref (M 1), .int 0, .int 0, .int 0, .ref (M 2), .ref (M 3), .ref (M 4), .ref (M 5), .ref (M 6), .int 0, .int 0, .ref (M 7), .ref (M 8), .int 0, .ref (M 9), .ref (M 10), .ref (M 11), .long 0, .ref (M 12), .ref (M 13), .ref (M 14), .ref (M 15), .ref (M 16), .ref (M 17), .ref (M 18), .ref (M 19), .int 0, .int 0, .ref (M 20), .ref (M 21), .int 0])) := (p_3736 _ (fun i hi => (hMX i hi).1)).trans km0
  have k_3738 : f_3735 (M 1) = some (.inl (G 0, 200, .inl (fun _ => 0))) := (p_3736 _ (fun i hi => (hMX i hi).2.1)).trans km1
  have k_3739 : f_3735 (M 2) = some (.inl (G 1, 10, .inl (fun _ => 0))) := (p_3736 _ (fun i hi => (hMX i hi).2.2.1)).trans km2
  have k_3740 : f_3735 (M 3) = some (.inl (G 1, 81, .inl (fun _ => 0))) := (p_3736 _ (fun i hi => (hMX i hi).2.2.2.1)).trans km3
  have k_3741 : f_3735 (M 4) = some (.inl (G 1, 81, .inl (fun _ => 0))) := (p_3736 _ (fun i hi => (hMX i hi).2.2.2.2.1)).trans km4
  have k_3742 : f_3735 (M 6) = some (.inl (G 1, 4, .inl (fun _ => 0))) := (p_3736 _ (fun i hi => (hMX i hi).2.2.2.2.2)).trans km5
  refine lv_aload_n hx hb dL_law_604 rfl (lv_at hl 2 rfl) ?_
  refine lv_aload_n hx hb dL_law_605 rfl (lv_at hl 4 rfl) ?_
  refine lv_iload hx hb dL_law_606 (lv_at hl 0 rfl) ?_
  refine lv_iconst (v := 1) hx hb dL_law_608 (by decide) ?_
  refine lv_iadd hx hb dL_law_609 ?_
  refine lv_topi (fun x_ e_ => ?_)
  obtain rfl : 1 = x_ := by rw [e_]; decide
  refine va_sld hx hb hXs hbl hbA h.2.2.1 (by unfold vp_in; decide) dL_law_610 ?_
  refine lv_aload_n hx hb dL_law_611 rfl (lv_at hl 4 rfl) ?_
  refine lv_iload hx hb dL_law_612 (lv_at hl 0 rfl) ?_
  refine lv_iconst (v := 2) hx hb dL_law_614 (by decide) ?_
  refine lv_iadd hx hb dL_law_615 ?_
  refine lv_topi (fun x_ e_ => ?_)
  obtain rfl : 2 = x_ := by rw [e_]; decide
  refine va_sld hx hb hXs hbl hbA h.2.2.1 (by unfold vp_in; decide) dL_law_616 ?_
  refine lv_aload_n hx hb dL_law_617 rfl (lv_at hl 4 rfl) ?_
  refine lv_iload hx hb dL_law_618 (lv_at hl 0 rfl) ?_
  refine lv_iconst (v := 3) hx hb dL_law_620 (by decide) ?_
  refine lv_iadd hx hb dL_law_621 ?_
  refine lv_topi (fun x_ e_ => ?_)
  obtain rfl : 3 = x_ := by rw [e_]; decide
  refine va_sld hx hb hXs hbl hbA h.2.2.1 (by unfold vp_in; decide) dL_law_622 ?_
  refine k_i (r_V C h hl (As := [.int (xs (Int32.toNatClampNeg 1)), .int (xs (Int32.toNatClampNeg 2)), .int (xs (Int32.toNatClampNeg 3))]) (rest := [.int (-1)]) (c_X11_start l D G b0 f_3735 M ⟨k_3737, k_3738, k_3739, k_3740, k_3741, k_3742⟩ (xs (Int32.toNatClampNeg 1)) (xs (Int32.toNatClampNeg 2)) (xs (Int32.toNatClampNeg 3))) k_3737 (Cn := RX11) (T := TX11) (N := 32) rfl rfl mk_X11_start w_1666 w_1667 w_1668 w_1669 ⟨Nat.le_of_ble_eq_true rfl, Nat.le_of_ble_eq_true rfl⟩ rfl (Nat.le_of_ble_eq_true rfl) ⟨Nat.le_of_ble_eq_true rfl, Nat.le_of_ble_eq_true rfl⟩ rfl dL_law_623) h (fun r_3743 f_3744 H locs p_3745 h => ?_)
  subst p_3745
  refine lv_icmp_eq (tgt := 2593) hx hb dL_law_626 (by decide) (fun c_3746 => ?_) (fun c_3746 => ?_)
  · exact law_end C0 hb0 hE0 h (lv_sub hl [0, 4] rfl) (Nat.le_of_ble_eq_true rfl) (Nat.le_of_ble_eq_true rfl)
  · exact absurd c_3746 (by decide)
set_option maxRecDepth 100000 in
set_option maxHeartbeats 4000000 in
theorem law_11 {p : Program} {l : Launch} {e : Env} {s : State} {m : MethodId} {below : List Frame} {meth : Method} {c : Code} (hst : l.stackTraces = false) {b : Nat} {xs : Nat → Int32} (C0 : lw_At p s m meth c b 8 xs) {D : va_G} {G : Nat → Nat} {b0 : Nat} (hb0 : s.heap.size = b0) (hE0 : hE D G b0 s s.heap) {f : hM} {X M : Nat → Nat} {o : Nat} (hX : xw G f X) (hM : mw G f M) (hMX : ∀ i, i ∈ XI → M 0 ≠ X i ∧ M 1 ≠ X i ∧ M 2 ≠ X i ∧ M 3 ≠ X i ∧ M 4 ≠ X i ∧ M 6 ≠ X i) {H : Heap} {locs : List Loc} {ls : Array Slot} (h : hw D b0 s.heap f H locs) (hl : lv_has ls 7 [(4, .int 0), (3, .ref o), (2, .ref (M 0)), (1, .ref (X 0)), (0, .ref b)]) : W p l e room_1 s m #[Value.ref b] below meth c H locs 125 106894 (lw_Z below #[Value.ref b] s) (F0 m 631 ls []) := by
  obtain ⟨hx, hb, hr, hml, hown, hts0, hXs, hbl, hlk, hgv⟩ := id C0
  have hts : ∀ w ∈ wAll, w.before #[Value.ref b] s = true := fun w hw => hts0 w (wAll_tbl w hw)
  have C : hC p s m #[Value.ref b] meth c cL_law 7 RL D G b0 := ⟨hx, hb, hml, hown, hts, hE0, hlk⟩
  have hbA : ¬ hA b0 b := by rw [← hb0]; exact Nat.not_le.mpr hbl
  obtain ⟨kx0, kx1, kx2, kx3, kx4, kx5, kx6, kx7, kx8, kx9⟩ := (id hX)
  obtain ⟨km0, km1, km2, km3, km4, km5⟩ := (id hM)
  refine lv_aload_n hx hb dL_law_631 rfl (lv_at hl 3 rfl) ?_
  refine lv_aload_n hx hb dL_law_632 rfl (lv_at hl 4 rfl) ?_
  refine lv_iload hx hb dL_law_633 (lv_at hl 0 rfl) ?_
  refine lv_iconst (v := 1) hx hb dL_law_635 (by decide) ?_
  refine lv_iadd hx hb dL_law_636 ?_
  refine lv_topi (fun x_ e_ => ?_)
  obtain rfl : 1 = x_ := by rw [e_]; decide
  refine va_sld hx hb hXs hbl hbA h.2.2.1 (by unfold vp_in; decide) dL_law_637 ?_
  refine lv_aload_n hx hb dL_law_638 rfl (lv_at hl 4 rfl) ?_
  refine lv_iload hx hb dL_law_639 (lv_at hl 0 rfl) ?_
  refine lv_iconst (v := 2) hx hb dL_law_641 (by decide) ?_
  refine lv_iadd hx hb dL_law_642 ?_
  refine lv_topi (fun x_ e_ => ?_)
  obtain rfl : 2 = x_ := by rw [e_]; decide
  refine va_sld hx hb hXs hbl hbA h.2.2.1 (by unfold vp_in; decide) dL_law_643 ?_
  refine lv_aload_n hx hb dL_law_644 rfl (lv_at hl 1 rfl) ?_
  refine vx_calli (vx_runSX (Ts := wAll) (own := RL) (bytes := cL_rule) (maxL := 5) (ret := some .int) (hh := [(0, 10, 13, 13)]) (As := [.ref (X 0), .int (xs (Int32.toNatClampNeg 1)), .int (xs (Int32.toNatClampNeg 2)), .ref o]) (rest := []) ⟨hx, hb, hml, hown, hts⟩ (c_L_rule l hst D G b0 f X hX (xs (Int32.toNatClampNeg 1)) (xs (Int32.toNatClampNeg 2)) o) (vx_cwSW 4 hts lrule_in rfl rfl rfl (by decide +kernel) ⟨Nat.le_of_ble_eq_true rfl, Nat.le_of_ble_eq_true rfl⟩) ⟨hPre_blind _, hPre_of C h _⟩ rfl rfl hl.1 rfl (lv_room (Nat.le_of_ble_eq_true rfl)) dL_law_645 ⟨Nat.le_of_ble_eq_true rfl, Nat.le_of_ble_eq_true rfl⟩) h.2.2.1 (fun q _ h => h) (fun q h => h) (fun q _ h => h) (fun E ce q9 u t H1 locs1 _ _ hpx => hpx.elim) (fun r f1 t H1 locs1 ht hvm hp hB hz1 hk1 hS => ?_)
  obtain ⟨rfl, rfl⟩ := hp
  have h : hw D b0 s.heap f H1 locs1 := ⟨by rw [← ht]; exact hB.1, hB.2, hS, h.2.2.2⟩
  refine lv_istore (lv' := [(5, .int 1), (4, .int 0), (3, .ref o), (2, .ref (M 0)), (1, .ref (X 0)), (0, .ref b)]) hx hb dL_law_648 hl (by decide) rfl (fun ls hl => ?_)
  refine lv_aload_n hx hb dL_law_650 rfl (lv_at hl 3 rfl) ?_
  refine lv_aload_n hx hb dL_law_651 rfl (lv_at hl 5 rfl) ?_
  refine lv_iload hx hb dL_law_652 (lv_at hl 1 rfl) ?_
  refine lv_iconst (v := 1) hx hb dL_law_654 (by decide) ?_
  refine lv_iadd hx hb dL_law_655 ?_
  refine lv_topi (fun x_ e_ => ?_)
  obtain rfl : 1 = x_ := by rw [e_]; decide
  refine va_sld hx hb hXs hbl hbA h.2.2.1 (by unfold vp_in; decide) dL_law_656 ?_
  refine lv_aload_n hx hb dL_law_657 rfl (lv_at hl 5 rfl) ?_
  refine lv_iload hx hb dL_law_658 (lv_at hl 1 rfl) ?_
  refine lv_iconst (v := 2) hx hb dL_law_660 (by decide) ?_
  refine lv_iadd hx hb dL_law_661 ?_
  refine lv_topi (fun x_ e_ => ?_)
  obtain rfl : 2 = x_ := by rw [e_]; decide
  refine va_sld hx hb hXs hbl hbA h.2.2.1 (by unfold vp_in; decide) dL_law_662 ?_
  refine k_i (r_V C h hl (As := [.int (xs (Int32.toNatClampNeg 1)), .int (xs (Int32.toNatClampNeg 2))]) (rest := []) (c_X11_rule l D G b0 f M ⟨km0, km1, km2, km3, km4, km5⟩ (xs (Int32.toNatClampNeg 1)) (xs (Int32.toNatClampNeg 2))) km0 (Cn := RX11) (T := TX11) (N := 32) rfl rfl mk_X11_rule w_1670 w_1671 w_1672 w_1673 ⟨Nat.le_of_ble_eq_true rfl, Nat.le_of_ble_eq_true rfl⟩ rfl (Nat.le_of_ble_eq_true rfl) ⟨Nat.le_of_ble_eq_true rfl, Nat.le_of_ble_eq_true rfl⟩ rfl dL_law_663) h (fun r_3747 f_3748 H locs p_3749 h => ?_)
  obtain ⟨rfl, e_3750⟩ := p_3749
  have k_3751 : f_3748 (M 0) = some (.inr (12, [.int 1, .ref (M 1), .int 0, .int 0, .int 0, .ref (M 2), .ref (M 3), .ref (M 4), .ref (M 5), .ref (M 6), .int 0, .int 0, .ref (M 7), .ref (M 8), .int 0, .ref (M 9), .ref (M 10), .ref (M 11), .long 0, .ref (M 12), .ref (M 13), .ref (M 14), .ref (M 15), .ref (M 16), .ref (M 17), .ref (M 18), .ref (M 19), .int 0, .int 0, .ref (M 20), .ref (M 21), .int 0])) := by rw [← e_3750]; exact hu_self _ _ _
  refine lv_istore (lv' := [(6, .int 0), (5, .int 1), (4, .int 0), (3, .ref o), (2, .ref (M 0)), (1, .ref (X 0)), (0, .ref b)]) hx hb dL_law_666 hl (by decide) rfl (fun ls hl => ?_)
  refine lv_aload_n hx hb dL_law_668 rfl (lv_at hl 4 rfl) ?_
  refine k_i (r_V C h hl (As := []) (rest := []) (c_X11_thrown l D G b0 f_3748 M k_3751) k_3751 (Cn := RX11) (T := TX11) (N := 32) rfl rfl mk_X11_thrown w_1530 w_1531 w_1532 w_1533 ⟨Nat.le_of_ble_eq_true rfl, Nat.le_of_ble_eq_true rfl⟩ rfl (Nat.le_of_ble_eq_true rfl) ⟨Nat.le_of_ble_eq_true rfl, Nat.le_of_ble_eq_true rfl⟩ rfl dL_law_669) h (fun r_3752 f_3753 H locs p_3754 h => ?_)
  obtain ⟨rfl, rfl⟩ := p_3754
  refine lv_iload hx hb dL_law_672 (lv_at hl 1 rfl) ?_
  refine lv_icmp_eq (tgt := 679) hx hb dL_law_674 (by decide) (fun c_3755 => ?_) (fun c_3755 => ?_)
  · refine lv_iload hx hb dL_law_679 (lv_at hl 1 rfl) ?_
    refine lv_if_ne (tgt := 696) hx hb dL_law_681 (by decide) (fun c_3756 => ?_) (fun c_3756 => ?_)
    · refine lv_goto (tgt := 2593) hx hb dL_law_696 (by decide) ?_
      exact law_end C0 hb0 hE0 h (lv_sub hl [2, 6] rfl) (Nat.le_of_ble_eq_true rfl) (Nat.le_of_ble_eq_true rfl)
    · exact absurd c_3756 (by decide)
  · exact absurd c_3755 (by decide)
set_option maxRecDepth 100000 in
set_option maxHeartbeats 4000000 in
theorem law_12 {p : Program} {l : Launch} {e : Env} {s : State} {m : MethodId} {below : List Frame} {meth : Method} {c : Code} (hst : l.stackTraces = false) {b : Nat} {xs : Nat → Int32} (C0 : lw_At p s m meth c b 8 xs) {D : va_G} {G : Nat → Nat} {b0 : Nat} (hb0 : s.heap.size = b0) (hE0 : hE D G b0 s s.heap) {f : hM} {X M : Nat → Nat} {o : Nat} (hX : xw G f X) (hM : mw G f M) (hMX : ∀ i, i ∈ XI → M 0 ≠ X i ∧ M 1 ≠ X i ∧ M 2 ≠ X i ∧ M 3 ≠ X i ∧ M 4 ≠ X i ∧ M 6 ≠ X i) {H : Heap} {locs : List Loc} {ls : Array Slot} (h : hw D b0 s.heap f H locs) (hl : lv_has ls 7 [(4, .int 0), (3, .ref o), (2, .ref (M 0)), (1, .ref (X 0)), (0, .ref b)]) : W p l e room_1 s m #[Value.ref b] below meth c H locs 125 106894 (lw_Z below #[Value.ref b] s) (F0 m 699 ls []) := by
  obtain ⟨hx, hb, hr, hml, hown, hts0, hXs, hbl, hlk, hgv⟩ := id C0
  have hts : ∀ w ∈ wAll, w.before #[Value.ref b] s = true := fun w hw => hts0 w (wAll_tbl w hw)
  have C : hC p s m #[Value.ref b] meth c cL_law 7 RL D G b0 := ⟨hx, hb, hml, hown, hts, hE0, hlk⟩
  have hbA : ¬ hA b0 b := by rw [← hb0]; exact Nat.not_le.mpr hbl
  obtain ⟨kx0, kx1, kx2, kx3, kx4, kx5, kx6, kx7, kx8, kx9⟩ := (id hX)
  obtain ⟨km0, km1, km2, km3, km4, km5⟩ := (id hM)
  refine lv_aload_n hx hb dL_law_699 rfl (lv_at hl 3 rfl) ?_
  refine lv_aload_n hx hb dL_law_700 rfl (lv_at hl 4 rfl) ?_
  refine lv_iload hx hb dL_law_701 (lv_at hl 0 rfl) ?_
  refine lv_iconst (v := 1) hx hb dL_law_703 (by decide) ?_
  refine lv_iadd hx hb dL_law_704 ?_
  refine lv_topi (fun x_ e_ => ?_)
  obtain rfl : 1 = x_ := by rw [e_]; decide
  refine va_sld hx hb hXs hbl hbA h.2.2.1 (by unfold vp_in; decide) dL_law_705 ?_
  refine lv_aload_n hx hb dL_law_706 rfl (lv_at hl 4 rfl) ?_
  refine lv_iload hx hb dL_law_707 (lv_at hl 0 rfl) ?_
  refine lv_iconst (v := 2) hx hb dL_law_709 (by decide) ?_
  refine lv_iadd hx hb dL_law_710 ?_
  refine lv_topi (fun x_ e_ => ?_)
  obtain rfl : 2 = x_ := by rw [e_]; decide
  refine va_sld hx hb hXs hbl hbA h.2.2.1 (by unfold vp_in; decide) dL_law_711 ?_
  refine lv_aload_n hx hb dL_law_712 rfl (lv_at hl 4 rfl) ?_
  refine lv_iload hx hb dL_law_713 (lv_at hl 0 rfl) ?_
  refine lv_iconst (v := 3) hx hb dL_law_715 (by decide) ?_
  refine lv_iadd hx hb dL_law_716 ?_
  refine lv_topi (fun x_ e_ => ?_)
  obtain rfl : 3 = x_ := by rw [e_]; decide
  refine va_sld hx hb hXs hbl hbA h.2.2.1 (by unfold vp_in; decide) dL_law_717 ?_
  refine lv_aload_n hx hb dL_law_718 rfl (lv_at hl 4 rfl) ?_
  refine lv_iload hx hb dL_law_719 (lv_at hl 0 rfl) ?_
  refine lv_iconst (v := 4) hx hb dL_law_721 (by decide) ?_
  refine lv_iadd hx hb dL_law_722 ?_
  refine lv_topi (fun x_ e_ => ?_)
  obtain rfl : 4 = x_ := by rw [e_]; decide
  refine va_sld hx hb hXs hbl hbA h.2.2.1 (by unfold vp_in; decide) dL_law_723 ?_
  refine lv_aload_n hx hb dL_law_724 rfl (lv_at hl 4 rfl) ?_
  refine lv_iload hx hb dL_law_725 (lv_at hl 0 rfl) ?_
  refine lv_iconst (v := 5) hx hb dL_law_727 (by decide) ?_
  refine lv_iadd hx hb dL_law_728 ?_
  refine lv_topi (fun x_ e_ => ?_)
  obtain rfl : 5 = x_ := by rw [e_]; decide
  refine va_sld hx hb hXs hbl hbA h.2.2.1 (by unfold vp_in; decide) dL_law_729 ?_
  refine k_i (r_V C h hl (As := [.int (xs (Int32.toNatClampNeg 1)), .int (xs (Int32.toNatClampNeg 2)), .int (xs (Int32.toNatClampNeg 3)), .int (xs (Int32.toNatClampNeg 4)), .int (xs (Int32.toNatClampNeg 5))]) (rest := []) (c_X10_at l D G b0 f X hX (xs (Int32.toNatClampNeg 1)) (xs (Int32.toNatClampNeg 2)) (xs (Int32.toNatClampNeg 3)) (xs (Int32.toNatClampNeg 4)) (xs (Int32.toNatClampNeg 5))) kx0 (Cn := RX10) (T := TX10) (N := 10) rfl rfl mk_X10_at w_649 w_650 w_651 w_652 ⟨Nat.le_of_ble_eq_true rfl, Nat.le_of_ble_eq_true rfl⟩ rfl (Nat.le_of_ble_eq_true rfl) ⟨Nat.le_of_ble_eq_true rfl, Nat.le_of_ble_eq_true rfl⟩ rfl dL_law_730) h (fun r_3757 f_3758 H locs p_3759 h => ?_)
  obtain ⟨rfl, p_3759⟩ := p_3759
  have k_3760 : f_3758 (M 0) = some (.inr (12, [.int 0, .ref (M 1), .int 0, .int 0, .int 0, .ref (M 2), .ref (M 3), .ref (M 4), .ref (M 5), .ref (M 6), .int 0, .int 0, .ref (M 7), .ref (M 8), .int 0, .ref (M 9), .ref (M 10), .ref (M 11), .long 0, .ref (M 12), .ref (M 13), .ref (M 14), .ref (M 15), .ref (M 16), .ref (M 17), .ref (M 18), .ref (M 19), .int 0, .int 0, .ref (M 20), .ref (M 21), .int 0])) := (p_3759 _ (fun i hi => (hMX i hi).1)).trans km0
  have k_3761 : f_3758 (M 1) = some (.inl (G 0, 200, .inl (fun _ => 0))) := (p_3759 _ (fun i hi => (hMX i hi).2.1)).trans km1
  have k_3762 : f_3758 (M 2) = some (.inl (G 1, 10, .inl (fun _ => 0))) := (p_3759 _ (fun i hi => (hMX i hi).2.2.1)).trans km2
  have k_3763 : f_3758 (M 3) = some (.inl (G 1, 81, .inl (fun _ => 0))) := (p_3759 _ (fun i hi => (hMX i hi).2.2.2.1)).trans km3
  have k_3764 : f_3758 (M 4) = some (.inl (G 1, 81, .inl (fun _ => 0))) := (p_3759 _ (fun i hi => (hMX i hi).2.2.2.2.1)).trans km4
  have k_3765 : f_3758 (M 6) = some (.inl (G 1, 4, .inl (fun _ => 0))) := (p_3759 _ (fun i hi => (hMX i hi).2.2.2.2.2)).trans km5
  refine lv_aload_n hx hb dL_law_733 rfl (lv_at hl 2 rfl) ?_
  refine lv_aload_n hx hb dL_law_734 rfl (lv_at hl 4 rfl) ?_
  refine lv_iload hx hb dL_law_735 (lv_at hl 0 rfl) ?_
  refine lv_iconst (v := 1) hx hb dL_law_737 (by decide) ?_
  refine lv_iadd hx hb dL_law_738 ?_
  refine lv_topi (fun x_ e_ => ?_)
  obtain rfl : 1 = x_ := by rw [e_]; decide
  refine va_sld hx hb hXs hbl hbA h.2.2.1 (by unfold vp_in; decide) dL_law_739 ?_
  refine lv_aload_n hx hb dL_law_740 rfl (lv_at hl 4 rfl) ?_
  refine lv_iload hx hb dL_law_741 (lv_at hl 0 rfl) ?_
  refine lv_iconst (v := 2) hx hb dL_law_743 (by decide) ?_
  refine lv_iadd hx hb dL_law_744 ?_
  refine lv_topi (fun x_ e_ => ?_)
  obtain rfl : 2 = x_ := by rw [e_]; decide
  refine va_sld hx hb hXs hbl hbA h.2.2.1 (by unfold vp_in; decide) dL_law_745 ?_
  refine lv_aload_n hx hb dL_law_746 rfl (lv_at hl 4 rfl) ?_
  refine lv_iload hx hb dL_law_747 (lv_at hl 0 rfl) ?_
  refine lv_iconst (v := 3) hx hb dL_law_749 (by decide) ?_
  refine lv_iadd hx hb dL_law_750 ?_
  refine lv_topi (fun x_ e_ => ?_)
  obtain rfl : 3 = x_ := by rw [e_]; decide
  refine va_sld hx hb hXs hbl hbA h.2.2.1 (by unfold vp_in; decide) dL_law_751 ?_
  refine lv_aload_n hx hb dL_law_752 rfl (lv_at hl 4 rfl) ?_
  refine lv_iload hx hb dL_law_753 (lv_at hl 0 rfl) ?_
  refine lv_iconst (v := 4) hx hb dL_law_755 (by decide) ?_
  refine lv_iadd hx hb dL_law_756 ?_
  refine lv_topi (fun x_ e_ => ?_)
  obtain rfl : 4 = x_ := by rw [e_]; decide
  refine va_sld hx hb hXs hbl hbA h.2.2.1 (by unfold vp_in; decide) dL_law_757 ?_
  refine lv_aload_n hx hb dL_law_758 rfl (lv_at hl 4 rfl) ?_
  refine lv_iload hx hb dL_law_759 (lv_at hl 0 rfl) ?_
  refine lv_iconst (v := 5) hx hb dL_law_761 (by decide) ?_
  refine lv_iadd hx hb dL_law_762 ?_
  refine lv_topi (fun x_ e_ => ?_)
  obtain rfl : 5 = x_ := by rw [e_]; decide
  refine va_sld hx hb hXs hbl hbA h.2.2.1 (by unfold vp_in; decide) dL_law_763 ?_
  refine k_i (r_V C h hl (As := [.int (xs (Int32.toNatClampNeg 1)), .int (xs (Int32.toNatClampNeg 2)), .int (xs (Int32.toNatClampNeg 3)), .int (xs (Int32.toNatClampNeg 4)), .int (xs (Int32.toNatClampNeg 5))]) (rest := [.int (-1)]) (c_X11_at l D G b0 f_3758 M ⟨k_3760, k_3761, k_3762, k_3763, k_3764, k_3765⟩ (xs (Int32.toNatClampNeg 1)) (xs (Int32.toNatClampNeg 2)) (xs (Int32.toNatClampNeg 3)) (xs (Int32.toNatClampNeg 4)) (xs (Int32.toNatClampNeg 5))) k_3760 (Cn := RX11) (T := TX11) (N := 32) rfl rfl mk_X11_at w_1689 w_1690 w_1691 w_1692 ⟨Nat.le_of_ble_eq_true rfl, Nat.le_of_ble_eq_true rfl⟩ rfl (Nat.le_of_ble_eq_true rfl) ⟨Nat.le_of_ble_eq_true rfl, Nat.le_of_ble_eq_true rfl⟩ rfl dL_law_764) h (fun r_3766 f_3767 H locs p_3768 h => ?_)
  subst p_3768
  refine lv_icmp_eq (tgt := 2593) hx hb dL_law_767 (by decide) (fun c_3769 => ?_) (fun c_3769 => ?_)
  · exact law_end C0 hb0 hE0 h (lv_sub hl [0, 4] rfl) (Nat.le_of_ble_eq_true rfl) (Nat.le_of_ble_eq_true rfl)
  · exact absurd c_3769 (by decide)
set_option maxRecDepth 100000 in
set_option maxHeartbeats 4000000 in
theorem law_13 {p : Program} {l : Launch} {e : Env} {s : State} {m : MethodId} {below : List Frame} {meth : Method} {c : Code} (hst : l.stackTraces = false) {b : Nat} {xs : Nat → Int32} (C0 : lw_At p s m meth c b 8 xs) {D : va_G} {G : Nat → Nat} {b0 : Nat} (hb0 : s.heap.size = b0) (hE0 : hE D G b0 s s.heap) {f : hM} {X M : Nat → Nat} {o : Nat} (hX : xw G f X) (hM : mw G f M) (hMX : ∀ i, i ∈ XI → M 0 ≠ X i ∧ M 1 ≠ X i ∧ M 2 ≠ X i ∧ M 3 ≠ X i ∧ M 4 ≠ X i ∧ M 6 ≠ X i) {H : Heap} {locs : List Loc} {ls : Array Slot} (h : hw D b0 s.heap f H locs) (hl : lv_has ls 7 [(4, .int 0), (3, .ref o), (2, .ref (M 0)), (1, .ref (X 0)), (0, .ref b)]) : W p l e room_1 s m #[Value.ref b] below meth c H locs 125 106894 (lw_Z below #[Value.ref b] s) (F0 m 772 ls []) := by
  obtain ⟨hx, hb, hr, hml, hown, hts0, hXs, hbl, hlk, hgv⟩ := id C0
  have hts : ∀ w ∈ wAll, w.before #[Value.ref b] s = true := fun w hw => hts0 w (wAll_tbl w hw)
  have C : hC p s m #[Value.ref b] meth c cL_law 7 RL D G b0 := ⟨hx, hb, hml, hown, hts, hE0, hlk⟩
  have hbA : ¬ hA b0 b := by rw [← hb0]; exact Nat.not_le.mpr hbl
  obtain ⟨kx0, kx1, kx2, kx3, kx4, kx5, kx6, kx7, kx8, kx9⟩ := (id hX)
  obtain ⟨km0, km1, km2, km3, km4, km5⟩ := (id hM)
  refine lv_aload_n hx hb dL_law_772 rfl (lv_at hl 3 rfl) ?_
  refine lv_aload_n hx hb dL_law_773 rfl (lv_at hl 4 rfl) ?_
  refine lv_iload hx hb dL_law_774 (lv_at hl 0 rfl) ?_
  refine lv_iconst (v := 1) hx hb dL_law_776 (by decide) ?_
  refine lv_iadd hx hb dL_law_777 ?_
  refine lv_topi (fun x_ e_ => ?_)
  obtain rfl : 1 = x_ := by rw [e_]; decide
  refine va_sld hx hb hXs hbl hbA h.2.2.1 (by unfold vp_in; decide) dL_law_778 ?_
  refine lv_aload_n hx hb dL_law_779 rfl (lv_at hl 4 rfl) ?_
  refine lv_iload hx hb dL_law_780 (lv_at hl 0 rfl) ?_
  refine lv_iconst (v := 2) hx hb dL_law_782 (by decide) ?_
  refine lv_iadd hx hb dL_law_783 ?_
  refine lv_topi (fun x_ e_ => ?_)
  obtain rfl : 2 = x_ := by rw [e_]; decide
  refine va_sld hx hb hXs hbl hbA h.2.2.1 (by unfold vp_in; decide) dL_law_784 ?_
  refine lv_aload_n hx hb dL_law_785 rfl (lv_at hl 4 rfl) ?_
  refine lv_iload hx hb dL_law_786 (lv_at hl 0 rfl) ?_
  refine lv_iconst (v := 3) hx hb dL_law_788 (by decide) ?_
  refine lv_iadd hx hb dL_law_789 ?_
  refine lv_topi (fun x_ e_ => ?_)
  obtain rfl : 3 = x_ := by rw [e_]; decide
  refine va_sld hx hb hXs hbl hbA h.2.2.1 (by unfold vp_in; decide) dL_law_790 ?_
  refine k_i (r_V C h hl (As := [.int (xs (Int32.toNatClampNeg 1)), .int (xs (Int32.toNatClampNeg 2)), .int (xs (Int32.toNatClampNeg 3))]) (rest := []) (c_X10_series l D G b0 f X hX (xs (Int32.toNatClampNeg 1)) (xs (Int32.toNatClampNeg 2)) (xs (Int32.toNatClampNeg 3))) kx0 (Cn := RX10) (T := TX10) (N := 10) rfl rfl mk_X10_series w_717 w_718 w_719 w_720 ⟨Nat.le_of_ble_eq_true rfl, Nat.le_of_ble_eq_true rfl⟩ rfl (Nat.le_of_ble_eq_true rfl) ⟨Nat.le_of_ble_eq_true rfl, Nat.le_of_ble_eq_true rfl⟩ rfl dL_law_791) h (fun r_3770 f_3771 H locs p_3772 h => ?_)
  obtain ⟨rfl, p_3772⟩ := p_3772
  have k_3773 : f_3771 (M 0) = some (.inr (12, [.int 0, .ref (M 1), .int 0, .int 0, .int 0, .ref (M 2), .ref (M 3), .ref (M 4), .ref (M 5), .ref (M 6), .int 0, .int 0, .ref (M 7), .ref (M 8), .int 0, .ref (M 9), .ref (M 10), .ref (M 11), .long 0, .ref (M 12), .ref (M 13), .ref (M 14), .ref (M 15), .ref (M 16), .ref (M 17), .ref (M 18), .ref (M 19), .int 0, .int 0, .ref (M 20), .ref (M 21), .int 0])) := (p_3772 _ (fun i hi => (hMX i hi).1)).trans km0
  have k_3774 : f_3771 (M 1) = some (.inl (G 0, 200, .inl (fun _ => 0))) := (p_3772 _ (fun i hi => (hMX i hi).2.1)).trans km1
  have k_3775 : f_3771 (M 2) = some (.inl (G 1, 10, .inl (fun _ => 0))) := (p_3772 _ (fun i hi => (hMX i hi).2.2.1)).trans km2
  have k_3776 : f_3771 (M 3) = some (.inl (G 1, 81, .inl (fun _ => 0))) := (p_3772 _ (fun i hi => (hMX i hi).2.2.2.1)).trans km3
  have k_3777 : f_3771 (M 4) = some (.inl (G 1, 81, .inl (fun _ => 0))) := (p_3772 _ (fun i hi => (hMX i hi).2.2.2.2.1)).trans km4
  have k_3778 : f_3771 (M 6) = some (.inl (G 1, 4, .inl (fun _ => 0))) := (p_3772 _ (fun i hi => (hMX i hi).2.2.2.2.2)).trans km5
  refine lv_aload_n hx hb dL_law_794 rfl (lv_at hl 2 rfl) ?_
  refine lv_aload_n hx hb dL_law_795 rfl (lv_at hl 4 rfl) ?_
  refine lv_iload hx hb dL_law_796 (lv_at hl 0 rfl) ?_
  refine lv_iconst (v := 1) hx hb dL_law_798 (by decide) ?_
  refine lv_iadd hx hb dL_law_799 ?_
  refine lv_topi (fun x_ e_ => ?_)
  obtain rfl : 1 = x_ := by rw [e_]; decide
  refine va_sld hx hb hXs hbl hbA h.2.2.1 (by unfold vp_in; decide) dL_law_800 ?_
  refine lv_aload_n hx hb dL_law_801 rfl (lv_at hl 4 rfl) ?_
  refine lv_iload hx hb dL_law_802 (lv_at hl 0 rfl) ?_
  refine lv_iconst (v := 2) hx hb dL_law_804 (by decide) ?_
  refine lv_iadd hx hb dL_law_805 ?_
  refine lv_topi (fun x_ e_ => ?_)
  obtain rfl : 2 = x_ := by rw [e_]; decide
  refine va_sld hx hb hXs hbl hbA h.2.2.1 (by unfold vp_in; decide) dL_law_806 ?_
  refine lv_aload_n hx hb dL_law_807 rfl (lv_at hl 4 rfl) ?_
  refine lv_iload hx hb dL_law_808 (lv_at hl 0 rfl) ?_
  refine lv_iconst (v := 3) hx hb dL_law_810 (by decide) ?_
  refine lv_iadd hx hb dL_law_811 ?_
  refine lv_topi (fun x_ e_ => ?_)
  obtain rfl : 3 = x_ := by rw [e_]; decide
  refine va_sld hx hb hXs hbl hbA h.2.2.1 (by unfold vp_in; decide) dL_law_812 ?_
  refine k_i (r_V C h hl (As := [.int (xs (Int32.toNatClampNeg 1)), .int (xs (Int32.toNatClampNeg 2)), .int (xs (Int32.toNatClampNeg 3))]) (rest := [.int (-1)]) (c_X11_series l D G b0 f_3771 M ⟨k_3773, k_3774, k_3775, k_3776, k_3777, k_3778⟩ (xs (Int32.toNatClampNeg 1)) (xs (Int32.toNatClampNeg 2)) (xs (Int32.toNatClampNeg 3))) k_3773 (Cn := RX11) (T := TX11) (N := 32) rfl rfl mk_X11_series w_1730 w_1731 w_1732 w_1733 ⟨Nat.le_of_ble_eq_true rfl, Nat.le_of_ble_eq_true rfl⟩ rfl (Nat.le_of_ble_eq_true rfl) ⟨Nat.le_of_ble_eq_true rfl, Nat.le_of_ble_eq_true rfl⟩ rfl dL_law_813) h (fun r_3779 f_3780 H locs p_3781 h => ?_)
  subst p_3781
  refine lv_icmp_eq (tgt := 2593) hx hb dL_law_816 (by decide) (fun c_3782 => ?_) (fun c_3782 => ?_)
  · exact law_end C0 hb0 hE0 h (lv_sub hl [0, 4] rfl) (Nat.le_of_ble_eq_true rfl) (Nat.le_of_ble_eq_true rfl)
  · exact absurd c_3782 (by decide)
set_option maxRecDepth 100000 in
set_option maxHeartbeats 4000000 in
theorem law_14 {p : Program} {l : Launch} {e : Env} {s : State} {m : MethodId} {below : List Frame} {meth : Method} {c : Code} (hst : l.stackTraces = false) {b : Nat} {xs : Nat → Int32} (C0 : lw_At p s m meth c b 8 xs) {D : va_G} {G : Nat → Nat} {b0 : Nat} (hb0 : s.heap.size = b0) (hE0 : hE D G b0 s s.heap) {f : hM} {X M : Nat → Nat} {o : Nat} (hX : xw G f X) (hM : mw G f M) (hMX : ∀ i, i ∈ XI → M 0 ≠ X i ∧ M 1 ≠ X i ∧ M 2 ≠ X i ∧ M 3 ≠ X i ∧ M 4 ≠ X i ∧ M 6 ≠ X i) {H : Heap} {locs : List Loc} {ls : Array Slot} (h : hw D b0 s.heap f H locs) (hl : lv_has ls 7 [(4, .int 0), (3, .ref o), (2, .ref (M 0)), (1, .ref (X 0)), (0, .ref b)]) : W p l e room_1 s m #[Value.ref b] below meth c H locs 125 106894 (lw_Z below #[Value.ref b] s) (F0 m 821 ls []) := by
  obtain ⟨hx, hb, hr, hml, hown, hts0, hXs, hbl, hlk, hgv⟩ := id C0
  have hts : ∀ w ∈ wAll, w.before #[Value.ref b] s = true := fun w hw => hts0 w (wAll_tbl w hw)
  have C : hC p s m #[Value.ref b] meth c cL_law 7 RL D G b0 := ⟨hx, hb, hml, hown, hts, hE0, hlk⟩
  have hbA : ¬ hA b0 b := by rw [← hb0]; exact Nat.not_le.mpr hbl
  obtain ⟨kx0, kx1, kx2, kx3, kx4, kx5, kx6, kx7, kx8, kx9⟩ := (id hX)
  obtain ⟨km0, km1, km2, km3, km4, km5⟩ := (id hM)
  refine lv_aload_n hx hb dL_law_821 rfl (lv_at hl 3 rfl) ?_
  refine lv_aload_n hx hb dL_law_822 rfl (lv_at hl 4 rfl) ?_
  refine lv_iload hx hb dL_law_823 (lv_at hl 0 rfl) ?_
  refine lv_iconst (v := 1) hx hb dL_law_825 (by decide) ?_
  refine lv_iadd hx hb dL_law_826 ?_
  refine lv_topi (fun x_ e_ => ?_)
  obtain rfl : 1 = x_ := by rw [e_]; decide
  refine va_sld hx hb hXs hbl hbA h.2.2.1 (by unfold vp_in; decide) dL_law_827 ?_
  refine lv_aload_n hx hb dL_law_828 rfl (lv_at hl 4 rfl) ?_
  refine lv_iload hx hb dL_law_829 (lv_at hl 0 rfl) ?_
  refine lv_iconst (v := 2) hx hb dL_law_831 (by decide) ?_
  refine lv_iadd hx hb dL_law_832 ?_
  refine lv_topi (fun x_ e_ => ?_)
  obtain rfl : 2 = x_ := by rw [e_]; decide
  refine va_sld hx hb hXs hbl hbA h.2.2.1 (by unfold vp_in; decide) dL_law_833 ?_
  refine lv_aload_n hx hb dL_law_834 rfl (lv_at hl 4 rfl) ?_
  refine lv_iload hx hb dL_law_835 (lv_at hl 0 rfl) ?_
  refine lv_iconst (v := 3) hx hb dL_law_837 (by decide) ?_
  refine lv_iadd hx hb dL_law_838 ?_
  refine lv_topi (fun x_ e_ => ?_)
  obtain rfl : 3 = x_ := by rw [e_]; decide
  refine va_sld hx hb hXs hbl hbA h.2.2.1 (by unfold vp_in; decide) dL_law_839 ?_
  refine lv_aload_n hx hb dL_law_840 rfl (lv_at hl 4 rfl) ?_
  refine lv_iload hx hb dL_law_841 (lv_at hl 0 rfl) ?_
  refine lv_iconst (v := 4) hx hb dL_law_843 (by decide) ?_
  refine lv_iadd hx hb dL_law_844 ?_
  refine lv_topi (fun x_ e_ => ?_)
  obtain rfl : 4 = x_ := by rw [e_]; decide
  refine va_sld hx hb hXs hbl hbA h.2.2.1 (by unfold vp_in; decide) dL_law_845 ?_
  refine k_l (r_V C h hl (As := [.int (xs (Int32.toNatClampNeg 1)), .int (xs (Int32.toNatClampNeg 2)), .int (xs (Int32.toNatClampNeg 3)), .int (xs (Int32.toNatClampNeg 4))]) (rest := []) (c_X10_exact l D G b0 f X hX (xs (Int32.toNatClampNeg 1)) (xs (Int32.toNatClampNeg 2)) (xs (Int32.toNatClampNeg 3)) (xs (Int32.toNatClampNeg 4))) kx0 (Cn := RX10) (T := TX10) (N := 10) rfl rfl mk_X10_exact w_749 w_750 w_751 w_752 ⟨Nat.le_of_ble_eq_true rfl, Nat.le_of_ble_eq_true rfl⟩ rfl (Nat.le_of_ble_eq_true rfl) ⟨Nat.le_of_ble_eq_true rfl, Nat.le_of_ble_eq_true rfl⟩ rfl dL_law_846) h (fun r_3783 f_3784 H locs p_3785 h => ?_)
  obtain ⟨rfl, p_3785⟩ := p_3785
  have k_3786 : f_3784 (M 0) = some (.inr (12, [.int 0, .ref (M 1), .int 0, .int 0, .int 0, .ref (M 2), .ref (M 3), .ref (M 4), .ref (M 5), .ref (M 6), .int 0, .int 0, .ref (M 7), .ref (M 8), .int 0, .ref (M 9), .ref (M 10), .ref (M 11), .long 0, .ref (M 12), .ref (M 13), .ref (M 14), .ref (M 15), .ref (M 16), .ref (M 17), .ref (M 18), .ref (M 19), .int 0, .int 0, .ref (M 20), .ref (M 21), .int 0])) := (p_3785 _ (fun i hi => (hMX i hi).1)).trans km0
  have k_3787 : f_3784 (M 1) = some (.inl (G 0, 200, .inl (fun _ => 0))) := (p_3785 _ (fun i hi => (hMX i hi).2.1)).trans km1
  have k_3788 : f_3784 (M 2) = some (.inl (G 1, 10, .inl (fun _ => 0))) := (p_3785 _ (fun i hi => (hMX i hi).2.2.1)).trans km2
  have k_3789 : f_3784 (M 3) = some (.inl (G 1, 81, .inl (fun _ => 0))) := (p_3785 _ (fun i hi => (hMX i hi).2.2.2.1)).trans km3
  have k_3790 : f_3784 (M 4) = some (.inl (G 1, 81, .inl (fun _ => 0))) := (p_3785 _ (fun i hi => (hMX i hi).2.2.2.2.1)).trans km4
  have k_3791 : f_3784 (M 6) = some (.inl (G 1, 4, .inl (fun _ => 0))) := (p_3785 _ (fun i hi => (hMX i hi).2.2.2.2.2)).trans km5
  refine lv_aload_n hx hb dL_law_849 rfl (lv_at hl 2 rfl) ?_
  refine lv_aload_n hx hb dL_law_850 rfl (lv_at hl 4 rfl) ?_
  refine lv_iload hx hb dL_law_851 (lv_at hl 0 rfl) ?_
  refine lv_iconst (v := 1) hx hb dL_law_853 (by decide) ?_
  refine lv_iadd hx hb dL_law_854 ?_
  refine lv_topi (fun x_ e_ => ?_)
  obtain rfl : 1 = x_ := by rw [e_]; decide
  refine va_sld hx hb hXs hbl hbA h.2.2.1 (by unfold vp_in; decide) dL_law_855 ?_
  refine lv_aload_n hx hb dL_law_856 rfl (lv_at hl 4 rfl) ?_
  refine lv_iload hx hb dL_law_857 (lv_at hl 0 rfl) ?_
  refine lv_iconst (v := 2) hx hb dL_law_859 (by decide) ?_
  refine lv_iadd hx hb dL_law_860 ?_
  refine lv_topi (fun x_ e_ => ?_)
  obtain rfl : 2 = x_ := by rw [e_]; decide
  refine va_sld hx hb hXs hbl hbA h.2.2.1 (by unfold vp_in; decide) dL_law_861 ?_
  refine lv_aload_n hx hb dL_law_862 rfl (lv_at hl 4 rfl) ?_
  refine lv_iload hx hb dL_law_863 (lv_at hl 0 rfl) ?_
  refine lv_iconst (v := 3) hx hb dL_law_865 (by decide) ?_
  refine lv_iadd hx hb dL_law_866 ?_
  refine lv_topi (fun x_ e_ => ?_)
  obtain rfl : 3 = x_ := by rw [e_]; decide
  refine va_sld hx hb hXs hbl hbA h.2.2.1 (by unfold vp_in; decide) dL_law_867 ?_
  refine lv_aload_n hx hb dL_law_868 rfl (lv_at hl 4 rfl) ?_
  refine lv_iload hx hb dL_law_869 (lv_at hl 0 rfl) ?_
  refine lv_iconst (v := 4) hx hb dL_law_871 (by decide) ?_
  refine lv_iadd hx hb dL_law_872 ?_
  refine lv_topi (fun x_ e_ => ?_)
  obtain rfl : 4 = x_ := by rw [e_]; decide
  refine va_sld hx hb hXs hbl hbA h.2.2.1 (by unfold vp_in; decide) dL_law_873 ?_
  refine k_l (r_V C h hl (As := [.int (xs (Int32.toNatClampNeg 1)), .int (xs (Int32.toNatClampNeg 2)), .int (xs (Int32.toNatClampNeg 3)), .int (xs (Int32.toNatClampNeg 4))]) (rest := [.long (-1)]) (c_X11_exact l D G b0 f_3784 M ⟨k_3786, k_3787, k_3788, k_3789, k_3790, k_3791⟩ (xs (Int32.toNatClampNeg 1)) (xs (Int32.toNatClampNeg 2)) (xs (Int32.toNatClampNeg 3)) (xs (Int32.toNatClampNeg 4))) k_3786 (Cn := RX11) (T := TX11) (N := 32) rfl rfl mk_X11_exact w_1743 w_1744 w_1745 w_1746 ⟨Nat.le_of_ble_eq_true rfl, Nat.le_of_ble_eq_true rfl⟩ rfl (Nat.le_of_ble_eq_true rfl) ⟨Nat.le_of_ble_eq_true rfl, Nat.le_of_ble_eq_true rfl⟩ rfl dL_law_874) h (fun r_3792 f_3793 H locs p_3794 h => ?_)
  subst p_3794
  refine W.lcmp hx hb dL_law_877 ?_
  refine lv_if_eq (tgt := 2593) hx hb dL_law_878 (by decide) (fun c_3795 => ?_) (fun c_3795 => ?_)
  · exact law_end C0 hb0 hE0 h (lv_sub hl [0, 4] rfl) (Nat.le_of_ble_eq_true rfl) (Nat.le_of_ble_eq_true rfl)
  · exact absurd ((lg_cmp_eq _ _).mpr rfl) c_3795
set_option maxRecDepth 100000 in
set_option maxHeartbeats 4000000 in
theorem law_15 {p : Program} {l : Launch} {e : Env} {s : State} {m : MethodId} {below : List Frame} {meth : Method} {c : Code} (hst : l.stackTraces = false) {b : Nat} {xs : Nat → Int32} (C0 : lw_At p s m meth c b 8 xs) {D : va_G} {G : Nat → Nat} {b0 : Nat} (hb0 : s.heap.size = b0) (hE0 : hE D G b0 s s.heap) {f : hM} {X M : Nat → Nat} {o : Nat} (hX : xw G f X) (hM : mw G f M) (hMX : ∀ i, i ∈ XI → M 0 ≠ X i ∧ M 1 ≠ X i ∧ M 2 ≠ X i ∧ M 3 ≠ X i ∧ M 4 ≠ X i ∧ M 6 ≠ X i) {H : Heap} {locs : List Loc} {ls : Array Slot} (h : hw D b0 s.heap f H locs) (hl : lv_has ls 7 [(4, .int 0), (3, .ref o), (2, .ref (M 0)), (1, .ref (X 0)), (0, .ref b)]) : W p l e room_1 s m #[Value.ref b] below meth c H locs 125 106894 (lw_Z below #[Value.ref b] s) (F0 m 883 ls []) := by
  obtain ⟨hx, hb, hr, hml, hown, hts0, hXs, hbl, hlk, hgv⟩ := id C0
  have hts : ∀ w ∈ wAll, w.before #[Value.ref b] s = true := fun w hw => hts0 w (wAll_tbl w hw)
  have C : hC p s m #[Value.ref b] meth c cL_law 7 RL D G b0 := ⟨hx, hb, hml, hown, hts, hE0, hlk⟩
  have hbA : ¬ hA b0 b := by rw [← hb0]; exact Nat.not_le.mpr hbl
  obtain ⟨kx0, kx1, kx2, kx3, kx4, kx5, kx6, kx7, kx8, kx9⟩ := (id hX)
  obtain ⟨km0, km1, km2, km3, km4, km5⟩ := (id hM)
  refine lv_aload_n hx hb dL_law_883 rfl (lv_at hl 3 rfl) ?_
  refine lv_aload_n hx hb dL_law_884 rfl (lv_at hl 4 rfl) ?_
  refine lv_iload hx hb dL_law_885 (lv_at hl 0 rfl) ?_
  refine lv_iconst (v := 1) hx hb dL_law_887 (by decide) ?_
  refine lv_iadd hx hb dL_law_888 ?_
  refine lv_topi (fun x_ e_ => ?_)
  obtain rfl : 1 = x_ := by rw [e_]; decide
  refine va_sld hx hb hXs hbl hbA h.2.2.1 (by unfold vp_in; decide) dL_law_889 ?_
  refine lv_aload_n hx hb dL_law_890 rfl (lv_at hl 4 rfl) ?_
  refine lv_iload hx hb dL_law_891 (lv_at hl 0 rfl) ?_
  refine lv_iconst (v := 2) hx hb dL_law_893 (by decide) ?_
  refine lv_iadd hx hb dL_law_894 ?_
  refine lv_topi (fun x_ e_ => ?_)
  obtain rfl : 2 = x_ := by rw [e_]; decide
  refine va_sld hx hb hXs hbl hbA h.2.2.1 (by unfold vp_in; decide) dL_law_895 ?_
  refine lv_aload_n hx hb dL_law_896 rfl (lv_at hl 4 rfl) ?_
  refine lv_iload hx hb dL_law_897 (lv_at hl 0 rfl) ?_
  refine lv_iconst (v := 3) hx hb dL_law_899 (by decide) ?_
  refine lv_iadd hx hb dL_law_900 ?_
  refine lv_topi (fun x_ e_ => ?_)
  obtain rfl : 3 = x_ := by rw [e_]; decide
  refine va_sld hx hb hXs hbl hbA h.2.2.1 (by unfold vp_in; decide) dL_law_901 ?_
  refine lv_aload_n hx hb dL_law_902 rfl (lv_at hl 4 rfl) ?_
  refine lv_iload hx hb dL_law_903 (lv_at hl 0 rfl) ?_
  refine lv_iconst (v := 4) hx hb dL_law_905 (by decide) ?_
  refine lv_iadd hx hb dL_law_906 ?_
  refine lv_topi (fun x_ e_ => ?_)
  obtain rfl : 4 = x_ := by rw [e_]; decide
  refine va_sld hx hb hXs hbl hbA h.2.2.1 (by unfold vp_in; decide) dL_law_907 ?_
  refine k_i (r_V C h hl (As := [.int (xs (Int32.toNatClampNeg 1)), .int (xs (Int32.toNatClampNeg 2)), .int (xs (Int32.toNatClampNeg 3)), .int (xs (Int32.toNatClampNeg 4))]) (rest := []) (c_X10_bridge l D G b0 f X hX (xs (Int32.toNatClampNeg 1)) (xs (Int32.toNatClampNeg 2)) (xs (Int32.toNatClampNeg 3)) (xs (Int32.toNatClampNeg 4))) kx0 (Cn := RX10) (T := TX10) (N := 10) rfl rfl mk_X10_bridge w_758 w_759 w_760 w_761 ⟨Nat.le_of_ble_eq_true rfl, Nat.le_of_ble_eq_true rfl⟩ rfl (Nat.le_of_ble_eq_true rfl) ⟨Nat.le_of_ble_eq_true rfl, Nat.le_of_ble_eq_true rfl⟩ rfl dL_law_908) h (fun r_3796 f_3797 H locs p_3798 h => ?_)
  obtain ⟨rfl, p_3798⟩ := p_3798
  have k_3799 : f_3797 (M 0) = some (.inr (12, [.int 0, .ref (M 1), .int 0, .int 0, .int 0, .ref (M 2), .ref (M 3), .ref (M 4), .ref (M 5), .ref (M 6), .int 0, .int 0, .ref (M 7), .ref (M 8), .int 0, .ref (M 9), .ref (M 10), .ref (M 11), .long 0, .ref (M 12), .ref (M 13), .ref (M 14), .ref (M 15), .ref (M 16), .ref (M 17), .ref (M 18), .ref (M 19), .int 0, .int 0, .ref (M 20), .ref (M 21), .int 0])) := (p_3798 _ (fun i hi => (hMX i hi).1)).trans km0
  have k_3800 : f_3797 (M 1) = some (.inl (G 0, 200, .inl (fun _ => 0))) := (p_3798 _ (fun i hi => (hMX i hi).2.1)).trans km1
  have k_3801 : f_3797 (M 2) = some (.inl (G 1, 10, .inl (fun _ => 0))) := (p_3798 _ (fun i hi => (hMX i hi).2.2.1)).trans km2
  have k_3802 : f_3797 (M 3) = some (.inl (G 1, 81, .inl (fun _ => 0))) := (p_3798 _ (fun i hi => (hMX i hi).2.2.2.1)).trans km3
  have k_3803 : f_3797 (M 4) = some (.inl (G 1, 81, .inl (fun _ => 0))) := (p_3798 _ (fun i hi => (hMX i hi).2.2.2.2.1)).trans km4
  have k_3804 : f_3797 (M 6) = some (.inl (G 1, 4, .inl (fun _ => 0))) := (p_3798 _ (fun i hi => (hMX i hi).2.2.2.2.2)).trans km5
  refine lv_aload_n hx hb dL_law_911 rfl (lv_at hl 2 rfl) ?_
  refine lv_aload_n hx hb dL_law_912 rfl (lv_at hl 4 rfl) ?_
  refine lv_iload hx hb dL_law_913 (lv_at hl 0 rfl) ?_
  refine lv_iconst (v := 1) hx hb dL_law_915 (by decide) ?_
  refine lv_iadd hx hb dL_law_916 ?_
  refine lv_topi (fun x_ e_ => ?_)
  obtain rfl : 1 = x_ := by rw [e_]; decide
  refine va_sld hx hb hXs hbl hbA h.2.2.1 (by unfold vp_in; decide) dL_law_917 ?_
  refine lv_aload_n hx hb dL_law_918 rfl (lv_at hl 4 rfl) ?_
  refine lv_iload hx hb dL_law_919 (lv_at hl 0 rfl) ?_
  refine lv_iconst (v := 2) hx hb dL_law_921 (by decide) ?_
  refine lv_iadd hx hb dL_law_922 ?_
  refine lv_topi (fun x_ e_ => ?_)
  obtain rfl : 2 = x_ := by rw [e_]; decide
  refine va_sld hx hb hXs hbl hbA h.2.2.1 (by unfold vp_in; decide) dL_law_923 ?_
  refine lv_aload_n hx hb dL_law_924 rfl (lv_at hl 4 rfl) ?_
  refine lv_iload hx hb dL_law_925 (lv_at hl 0 rfl) ?_
  refine lv_iconst (v := 3) hx hb dL_law_927 (by decide) ?_
  refine lv_iadd hx hb dL_law_928 ?_
  refine lv_topi (fun x_ e_ => ?_)
  obtain rfl : 3 = x_ := by rw [e_]; decide
  refine va_sld hx hb hXs hbl hbA h.2.2.1 (by unfold vp_in; decide) dL_law_929 ?_
  refine lv_aload_n hx hb dL_law_930 rfl (lv_at hl 4 rfl) ?_
  refine lv_iload hx hb dL_law_931 (lv_at hl 0 rfl) ?_
  refine lv_iconst (v := 4) hx hb dL_law_933 (by decide) ?_
  refine lv_iadd hx hb dL_law_934 ?_
  refine lv_topi (fun x_ e_ => ?_)
  obtain rfl : 4 = x_ := by rw [e_]; decide
  refine va_sld hx hb hXs hbl hbA h.2.2.1 (by unfold vp_in; decide) dL_law_935 ?_
  refine k_i (r_V C h hl (As := [.int (xs (Int32.toNatClampNeg 1)), .int (xs (Int32.toNatClampNeg 2)), .int (xs (Int32.toNatClampNeg 3)), .int (xs (Int32.toNatClampNeg 4))]) (rest := [.int (-1)]) (c_X11_bridge l D G b0 f_3797 M ⟨k_3799, k_3800, k_3801, k_3802, k_3803, k_3804⟩ (xs (Int32.toNatClampNeg 1)) (xs (Int32.toNatClampNeg 2)) (xs (Int32.toNatClampNeg 3)) (xs (Int32.toNatClampNeg 4))) k_3799 (Cn := RX11) (T := TX11) (N := 32) rfl rfl mk_X11_bridge w_1775 w_1776 w_1777 w_1778 ⟨Nat.le_of_ble_eq_true rfl, Nat.le_of_ble_eq_true rfl⟩ rfl (Nat.le_of_ble_eq_true rfl) ⟨Nat.le_of_ble_eq_true rfl, Nat.le_of_ble_eq_true rfl⟩ rfl dL_law_936) h (fun r_3805 f_3806 H locs p_3807 h => ?_)
  subst p_3807
  refine lv_icmp_eq (tgt := 2593) hx hb dL_law_939 (by decide) (fun c_3808 => ?_) (fun c_3808 => ?_)
  · exact law_end C0 hb0 hE0 h (lv_sub hl [0, 4] rfl) (Nat.le_of_ble_eq_true rfl) (Nat.le_of_ble_eq_true rfl)
  · exact absurd c_3808 (by decide)
set_option maxRecDepth 100000 in
set_option maxHeartbeats 4000000 in
theorem law_16 {p : Program} {l : Launch} {e : Env} {s : State} {m : MethodId} {below : List Frame} {meth : Method} {c : Code} (hst : l.stackTraces = false) {b : Nat} {xs : Nat → Int32} (C0 : lw_At p s m meth c b 8 xs) {D : va_G} {G : Nat → Nat} {b0 : Nat} (hb0 : s.heap.size = b0) (hE0 : hE D G b0 s s.heap) {f : hM} {X M : Nat → Nat} {o : Nat} (hX : xw G f X) (hM : mw G f M) (hMX : ∀ i, i ∈ XI → M 0 ≠ X i ∧ M 1 ≠ X i ∧ M 2 ≠ X i ∧ M 3 ≠ X i ∧ M 4 ≠ X i ∧ M 6 ≠ X i) {H : Heap} {locs : List Loc} {ls : Array Slot} (h : hw D b0 s.heap f H locs) (hl : lv_has ls 7 [(4, .int 0), (3, .ref o), (2, .ref (M 0)), (1, .ref (X 0)), (0, .ref b)]) : W p l e room_1 s m #[Value.ref b] below meth c H locs 125 106894 (lw_Z below #[Value.ref b] s) (F0 m 944 ls []) := by
  obtain ⟨hx, hb, hr, hml, hown, hts0, hXs, hbl, hlk, hgv⟩ := id C0
  have hts : ∀ w ∈ wAll, w.before #[Value.ref b] s = true := fun w hw => hts0 w (wAll_tbl w hw)
  have C : hC p s m #[Value.ref b] meth c cL_law 7 RL D G b0 := ⟨hx, hb, hml, hown, hts, hE0, hlk⟩
  have hbA : ¬ hA b0 b := by rw [← hb0]; exact Nat.not_le.mpr hbl
  obtain ⟨kx0, kx1, kx2, kx3, kx4, kx5, kx6, kx7, kx8, kx9⟩ := (id hX)
  obtain ⟨km0, km1, km2, km3, km4, km5⟩ := (id hM)
  refine lv_aload_n hx hb dL_law_944 rfl (lv_at hl 3 rfl) ?_
  refine lv_aload_n hx hb dL_law_945 rfl (lv_at hl 4 rfl) ?_
  refine lv_iload hx hb dL_law_946 (lv_at hl 0 rfl) ?_
  refine lv_iconst (v := 1) hx hb dL_law_948 (by decide) ?_
  refine lv_iadd hx hb dL_law_949 ?_
  refine lv_topi (fun x_ e_ => ?_)
  obtain rfl : 1 = x_ := by rw [e_]; decide
  refine va_sld hx hb hXs hbl hbA h.2.2.1 (by unfold vp_in; decide) dL_law_950 ?_
  refine lv_aload_n hx hb dL_law_951 rfl (lv_at hl 4 rfl) ?_
  refine lv_iload hx hb dL_law_952 (lv_at hl 0 rfl) ?_
  refine lv_iconst (v := 2) hx hb dL_law_954 (by decide) ?_
  refine lv_iadd hx hb dL_law_955 ?_
  refine lv_topi (fun x_ e_ => ?_)
  obtain rfl : 2 = x_ := by rw [e_]; decide
  refine va_sld hx hb hXs hbl hbA h.2.2.1 (by unfold vp_in; decide) dL_law_956 ?_
  refine lv_aload_n hx hb dL_law_957 rfl (lv_at hl 4 rfl) ?_
  refine lv_iload hx hb dL_law_958 (lv_at hl 0 rfl) ?_
  refine lv_iconst (v := 3) hx hb dL_law_960 (by decide) ?_
  refine lv_iadd hx hb dL_law_961 ?_
  refine lv_topi (fun x_ e_ => ?_)
  obtain rfl : 3 = x_ := by rw [e_]; decide
  refine va_sld hx hb hXs hbl hbA h.2.2.1 (by unfold vp_in; decide) dL_law_962 ?_
  refine lv_aload_n hx hb dL_law_963 rfl (lv_at hl 4 rfl) ?_
  refine lv_iload hx hb dL_law_964 (lv_at hl 0 rfl) ?_
  refine lv_iconst (v := 4) hx hb dL_law_966 (by decide) ?_
  refine lv_iadd hx hb dL_law_967 ?_
  refine lv_topi (fun x_ e_ => ?_)
  obtain rfl : 4 = x_ := by rw [e_]; decide
  refine va_sld hx hb hXs hbl hbA h.2.2.1 (by unfold vp_in; decide) dL_law_968 ?_
  refine k_i (r_V C h hl (As := [.int (xs (Int32.toNatClampNeg 1)), .int (xs (Int32.toNatClampNeg 2)), .int (xs (Int32.toNatClampNeg 3)), .int (xs (Int32.toNatClampNeg 4))]) (rest := []) (c_X10_reflected l D G b0 f X hX (xs (Int32.toNatClampNeg 1)) (xs (Int32.toNatClampNeg 2)) (xs (Int32.toNatClampNeg 3)) (xs (Int32.toNatClampNeg 4))) kx0 (Cn := RX10) (T := TX10) (N := 10) rfl rfl mk_X10_reflected w_768 w_769 w_770 w_771 ⟨Nat.le_of_ble_eq_true rfl, Nat.le_of_ble_eq_true rfl⟩ rfl (Nat.le_of_ble_eq_true rfl) ⟨Nat.le_of_ble_eq_true rfl, Nat.le_of_ble_eq_true rfl⟩ rfl dL_law_969) h (fun r_3809 f_3810 H locs p_3811 h => ?_)
  obtain ⟨rfl, p_3811⟩ := p_3811
  have k_3812 : f_3810 (M 0) = some (.inr (12, [.int 0, .ref (M 1), .int 0, .int 0, .int 0, .ref (M 2), .ref (M 3), .ref (M 4), .ref (M 5), .ref (M 6), .int 0, .int 0, .ref (M 7), .ref (M 8), .int 0, .ref (M 9), .ref (M 10), .ref (M 11), .long 0, .ref (M 12), .ref (M 13), .ref (M 14), .ref (M 15), .ref (M 16), .ref (M 17), .ref (M 18), .ref (M 19), .int 0, .int 0, .ref (M 20), .ref (M 21), .int 0])) := (p_3811 _ (fun i hi => (hMX i hi).1)).trans km0
  have k_3813 : f_3810 (M 1) = some (.inl (G 0, 200, .inl (fun _ => 0))) := (p_3811 _ (fun i hi => (hMX i hi).2.1)).trans km1
  have k_3814 : f_3810 (M 2) = some (.inl (G 1, 10, .inl (fun _ => 0))) := (p_3811 _ (fun i hi => (hMX i hi).2.2.1)).trans km2
  have k_3815 : f_3810 (M 3) = some (.inl (G 1, 81, .inl (fun _ => 0))) := (p_3811 _ (fun i hi => (hMX i hi).2.2.2.1)).trans km3
  have k_3816 : f_3810 (M 4) = some (.inl (G 1, 81, .inl (fun _ => 0))) := (p_3811 _ (fun i hi => (hMX i hi).2.2.2.2.1)).trans km4
  have k_3817 : f_3810 (M 6) = some (.inl (G 1, 4, .inl (fun _ => 0))) := (p_3811 _ (fun i hi => (hMX i hi).2.2.2.2.2)).trans km5
  refine lv_aload_n hx hb dL_law_972 rfl (lv_at hl 2 rfl) ?_
  refine lv_aload_n hx hb dL_law_973 rfl (lv_at hl 4 rfl) ?_
  refine lv_iload hx hb dL_law_974 (lv_at hl 0 rfl) ?_
  refine lv_iconst (v := 1) hx hb dL_law_976 (by decide) ?_
  refine lv_iadd hx hb dL_law_977 ?_
  refine lv_topi (fun x_ e_ => ?_)
  obtain rfl : 1 = x_ := by rw [e_]; decide
  refine va_sld hx hb hXs hbl hbA h.2.2.1 (by unfold vp_in; decide) dL_law_978 ?_
  refine lv_aload_n hx hb dL_law_979 rfl (lv_at hl 4 rfl) ?_
  refine lv_iload hx hb dL_law_980 (lv_at hl 0 rfl) ?_
  refine lv_iconst (v := 2) hx hb dL_law_982 (by decide) ?_
  refine lv_iadd hx hb dL_law_983 ?_
  refine lv_topi (fun x_ e_ => ?_)
  obtain rfl : 2 = x_ := by rw [e_]; decide
  refine va_sld hx hb hXs hbl hbA h.2.2.1 (by unfold vp_in; decide) dL_law_984 ?_
  refine lv_aload_n hx hb dL_law_985 rfl (lv_at hl 4 rfl) ?_
  refine lv_iload hx hb dL_law_986 (lv_at hl 0 rfl) ?_
  refine lv_iconst (v := 3) hx hb dL_law_988 (by decide) ?_
  refine lv_iadd hx hb dL_law_989 ?_
  refine lv_topi (fun x_ e_ => ?_)
  obtain rfl : 3 = x_ := by rw [e_]; decide
  refine va_sld hx hb hXs hbl hbA h.2.2.1 (by unfold vp_in; decide) dL_law_990 ?_
  refine lv_aload_n hx hb dL_law_991 rfl (lv_at hl 4 rfl) ?_
  refine lv_iload hx hb dL_law_992 (lv_at hl 0 rfl) ?_
  refine lv_iconst (v := 4) hx hb dL_law_994 (by decide) ?_
  refine lv_iadd hx hb dL_law_995 ?_
  refine lv_topi (fun x_ e_ => ?_)
  obtain rfl : 4 = x_ := by rw [e_]; decide
  refine va_sld hx hb hXs hbl hbA h.2.2.1 (by unfold vp_in; decide) dL_law_996 ?_
  refine k_i (r_V C h hl (As := [.int (xs (Int32.toNatClampNeg 1)), .int (xs (Int32.toNatClampNeg 2)), .int (xs (Int32.toNatClampNeg 3)), .int (xs (Int32.toNatClampNeg 4))]) (rest := [.int (-1000000)]) (c_X11_reflected l D G b0 f_3810 M ⟨k_3812, k_3813, k_3814, k_3815, k_3816, k_3817⟩ (xs (Int32.toNatClampNeg 1)) (xs (Int32.toNatClampNeg 2)) (xs (Int32.toNatClampNeg 3)) (xs (Int32.toNatClampNeg 4))) k_3812 (Cn := RX11) (T := TX11) (N := 32) rfl rfl mk_X11_reflected w_1783 w_1784 w_1785 w_1786 ⟨Nat.le_of_ble_eq_true rfl, Nat.le_of_ble_eq_true rfl⟩ rfl (Nat.le_of_ble_eq_true rfl) ⟨Nat.le_of_ble_eq_true rfl, Nat.le_of_ble_eq_true rfl⟩ rfl dL_law_997) h (fun r_3818 f_3819 H locs p_3820 h => ?_)
  subst p_3820
  refine lv_icmp_eq (tgt := 2593) hx hb dL_law_1000 (by decide) (fun c_3821 => ?_) (fun c_3821 => ?_)
  · exact law_end C0 hb0 hE0 h (lv_sub hl [0, 4] rfl) (Nat.le_of_ble_eq_true rfl) (Nat.le_of_ble_eq_true rfl)
  · exact absurd c_3821 (by decide)
set_option maxRecDepth 100000 in
set_option maxHeartbeats 4000000 in
theorem law_17 {p : Program} {l : Launch} {e : Env} {s : State} {m : MethodId} {below : List Frame} {meth : Method} {c : Code} (hst : l.stackTraces = false) {b : Nat} {xs : Nat → Int32} (C0 : lw_At p s m meth c b 8 xs) {D : va_G} {G : Nat → Nat} {b0 : Nat} (hb0 : s.heap.size = b0) (hE0 : hE D G b0 s s.heap) {f : hM} {X M : Nat → Nat} {o : Nat} (hX : xw G f X) (hM : mw G f M) (hMX : ∀ i, i ∈ XI → M 0 ≠ X i ∧ M 1 ≠ X i ∧ M 2 ≠ X i ∧ M 3 ≠ X i ∧ M 4 ≠ X i ∧ M 6 ≠ X i) {H : Heap} {locs : List Loc} {ls : Array Slot} (h : hw D b0 s.heap f H locs) (hl : lv_has ls 7 [(4, .int 0), (3, .ref o), (2, .ref (M 0)), (1, .ref (X 0)), (0, .ref b)]) : W p l e room_1 s m #[Value.ref b] below meth c H locs 125 106894 (lw_Z below #[Value.ref b] s) (F0 m 1005 ls []) := by
  obtain ⟨hx, hb, hr, hml, hown, hts0, hXs, hbl, hlk, hgv⟩ := id C0
  have hts : ∀ w ∈ wAll, w.before #[Value.ref b] s = true := fun w hw => hts0 w (wAll_tbl w hw)
  have C : hC p s m #[Value.ref b] meth c cL_law 7 RL D G b0 := ⟨hx, hb, hml, hown, hts, hE0, hlk⟩
  have hbA : ¬ hA b0 b := by rw [← hb0]; exact Nat.not_le.mpr hbl
  obtain ⟨kx0, kx1, kx2, kx3, kx4, kx5, kx6, kx7, kx8, kx9⟩ := (id hX)
  obtain ⟨km0, km1, km2, km3, km4, km5⟩ := (id hM)
  refine lv_aload_n hx hb dL_law_1005 rfl (lv_at hl 3 rfl) ?_
  refine lv_aload_n hx hb dL_law_1006 rfl (lv_at hl 4 rfl) ?_
  refine lv_iload hx hb dL_law_1007 (lv_at hl 0 rfl) ?_
  refine lv_iconst (v := 1) hx hb dL_law_1009 (by decide) ?_
  refine lv_iadd hx hb dL_law_1010 ?_
  refine lv_topi (fun x_ e_ => ?_)
  obtain rfl : 1 = x_ := by rw [e_]; decide
  refine va_sld hx hb hXs hbl hbA h.2.2.1 (by unfold vp_in; decide) dL_law_1011 ?_
  refine lv_aload_n hx hb dL_law_1012 rfl (lv_at hl 4 rfl) ?_
  refine lv_iload hx hb dL_law_1013 (lv_at hl 0 rfl) ?_
  refine lv_iconst (v := 2) hx hb dL_law_1015 (by decide) ?_
  refine lv_iadd hx hb dL_law_1016 ?_
  refine lv_topi (fun x_ e_ => ?_)
  obtain rfl : 2 = x_ := by rw [e_]; decide
  refine va_sld hx hb hXs hbl hbA h.2.2.1 (by unfold vp_in; decide) dL_law_1017 ?_
  refine k_i (r_V C h hl (As := [.int (xs (Int32.toNatClampNeg 1)), .int (xs (Int32.toNatClampNeg 2))]) (rest := []) (c_X10_rank l D G b0 f X hX (xs (Int32.toNatClampNeg 1)) (xs (Int32.toNatClampNeg 2))) kx0 (Cn := RX10) (T := TX10) (N := 10) rfl rfl mk_X10_rank w_782 w_783 w_784 w_785 ⟨Nat.le_of_ble_eq_true rfl, Nat.le_of_ble_eq_true rfl⟩ rfl (Nat.le_of_ble_eq_true rfl) ⟨Nat.le_of_ble_eq_true rfl, Nat.le_of_ble_eq_true rfl⟩ rfl dL_law_1018) h (fun r_3822 f_3823 H locs p_3824 h => ?_)
  obtain ⟨rfl, p_3824⟩ := p_3824
  have k_3825 : f_3823 (M 0) = some (.inr (12, [.int 0, .ref (M 1), .int 0, .int 0, .int 0, .ref (M 2), .ref (M 3), .ref (M 4), .ref (M 5), .ref (M 6), .int 0, .int 0, .ref (M 7), .ref (M 8), .int 0, .ref (M 9), .ref (M 10), .ref (M 11), .long 0, .ref (M 12), .ref (M 13), .ref (M 14), .ref (M 15), .ref (M 16), .ref (M 17), .ref (M 18), .ref (M 19), .int 0, .int 0, .ref (M 20), .ref (M 21), .int 0])) := (p_3824 _ (fun i hi => (hMX i hi).1)).trans km0
  have k_3826 : f_3823 (M 1) = some (.inl (G 0, 200, .inl (fun _ => 0))) := (p_3824 _ (fun i hi => (hMX i hi).2.1)).trans km1
  have k_3827 : f_3823 (M 2) = some (.inl (G 1, 10, .inl (fun _ => 0))) := (p_3824 _ (fun i hi => (hMX i hi).2.2.1)).trans km2
  have k_3828 : f_3823 (M 3) = some (.inl (G 1, 81, .inl (fun _ => 0))) := (p_3824 _ (fun i hi => (hMX i hi).2.2.2.1)).trans km3
  have k_3829 : f_3823 (M 4) = some (.inl (G 1, 81, .inl (fun _ => 0))) := (p_3824 _ (fun i hi => (hMX i hi).2.2.2.2.1)).trans km4
  have k_3830 : f_3823 (M 6) = some (.inl (G 1, 4, .inl (fun _ => 0))) := (p_3824 _ (fun i hi => (hMX i hi).2.2.2.2.2)).trans km5
  refine lv_aload_n hx hb dL_law_1021 rfl (lv_at hl 2 rfl) ?_
  refine lv_aload_n hx hb dL_law_1022 rfl (lv_at hl 4 rfl) ?_
  refine lv_iload hx hb dL_law_1023 (lv_at hl 0 rfl) ?_
  refine lv_iconst (v := 1) hx hb dL_law_1025 (by decide) ?_
  refine lv_iadd hx hb dL_law_1026 ?_
  refine lv_topi (fun x_ e_ => ?_)
  obtain rfl : 1 = x_ := by rw [e_]; decide
  refine va_sld hx hb hXs hbl hbA h.2.2.1 (by unfold vp_in; decide) dL_law_1027 ?_
  refine lv_aload_n hx hb dL_law_1028 rfl (lv_at hl 4 rfl) ?_
  refine lv_iload hx hb dL_law_1029 (lv_at hl 0 rfl) ?_
  refine lv_iconst (v := 2) hx hb dL_law_1031 (by decide) ?_
  refine lv_iadd hx hb dL_law_1032 ?_
  refine lv_topi (fun x_ e_ => ?_)
  obtain rfl : 2 = x_ := by rw [e_]; decide
  refine va_sld hx hb hXs hbl hbA h.2.2.1 (by unfold vp_in; decide) dL_law_1033 ?_
  refine k_i (r_V C h hl (As := [.int (xs (Int32.toNatClampNeg 1)), .int (xs (Int32.toNatClampNeg 2))]) (rest := [.int (-1)]) (c_X11_rank l D G b0 f_3823 M ⟨k_3825, k_3826, k_3827, k_3828, k_3829, k_3830⟩ (xs (Int32.toNatClampNeg 1)) (xs (Int32.toNatClampNeg 2))) k_3825 (Cn := RX11) (T := TX11) (N := 32) rfl rfl mk_X11_rank w_1811 w_1812 w_1813 w_1814 ⟨Nat.le_of_ble_eq_true rfl, Nat.le_of_ble_eq_true rfl⟩ rfl (Nat.le_of_ble_eq_true rfl) ⟨Nat.le_of_ble_eq_true rfl, Nat.le_of_ble_eq_true rfl⟩ rfl dL_law_1034) h (fun r_3831 f_3832 H locs p_3833 h => ?_)
  subst p_3833
  refine lv_icmp_eq (tgt := 2593) hx hb dL_law_1037 (by decide) (fun c_3834 => ?_) (fun c_3834 => ?_)
  · exact law_end C0 hb0 hE0 h (lv_sub hl [0, 4] rfl) (Nat.le_of_ble_eq_true rfl) (Nat.le_of_ble_eq_true rfl)
  · exact absurd c_3834 (by decide)
set_option maxRecDepth 100000 in
set_option maxHeartbeats 4000000 in
theorem law_18 {p : Program} {l : Launch} {e : Env} {s : State} {m : MethodId} {below : List Frame} {meth : Method} {c : Code} (hst : l.stackTraces = false) {b : Nat} {xs : Nat → Int32} (C0 : lw_At p s m meth c b 8 xs) {D : va_G} {G : Nat → Nat} {b0 : Nat} (hb0 : s.heap.size = b0) (hE0 : hE D G b0 s s.heap) {f : hM} {X M : Nat → Nat} {o : Nat} (hX : xw G f X) (hM : mw G f M) (hMX : ∀ i, i ∈ XI → M 0 ≠ X i ∧ M 1 ≠ X i ∧ M 2 ≠ X i ∧ M 3 ≠ X i ∧ M 4 ≠ X i ∧ M 6 ≠ X i) {H : Heap} {locs : List Loc} {ls : Array Slot} (h : hw D b0 s.heap f H locs) (hl : lv_has ls 7 [(4, .int 0), (3, .ref o), (2, .ref (M 0)), (1, .ref (X 0)), (0, .ref b)]) : W p l e room_1 s m #[Value.ref b] below meth c H locs 125 106894 (lw_Z below #[Value.ref b] s) (F0 m 1042 ls []) := by
  obtain ⟨hx, hb, hr, hml, hown, hts0, hXs, hbl, hlk, hgv⟩ := id C0
  have hts : ∀ w ∈ wAll, w.before #[Value.ref b] s = true := fun w hw => hts0 w (wAll_tbl w hw)
  have C : hC p s m #[Value.ref b] meth c cL_law 7 RL D G b0 := ⟨hx, hb, hml, hown, hts, hE0, hlk⟩
  have hbA : ¬ hA b0 b := by rw [← hb0]; exact Nat.not_le.mpr hbl
  obtain ⟨kx0, kx1, kx2, kx3, kx4, kx5, kx6, kx7, kx8, kx9⟩ := (id hX)
  obtain ⟨km0, km1, km2, km3, km4, km5⟩ := (id hM)
  refine lv_aload_n hx hb dL_law_1042 rfl (lv_at hl 3 rfl) ?_
  refine lv_aload_n hx hb dL_law_1043 rfl (lv_at hl 4 rfl) ?_
  refine lv_iload hx hb dL_law_1044 (lv_at hl 0 rfl) ?_
  refine lv_iconst (v := 1) hx hb dL_law_1046 (by decide) ?_
  refine lv_iadd hx hb dL_law_1047 ?_
  refine lv_topi (fun x_ e_ => ?_)
  obtain rfl : 1 = x_ := by rw [e_]; decide
  refine va_sld hx hb hXs hbl hbA h.2.2.1 (by unfold vp_in; decide) dL_law_1048 ?_
  refine lv_aload_n hx hb dL_law_1049 rfl (lv_at hl 4 rfl) ?_
  refine lv_iload hx hb dL_law_1050 (lv_at hl 0 rfl) ?_
  refine lv_iconst (v := 2) hx hb dL_law_1052 (by decide) ?_
  refine lv_iadd hx hb dL_law_1053 ?_
  refine lv_topi (fun x_ e_ => ?_)
  obtain rfl : 2 = x_ := by rw [e_]; decide
  refine va_sld hx hb hXs hbl hbA h.2.2.1 (by unfold vp_in; decide) dL_law_1054 ?_
  refine lv_aload_n hx hb dL_law_1055 rfl (lv_at hl 4 rfl) ?_
  refine lv_iload hx hb dL_law_1056 (lv_at hl 0 rfl) ?_
  refine lv_iconst (v := 3) hx hb dL_law_1058 (by decide) ?_
  refine lv_iadd hx hb dL_law_1059 ?_
  refine lv_topi (fun x_ e_ => ?_)
  obtain rfl : 3 = x_ := by rw [e_]; decide
  refine va_sld hx hb hXs hbl hbA h.2.2.1 (by unfold vp_in; decide) dL_law_1060 ?_
  refine k_i (r_V C h hl (As := [.int (xs (Int32.toNatClampNeg 1)), .int (xs (Int32.toNatClampNeg 2)), .int (xs (Int32.toNatClampNeg 3))]) (rest := []) (c_X10_ratio l D G b0 f X hX (xs (Int32.toNatClampNeg 1)) (xs (Int32.toNatClampNeg 2)) (xs (Int32.toNatClampNeg 3))) kx0 (Cn := RX10) (T := TX10) (N := 10) rfl rfl mk_X10_ratio w_817 w_818 w_819 w_820 ⟨Nat.le_of_ble_eq_true rfl, Nat.le_of_ble_eq_true rfl⟩ rfl (Nat.le_of_ble_eq_true rfl) ⟨Nat.le_of_ble_eq_true rfl, Nat.le_of_ble_eq_true rfl⟩ rfl dL_law_1061) h (fun r_3835 f_3836 H locs p_3837 h => ?_)
  obtain ⟨rfl, p_3837⟩ := p_3837
  have k_3838 : f_3836 (M 0) = some (.inr (12, [.int 0, .ref (M 1), .int 0, .int 0, .int 0, .ref (M 2), .ref (M 3), .ref (M 4), .ref (M 5), .ref (M 6), .int 0, .int 0, .ref (M 7), .ref (M 8), .int 0, .ref (M 9), .ref (M 10), .ref (M 11), .long 0, .ref (M 12), .ref (M 13), .ref (M 14), .ref (M 15), .ref (M 16), .ref (M 17), .ref (M 18), .ref (M 19), .int 0, .int 0, .ref (M 20), .ref (M 21), .int 0])) := (p_3837 _ (fun i hi => (hMX i hi).1)).trans km0
  have k_3839 : f_3836 (M 1) = some (.inl (G 0, 200, .inl (fun _ => 0))) := (p_3837 _ (fun i hi => (hMX i hi).2.1)).trans km1
  have k_3840 : f_3836 (M 2) = some (.inl (G 1, 10, .inl (fun _ => 0))) := (p_3837 _ (fun i hi => (hMX i hi).2.2.1)).trans km2
  have k_3841 : f_3836 (M 3) = some (.inl (G 1, 81, .inl (fun _ => 0))) := (p_3837 _ (fun i hi => (hMX i hi).2.2.2.1)).trans km3
  have k_3842 : f_3836 (M 4) = some (.inl (G 1, 81, .inl (fun _ => 0))) := (p_3837 _ (fun i hi => (hMX i hi).2.2.2.2.1)).trans km4
  have k_3843 : f_3836 (M 6) = some (.inl (G 1, 4, .inl (fun _ => 0))) := (p_3837 _ (fun i hi => (hMX i hi).2.2.2.2.2)).trans km5
  refine lv_aload_n hx hb dL_law_1064 rfl (lv_at hl 2 rfl) ?_
  refine lv_aload_n hx hb dL_law_1065 rfl (lv_at hl 4 rfl) ?_
  refine lv_iload hx hb dL_law_1066 (lv_at hl 0 rfl) ?_
  refine lv_iconst (v := 1) hx hb dL_law_1068 (by decide) ?_
  refine lv_iadd hx hb dL_law_1069 ?_
  refine lv_topi (fun x_ e_ => ?_)
  obtain rfl : 1 = x_ := by rw [e_]; decide
  refine va_sld hx hb hXs hbl hbA h.2.2.1 (by unfold vp_in; decide) dL_law_1070 ?_
  refine lv_aload_n hx hb dL_law_1071 rfl (lv_at hl 4 rfl) ?_
  refine lv_iload hx hb dL_law_1072 (lv_at hl 0 rfl) ?_
  refine lv_iconst (v := 2) hx hb dL_law_1074 (by decide) ?_
  refine lv_iadd hx hb dL_law_1075 ?_
  refine lv_topi (fun x_ e_ => ?_)
  obtain rfl : 2 = x_ := by rw [e_]; decide
  refine va_sld hx hb hXs hbl hbA h.2.2.1 (by unfold vp_in; decide) dL_law_1076 ?_
  refine lv_aload_n hx hb dL_law_1077 rfl (lv_at hl 4 rfl) ?_
  refine lv_iload hx hb dL_law_1078 (lv_at hl 0 rfl) ?_
  refine lv_iconst (v := 3) hx hb dL_law_1080 (by decide) ?_
  refine lv_iadd hx hb dL_law_1081 ?_
  refine lv_topi (fun x_ e_ => ?_)
  obtain rfl : 3 = x_ := by rw [e_]; decide
  refine va_sld hx hb hXs hbl hbA h.2.2.1 (by unfold vp_in; decide) dL_law_1082 ?_
  refine k_i (r_V C h hl (As := [.int (xs (Int32.toNatClampNeg 1)), .int (xs (Int32.toNatClampNeg 2)), .int (xs (Int32.toNatClampNeg 3))]) (rest := [.int (-1)]) (c_X11_ratio l D G b0 f_3836 M ⟨k_3838, k_3839, k_3840, k_3841, k_3842, k_3843⟩ (xs (Int32.toNatClampNeg 1)) (xs (Int32.toNatClampNeg 2)) (xs (Int32.toNatClampNeg 3))) k_3838 (Cn := RX11) (T := TX11) (N := 32) rfl rfl mk_X11_ratio w_1816 w_1817 w_1818 w_1819 ⟨Nat.le_of_ble_eq_true rfl, Nat.le_of_ble_eq_true rfl⟩ rfl (Nat.le_of_ble_eq_true rfl) ⟨Nat.le_of_ble_eq_true rfl, Nat.le_of_ble_eq_true rfl⟩ rfl dL_law_1083) h (fun r_3844 f_3845 H locs p_3846 h => ?_)
  subst p_3846
  refine lv_icmp_eq (tgt := 2593) hx hb dL_law_1086 (by decide) (fun c_3847 => ?_) (fun c_3847 => ?_)
  · exact law_end C0 hb0 hE0 h (lv_sub hl [0, 4] rfl) (Nat.le_of_ble_eq_true rfl) (Nat.le_of_ble_eq_true rfl)
  · exact absurd c_3847 (by decide)
set_option maxRecDepth 100000 in
set_option maxHeartbeats 4000000 in
theorem law_19 {p : Program} {l : Launch} {e : Env} {s : State} {m : MethodId} {below : List Frame} {meth : Method} {c : Code} (hst : l.stackTraces = false) {b : Nat} {xs : Nat → Int32} (C0 : lw_At p s m meth c b 8 xs) {D : va_G} {G : Nat → Nat} {b0 : Nat} (hb0 : s.heap.size = b0) (hE0 : hE D G b0 s s.heap) {f : hM} {X M : Nat → Nat} {o : Nat} (hX : xw G f X) (hM : mw G f M) (hMX : ∀ i, i ∈ XI → M 0 ≠ X i ∧ M 1 ≠ X i ∧ M 2 ≠ X i ∧ M 3 ≠ X i ∧ M 4 ≠ X i ∧ M 6 ≠ X i) {H : Heap} {locs : List Loc} {ls : Array Slot} (h : hw D b0 s.heap f H locs) (hl : lv_has ls 7 [(4, .int 0), (3, .ref o), (2, .ref (M 0)), (1, .ref (X 0)), (0, .ref b)]) : W p l e room_1 s m #[Value.ref b] below meth c H locs 125 106894 (lw_Z below #[Value.ref b] s) (F0 m 1091 ls []) := by
  obtain ⟨hx, hb, hr, hml, hown, hts0, hXs, hbl, hlk, hgv⟩ := id C0
  have hts : ∀ w ∈ wAll, w.before #[Value.ref b] s = true := fun w hw => hts0 w (wAll_tbl w hw)
  have C : hC p s m #[Value.ref b] meth c cL_law 7 RL D G b0 := ⟨hx, hb, hml, hown, hts, hE0, hlk⟩
  have hbA : ¬ hA b0 b := by rw [← hb0]; exact Nat.not_le.mpr hbl
  obtain ⟨kx0, kx1, kx2, kx3, kx4, kx5, kx6, kx7, kx8, kx9⟩ := (id hX)
  obtain ⟨km0, km1, km2, km3, km4, km5⟩ := (id hM)
  refine lv_aload_n hx hb dL_law_1091 rfl (lv_at hl 3 rfl) ?_
  refine lv_aload_n hx hb dL_law_1092 rfl (lv_at hl 4 rfl) ?_
  refine lv_iload hx hb dL_law_1093 (lv_at hl 0 rfl) ?_
  refine lv_iconst (v := 1) hx hb dL_law_1095 (by decide) ?_
  refine lv_iadd hx hb dL_law_1096 ?_
  refine lv_topi (fun x_ e_ => ?_)
  obtain rfl : 1 = x_ := by rw [e_]; decide
  refine va_sld hx hb hXs hbl hbA h.2.2.1 (by unfold vp_in; decide) dL_law_1097 ?_
  refine lv_aload_n hx hb dL_law_1098 rfl (lv_at hl 4 rfl) ?_
  refine lv_iload hx hb dL_law_1099 (lv_at hl 0 rfl) ?_
  refine lv_iconst (v := 2) hx hb dL_law_1101 (by decide) ?_
  refine lv_iadd hx hb dL_law_1102 ?_
  refine lv_topi (fun x_ e_ => ?_)
  obtain rfl : 2 = x_ := by rw [e_]; decide
  refine va_sld hx hb hXs hbl hbA h.2.2.1 (by unfold vp_in; decide) dL_law_1103 ?_
  refine lv_aload_n hx hb dL_law_1104 rfl (lv_at hl 4 rfl) ?_
  refine lv_iload hx hb dL_law_1105 (lv_at hl 0 rfl) ?_
  refine lv_iconst (v := 3) hx hb dL_law_1107 (by decide) ?_
  refine lv_iadd hx hb dL_law_1108 ?_
  refine lv_topi (fun x_ e_ => ?_)
  obtain rfl : 3 = x_ := by rw [e_]; decide
  refine va_sld hx hb hXs hbl hbA h.2.2.1 (by unfold vp_in; decide) dL_law_1109 ?_
  refine k_i (r_V C h hl (As := [.int (xs (Int32.toNatClampNeg 1)), .int (xs (Int32.toNatClampNeg 2)), .int (xs (Int32.toNatClampNeg 3))]) (rest := []) (c_X10_hankel l D G b0 f X hX (xs (Int32.toNatClampNeg 1)) (xs (Int32.toNatClampNeg 2)) (xs (Int32.toNatClampNeg 3))) kx0 (Cn := RX10) (T := TX10) (N := 10) rfl rfl mk_X10_hankel w_823 w_824 w_825 w_826 ⟨Nat.le_of_ble_eq_true rfl, Nat.le_of_ble_eq_true rfl⟩ rfl (Nat.le_of_ble_eq_true rfl) ⟨Nat.le_of_ble_eq_true rfl, Nat.le_of_ble_eq_true rfl⟩ rfl dL_law_1110) h (fun r_3848 f_3849 H locs p_3850 h => ?_)
  obtain ⟨rfl, p_3850⟩ := p_3850
  have k_3851 : f_3849 (M 0) = some (.inr (12, [.int 0, .ref (M 1), .int 0, .int 0, .int 0, .ref (M 2), .ref (M 3), .ref (M 4), .ref (M 5), .ref (M 6), .int 0, .int 0, .ref (M 7), .ref (M 8), .int 0, .ref (M 9), .ref (M 10), .ref (M 11), .long 0, .ref (M 12), .ref (M 13), .ref (M 14), .ref (M 15), .ref (M 16), .ref (M 17), .ref (M 18), .ref (M 19), .int 0, .int 0, .ref (M 20), .ref (M 21), .int 0])) := (p_3850 _ (fun i hi => (hMX i hi).1)).trans km0
  have k_3852 : f_3849 (M 1) = some (.inl (G 0, 200, .inl (fun _ => 0))) := (p_3850 _ (fun i hi => (hMX i hi).2.1)).trans km1
  have k_3853 : f_3849 (M 2) = some (.inl (G 1, 10, .inl (fun _ => 0))) := (p_3850 _ (fun i hi => (hMX i hi).2.2.1)).trans km2
  have k_3854 : f_3849 (M 3) = some (.inl (G 1, 81, .inl (fun _ => 0))) := (p_3850 _ (fun i hi => (hMX i hi).2.2.2.1)).trans km3
  have k_3855 : f_3849 (M 4) = some (.inl (G 1, 81, .inl (fun _ => 0))) := (p_3850 _ (fun i hi => (hMX i hi).2.2.2.2.1)).trans km4
  have k_3856 : f_3849 (M 6) = some (.inl (G 1, 4, .inl (fun _ => 0))) := (p_3850 _ (fun i hi => (hMX i hi).2.2.2.2.2)).trans km5
  refine lv_aload_n hx hb dL_law_1113 rfl (lv_at hl 2 rfl) ?_
  refine lv_aload_n hx hb dL_law_1114 rfl (lv_at hl 4 rfl) ?_
  refine lv_iload hx hb dL_law_1115 (lv_at hl 0 rfl) ?_
  refine lv_iconst (v := 1) hx hb dL_law_1117 (by decide) ?_
  refine lv_iadd hx hb dL_law_1118 ?_
  refine lv_topi (fun x_ e_ => ?_)
  obtain rfl : 1 = x_ := by rw [e_]; decide
  refine va_sld hx hb hXs hbl hbA h.2.2.1 (by unfold vp_in; decide) dL_law_1119 ?_
  refine lv_aload_n hx hb dL_law_1120 rfl (lv_at hl 4 rfl) ?_
  refine lv_iload hx hb dL_law_1121 (lv_at hl 0 rfl) ?_
  refine lv_iconst (v := 2) hx hb dL_law_1123 (by decide) ?_
  refine lv_iadd hx hb dL_law_1124 ?_
  refine lv_topi (fun x_ e_ => ?_)
  obtain rfl : 2 = x_ := by rw [e_]; decide
  refine va_sld hx hb hXs hbl hbA h.2.2.1 (by unfold vp_in; decide) dL_law_1125 ?_
  refine lv_aload_n hx hb dL_law_1126 rfl (lv_at hl 4 rfl) ?_
  refine lv_iload hx hb dL_law_1127 (lv_at hl 0 rfl) ?_
  refine lv_iconst (v := 3) hx hb dL_law_1129 (by decide) ?_
  refine lv_iadd hx hb dL_law_1130 ?_
  refine lv_topi (fun x_ e_ => ?_)
  obtain rfl : 3 = x_ := by rw [e_]; decide
  refine va_sld hx hb hXs hbl hbA h.2.2.1 (by unfold vp_in; decide) dL_law_1131 ?_
  refine k_i (r_V C h hl (As := [.int (xs (Int32.toNatClampNeg 1)), .int (xs (Int32.toNatClampNeg 2)), .int (xs (Int32.toNatClampNeg 3))]) (rest := [.int (-1)]) (c_X11_hankel l D G b0 f_3849 M ⟨k_3851, k_3852, k_3853, k_3854, k_3855, k_3856⟩ (xs (Int32.toNatClampNeg 1)) (xs (Int32.toNatClampNeg 2)) (xs (Int32.toNatClampNeg 3))) k_3851 (Cn := RX11) (T := TX11) (N := 32) rfl rfl mk_X11_hankel w_1795 w_1796 w_1797 w_1798 ⟨Nat.le_of_ble_eq_true rfl, Nat.le_of_ble_eq_true rfl⟩ rfl (Nat.le_of_ble_eq_true rfl) ⟨Nat.le_of_ble_eq_true rfl, Nat.le_of_ble_eq_true rfl⟩ rfl dL_law_1132) h (fun r_3857 f_3858 H locs p_3859 h => ?_)
  subst p_3859
  refine lv_icmp_eq (tgt := 2593) hx hb dL_law_1135 (by decide) (fun c_3860 => ?_) (fun c_3860 => ?_)
  · exact law_end C0 hb0 hE0 h (lv_sub hl [0, 4] rfl) (Nat.le_of_ble_eq_true rfl) (Nat.le_of_ble_eq_true rfl)
  · exact absurd c_3860 (by decide)
set_option maxRecDepth 100000 in
set_option maxHeartbeats 4000000 in
theorem law_20 {p : Program} {l : Launch} {e : Env} {s : State} {m : MethodId} {below : List Frame} {meth : Method} {c : Code} (hst : l.stackTraces = false) {b : Nat} {xs : Nat → Int32} (C0 : lw_At p s m meth c b 8 xs) {D : va_G} {G : Nat → Nat} {b0 : Nat} (hb0 : s.heap.size = b0) (hE0 : hE D G b0 s s.heap) {f : hM} {X M : Nat → Nat} {o : Nat} (hX : xw G f X) (hM : mw G f M) (hMX : ∀ i, i ∈ XI → M 0 ≠ X i ∧ M 1 ≠ X i ∧ M 2 ≠ X i ∧ M 3 ≠ X i ∧ M 4 ≠ X i ∧ M 6 ≠ X i) {H : Heap} {locs : List Loc} {ls : Array Slot} (h : hw D b0 s.heap f H locs) (hl : lv_has ls 7 [(4, .int 0), (3, .ref o), (2, .ref (M 0)), (1, .ref (X 0)), (0, .ref b)]) : W p l e room_1 s m #[Value.ref b] below meth c H locs 125 106894 (lw_Z below #[Value.ref b] s) (F0 m 1140 ls []) := by
  obtain ⟨hx, hb, hr, hml, hown, hts0, hXs, hbl, hlk, hgv⟩ := id C0
  have hts : ∀ w ∈ wAll, w.before #[Value.ref b] s = true := fun w hw => hts0 w (wAll_tbl w hw)
  have C : hC p s m #[Value.ref b] meth c cL_law 7 RL D G b0 := ⟨hx, hb, hml, hown, hts, hE0, hlk⟩
  have hbA : ¬ hA b0 b := by rw [← hb0]; exact Nat.not_le.mpr hbl
  obtain ⟨kx0, kx1, kx2, kx3, kx4, kx5, kx6, kx7, kx8, kx9⟩ := (id hX)
  obtain ⟨km0, km1, km2, km3, km4, km5⟩ := (id hM)
  refine lv_aload_n hx hb dL_law_1140 rfl (lv_at hl 3 rfl) ?_
  refine lv_aload_n hx hb dL_law_1141 rfl (lv_at hl 4 rfl) ?_
  refine lv_iload hx hb dL_law_1142 (lv_at hl 0 rfl) ?_
  refine lv_iconst (v := 1) hx hb dL_law_1144 (by decide) ?_
  refine lv_iadd hx hb dL_law_1145 ?_
  refine lv_topi (fun x_ e_ => ?_)
  obtain rfl : 1 = x_ := by rw [e_]; decide
  refine va_sld hx hb hXs hbl hbA h.2.2.1 (by unfold vp_in; decide) dL_law_1146 ?_
  refine lv_aload_n hx hb dL_law_1147 rfl (lv_at hl 4 rfl) ?_
  refine lv_iload hx hb dL_law_1148 (lv_at hl 0 rfl) ?_
  refine lv_iconst (v := 2) hx hb dL_law_1150 (by decide) ?_
  refine lv_iadd hx hb dL_law_1151 ?_
  refine lv_topi (fun x_ e_ => ?_)
  obtain rfl : 2 = x_ := by rw [e_]; decide
  refine va_sld hx hb hXs hbl hbA h.2.2.1 (by unfold vp_in; decide) dL_law_1152 ?_
  refine lv_aload_n hx hb dL_law_1153 rfl (lv_at hl 4 rfl) ?_
  refine lv_iload hx hb dL_law_1154 (lv_at hl 0 rfl) ?_
  refine lv_iconst (v := 3) hx hb dL_law_1156 (by decide) ?_
  refine lv_iadd hx hb dL_law_1157 ?_
  refine lv_topi (fun x_ e_ => ?_)
  obtain rfl : 3 = x_ := by rw [e_]; decide
  refine va_sld hx hb hXs hbl hbA h.2.2.1 (by unfold vp_in; decide) dL_law_1158 ?_
  refine lv_aload_n hx hb dL_law_1159 rfl (lv_at hl 4 rfl) ?_
  refine lv_iload hx hb dL_law_1160 (lv_at hl 0 rfl) ?_
  refine lv_iconst (v := 4) hx hb dL_law_1162 (by decide) ?_
  refine lv_iadd hx hb dL_law_1163 ?_
  refine lv_topi (fun x_ e_ => ?_)
  obtain rfl : 4 = x_ := by rw [e_]; decide
  refine va_sld hx hb hXs hbl hbA h.2.2.1 (by unfold vp_in; decide) dL_law_1164 ?_
  refine lv_aload_n hx hb dL_law_1165 rfl (lv_at hl 4 rfl) ?_
  refine lv_iload hx hb dL_law_1166 (lv_at hl 0 rfl) ?_
  refine lv_iconst (v := 5) hx hb dL_law_1168 (by decide) ?_
  refine lv_iadd hx hb dL_law_1169 ?_
  refine lv_topi (fun x_ e_ => ?_)
  obtain rfl : 5 = x_ := by rw [e_]; decide
  refine va_sld hx hb hXs hbl hbA h.2.2.1 (by unfold vp_in; decide) dL_law_1170 ?_
  refine k_i (r_V C h hl (As := [.int (xs (Int32.toNatClampNeg 1)), .int (xs (Int32.toNatClampNeg 2)), .int (xs (Int32.toNatClampNeg 3)), .int (xs (Int32.toNatClampNeg 4)), .int (xs (Int32.toNatClampNeg 5))]) (rest := []) (c_X10_convolved l D G b0 f X hX (xs (Int32.toNatClampNeg 1)) (xs (Int32.toNatClampNeg 2)) (xs (Int32.toNatClampNeg 3)) (xs (Int32.toNatClampNeg 4)) (xs (Int32.toNatClampNeg 5))) kx0 (Cn := RX10) (T := TX10) (N := 10) rfl rfl mk_X10_convolved w_831 w_832 w_833 w_834 ⟨Nat.le_of_ble_eq_true rfl, Nat.le_of_ble_eq_true rfl⟩ rfl (Nat.le_of_ble_eq_true rfl) ⟨Nat.le_of_ble_eq_true rfl, Nat.le_of_ble_eq_true rfl⟩ rfl dL_law_1171) h (fun r_3861 f_3862 H locs p_3863 h => ?_)
  obtain ⟨rfl, p_3863⟩ := p_3863
  have k_3864 : f_3862 (M 0) = some (.inr (12, [.int 0, .ref (M 1), .int 0, .int 0, .int 0, .ref (M 2), .ref (M 3), .ref (M 4), .ref (M 5), .ref (M 6), .int 0, .int 0, .ref (M 7), .ref (M 8), .int 0, .ref (M 9), .ref (M 10), .ref (M 11), .long 0, .ref (M 12), .ref (M 13), .ref (M 14), .ref (M 15), .ref (M 16), .ref (M 17), .ref (M 18), .ref (M 19), .int 0, .int 0, .ref (M 20), .ref (M 21), .int 0])) := (p_3863 _ (fun i hi => (hMX i hi).1)).trans km0
  have k_3865 : f_3862 (M 1) = some (.inl (G 0, 200, .inl (fun _ => 0))) := (p_3863 _ (fun i hi => (hMX i hi).2.1)).trans km1
  have k_3866 : f_3862 (M 2) = some (.inl (G 1, 10, .inl (fun _ => 0))) := (p_3863 _ (fun i hi => (hMX i hi).2.2.1)).trans km2
  have k_3867 : f_3862 (M 3) = some (.inl (G 1, 81, .inl (fun _ => 0))) := (p_3863 _ (fun i hi => (hMX i hi).2.2.2.1)).trans km3
  have k_3868 : f_3862 (M 4) = some (.inl (G 1, 81, .inl (fun _ => 0))) := (p_3863 _ (fun i hi => (hMX i hi).2.2.2.2.1)).trans km4
  have k_3869 : f_3862 (M 6) = some (.inl (G 1, 4, .inl (fun _ => 0))) := (p_3863 _ (fun i hi => (hMX i hi).2.2.2.2.2)).trans km5
  refine lv_aload_n hx hb dL_law_1174 rfl (lv_at hl 2 rfl) ?_
  refine lv_aload_n hx hb dL_law_1175 rfl (lv_at hl 4 rfl) ?_
  refine lv_iload hx hb dL_law_1176 (lv_at hl 0 rfl) ?_
  refine lv_iconst (v := 1) hx hb dL_law_1178 (by decide) ?_
  refine lv_iadd hx hb dL_law_1179 ?_
  refine lv_topi (fun x_ e_ => ?_)
  obtain rfl : 1 = x_ := by rw [e_]; decide
  refine va_sld hx hb hXs hbl hbA h.2.2.1 (by unfold vp_in; decide) dL_law_1180 ?_
  refine lv_aload_n hx hb dL_law_1181 rfl (lv_at hl 4 rfl) ?_
  refine lv_iload hx hb dL_law_1182 (lv_at hl 0 rfl) ?_
  refine lv_iconst (v := 2) hx hb dL_law_1184 (by decide) ?_
  refine lv_iadd hx hb dL_law_1185 ?_
  refine lv_topi (fun x_ e_ => ?_)
  obtain rfl : 2 = x_ := by rw [e_]; decide
  refine va_sld hx hb hXs hbl hbA h.2.2.1 (by unfold vp_in; decide) dL_law_1186 ?_
  refine lv_aload_n hx hb dL_law_1187 rfl (lv_at hl 4 rfl) ?_
  refine lv_iload hx hb dL_law_1188 (lv_at hl 0 rfl) ?_
  refine lv_iconst (v := 3) hx hb dL_law_1190 (by decide) ?_
  refine lv_iadd hx hb dL_law_1191 ?_
  refine lv_topi (fun x_ e_ => ?_)
  obtain rfl : 3 = x_ := by rw [e_]; decide
  refine va_sld hx hb hXs hbl hbA h.2.2.1 (by unfold vp_in; decide) dL_law_1192 ?_
  refine lv_aload_n hx hb dL_law_1193 rfl (lv_at hl 4 rfl) ?_
  refine lv_iload hx hb dL_law_1194 (lv_at hl 0 rfl) ?_
  refine lv_iconst (v := 4) hx hb dL_law_1196 (by decide) ?_
  refine lv_iadd hx hb dL_law_1197 ?_
  refine lv_topi (fun x_ e_ => ?_)
  obtain rfl : 4 = x_ := by rw [e_]; decide
  refine va_sld hx hb hXs hbl hbA h.2.2.1 (by unfold vp_in; decide) dL_law_1198 ?_
  refine lv_aload_n hx hb dL_law_1199 rfl (lv_at hl 4 rfl) ?_
  refine lv_iload hx hb dL_law_1200 (lv_at hl 0 rfl) ?_
  refine lv_iconst (v := 5) hx hb dL_law_1202 (by decide) ?_
  refine lv_iadd hx hb dL_law_1203 ?_
  refine lv_topi (fun x_ e_ => ?_)
  obtain rfl : 5 = x_ := by rw [e_]; decide
  refine va_sld hx hb hXs hbl hbA h.2.2.1 (by unfold vp_in; decide) dL_law_1204 ?_
  refine k_i (r_V C h hl (As := [.int (xs (Int32.toNatClampNeg 1)), .int (xs (Int32.toNatClampNeg 2)), .int (xs (Int32.toNatClampNeg 3)), .int (xs (Int32.toNatClampNeg 4)), .int (xs (Int32.toNatClampNeg 5))]) (rest := [.int (-1)]) (c_X11_convolved l D G b0 f_3862 M ⟨k_3864, k_3865, k_3866, k_3867, k_3868, k_3869⟩ (xs (Int32.toNatClampNeg 1)) (xs (Int32.toNatClampNeg 2)) (xs (Int32.toNatClampNeg 3)) (xs (Int32.toNatClampNeg 4)) (xs (Int32.toNatClampNeg 5))) k_3864 (Cn := RX11) (T := TX11) (N := 32) rfl rfl mk_X11_convolved w_1771 w_1772 w_1773 w_1774 ⟨Nat.le_of_ble_eq_true rfl, Nat.le_of_ble_eq_true rfl⟩ rfl (Nat.le_of_ble_eq_true rfl) ⟨Nat.le_of_ble_eq_true rfl, Nat.le_of_ble_eq_true rfl⟩ rfl dL_law_1205) h (fun r_3870 f_3871 H locs p_3872 h => ?_)
  subst p_3872
  refine lv_icmp_eq (tgt := 2593) hx hb dL_law_1208 (by decide) (fun c_3873 => ?_) (fun c_3873 => ?_)
  · exact law_end C0 hb0 hE0 h (lv_sub hl [0, 4] rfl) (Nat.le_of_ble_eq_true rfl) (Nat.le_of_ble_eq_true rfl)
  · exact absurd c_3873 (by decide)
set_option maxRecDepth 100000 in
set_option maxHeartbeats 4000000 in
theorem law_21 {p : Program} {l : Launch} {e : Env} {s : State} {m : MethodId} {below : List Frame} {meth : Method} {c : Code} (hst : l.stackTraces = false) {b : Nat} {xs : Nat → Int32} (C0 : lw_At p s m meth c b 8 xs) {D : va_G} {G : Nat → Nat} {b0 : Nat} (hb0 : s.heap.size = b0) (hE0 : hE D G b0 s s.heap) {f : hM} {X M : Nat → Nat} {o : Nat} (hX : xw G f X) (hM : mw G f M) (hMX : ∀ i, i ∈ XI → M 0 ≠ X i ∧ M 1 ≠ X i ∧ M 2 ≠ X i ∧ M 3 ≠ X i ∧ M 4 ≠ X i ∧ M 6 ≠ X i) {H : Heap} {locs : List Loc} {ls : Array Slot} (h : hw D b0 s.heap f H locs) (hl : lv_has ls 7 [(4, .int 0), (3, .ref o), (2, .ref (M 0)), (1, .ref (X 0)), (0, .ref b)]) : W p l e room_1 s m #[Value.ref b] below meth c H locs 125 106894 (lw_Z below #[Value.ref b] s) (F0 m 1213 ls []) := by
  obtain ⟨hx, hb, hr, hml, hown, hts0, hXs, hbl, hlk, hgv⟩ := id C0
  have hts : ∀ w ∈ wAll, w.before #[Value.ref b] s = true := fun w hw => hts0 w (wAll_tbl w hw)
  have C : hC p s m #[Value.ref b] meth c cL_law 7 RL D G b0 := ⟨hx, hb, hml, hown, hts, hE0, hlk⟩
  have hbA : ¬ hA b0 b := by rw [← hb0]; exact Nat.not_le.mpr hbl
  obtain ⟨kx0, kx1, kx2, kx3, kx4, kx5, kx6, kx7, kx8, kx9⟩ := (id hX)
  obtain ⟨km0, km1, km2, km3, km4, km5⟩ := (id hM)
  refine lv_aload_n hx hb dL_law_1213 rfl (lv_at hl 3 rfl) ?_
  refine lv_aload_n hx hb dL_law_1214 rfl (lv_at hl 4 rfl) ?_
  refine lv_iload hx hb dL_law_1215 (lv_at hl 0 rfl) ?_
  refine lv_iconst (v := 1) hx hb dL_law_1217 (by decide) ?_
  refine lv_iadd hx hb dL_law_1218 ?_
  refine lv_topi (fun x_ e_ => ?_)
  obtain rfl : 1 = x_ := by rw [e_]; decide
  refine va_sld hx hb hXs hbl hbA h.2.2.1 (by unfold vp_in; decide) dL_law_1219 ?_
  refine lv_aload_n hx hb dL_law_1220 rfl (lv_at hl 4 rfl) ?_
  refine lv_iload hx hb dL_law_1221 (lv_at hl 0 rfl) ?_
  refine lv_iconst (v := 2) hx hb dL_law_1223 (by decide) ?_
  refine lv_iadd hx hb dL_law_1224 ?_
  refine lv_topi (fun x_ e_ => ?_)
  obtain rfl : 2 = x_ := by rw [e_]; decide
  refine va_sld hx hb hXs hbl hbA h.2.2.1 (by unfold vp_in; decide) dL_law_1225 ?_
  refine k_i (r_V C h hl (As := [.int (xs (Int32.toNatClampNeg 1)), .int (xs (Int32.toNatClampNeg 2))]) (rest := []) (c_X10_out l D G b0 f X hX (xs (Int32.toNatClampNeg 1)) (xs (Int32.toNatClampNeg 2))) kx0 (Cn := RX10) (T := TX10) (N := 10) rfl rfl mk_X10_out w_835 w_836 w_837 w_838 ⟨Nat.le_of_ble_eq_true rfl, Nat.le_of_ble_eq_true rfl⟩ rfl (Nat.le_of_ble_eq_true rfl) ⟨Nat.le_of_ble_eq_true rfl, Nat.le_of_ble_eq_true rfl⟩ rfl dL_law_1226) h (fun r_3874 f_3875 H locs p_3876 h => ?_)
  obtain ⟨rfl, p_3876⟩ := p_3876
  have k_3877 : f_3875 (M 0) = some (.inr (12, [.int 0, .ref (M 1), .int 0, .int 0, .int 0, .ref (M 2), .ref (M 3), .ref (M 4), .ref (M 5), .ref (M 6), .int 0, .int 0, .ref (M 7), .ref (M 8), .int 0, .ref (M 9), .ref (M 10), .ref (M 11), .long 0, .ref (M 12), .ref (M 13), .ref (M 14), .ref (M 15), .ref (M 16), .ref (M 17), .ref (M 18), .ref (M 19), .int 0, .int 0, .ref (M 20), .ref (M 21), .int 0])) := (p_3876 _ (fun i hi => (hMX i hi).1)).trans km0
  have k_3878 : f_3875 (M 1) = some (.inl (G 0, 200, .inl (fun _ => 0))) := (p_3876 _ (fun i hi => (hMX i hi).2.1)).trans km1
  have k_3879 : f_3875 (M 2) = some (.inl (G 1, 10, .inl (fun _ => 0))) := (p_3876 _ (fun i hi => (hMX i hi).2.2.1)).trans km2
  have k_3880 : f_3875 (M 3) = some (.inl (G 1, 81, .inl (fun _ => 0))) := (p_3876 _ (fun i hi => (hMX i hi).2.2.2.1)).trans km3
  have k_3881 : f_3875 (M 4) = some (.inl (G 1, 81, .inl (fun _ => 0))) := (p_3876 _ (fun i hi => (hMX i hi).2.2.2.2.1)).trans km4
  have k_3882 : f_3875 (M 6) = some (.inl (G 1, 4, .inl (fun _ => 0))) := (p_3876 _ (fun i hi => (hMX i hi).2.2.2.2.2)).trans km5
  refine lv_aload_n hx hb dL_law_1229 rfl (lv_at hl 2 rfl) ?_
  refine lv_aload_n hx hb dL_law_1230 rfl (lv_at hl 4 rfl) ?_
  refine lv_iload hx hb dL_law_1231 (lv_at hl 0 rfl) ?_
  refine lv_iconst (v := 1) hx hb dL_law_1233 (by decide) ?_
  refine lv_iadd hx hb dL_law_1234 ?_
  refine lv_topi (fun x_ e_ => ?_)
  obtain rfl : 1 = x_ := by rw [e_]; decide
  refine va_sld hx hb hXs hbl hbA h.2.2.1 (by unfold vp_in; decide) dL_law_1235 ?_
  refine lv_aload_n hx hb dL_law_1236 rfl (lv_at hl 4 rfl) ?_
  refine lv_iload hx hb dL_law_1237 (lv_at hl 0 rfl) ?_
  refine lv_iconst (v := 2) hx hb dL_law_1239 (by decide) ?_
  refine lv_iadd hx hb dL_law_1240 ?_
  refine lv_topi (fun x_ e_ => ?_)
  obtain rfl : 2 = x_ := by rw [e_]; decide
  refine va_sld hx hb hXs hbl hbA h.2.2.1 (by unfold vp_in; decide) dL_law_1241 ?_
  refine k_i (r_V C h hl (As := [.int (xs (Int32.toNatClampNeg 1)), .int (xs (Int32.toNatClampNeg 2))]) (rest := [.int (-1)]) (c_X11_out l D G b0 f_3875 M ⟨k_3877, k_3878, k_3879, k_3880, k_3881, k_3882⟩ (xs (Int32.toNatClampNeg 1)) (xs (Int32.toNatClampNeg 2))) k_3877 (Cn := RX11) (T := TX11) (N := 32) rfl rfl mk_X11_out w_1753 w_1754 w_1755 w_1756 ⟨Nat.le_of_ble_eq_true rfl, Nat.le_of_ble_eq_true rfl⟩ rfl (Nat.le_of_ble_eq_true rfl) ⟨Nat.le_of_ble_eq_true rfl, Nat.le_of_ble_eq_true rfl⟩ rfl dL_law_1242) h (fun r_3883 f_3884 H locs p_3885 h => ?_)
  subst p_3885
  refine lv_icmp_eq (tgt := 2593) hx hb dL_law_1245 (by decide) (fun c_3886 => ?_) (fun c_3886 => ?_)
  · exact law_end C0 hb0 hE0 h (lv_sub hl [0, 4] rfl) (Nat.le_of_ble_eq_true rfl) (Nat.le_of_ble_eq_true rfl)
  · exact absurd c_3886 (by decide)
set_option maxRecDepth 100000 in
set_option maxHeartbeats 4000000 in
theorem law_22 {p : Program} {l : Launch} {e : Env} {s : State} {m : MethodId} {below : List Frame} {meth : Method} {c : Code} (hst : l.stackTraces = false) {b : Nat} {xs : Nat → Int32} (C0 : lw_At p s m meth c b 8 xs) {D : va_G} {G : Nat → Nat} {b0 : Nat} (hb0 : s.heap.size = b0) (hE0 : hE D G b0 s s.heap) {f : hM} {X M : Nat → Nat} {o : Nat} (hX : xw G f X) (hM : mw G f M) (hMX : ∀ i, i ∈ XI → M 0 ≠ X i ∧ M 1 ≠ X i ∧ M 2 ≠ X i ∧ M 3 ≠ X i ∧ M 4 ≠ X i ∧ M 6 ≠ X i) {H : Heap} {locs : List Loc} {ls : Array Slot} (h : hw D b0 s.heap f H locs) (hl : lv_has ls 7 [(4, .int 0), (3, .ref o), (2, .ref (M 0)), (1, .ref (X 0)), (0, .ref b)]) : W p l e room_1 s m #[Value.ref b] below meth c H locs 125 106894 (lw_Z below #[Value.ref b] s) (F0 m 1250 ls []) := by
  obtain ⟨hx, hb, hr, hml, hown, hts0, hXs, hbl, hlk, hgv⟩ := id C0
  have hts : ∀ w ∈ wAll, w.before #[Value.ref b] s = true := fun w hw => hts0 w (wAll_tbl w hw)
  have C : hC p s m #[Value.ref b] meth c cL_law 7 RL D G b0 := ⟨hx, hb, hml, hown, hts, hE0, hlk⟩
  have hbA : ¬ hA b0 b := by rw [← hb0]; exact Nat.not_le.mpr hbl
  obtain ⟨kx0, kx1, kx2, kx3, kx4, kx5, kx6, kx7, kx8, kx9⟩ := (id hX)
  obtain ⟨km0, km1, km2, km3, km4, km5⟩ := (id hM)
  refine lv_aload_n hx hb dL_law_1250 rfl (lv_at hl 3 rfl) ?_
  refine lv_aload_n hx hb dL_law_1251 rfl (lv_at hl 4 rfl) ?_
  refine lv_iload hx hb dL_law_1252 (lv_at hl 0 rfl) ?_
  refine lv_iconst (v := 1) hx hb dL_law_1254 (by decide) ?_
  refine lv_iadd hx hb dL_law_1255 ?_
  refine lv_topi (fun x_ e_ => ?_)
  obtain rfl : 1 = x_ := by rw [e_]; decide
  refine va_sld hx hb hXs hbl hbA h.2.2.1 (by unfold vp_in; decide) dL_law_1256 ?_
  refine lv_aload_n hx hb dL_law_1257 rfl (lv_at hl 4 rfl) ?_
  refine lv_iload hx hb dL_law_1258 (lv_at hl 0 rfl) ?_
  refine lv_iconst (v := 2) hx hb dL_law_1260 (by decide) ?_
  refine lv_iadd hx hb dL_law_1261 ?_
  refine lv_topi (fun x_ e_ => ?_)
  obtain rfl : 2 = x_ := by rw [e_]; decide
  refine va_sld hx hb hXs hbl hbA h.2.2.1 (by unfold vp_in; decide) dL_law_1262 ?_
  refine k_i (r_V C h hl (As := [.int (xs (Int32.toNatClampNeg 1)), .int (xs (Int32.toNatClampNeg 2))]) (rest := []) (c_X10_arches l D G b0 f X hX (xs (Int32.toNatClampNeg 1)) (xs (Int32.toNatClampNeg 2))) kx0 (Cn := RX10) (T := TX10) (N := 10) rfl rfl mk_X10_arches w_847 w_848 w_849 w_850 ⟨Nat.le_of_ble_eq_true rfl, Nat.le_of_ble_eq_true rfl⟩ rfl (Nat.le_of_ble_eq_true rfl) ⟨Nat.le_of_ble_eq_true rfl, Nat.le_of_ble_eq_true rfl⟩ rfl dL_law_1263) h (fun r_3887 f_3888 H locs p_3889 h => ?_)
  obtain ⟨rfl, p_3889⟩ := p_3889
  have k_3890 : f_3888 (M 0) = some (.inr (12, [.int 0, .ref (M 1), .int 0, .int 0, .int 0, .ref (M 2), .ref (M 3), .ref (M 4), .ref (M 5), .ref (M 6), .int 0, .int 0, .ref (M 7), .ref (M 8), .int 0, .ref (M 9), .ref (M 10), .ref (M 11), .long 0, .ref (M 12), .ref (M 13), .ref (M 14), .ref (M 15), .ref (M 16), .ref (M 17), .ref (M 18), .ref (M 19), .int 0, .int 0, .ref (M 20), .ref (M 21), .int 0])) := (p_3889 _ (fun i hi => (hMX i hi).1)).trans km0
  have k_3891 : f_3888 (M 1) = some (.inl (G 0, 200, .inl (fun _ => 0))) := (p_3889 _ (fun i hi => (hMX i hi).2.1)).trans km1
  have k_3892 : f_3888 (M 2) = some (.inl (G 1, 10, .inl (fun _ => 0))) := (p_3889 _ (fun i hi => (hMX i hi).2.2.1)).trans km2
  have k_3893 : f_3888 (M 3) = some (.inl (G 1, 81, .inl (fun _ => 0))) := (p_3889 _ (fun i hi => (hMX i hi).2.2.2.1)).trans km3
  have k_3894 : f_3888 (M 4) = some (.inl (G 1, 81, .inl (fun _ => 0))) := (p_3889 _ (fun i hi => (hMX i hi).2.2.2.2.1)).trans km4
  have k_3895 : f_3888 (M 6) = some (.inl (G 1, 4, .inl (fun _ => 0))) := (p_3889 _ (fun i hi => (hMX i hi).2.2.2.2.2)).trans km5
  refine lv_aload_n hx hb dL_law_1266 rfl (lv_at hl 2 rfl) ?_
  refine lv_aload_n hx hb dL_law_1267 rfl (lv_at hl 4 rfl) ?_
  refine lv_iload hx hb dL_law_1268 (lv_at hl 0 rfl) ?_
  refine lv_iconst (v := 1) hx hb dL_law_1270 (by decide) ?_
  refine lv_iadd hx hb dL_law_1271 ?_
  refine lv_topi (fun x_ e_ => ?_)
  obtain rfl : 1 = x_ := by rw [e_]; decide
  refine va_sld hx hb hXs hbl hbA h.2.2.1 (by unfold vp_in; decide) dL_law_1272 ?_
  refine lv_aload_n hx hb dL_law_1273 rfl (lv_at hl 4 rfl) ?_
  refine lv_iload hx hb dL_law_1274 (lv_at hl 0 rfl) ?_
  refine lv_iconst (v := 2) hx hb dL_law_1276 (by decide) ?_
  refine lv_iadd hx hb dL_law_1277 ?_
  refine lv_topi (fun x_ e_ => ?_)
  obtain rfl : 2 = x_ := by rw [e_]; decide
  refine va_sld hx hb hXs hbl hbA h.2.2.1 (by unfold vp_in; decide) dL_law_1278 ?_
  refine k_i (r_V C h hl (As := [.int (xs (Int32.toNatClampNeg 1)), .int (xs (Int32.toNatClampNeg 2))]) (rest := [.int (-1)]) (c_X11_arches l D G b0 f_3888 M ⟨k_3890, k_3891, k_3892, k_3893, k_3894, k_3895⟩ (xs (Int32.toNatClampNeg 1)) (xs (Int32.toNatClampNeg 2))) k_3890 (Cn := RX11) (T := TX11) (N := 32) rfl rfl mk_X11_arches w_1757 w_1758 w_1759 w_1760 ⟨Nat.le_of_ble_eq_true rfl, Nat.le_of_ble_eq_true rfl⟩ rfl (Nat.le_of_ble_eq_true rfl) ⟨Nat.le_of_ble_eq_true rfl, Nat.le_of_ble_eq_true rfl⟩ rfl dL_law_1279) h (fun r_3896 f_3897 H locs p_3898 h => ?_)
  subst p_3898
  refine lv_icmp_eq (tgt := 2593) hx hb dL_law_1282 (by decide) (fun c_3899 => ?_) (fun c_3899 => ?_)
  · exact law_end C0 hb0 hE0 h (lv_sub hl [0, 4] rfl) (Nat.le_of_ble_eq_true rfl) (Nat.le_of_ble_eq_true rfl)
  · exact absurd c_3899 (by decide)
set_option maxRecDepth 100000 in
set_option maxHeartbeats 4000000 in
theorem law_23 {p : Program} {l : Launch} {e : Env} {s : State} {m : MethodId} {below : List Frame} {meth : Method} {c : Code} (hst : l.stackTraces = false) {b : Nat} {xs : Nat → Int32} (C0 : lw_At p s m meth c b 8 xs) {D : va_G} {G : Nat → Nat} {b0 : Nat} (hb0 : s.heap.size = b0) (hE0 : hE D G b0 s s.heap) {f : hM} {X M : Nat → Nat} {o : Nat} (hX : xw G f X) (hM : mw G f M) (hMX : ∀ i, i ∈ XI → M 0 ≠ X i ∧ M 1 ≠ X i ∧ M 2 ≠ X i ∧ M 3 ≠ X i ∧ M 4 ≠ X i ∧ M 6 ≠ X i) {H : Heap} {locs : List Loc} {ls : Array Slot} (h : hw D b0 s.heap f H locs) (hl : lv_has ls 7 [(4, .int 0), (3, .ref o), (2, .ref (M 0)), (1, .ref (X 0)), (0, .ref b)]) : W p l e room_1 s m #[Value.ref b] below meth c H locs 125 106894 (lw_Z below #[Value.ref b] s) (F0 m 1287 ls []) := by
  obtain ⟨hx, hb, hr, hml, hown, hts0, hXs, hbl, hlk, hgv⟩ := id C0
  have hts : ∀ w ∈ wAll, w.before #[Value.ref b] s = true := fun w hw => hts0 w (wAll_tbl w hw)
  have C : hC p s m #[Value.ref b] meth c cL_law 7 RL D G b0 := ⟨hx, hb, hml, hown, hts, hE0, hlk⟩
  have hbA : ¬ hA b0 b := by rw [← hb0]; exact Nat.not_le.mpr hbl
  obtain ⟨kx0, kx1, kx2, kx3, kx4, kx5, kx6, kx7, kx8, kx9⟩ := (id hX)
  obtain ⟨km0, km1, km2, km3, km4, km5⟩ := (id hM)
  refine lv_aload_n hx hb dL_law_1287 rfl (lv_at hl 3 rfl) ?_
  refine lv_aload_n hx hb dL_law_1288 rfl (lv_at hl 4 rfl) ?_
  refine lv_iload hx hb dL_law_1289 (lv_at hl 0 rfl) ?_
  refine lv_iconst (v := 1) hx hb dL_law_1291 (by decide) ?_
  refine lv_iadd hx hb dL_law_1292 ?_
  refine lv_topi (fun x_ e_ => ?_)
  obtain rfl : 1 = x_ := by rw [e_]; decide
  refine va_sld hx hb hXs hbl hbA h.2.2.1 (by unfold vp_in; decide) dL_law_1293 ?_
  refine lv_aload_n hx hb dL_law_1294 rfl (lv_at hl 4 rfl) ?_
  refine lv_iload hx hb dL_law_1295 (lv_at hl 0 rfl) ?_
  refine lv_iconst (v := 2) hx hb dL_law_1297 (by decide) ?_
  refine lv_iadd hx hb dL_law_1298 ?_
  refine lv_topi (fun x_ e_ => ?_)
  obtain rfl : 2 = x_ := by rw [e_]; decide
  refine va_sld hx hb hXs hbl hbA h.2.2.1 (by unfold vp_in; decide) dL_law_1299 ?_
  refine lv_aload_n hx hb dL_law_1300 rfl (lv_at hl 4 rfl) ?_
  refine lv_iload hx hb dL_law_1301 (lv_at hl 0 rfl) ?_
  refine lv_iconst (v := 3) hx hb dL_law_1303 (by decide) ?_
  refine lv_iadd hx hb dL_law_1304 ?_
  refine lv_topi (fun x_ e_ => ?_)
  obtain rfl : 3 = x_ := by rw [e_]; decide
  refine va_sld hx hb hXs hbl hbA h.2.2.1 (by unfold vp_in; decide) dL_law_1305 ?_
  refine lv_aload_n hx hb dL_law_1306 rfl (lv_at hl 4 rfl) ?_
  refine lv_iload hx hb dL_law_1307 (lv_at hl 0 rfl) ?_
  refine lv_iconst (v := 4) hx hb dL_law_1309 (by decide) ?_
  refine lv_iadd hx hb dL_law_1310 ?_
  refine lv_topi (fun x_ e_ => ?_)
  obtain rfl : 4 = x_ := by rw [e_]; decide
  refine va_sld hx hb hXs hbl hbA h.2.2.1 (by unfold vp_in; decide) dL_law_1311 ?_
  refine k_i (r_V C h hl (As := [.int (xs (Int32.toNatClampNeg 1)), .int (xs (Int32.toNatClampNeg 2)), .int (xs (Int32.toNatClampNeg 3)), .int (xs (Int32.toNatClampNeg 4))]) (rest := []) (c_X10_value l D G b0 f X hX (xs (Int32.toNatClampNeg 1)) (xs (Int32.toNatClampNeg 2)) (xs (Int32.toNatClampNeg 3)) (xs (Int32.toNatClampNeg 4))) kx0 (Cn := RX10) (T := TX10) (N := 10) rfl rfl mk_X10_value w_851 w_852 w_853 w_854 ⟨Nat.le_of_ble_eq_true rfl, Nat.le_of_ble_eq_true rfl⟩ rfl (Nat.le_of_ble_eq_true rfl) ⟨Nat.le_of_ble_eq_true rfl, Nat.le_of_ble_eq_true rfl⟩ rfl dL_law_1312) h (fun r_3900 f_3901 H locs p_3902 h => ?_)
  obtain ⟨rfl, p_3902⟩ := p_3902
  have k_3903 : f_3901 (M 0) = some (.inr (12, [.int 0, .ref (M 1), .int 0, .int 0, .int 0, .ref (M 2), .ref (M 3), .ref (M 4), .ref (M 5), .ref (M 6), .int 0, .int 0, .ref (M 7), .ref (M 8), .int 0, .ref (M 9), .ref (M 10), .ref (M 11), .long 0, .ref (M 12), .ref (M 13), .ref (M 14), .ref (M 15), .ref (M 16), .ref (M 17), .ref (M 18), .ref (M 19), .int 0, .int 0, .ref (M 20), .ref (M 21), .int 0])) := (p_3902 _ (fun i hi => (hMX i hi).1)).trans km0
  have k_3904 : f_3901 (M 1) = some (.inl (G 0, 200, .inl (fun _ => 0))) := (p_3902 _ (fun i hi => (hMX i hi).2.1)).trans km1
  have k_3905 : f_3901 (M 2) = some (.inl (G 1, 10, .inl (fun _ => 0))) := (p_3902 _ (fun i hi => (hMX i hi).2.2.1)).trans km2
  have k_3906 : f_3901 (M 3) = some (.inl (G 1, 81, .inl (fun _ => 0))) := (p_3902 _ (fun i hi => (hMX i hi).2.2.2.1)).trans km3
  have k_3907 : f_3901 (M 4) = some (.inl (G 1, 81, .inl (fun _ => 0))) := (p_3902 _ (fun i hi => (hMX i hi).2.2.2.2.1)).trans km4
  have k_3908 : f_3901 (M 6) = some (.inl (G 1, 4, .inl (fun _ => 0))) := (p_3902 _ (fun i hi => (hMX i hi).2.2.2.2.2)).trans km5
  refine lv_aload_n hx hb dL_law_1315 rfl (lv_at hl 2 rfl) ?_
  refine lv_aload_n hx hb dL_law_1316 rfl (lv_at hl 4 rfl) ?_
  refine lv_iload hx hb dL_law_1317 (lv_at hl 0 rfl) ?_
  refine lv_iconst (v := 1) hx hb dL_law_1319 (by decide) ?_
  refine lv_iadd hx hb dL_law_1320 ?_
  refine lv_topi (fun x_ e_ => ?_)
  obtain rfl : 1 = x_ := by rw [e_]; decide
  refine va_sld hx hb hXs hbl hbA h.2.2.1 (by unfold vp_in; decide) dL_law_1321 ?_
  refine lv_aload_n hx hb dL_law_1322 rfl (lv_at hl 4 rfl) ?_
  refine lv_iload hx hb dL_law_1323 (lv_at hl 0 rfl) ?_
  refine lv_iconst (v := 2) hx hb dL_law_1325 (by decide) ?_
  refine lv_iadd hx hb dL_law_1326 ?_
  refine lv_topi (fun x_ e_ => ?_)
  obtain rfl : 2 = x_ := by rw [e_]; decide
  refine va_sld hx hb hXs hbl hbA h.2.2.1 (by unfold vp_in; decide) dL_law_1327 ?_
  refine lv_aload_n hx hb dL_law_1328 rfl (lv_at hl 4 rfl) ?_
  refine lv_iload hx hb dL_law_1329 (lv_at hl 0 rfl) ?_
  refine lv_iconst (v := 3) hx hb dL_law_1331 (by decide) ?_
  refine lv_iadd hx hb dL_law_1332 ?_
  refine lv_topi (fun x_ e_ => ?_)
  obtain rfl : 3 = x_ := by rw [e_]; decide
  refine va_sld hx hb hXs hbl hbA h.2.2.1 (by unfold vp_in; decide) dL_law_1333 ?_
  refine lv_aload_n hx hb dL_law_1334 rfl (lv_at hl 4 rfl) ?_
  refine lv_iload hx hb dL_law_1335 (lv_at hl 0 rfl) ?_
  refine lv_iconst (v := 4) hx hb dL_law_1337 (by decide) ?_
  refine lv_iadd hx hb dL_law_1338 ?_
  refine lv_topi (fun x_ e_ => ?_)
  obtain rfl : 4 = x_ := by rw [e_]; decide
  refine va_sld hx hb hXs hbl hbA h.2.2.1 (by unfold vp_in; decide) dL_law_1339 ?_
  refine k_i (r_V C h hl (As := [.int (xs (Int32.toNatClampNeg 1)), .int (xs (Int32.toNatClampNeg 2)), .int (xs (Int32.toNatClampNeg 3)), .int (xs (Int32.toNatClampNeg 4))]) (rest := [.int (-1)]) (c_X11_value l D G b0 f_3901 M ⟨k_3903, k_3904, k_3905, k_3906, k_3907, k_3908⟩ (xs (Int32.toNatClampNeg 1)) (xs (Int32.toNatClampNeg 2)) (xs (Int32.toNatClampNeg 3)) (xs (Int32.toNatClampNeg 4))) k_3903 (Cn := RX11) (T := TX11) (N := 32) rfl rfl mk_X11_value w_1766 w_1767 w_1768 w_1769 ⟨Nat.le_of_ble_eq_true rfl, Nat.le_of_ble_eq_true rfl⟩ rfl (Nat.le_of_ble_eq_true rfl) ⟨Nat.le_of_ble_eq_true rfl, Nat.le_of_ble_eq_true rfl⟩ rfl dL_law_1340) h (fun r_3909 f_3910 H locs p_3911 h => ?_)
  subst p_3911
  refine lv_icmp_eq (tgt := 2593) hx hb dL_law_1343 (by decide) (fun c_3912 => ?_) (fun c_3912 => ?_)
  · exact law_end C0 hb0 hE0 h (lv_sub hl [0, 4] rfl) (Nat.le_of_ble_eq_true rfl) (Nat.le_of_ble_eq_true rfl)
  · exact absurd c_3912 (by decide)
set_option maxRecDepth 100000 in
set_option maxHeartbeats 4000000 in
theorem law_24 {p : Program} {l : Launch} {e : Env} {s : State} {m : MethodId} {below : List Frame} {meth : Method} {c : Code} (hst : l.stackTraces = false) {b : Nat} {xs : Nat → Int32} (C0 : lw_At p s m meth c b 8 xs) {D : va_G} {G : Nat → Nat} {b0 : Nat} (hb0 : s.heap.size = b0) (hE0 : hE D G b0 s s.heap) {f : hM} {X M : Nat → Nat} {o : Nat} (hX : xw G f X) (hM : mw G f M) (hMX : ∀ i, i ∈ XI → M 0 ≠ X i ∧ M 1 ≠ X i ∧ M 2 ≠ X i ∧ M 3 ≠ X i ∧ M 4 ≠ X i ∧ M 6 ≠ X i) {H : Heap} {locs : List Loc} {ls : Array Slot} (h : hw D b0 s.heap f H locs) (hl : lv_has ls 7 [(4, .int 0), (3, .ref o), (2, .ref (M 0)), (1, .ref (X 0)), (0, .ref b)]) : W p l e room_1 s m #[Value.ref b] below meth c H locs 125 106894 (lw_Z below #[Value.ref b] s) (F0 m 1348 ls []) := by
  obtain ⟨hx, hb, hr, hml, hown, hts0, hXs, hbl, hlk, hgv⟩ := id C0
  have hts : ∀ w ∈ wAll, w.before #[Value.ref b] s = true := fun w hw => hts0 w (wAll_tbl w hw)
  have C : hC p s m #[Value.ref b] meth c cL_law 7 RL D G b0 := ⟨hx, hb, hml, hown, hts, hE0, hlk⟩
  have hbA : ¬ hA b0 b := by rw [← hb0]; exact Nat.not_le.mpr hbl
  obtain ⟨kx0, kx1, kx2, kx3, kx4, kx5, kx6, kx7, kx8, kx9⟩ := (id hX)
  obtain ⟨km0, km1, km2, km3, km4, km5⟩ := (id hM)
  refine lv_aload_n hx hb dL_law_1348 rfl (lv_at hl 3 rfl) ?_
  refine lv_aload_n hx hb dL_law_1349 rfl (lv_at hl 4 rfl) ?_
  refine lv_iload hx hb dL_law_1350 (lv_at hl 0 rfl) ?_
  refine lv_iconst (v := 1) hx hb dL_law_1352 (by decide) ?_
  refine lv_iadd hx hb dL_law_1353 ?_
  refine lv_topi (fun x_ e_ => ?_)
  obtain rfl : 1 = x_ := by rw [e_]; decide
  refine va_sld hx hb hXs hbl hbA h.2.2.1 (by unfold vp_in; decide) dL_law_1354 ?_
  refine lv_aload_n hx hb dL_law_1355 rfl (lv_at hl 4 rfl) ?_
  refine lv_iload hx hb dL_law_1356 (lv_at hl 0 rfl) ?_
  refine lv_iconst (v := 2) hx hb dL_law_1358 (by decide) ?_
  refine lv_iadd hx hb dL_law_1359 ?_
  refine lv_topi (fun x_ e_ => ?_)
  obtain rfl : 2 = x_ := by rw [e_]; decide
  refine va_sld hx hb hXs hbl hbA h.2.2.1 (by unfold vp_in; decide) dL_law_1360 ?_
  refine lv_aload_n hx hb dL_law_1361 rfl (lv_at hl 4 rfl) ?_
  refine lv_iload hx hb dL_law_1362 (lv_at hl 0 rfl) ?_
  refine lv_iconst (v := 3) hx hb dL_law_1364 (by decide) ?_
  refine lv_iadd hx hb dL_law_1365 ?_
  refine lv_topi (fun x_ e_ => ?_)
  obtain rfl : 3 = x_ := by rw [e_]; decide
  refine va_sld hx hb hXs hbl hbA h.2.2.1 (by unfold vp_in; decide) dL_law_1366 ?_
  refine lv_aload_n hx hb dL_law_1367 rfl (lv_at hl 4 rfl) ?_
  refine lv_iload hx hb dL_law_1368 (lv_at hl 0 rfl) ?_
  refine lv_iconst (v := 4) hx hb dL_law_1370 (by decide) ?_
  refine lv_iadd hx hb dL_law_1371 ?_
  refine lv_topi (fun x_ e_ => ?_)
  obtain rfl : 4 = x_ := by rw [e_]; decide
  refine va_sld hx hb hXs hbl hbA h.2.2.1 (by unfold vp_in; decide) dL_law_1372 ?_
  refine lv_aload_n hx hb dL_law_1373 rfl (lv_at hl 4 rfl) ?_
  refine lv_iload hx hb dL_law_1374 (lv_at hl 0 rfl) ?_
  refine lv_iconst (v := 5) hx hb dL_law_1376 (by decide) ?_
  refine lv_iadd hx hb dL_law_1377 ?_
  refine lv_topi (fun x_ e_ => ?_)
  obtain rfl : 5 = x_ := by rw [e_]; decide
  refine va_sld hx hb hXs hbl hbA h.2.2.1 (by unfold vp_in; decide) dL_law_1378 ?_
  refine lv_aload_n hx hb dL_law_1379 rfl (lv_at hl 4 rfl) ?_
  refine lv_iload hx hb dL_law_1380 (lv_at hl 0 rfl) ?_
  refine lv_bipush (v := 6) hx hb dL_law_1382 (by decide) ?_
  refine lv_iadd hx hb dL_law_1384 ?_
  refine lv_topi (fun x_ e_ => ?_)
  obtain rfl : 6 = x_ := by rw [e_]; decide
  refine va_sld hx hb hXs hbl hbA h.2.2.1 (by unfold vp_in; decide) dL_law_1385 ?_
  refine k_i (r_V C h hl (As := [.int (xs (Int32.toNatClampNeg 1)), .int (xs (Int32.toNatClampNeg 2)), .int (xs (Int32.toNatClampNeg 3)), .int (xs (Int32.toNatClampNeg 4)), .int (xs (Int32.toNatClampNeg 5)), .int (xs (Int32.toNatClampNeg 6))]) (rest := []) (c_X10_walk l D G b0 f X hX (xs (Int32.toNatClampNeg 1)) (xs (Int32.toNatClampNeg 2)) (xs (Int32.toNatClampNeg 3)) (xs (Int32.toNatClampNeg 4)) (xs (Int32.toNatClampNeg 5)) (xs (Int32.toNatClampNeg 6))) kx0 (Cn := RX10) (T := TX10) (N := 10) rfl rfl mk_X10_walk w_860 w_861 w_862 w_863 ⟨Nat.le_of_ble_eq_true rfl, Nat.le_of_ble_eq_true rfl⟩ rfl (Nat.le_of_ble_eq_true rfl) ⟨Nat.le_of_ble_eq_true rfl, Nat.le_of_ble_eq_true rfl⟩ rfl dL_law_1386) h (fun r_3913 f_3914 H locs p_3915 h => ?_)
  obtain ⟨rfl, p_3915⟩ := p_3915
  have k_3916 : f_3914 (M 0) = some (.inr (12, [.int 0, .ref (M 1), .int 0, .int 0, .int 0, .ref (M 2), .ref (M 3), .ref (M 4), .ref (M 5), .ref (M 6), .int 0, .int 0, .ref (M 7), .ref (M 8), .int 0, .ref (M 9), .ref (M 10), .ref (M 11), .long 0, .ref (M 12), .ref (M 13), .ref (M 14), .ref (M 15), .ref (M 16), .ref (M 17), .ref (M 18), .ref (M 19), .int 0, .int 0, .ref (M 20), .ref (M 21), .int 0])) := (p_3915 _ (fun i hi => (hMX i hi).1)).trans km0
  have k_3917 : f_3914 (M 1) = some (.inl (G 0, 200, .inl (fun _ => 0))) := (p_3915 _ (fun i hi => (hMX i hi).2.1)).trans km1
  have k_3918 : f_3914 (M 2) = some (.inl (G 1, 10, .inl (fun _ => 0))) := (p_3915 _ (fun i hi => (hMX i hi).2.2.1)).trans km2
  have k_3919 : f_3914 (M 3) = some (.inl (G 1, 81, .inl (fun _ => 0))) := (p_3915 _ (fun i hi => (hMX i hi).2.2.2.1)).trans km3
  have k_3920 : f_3914 (M 4) = some (.inl (G 1, 81, .inl (fun _ => 0))) := (p_3915 _ (fun i hi => (hMX i hi).2.2.2.2.1)).trans km4
  have k_3921 : f_3914 (M 6) = some (.inl (G 1, 4, .inl (fun _ => 0))) := (p_3915 _ (fun i hi => (hMX i hi).2.2.2.2.2)).trans km5
  refine lv_aload_n hx hb dL_law_1389 rfl (lv_at hl 2 rfl) ?_
  refine lv_aload_n hx hb dL_law_1390 rfl (lv_at hl 4 rfl) ?_
  refine lv_iload hx hb dL_law_1391 (lv_at hl 0 rfl) ?_
  refine lv_iconst (v := 1) hx hb dL_law_1393 (by decide) ?_
  refine lv_iadd hx hb dL_law_1394 ?_
  refine lv_topi (fun x_ e_ => ?_)
  obtain rfl : 1 = x_ := by rw [e_]; decide
  refine va_sld hx hb hXs hbl hbA h.2.2.1 (by unfold vp_in; decide) dL_law_1395 ?_
  refine lv_aload_n hx hb dL_law_1396 rfl (lv_at hl 4 rfl) ?_
  refine lv_iload hx hb dL_law_1397 (lv_at hl 0 rfl) ?_
  refine lv_iconst (v := 2) hx hb dL_law_1399 (by decide) ?_
  refine lv_iadd hx hb dL_law_1400 ?_
  refine lv_topi (fun x_ e_ => ?_)
  obtain rfl : 2 = x_ := by rw [e_]; decide
  refine va_sld hx hb hXs hbl hbA h.2.2.1 (by unfold vp_in; decide) dL_law_1401 ?_
  refine lv_aload_n hx hb dL_law_1402 rfl (lv_at hl 4 rfl) ?_
  refine lv_iload hx hb dL_law_1403 (lv_at hl 0 rfl) ?_
  refine lv_iconst (v := 3) hx hb dL_law_1405 (by decide) ?_
  refine lv_iadd hx hb dL_law_1406 ?_
  refine lv_topi (fun x_ e_ => ?_)
  obtain rfl : 3 = x_ := by rw [e_]; decide
  refine va_sld hx hb hXs hbl hbA h.2.2.1 (by unfold vp_in; decide) dL_law_1407 ?_
  refine lv_aload_n hx hb dL_law_1408 rfl (lv_at hl 4 rfl) ?_
  refine lv_iload hx hb dL_law_1409 (lv_at hl 0 rfl) ?_
  refine lv_iconst (v := 4) hx hb dL_law_1411 (by decide) ?_
  refine lv_iadd hx hb dL_law_1412 ?_
  refine lv_topi (fun x_ e_ => ?_)
  obtain rfl : 4 = x_ := by rw [e_]; decide
  refine va_sld hx hb hXs hbl hbA h.2.2.1 (by unfold vp_in; decide) dL_law_1413 ?_
  refine lv_aload_n hx hb dL_law_1414 rfl (lv_at hl 4 rfl) ?_
  refine lv_iload hx hb dL_law_1415 (lv_at hl 0 rfl) ?_
  refine lv_iconst (v := 5) hx hb dL_law_1417 (by decide) ?_
  refine lv_iadd hx hb dL_law_1418 ?_
  refine lv_topi (fun x_ e_ => ?_)
  obtain rfl : 5 = x_ := by rw [e_]; decide
  refine va_sld hx hb hXs hbl hbA h.2.2.1 (by unfold vp_in; decide) dL_law_1419 ?_
  refine lv_aload_n hx hb dL_law_1420 rfl (lv_at hl 4 rfl) ?_
  refine lv_iload hx hb dL_law_1421 (lv_at hl 0 rfl) ?_
  refine lv_bipush (v := 6) hx hb dL_law_1423 (by decide) ?_
  refine lv_iadd hx hb dL_law_1425 ?_
  refine lv_topi (fun x_ e_ => ?_)
  obtain rfl : 6 = x_ := by rw [e_]; decide
  refine va_sld hx hb hXs hbl hbA h.2.2.1 (by unfold vp_in; decide) dL_law_1426 ?_
  refine k_i (r_V C h hl (As := [.int (xs (Int32.toNatClampNeg 1)), .int (xs (Int32.toNatClampNeg 2)), .int (xs (Int32.toNatClampNeg 3)), .int (xs (Int32.toNatClampNeg 4)), .int (xs (Int32.toNatClampNeg 5)), .int (xs (Int32.toNatClampNeg 6))]) (rest := [.int (-1000000)]) (c_X11_walk l D G b0 f_3914 M ⟨k_3916, k_3917, k_3918, k_3919, k_3920, k_3921⟩ (xs (Int32.toNatClampNeg 1)) (xs (Int32.toNatClampNeg 2)) (xs (Int32.toNatClampNeg 3)) (xs (Int32.toNatClampNeg 4)) (xs (Int32.toNatClampNeg 5)) (xs (Int32.toNatClampNeg 6))) k_3916 (Cn := RX11) (T := TX11) (N := 32) rfl rfl mk_X11_walk w_1820 w_1821 w_1822 w_1823 ⟨Nat.le_of_ble_eq_true rfl, Nat.le_of_ble_eq_true rfl⟩ rfl (Nat.le_of_ble_eq_true rfl) ⟨Nat.le_of_ble_eq_true rfl, Nat.le_of_ble_eq_true rfl⟩ rfl dL_law_1427) h (fun r_3922 f_3923 H locs p_3924 h => ?_)
  subst p_3924
  refine lv_icmp_eq (tgt := 2593) hx hb dL_law_1430 (by decide) (fun c_3925 => ?_) (fun c_3925 => ?_)
  · exact law_end C0 hb0 hE0 h (lv_sub hl [0, 4] rfl) (Nat.le_of_ble_eq_true rfl) (Nat.le_of_ble_eq_true rfl)
  · exact absurd c_3925 (by decide)
set_option maxRecDepth 100000 in
set_option maxHeartbeats 4000000 in
theorem law_25 {p : Program} {l : Launch} {e : Env} {s : State} {m : MethodId} {below : List Frame} {meth : Method} {c : Code} (hst : l.stackTraces = false) {b : Nat} {xs : Nat → Int32} (C0 : lw_At p s m meth c b 8 xs) {D : va_G} {G : Nat → Nat} {b0 : Nat} (hb0 : s.heap.size = b0) (hE0 : hE D G b0 s s.heap) {f : hM} {X M : Nat → Nat} {o : Nat} (hX : xw G f X) (hM : mw G f M) (hMX : ∀ i, i ∈ XI → M 0 ≠ X i ∧ M 1 ≠ X i ∧ M 2 ≠ X i ∧ M 3 ≠ X i ∧ M 4 ≠ X i ∧ M 6 ≠ X i) {H : Heap} {locs : List Loc} {ls : Array Slot} (h : hw D b0 s.heap f H locs) (hl : lv_has ls 7 [(4, .int 0), (3, .ref o), (2, .ref (M 0)), (1, .ref (X 0)), (0, .ref b)]) : W p l e room_1 s m #[Value.ref b] below meth c H locs 125 106894 (lw_Z below #[Value.ref b] s) (F0 m 1435 ls []) := by
  obtain ⟨hx, hb, hr, hml, hown, hts0, hXs, hbl, hlk, hgv⟩ := id C0
  have hts : ∀ w ∈ wAll, w.before #[Value.ref b] s = true := fun w hw => hts0 w (wAll_tbl w hw)
  have C : hC p s m #[Value.ref b] meth c cL_law 7 RL D G b0 := ⟨hx, hb, hml, hown, hts, hE0, hlk⟩
  have hbA : ¬ hA b0 b := by rw [← hb0]; exact Nat.not_le.mpr hbl
  obtain ⟨kx0, kx1, kx2, kx3, kx4, kx5, kx6, kx7, kx8, kx9⟩ := (id hX)
  obtain ⟨km0, km1, km2, km3, km4, km5⟩ := (id hM)
  refine lv_aload_n hx hb dL_law_1435 rfl (lv_at hl 3 rfl) ?_
  refine lv_aload_n hx hb dL_law_1436 rfl (lv_at hl 4 rfl) ?_
  refine lv_iload hx hb dL_law_1437 (lv_at hl 0 rfl) ?_
  refine lv_iconst (v := 1) hx hb dL_law_1439 (by decide) ?_
  refine lv_iadd hx hb dL_law_1440 ?_
  refine lv_topi (fun x_ e_ => ?_)
  obtain rfl : 1 = x_ := by rw [e_]; decide
  refine va_sld hx hb hXs hbl hbA h.2.2.1 (by unfold vp_in; decide) dL_law_1441 ?_
  refine lv_aload_n hx hb dL_law_1442 rfl (lv_at hl 4 rfl) ?_
  refine lv_iload hx hb dL_law_1443 (lv_at hl 0 rfl) ?_
  refine lv_iconst (v := 2) hx hb dL_law_1445 (by decide) ?_
  refine lv_iadd hx hb dL_law_1446 ?_
  refine lv_topi (fun x_ e_ => ?_)
  obtain rfl : 2 = x_ := by rw [e_]; decide
  refine va_sld hx hb hXs hbl hbA h.2.2.1 (by unfold vp_in; decide) dL_law_1447 ?_
  refine lv_aload_n hx hb dL_law_1448 rfl (lv_at hl 4 rfl) ?_
  refine lv_iload hx hb dL_law_1449 (lv_at hl 0 rfl) ?_
  refine lv_iconst (v := 3) hx hb dL_law_1451 (by decide) ?_
  refine lv_iadd hx hb dL_law_1452 ?_
  refine lv_topi (fun x_ e_ => ?_)
  obtain rfl : 3 = x_ := by rw [e_]; decide
  refine va_sld hx hb hXs hbl hbA h.2.2.1 (by unfold vp_in; decide) dL_law_1453 ?_
  refine lv_aload_n hx hb dL_law_1454 rfl (lv_at hl 4 rfl) ?_
  refine lv_iload hx hb dL_law_1455 (lv_at hl 0 rfl) ?_
  refine lv_iconst (v := 4) hx hb dL_law_1457 (by decide) ?_
  refine lv_iadd hx hb dL_law_1458 ?_
  refine lv_topi (fun x_ e_ => ?_)
  obtain rfl : 4 = x_ := by rw [e_]; decide
  refine va_sld hx hb hXs hbl hbA h.2.2.1 (by unfold vp_in; decide) dL_law_1459 ?_
  refine lv_aload_n hx hb dL_law_1460 rfl (lv_at hl 4 rfl) ?_
  refine lv_iload hx hb dL_law_1461 (lv_at hl 0 rfl) ?_
  refine lv_iconst (v := 5) hx hb dL_law_1463 (by decide) ?_
  refine lv_iadd hx hb dL_law_1464 ?_
  refine lv_topi (fun x_ e_ => ?_)
  obtain rfl : 5 = x_ := by rw [e_]; decide
  refine va_sld hx hb hXs hbl hbA h.2.2.1 (by unfold vp_in; decide) dL_law_1465 ?_
  refine lv_i2l (v := Int32.toInt64 (xs (Int32.toNatClampNeg 5))) hx hb dL_law_1466 rfl ?_
  refine lv_bipush (v := 32) hx hb dL_law_1467 (by decide) ?_
  refine lv_lshl (v := (Int32.toInt64 (xs (Int32.toNatClampNeg 5))) <<< (Int32.toInt64 32 &&& 63)) hx hb dL_law_1469 rfl ?_
  refine lv_aload_n hx hb dL_law_1470 rfl (lv_at hl 4 rfl) ?_
  refine lv_iload hx hb dL_law_1471 (lv_at hl 0 rfl) ?_
  refine lv_bipush (v := 6) hx hb dL_law_1473 (by decide) ?_
  refine lv_iadd hx hb dL_law_1475 ?_
  refine lv_topi (fun x_ e_ => ?_)
  obtain rfl : 6 = x_ := by rw [e_]; decide
  refine va_sld hx hb hXs hbl hbA h.2.2.1 (by unfold vp_in; decide) dL_law_1476 ?_
  refine lv_i2l (v := Int32.toInt64 (xs (Int32.toNatClampNeg 6))) hx hb dL_law_1477 rfl ?_
  refine lv_ldc2 (v := 4294967295) hx hb hown (hts _ w_2062) dL_law_1478 ?_
  refine lv_land hx hb dL_law_1481 ?_
  refine lv_lor hx hb dL_law_1482 ?_
  refine lv_aload_n hx hb dL_law_1483 rfl (lv_at hl 4 rfl) ?_
  refine lv_iload hx hb dL_law_1484 (lv_at hl 0 rfl) ?_
  refine lv_bipush (v := 7) hx hb dL_law_1486 (by decide) ?_
  refine lv_iadd hx hb dL_law_1488 ?_
  refine lv_topi (fun x_ e_ => ?_)
  obtain rfl : 7 = x_ := by rw [e_]; decide
  refine va_sld hx hb hXs hbl hbA h.2.2.1 (by unfold vp_in; decide) dL_law_1489 ?_
  refine k_i (r_V C h hl (As := [.int (xs (Int32.toNatClampNeg 1)), .int (xs (Int32.toNatClampNeg 2)), .int (xs (Int32.toNatClampNeg 3)), .int (xs (Int32.toNatClampNeg 4)), .long (((Int32.toInt64 (xs (Int32.toNatClampNeg 5))) <<< (Int32.toInt64 32 &&& 63)) ||| ((Int32.toInt64 (xs (Int32.toNatClampNeg 6))) &&& 4294967295)), .int (xs (Int32.toNatClampNeg 7))]) (rest := []) (c_X10_drawn l D G b0 f X hX (xs (Int32.toNatClampNeg 1)) (xs (Int32.toNatClampNeg 2)) (xs (Int32.toNatClampNeg 3)) (xs (Int32.toNatClampNeg 4)) (((Int32.toInt64 (xs (Int32.toNatClampNeg 5))) <<< (Int32.toInt64 32 &&& 63)) ||| ((Int32.toInt64 (xs (Int32.toNatClampNeg 6))) &&& 4294967295)) (xs (Int32.toNatClampNeg 7))) kx0 (Cn := RX10) (T := TX10) (N := 10) rfl rfl mk_X10_drawn w_890 w_891 w_892 w_893 ⟨Nat.le_of_ble_eq_true rfl, Nat.le_of_ble_eq_true rfl⟩ rfl (Nat.le_of_ble_eq_true rfl) ⟨Nat.le_of_ble_eq_true rfl, Nat.le_of_ble_eq_true rfl⟩ rfl dL_law_1490) h (fun r_3926 f_3927 H locs p_3928 h => ?_)
  obtain ⟨rfl, p_3928⟩ := p_3928
  have k_3929 : f_3927 (M 0) = some (.inr (12, [.int 0, .ref (M 1), .int 0, .int 0, .int 0, .ref (M 2), .ref (M 3), .ref (M 4), .ref (M 5), .ref (M 6), .int 0, .int 0, .ref (M 7), .ref (M 8), .int 0, .ref (M 9), .ref (M 10), .ref (M 11), .long 0, .ref (M 12), .ref (M 13), .ref (M 14), .ref (M 15), .ref (M 16), .ref (M 17), .ref (M 18), .ref (M 19), .int 0, .int 0, .ref (M 20), .ref (M 21), .int 0])) := (p_3928 _ (fun i hi => (hMX i hi).1)).trans km0
  have k_3930 : f_3927 (M 1) = some (.inl (G 0, 200, .inl (fun _ => 0))) := (p_3928 _ (fun i hi => (hMX i hi).2.1)).trans km1
  have k_3931 : f_3927 (M 2) = some (.inl (G 1, 10, .inl (fun _ => 0))) := (p_3928 _ (fun i hi => (hMX i hi).2.2.1)).trans km2
  have k_3932 : f_3927 (M 3) = some (.inl (G 1, 81, .inl (fun _ => 0))) := (p_3928 _ (fun i hi => (hMX i hi).2.2.2.1)).trans km3
  have k_3933 : f_3927 (M 4) = some (.inl (G 1, 81, .inl (fun _ => 0))) := (p_3928 _ (fun i hi => (hMX i hi).2.2.2.2.1)).trans km4
  have k_3934 : f_3927 (M 6) = some (.inl (G 1, 4, .inl (fun _ => 0))) := (p_3928 _ (fun i hi => (hMX i hi).2.2.2.2.2)).trans km5
  refine lv_aload_n hx hb dL_law_1493 rfl (lv_at hl 2 rfl) ?_
  refine lv_aload_n hx hb dL_law_1494 rfl (lv_at hl 4 rfl) ?_
  refine lv_iload hx hb dL_law_1495 (lv_at hl 0 rfl) ?_
  refine lv_iconst (v := 1) hx hb dL_law_1497 (by decide) ?_
  refine lv_iadd hx hb dL_law_1498 ?_
  refine lv_topi (fun x_ e_ => ?_)
  obtain rfl : 1 = x_ := by rw [e_]; decide
  refine va_sld hx hb hXs hbl hbA h.2.2.1 (by unfold vp_in; decide) dL_law_1499 ?_
  refine lv_aload_n hx hb dL_law_1500 rfl (lv_at hl 4 rfl) ?_
  refine lv_iload hx hb dL_law_1501 (lv_at hl 0 rfl) ?_
  refine lv_iconst (v := 2) hx hb dL_law_1503 (by decide) ?_
  refine lv_iadd hx hb dL_law_1504 ?_
  refine lv_topi (fun x_ e_ => ?_)
  obtain rfl : 2 = x_ := by rw [e_]; decide
  refine va_sld hx hb hXs hbl hbA h.2.2.1 (by unfold vp_in; decide) dL_law_1505 ?_
  refine lv_aload_n hx hb dL_law_1506 rfl (lv_at hl 4 rfl) ?_
  refine lv_iload hx hb dL_law_1507 (lv_at hl 0 rfl) ?_
  refine lv_iconst (v := 3) hx hb dL_law_1509 (by decide) ?_
  refine lv_iadd hx hb dL_law_1510 ?_
  refine lv_topi (fun x_ e_ => ?_)
  obtain rfl : 3 = x_ := by rw [e_]; decide
  refine va_sld hx hb hXs hbl hbA h.2.2.1 (by unfold vp_in; decide) dL_law_1511 ?_
  refine lv_aload_n hx hb dL_law_1512 rfl (lv_at hl 4 rfl) ?_
  refine lv_iload hx hb dL_law_1513 (lv_at hl 0 rfl) ?_
  refine lv_iconst (v := 4) hx hb dL_law_1515 (by decide) ?_
  refine lv_iadd hx hb dL_law_1516 ?_
  refine lv_topi (fun x_ e_ => ?_)
  obtain rfl : 4 = x_ := by rw [e_]; decide
  refine va_sld hx hb hXs hbl hbA h.2.2.1 (by unfold vp_in; decide) dL_law_1517 ?_
  refine lv_aload_n hx hb dL_law_1518 rfl (lv_at hl 4 rfl) ?_
  refine lv_iload hx hb dL_law_1519 (lv_at hl 0 rfl) ?_
  refine lv_iconst (v := 5) hx hb dL_law_1521 (by decide) ?_
  refine lv_iadd hx hb dL_law_1522 ?_
  refine lv_topi (fun x_ e_ => ?_)
  obtain rfl : 5 = x_ := by rw [e_]; decide
  refine va_sld hx hb hXs hbl hbA h.2.2.1 (by unfold vp_in; decide) dL_law_1523 ?_
  refine lv_i2l (v := Int32.toInt64 (xs (Int32.toNatClampNeg 5))) hx hb dL_law_1524 rfl ?_
  refine lv_bipush (v := 32) hx hb dL_law_1525 (by decide) ?_
  refine lv_lshl (v := (Int32.toInt64 (xs (Int32.toNatClampNeg 5))) <<< (Int32.toInt64 32 &&& 63)) hx hb dL_law_1527 rfl ?_
  refine lv_aload_n hx hb dL_law_1528 rfl (lv_at hl 4 rfl) ?_
  refine lv_iload hx hb dL_law_1529 (lv_at hl 0 rfl) ?_
  refine lv_bipush (v := 6) hx hb dL_law_1531 (by decide) ?_
  refine lv_iadd hx hb dL_law_1533 ?_
  refine lv_topi (fun x_ e_ => ?_)
  obtain rfl : 6 = x_ := by rw [e_]; decide
  refine va_sld hx hb hXs hbl hbA h.2.2.1 (by unfold vp_in; decide) dL_law_1534 ?_
  refine lv_i2l (v := Int32.toInt64 (xs (Int32.toNatClampNeg 6))) hx hb dL_law_1535 rfl ?_
  refine lv_ldc2 (v := 4294967295) hx hb hown (hts _ w_2062) dL_law_1536 ?_
  refine lv_land hx hb dL_law_1539 ?_
  refine lv_lor hx hb dL_law_1540 ?_
  refine lv_aload_n hx hb dL_law_1541 rfl (lv_at hl 4 rfl) ?_
  refine lv_iload hx hb dL_law_1542 (lv_at hl 0 rfl) ?_
  refine lv_bipush (v := 7) hx hb dL_law_1544 (by decide) ?_
  refine lv_iadd hx hb dL_law_1546 ?_
  refine lv_topi (fun x_ e_ => ?_)
  obtain rfl : 7 = x_ := by rw [e_]; decide
  refine va_sld hx hb hXs hbl hbA h.2.2.1 (by unfold vp_in; decide) dL_law_1547 ?_
  refine k_i (r_V C h hl (As := [.int (xs (Int32.toNatClampNeg 1)), .int (xs (Int32.toNatClampNeg 2)), .int (xs (Int32.toNatClampNeg 3)), .int (xs (Int32.toNatClampNeg 4)), .long (((Int32.toInt64 (xs (Int32.toNatClampNeg 5))) <<< (Int32.toInt64 32 &&& 63)) ||| ((Int32.toInt64 (xs (Int32.toNatClampNeg 6))) &&& 4294967295)), .int (xs (Int32.toNatClampNeg 7))]) (rest := [.int (-1000000)]) (c_X11_drawn l D G b0 f_3927 M ⟨k_3929, k_3930, k_3931, k_3932, k_3933, k_3934⟩ (xs (Int32.toNatClampNeg 1)) (xs (Int32.toNatClampNeg 2)) (xs (Int32.toNatClampNeg 3)) (xs (Int32.toNatClampNeg 4)) (((Int32.toInt64 (xs (Int32.toNatClampNeg 5))) <<< (Int32.toInt64 32 &&& 63)) ||| ((Int32.toInt64 (xs (Int32.toNatClampNeg 6))) &&& 4294967295)) (xs (Int32.toNatClampNeg 7))) k_3929 (Cn := RX11) (T := TX11) (N := 32) rfl rfl mk_X11_drawn w_1840 w_1841 w_1842 w_1843 ⟨Nat.le_of_ble_eq_true rfl, Nat.le_of_ble_eq_true rfl⟩ rfl (Nat.le_of_ble_eq_true rfl) ⟨Nat.le_of_ble_eq_true rfl, Nat.le_of_ble_eq_true rfl⟩ rfl dL_law_1548) h (fun r_3935 f_3936 H locs p_3937 h => ?_)
  subst p_3937
  refine lv_icmp_eq (tgt := 2593) hx hb dL_law_1551 (by decide) (fun c_3938 => ?_) (fun c_3938 => ?_)
  · exact law_end C0 hb0 hE0 h (lv_sub hl [0, 4] rfl) (Nat.le_of_ble_eq_true rfl) (Nat.le_of_ble_eq_true rfl)
  · exact absurd c_3938 (by decide)
set_option maxRecDepth 100000 in
set_option maxHeartbeats 4000000 in
theorem law_26 {p : Program} {l : Launch} {e : Env} {s : State} {m : MethodId} {below : List Frame} {meth : Method} {c : Code} (hst : l.stackTraces = false) {b : Nat} {xs : Nat → Int32} (C0 : lw_At p s m meth c b 8 xs) {D : va_G} {G : Nat → Nat} {b0 : Nat} (hb0 : s.heap.size = b0) (hE0 : hE D G b0 s s.heap) {f : hM} {X M : Nat → Nat} {o : Nat} (hX : xw G f X) (hM : mw G f M) (hMX : ∀ i, i ∈ XI → M 0 ≠ X i ∧ M 1 ≠ X i ∧ M 2 ≠ X i ∧ M 3 ≠ X i ∧ M 4 ≠ X i ∧ M 6 ≠ X i) {H : Heap} {locs : List Loc} {ls : Array Slot} (h : hw D b0 s.heap f H locs) (hl : lv_has ls 7 [(4, .int 0), (3, .ref o), (2, .ref (M 0)), (1, .ref (X 0)), (0, .ref b)]) : W p l e room_1 s m #[Value.ref b] below meth c H locs 125 106894 (lw_Z below #[Value.ref b] s) (F0 m 1556 ls []) := by
  obtain ⟨hx, hb, hr, hml, hown, hts0, hXs, hbl, hlk, hgv⟩ := id C0
  have hts : ∀ w ∈ wAll, w.before #[Value.ref b] s = true := fun w hw => hts0 w (wAll_tbl w hw)
  have C : hC p s m #[Value.ref b] meth c cL_law 7 RL D G b0 := ⟨hx, hb, hml, hown, hts, hE0, hlk⟩
  have hbA : ¬ hA b0 b := by rw [← hb0]; exact Nat.not_le.mpr hbl
  obtain ⟨kx0, kx1, kx2, kx3, kx4, kx5, kx6, kx7, kx8, kx9⟩ := (id hX)
  obtain ⟨km0, km1, km2, km3, km4, km5⟩ := (id hM)
  refine lv_aload_n hx hb dL_law_1556 rfl (lv_at hl 3 rfl) ?_
  refine lv_aload_n hx hb dL_law_1557 rfl (lv_at hl 4 rfl) ?_
  refine lv_iload hx hb dL_law_1558 (lv_at hl 0 rfl) ?_
  refine lv_iconst (v := 1) hx hb dL_law_1560 (by decide) ?_
  refine lv_iadd hx hb dL_law_1561 ?_
  refine lv_topi (fun x_ e_ => ?_)
  obtain rfl : 1 = x_ := by rw [e_]; decide
  refine va_sld hx hb hXs hbl hbA h.2.2.1 (by unfold vp_in; decide) dL_law_1562 ?_
  refine lv_aload_n hx hb dL_law_1563 rfl (lv_at hl 4 rfl) ?_
  refine lv_iload hx hb dL_law_1564 (lv_at hl 0 rfl) ?_
  refine lv_iconst (v := 2) hx hb dL_law_1566 (by decide) ?_
  refine lv_iadd hx hb dL_law_1567 ?_
  refine lv_topi (fun x_ e_ => ?_)
  obtain rfl : 2 = x_ := by rw [e_]; decide
  refine va_sld hx hb hXs hbl hbA h.2.2.1 (by unfold vp_in; decide) dL_law_1568 ?_
  refine lv_aload_n hx hb dL_law_1569 rfl (lv_at hl 4 rfl) ?_
  refine lv_iload hx hb dL_law_1570 (lv_at hl 0 rfl) ?_
  refine lv_iconst (v := 3) hx hb dL_law_1572 (by decide) ?_
  refine lv_iadd hx hb dL_law_1573 ?_
  refine lv_topi (fun x_ e_ => ?_)
  obtain rfl : 3 = x_ := by rw [e_]; decide
  refine va_sld hx hb hXs hbl hbA h.2.2.1 (by unfold vp_in; decide) dL_law_1574 ?_
  refine k_i (r_V C h hl (As := [.int (xs (Int32.toNatClampNeg 1)), .int (xs (Int32.toNatClampNeg 2)), .int (xs (Int32.toNatClampNeg 3))]) (rest := []) (c_X10_peak l D G b0 f X hX (xs (Int32.toNatClampNeg 1)) (xs (Int32.toNatClampNeg 2)) (xs (Int32.toNatClampNeg 3))) kx0 (Cn := RX10) (T := TX10) (N := 10) rfl rfl mk_X10_peak w_896 w_897 w_898 w_899 ⟨Nat.le_of_ble_eq_true rfl, Nat.le_of_ble_eq_true rfl⟩ rfl (Nat.le_of_ble_eq_true rfl) ⟨Nat.le_of_ble_eq_true rfl, Nat.le_of_ble_eq_true rfl⟩ rfl dL_law_1575) h (fun r_3939 f_3940 H locs p_3941 h => ?_)
  obtain ⟨rfl, p_3941⟩ := p_3941
  have k_3942 : f_3940 (M 0) = some (.inr (12, [.int 0, .ref (M 1), .int 0, .int 0, .int 0, .ref (M 2), .ref (M 3), .ref (M 4), .ref (M 5), .ref (M 6), .int 0, .int 0, .ref (M 7), .ref (M 8), .int 0, .ref (M 9), .ref (M 10), .ref (M 11), .long 0, .ref (M 12), .ref (M 13), .ref (M 14), .ref (M 15), .ref (M 16), .ref (M 17), .ref (M 18), .ref (M 19), .int 0, .int 0, .ref (M 20), .ref (M 21), .int 0])) := (p_3941 _ (fun i hi => (hMX i hi).1)).trans km0
  have k_3943 : f_3940 (M 1) = some (.inl (G 0, 200, .inl (fun _ => 0))) := (p_3941 _ (fun i hi => (hMX i hi).2.1)).trans km1
  have k_3944 : f_3940 (M 2) = some (.inl (G 1, 10, .inl (fun _ => 0))) := (p_3941 _ (fun i hi => (hMX i hi).2.2.1)).trans km2
  have k_3945 : f_3940 (M 3) = some (.inl (G 1, 81, .inl (fun _ => 0))) := (p_3941 _ (fun i hi => (hMX i hi).2.2.2.1)).trans km3
  have k_3946 : f_3940 (M 4) = some (.inl (G 1, 81, .inl (fun _ => 0))) := (p_3941 _ (fun i hi => (hMX i hi).2.2.2.2.1)).trans km4
  have k_3947 : f_3940 (M 6) = some (.inl (G 1, 4, .inl (fun _ => 0))) := (p_3941 _ (fun i hi => (hMX i hi).2.2.2.2.2)).trans km5
  refine lv_aload_n hx hb dL_law_1578 rfl (lv_at hl 2 rfl) ?_
  refine lv_aload_n hx hb dL_law_1579 rfl (lv_at hl 4 rfl) ?_
  refine lv_iload hx hb dL_law_1580 (lv_at hl 0 rfl) ?_
  refine lv_iconst (v := 1) hx hb dL_law_1582 (by decide) ?_
  refine lv_iadd hx hb dL_law_1583 ?_
  refine lv_topi (fun x_ e_ => ?_)
  obtain rfl : 1 = x_ := by rw [e_]; decide
  refine va_sld hx hb hXs hbl hbA h.2.2.1 (by unfold vp_in; decide) dL_law_1584 ?_
  refine lv_aload_n hx hb dL_law_1585 rfl (lv_at hl 4 rfl) ?_
  refine lv_iload hx hb dL_law_1586 (lv_at hl 0 rfl) ?_
  refine lv_iconst (v := 2) hx hb dL_law_1588 (by decide) ?_
  refine lv_iadd hx hb dL_law_1589 ?_
  refine lv_topi (fun x_ e_ => ?_)
  obtain rfl : 2 = x_ := by rw [e_]; decide
  refine va_sld hx hb hXs hbl hbA h.2.2.1 (by unfold vp_in; decide) dL_law_1590 ?_
  refine lv_aload_n hx hb dL_law_1591 rfl (lv_at hl 4 rfl) ?_
  refine lv_iload hx hb dL_law_1592 (lv_at hl 0 rfl) ?_
  refine lv_iconst (v := 3) hx hb dL_law_1594 (by decide) ?_
  refine lv_iadd hx hb dL_law_1595 ?_
  refine lv_topi (fun x_ e_ => ?_)
  obtain rfl : 3 = x_ := by rw [e_]; decide
  refine va_sld hx hb hXs hbl hbA h.2.2.1 (by unfold vp_in; decide) dL_law_1596 ?_
  refine k_i (r_V C h hl (As := [.int (xs (Int32.toNatClampNeg 1)), .int (xs (Int32.toNatClampNeg 2)), .int (xs (Int32.toNatClampNeg 3))]) (rest := [.int (-1000000)]) (c_X11_peak l D G b0 f_3940 M ⟨k_3942, k_3943, k_3944, k_3945, k_3946, k_3947⟩ (xs (Int32.toNatClampNeg 1)) (xs (Int32.toNatClampNeg 2)) (xs (Int32.toNatClampNeg 3))) k_3942 (Cn := RX11) (T := TX11) (N := 32) rfl rfl mk_X11_peak w_1846 w_1847 w_1848 w_1849 ⟨Nat.le_of_ble_eq_true rfl, Nat.le_of_ble_eq_true rfl⟩ rfl (Nat.le_of_ble_eq_true rfl) ⟨Nat.le_of_ble_eq_true rfl, Nat.le_of_ble_eq_true rfl⟩ rfl dL_law_1597) h (fun r_3948 f_3949 H locs p_3950 h => ?_)
  subst p_3950
  refine lv_icmp_eq (tgt := 2593) hx hb dL_law_1600 (by decide) (fun c_3951 => ?_) (fun c_3951 => ?_)
  · exact law_end C0 hb0 hE0 h (lv_sub hl [0, 4] rfl) (Nat.le_of_ble_eq_true rfl) (Nat.le_of_ble_eq_true rfl)
  · exact absurd c_3951 (by decide)
set_option maxRecDepth 100000 in
set_option maxHeartbeats 4000000 in
theorem law_27 {p : Program} {l : Launch} {e : Env} {s : State} {m : MethodId} {below : List Frame} {meth : Method} {c : Code} (hst : l.stackTraces = false) {b : Nat} {xs : Nat → Int32} (C0 : lw_At p s m meth c b 8 xs) {D : va_G} {G : Nat → Nat} {b0 : Nat} (hb0 : s.heap.size = b0) (hE0 : hE D G b0 s s.heap) {f : hM} {X M : Nat → Nat} {o : Nat} (hX : xw G f X) (hM : mw G f M) (hMX : ∀ i, i ∈ XI → M 0 ≠ X i ∧ M 1 ≠ X i ∧ M 2 ≠ X i ∧ M 3 ≠ X i ∧ M 4 ≠ X i ∧ M 6 ≠ X i) {H : Heap} {locs : List Loc} {ls : Array Slot} (h : hw D b0 s.heap f H locs) (hl : lv_has ls 7 [(4, .int 0), (3, .ref o), (2, .ref (M 0)), (1, .ref (X 0)), (0, .ref b)]) : W p l e room_1 s m #[Value.ref b] below meth c H locs 125 106894 (lw_Z below #[Value.ref b] s) (F0 m 1605 ls []) := by
  obtain ⟨hx, hb, hr, hml, hown, hts0, hXs, hbl, hlk, hgv⟩ := id C0
  have hts : ∀ w ∈ wAll, w.before #[Value.ref b] s = true := fun w hw => hts0 w (wAll_tbl w hw)
  have C : hC p s m #[Value.ref b] meth c cL_law 7 RL D G b0 := ⟨hx, hb, hml, hown, hts, hE0, hlk⟩
  have hbA : ¬ hA b0 b := by rw [← hb0]; exact Nat.not_le.mpr hbl
  obtain ⟨kx0, kx1, kx2, kx3, kx4, kx5, kx6, kx7, kx8, kx9⟩ := (id hX)
  obtain ⟨km0, km1, km2, km3, km4, km5⟩ := (id hM)
  refine lv_aload_n hx hb dL_law_1605 rfl (lv_at hl 3 rfl) ?_
  refine lv_aload_n hx hb dL_law_1606 rfl (lv_at hl 4 rfl) ?_
  refine lv_iload hx hb dL_law_1607 (lv_at hl 0 rfl) ?_
  refine lv_iconst (v := 1) hx hb dL_law_1609 (by decide) ?_
  refine lv_iadd hx hb dL_law_1610 ?_
  refine lv_topi (fun x_ e_ => ?_)
  obtain rfl : 1 = x_ := by rw [e_]; decide
  refine va_sld hx hb hXs hbl hbA h.2.2.1 (by unfold vp_in; decide) dL_law_1611 ?_
  refine lv_aload_n hx hb dL_law_1612 rfl (lv_at hl 4 rfl) ?_
  refine lv_iload hx hb dL_law_1613 (lv_at hl 0 rfl) ?_
  refine lv_iconst (v := 2) hx hb dL_law_1615 (by decide) ?_
  refine lv_iadd hx hb dL_law_1616 ?_
  refine lv_topi (fun x_ e_ => ?_)
  obtain rfl : 2 = x_ := by rw [e_]; decide
  refine va_sld hx hb hXs hbl hbA h.2.2.1 (by unfold vp_in; decide) dL_law_1617 ?_
  refine k_i (r_V C h hl (As := [.int (xs (Int32.toNatClampNeg 1)), .int (xs (Int32.toNatClampNeg 2))]) (rest := []) (c_X10_points l D G b0 f X hX (xs (Int32.toNatClampNeg 1)) (xs (Int32.toNatClampNeg 2))) kx0 (Cn := RX10) (T := TX10) (N := 10) rfl rfl mk_X10_points w_905 w_906 w_907 w_908 ⟨Nat.le_of_ble_eq_true rfl, Nat.le_of_ble_eq_true rfl⟩ rfl (Nat.le_of_ble_eq_true rfl) ⟨Nat.le_of_ble_eq_true rfl, Nat.le_of_ble_eq_true rfl⟩ rfl dL_law_1618) h (fun r_3952 f_3953 H locs p_3954 h => ?_)
  obtain ⟨rfl, p_3954⟩ := p_3954
  have k_3955 : f_3953 (M 0) = some (.inr (12, [.int 0, .ref (M 1), .int 0, .int 0, .int 0, .ref (M 2), .ref (M 3), .ref (M 4), .ref (M 5), .ref (M 6), .int 0, .int 0, .ref (M 7), .ref (M 8), .int 0, .ref (M 9), .ref (M 10), .ref (M 11), .long 0, .ref (M 12), .ref (M 13), .ref (M 14), .ref (M 15), .ref (M 16), .ref (M 17), .ref (M 18), .ref (M 19), .int 0, .int 0, .ref (M 20), .ref (M 21), .int 0])) := (p_3954 _ (fun i hi => (hMX i hi).1)).trans km0
  have k_3956 : f_3953 (M 1) = some (.inl (G 0, 200, .inl (fun _ => 0))) := (p_3954 _ (fun i hi => (hMX i hi).2.1)).trans km1
  have k_3957 : f_3953 (M 2) = some (.inl (G 1, 10, .inl (fun _ => 0))) := (p_3954 _ (fun i hi => (hMX i hi).2.2.1)).trans km2
  have k_3958 : f_3953 (M 3) = some (.inl (G 1, 81, .inl (fun _ => 0))) := (p_3954 _ (fun i hi => (hMX i hi).2.2.2.1)).trans km3
  have k_3959 : f_3953 (M 4) = some (.inl (G 1, 81, .inl (fun _ => 0))) := (p_3954 _ (fun i hi => (hMX i hi).2.2.2.2.1)).trans km4
  have k_3960 : f_3953 (M 6) = some (.inl (G 1, 4, .inl (fun _ => 0))) := (p_3954 _ (fun i hi => (hMX i hi).2.2.2.2.2)).trans km5
  refine lv_aload_n hx hb dL_law_1621 rfl (lv_at hl 2 rfl) ?_
  refine lv_aload_n hx hb dL_law_1622 rfl (lv_at hl 4 rfl) ?_
  refine lv_iload hx hb dL_law_1623 (lv_at hl 0 rfl) ?_
  refine lv_iconst (v := 1) hx hb dL_law_1625 (by decide) ?_
  refine lv_iadd hx hb dL_law_1626 ?_
  refine lv_topi (fun x_ e_ => ?_)
  obtain rfl : 1 = x_ := by rw [e_]; decide
  refine va_sld hx hb hXs hbl hbA h.2.2.1 (by unfold vp_in; decide) dL_law_1627 ?_
  refine lv_aload_n hx hb dL_law_1628 rfl (lv_at hl 4 rfl) ?_
  refine lv_iload hx hb dL_law_1629 (lv_at hl 0 rfl) ?_
  refine lv_iconst (v := 2) hx hb dL_law_1631 (by decide) ?_
  refine lv_iadd hx hb dL_law_1632 ?_
  refine lv_topi (fun x_ e_ => ?_)
  obtain rfl : 2 = x_ := by rw [e_]; decide
  refine va_sld hx hb hXs hbl hbA h.2.2.1 (by unfold vp_in; decide) dL_law_1633 ?_
  refine k_i (r_V C h hl (As := [.int (xs (Int32.toNatClampNeg 1)), .int (xs (Int32.toNatClampNeg 2))]) (rest := [.int (-1)]) (c_X11_points l D G b0 f_3953 M ⟨k_3955, k_3956, k_3957, k_3958, k_3959, k_3960⟩ (xs (Int32.toNatClampNeg 1)) (xs (Int32.toNatClampNeg 2))) k_3955 (Cn := RX11) (T := TX11) (N := 32) rfl rfl mk_X11_points w_1850 w_1851 w_1852 w_1853 ⟨Nat.le_of_ble_eq_true rfl, Nat.le_of_ble_eq_true rfl⟩ rfl (Nat.le_of_ble_eq_true rfl) ⟨Nat.le_of_ble_eq_true rfl, Nat.le_of_ble_eq_true rfl⟩ rfl dL_law_1634) h (fun r_3961 f_3962 H locs p_3963 h => ?_)
  subst p_3963
  refine lv_icmp_eq (tgt := 2593) hx hb dL_law_1637 (by decide) (fun c_3964 => ?_) (fun c_3964 => ?_)
  · exact law_end C0 hb0 hE0 h (lv_sub hl [0, 4] rfl) (Nat.le_of_ble_eq_true rfl) (Nat.le_of_ble_eq_true rfl)
  · exact absurd c_3964 (by decide)
set_option maxRecDepth 100000 in
set_option maxHeartbeats 4000000 in
theorem law_28 {p : Program} {l : Launch} {e : Env} {s : State} {m : MethodId} {below : List Frame} {meth : Method} {c : Code} (hst : l.stackTraces = false) {b : Nat} {xs : Nat → Int32} (C0 : lw_At p s m meth c b 8 xs) {D : va_G} {G : Nat → Nat} {b0 : Nat} (hb0 : s.heap.size = b0) (hE0 : hE D G b0 s s.heap) {f : hM} {X M : Nat → Nat} {o : Nat} (hX : xw G f X) (hM : mw G f M) (hMX : ∀ i, i ∈ XI → M 0 ≠ X i ∧ M 1 ≠ X i ∧ M 2 ≠ X i ∧ M 3 ≠ X i ∧ M 4 ≠ X i ∧ M 6 ≠ X i) {H : Heap} {locs : List Loc} {ls : Array Slot} (h : hw D b0 s.heap f H locs) (hl : lv_has ls 7 [(4, .int 0), (3, .ref o), (2, .ref (M 0)), (1, .ref (X 0)), (0, .ref b)]) : W p l e room_1 s m #[Value.ref b] below meth c H locs 125 106894 (lw_Z below #[Value.ref b] s) (F0 m 1642 ls []) := by
  obtain ⟨hx, hb, hr, hml, hown, hts0, hXs, hbl, hlk, hgv⟩ := id C0
  have hts : ∀ w ∈ wAll, w.before #[Value.ref b] s = true := fun w hw => hts0 w (wAll_tbl w hw)
  have C : hC p s m #[Value.ref b] meth c cL_law 7 RL D G b0 := ⟨hx, hb, hml, hown, hts, hE0, hlk⟩
  have hbA : ¬ hA b0 b := by rw [← hb0]; exact Nat.not_le.mpr hbl
  obtain ⟨kx0, kx1, kx2, kx3, kx4, kx5, kx6, kx7, kx8, kx9⟩ := (id hX)
  obtain ⟨km0, km1, km2, km3, km4, km5⟩ := (id hM)
  refine lv_aload_n hx hb dL_law_1642 rfl (lv_at hl 3 rfl) ?_
  refine lv_aload_n hx hb dL_law_1643 rfl (lv_at hl 4 rfl) ?_
  refine lv_iload hx hb dL_law_1644 (lv_at hl 0 rfl) ?_
  refine lv_iconst (v := 1) hx hb dL_law_1646 (by decide) ?_
  refine lv_iadd hx hb dL_law_1647 ?_
  refine lv_topi (fun x_ e_ => ?_)
  obtain rfl : 1 = x_ := by rw [e_]; decide
  refine va_sld hx hb hXs hbl hbA h.2.2.1 (by unfold vp_in; decide) dL_law_1648 ?_
  refine lv_aload_n hx hb dL_law_1649 rfl (lv_at hl 4 rfl) ?_
  refine lv_iload hx hb dL_law_1650 (lv_at hl 0 rfl) ?_
  refine lv_iconst (v := 2) hx hb dL_law_1652 (by decide) ?_
  refine lv_iadd hx hb dL_law_1653 ?_
  refine lv_topi (fun x_ e_ => ?_)
  obtain rfl : 2 = x_ := by rw [e_]; decide
  refine va_sld hx hb hXs hbl hbA h.2.2.1 (by unfold vp_in; decide) dL_law_1654 ?_
  refine lv_aload_n hx hb dL_law_1655 rfl (lv_at hl 4 rfl) ?_
  refine lv_iload hx hb dL_law_1656 (lv_at hl 0 rfl) ?_
  refine lv_iconst (v := 3) hx hb dL_law_1658 (by decide) ?_
  refine lv_iadd hx hb dL_law_1659 ?_
  refine lv_topi (fun x_ e_ => ?_)
  obtain rfl : 3 = x_ := by rw [e_]; decide
  refine va_sld hx hb hXs hbl hbA h.2.2.1 (by unfold vp_in; decide) dL_law_1660 ?_
  refine k_i (r_V C h hl (As := [.int (xs (Int32.toNatClampNeg 1)), .int (xs (Int32.toNatClampNeg 2)), .int (xs (Int32.toNatClampNeg 3))]) (rest := []) (c_X10_fewest l D G b0 f X hX (xs (Int32.toNatClampNeg 1)) (xs (Int32.toNatClampNeg 2)) (xs (Int32.toNatClampNeg 3))) kx0 (Cn := RX10) (T := TX10) (N := 10) rfl rfl mk_X10_fewest w_913 w_914 w_915 w_916 ⟨Nat.le_of_ble_eq_true rfl, Nat.le_of_ble_eq_true rfl⟩ rfl (Nat.le_of_ble_eq_true rfl) ⟨Nat.le_of_ble_eq_true rfl, Nat.le_of_ble_eq_true rfl⟩ rfl dL_law_1661) h (fun r_3965 f_3966 H locs p_3967 h => ?_)
  obtain ⟨rfl, p_3967⟩ := p_3967
  have k_3968 : f_3966 (M 0) = some (.inr (12, [.int 0, .ref (M 1), .int 0, .int 0, .int 0, .ref (M 2), .ref (M 3), .ref (M 4), .ref (M 5), .ref (M 6), .int 0, .int 0, .ref (M 7), .ref (M 8), .int 0, .ref (M 9), .ref (M 10), .ref (M 11), .long 0, .ref (M 12), .ref (M 13), .ref (M 14), .ref (M 15), .ref (M 16), .ref (M 17), .ref (M 18), .ref (M 19), .int 0, .int 0, .ref (M 20), .ref (M 21), .int 0])) := (p_3967 _ (fun i hi => (hMX i hi).1)).trans km0
  have k_3969 : f_3966 (M 1) = some (.inl (G 0, 200, .inl (fun _ => 0))) := (p_3967 _ (fun i hi => (hMX i hi).2.1)).trans km1
  have k_3970 : f_3966 (M 2) = some (.inl (G 1, 10, .inl (fun _ => 0))) := (p_3967 _ (fun i hi => (hMX i hi).2.2.1)).trans km2
  have k_3971 : f_3966 (M 3) = some (.inl (G 1, 81, .inl (fun _ => 0))) := (p_3967 _ (fun i hi => (hMX i hi).2.2.2.1)).trans km3
  have k_3972 : f_3966 (M 4) = some (.inl (G 1, 81, .inl (fun _ => 0))) := (p_3967 _ (fun i hi => (hMX i hi).2.2.2.2.1)).trans km4
  have k_3973 : f_3966 (M 6) = some (.inl (G 1, 4, .inl (fun _ => 0))) := (p_3967 _ (fun i hi => (hMX i hi).2.2.2.2.2)).trans km5
  refine lv_aload_n hx hb dL_law_1664 rfl (lv_at hl 2 rfl) ?_
  refine lv_aload_n hx hb dL_law_1665 rfl (lv_at hl 4 rfl) ?_
  refine lv_iload hx hb dL_law_1666 (lv_at hl 0 rfl) ?_
  refine lv_iconst (v := 1) hx hb dL_law_1668 (by decide) ?_
  refine lv_iadd hx hb dL_law_1669 ?_
  refine lv_topi (fun x_ e_ => ?_)
  obtain rfl : 1 = x_ := by rw [e_]; decide
  refine va_sld hx hb hXs hbl hbA h.2.2.1 (by unfold vp_in; decide) dL_law_1670 ?_
  refine lv_aload_n hx hb dL_law_1671 rfl (lv_at hl 4 rfl) ?_
  refine lv_iload hx hb dL_law_1672 (lv_at hl 0 rfl) ?_
  refine lv_iconst (v := 2) hx hb dL_law_1674 (by decide) ?_
  refine lv_iadd hx hb dL_law_1675 ?_
  refine lv_topi (fun x_ e_ => ?_)
  obtain rfl : 2 = x_ := by rw [e_]; decide
  refine va_sld hx hb hXs hbl hbA h.2.2.1 (by unfold vp_in; decide) dL_law_1676 ?_
  refine lv_aload_n hx hb dL_law_1677 rfl (lv_at hl 4 rfl) ?_
  refine lv_iload hx hb dL_law_1678 (lv_at hl 0 rfl) ?_
  refine lv_iconst (v := 3) hx hb dL_law_1680 (by decide) ?_
  refine lv_iadd hx hb dL_law_1681 ?_
  refine lv_topi (fun x_ e_ => ?_)
  obtain rfl : 3 = x_ := by rw [e_]; decide
  refine va_sld hx hb hXs hbl hbA h.2.2.1 (by unfold vp_in; decide) dL_law_1682 ?_
  refine k_i (r_V C h hl (As := [.int (xs (Int32.toNatClampNeg 1)), .int (xs (Int32.toNatClampNeg 2)), .int (xs (Int32.toNatClampNeg 3))]) (rest := [.int (-1)]) (c_X11_fewest l D G b0 f_3966 M ⟨k_3968, k_3969, k_3970, k_3971, k_3972, k_3973⟩ (xs (Int32.toNatClampNeg 1)) (xs (Int32.toNatClampNeg 2)) (xs (Int32.toNatClampNeg 3))) k_3968 (Cn := RX11) (T := TX11) (N := 32) rfl rfl mk_X11_fewest w_1854 w_1855 w_1856 w_1857 ⟨Nat.le_of_ble_eq_true rfl, Nat.le_of_ble_eq_true rfl⟩ rfl (Nat.le_of_ble_eq_true rfl) ⟨Nat.le_of_ble_eq_true rfl, Nat.le_of_ble_eq_true rfl⟩ rfl dL_law_1683) h (fun r_3974 f_3975 H locs p_3976 h => ?_)
  subst p_3976
  refine lv_icmp_eq (tgt := 2593) hx hb dL_law_1686 (by decide) (fun c_3977 => ?_) (fun c_3977 => ?_)
  · exact law_end C0 hb0 hE0 h (lv_sub hl [0, 4] rfl) (Nat.le_of_ble_eq_true rfl) (Nat.le_of_ble_eq_true rfl)
  · exact absurd c_3977 (by decide)
set_option maxRecDepth 100000 in
set_option maxHeartbeats 4000000 in
theorem law_29 {p : Program} {l : Launch} {e : Env} {s : State} {m : MethodId} {below : List Frame} {meth : Method} {c : Code} (hst : l.stackTraces = false) {b : Nat} {xs : Nat → Int32} (C0 : lw_At p s m meth c b 8 xs) {D : va_G} {G : Nat → Nat} {b0 : Nat} (hb0 : s.heap.size = b0) (hE0 : hE D G b0 s s.heap) {f : hM} {X M : Nat → Nat} {o : Nat} (hX : xw G f X) (hM : mw G f M) (hMX : ∀ i, i ∈ XI → M 0 ≠ X i ∧ M 1 ≠ X i ∧ M 2 ≠ X i ∧ M 3 ≠ X i ∧ M 4 ≠ X i ∧ M 6 ≠ X i) {H : Heap} {locs : List Loc} {ls : Array Slot} (h : hw D b0 s.heap f H locs) (hl : lv_has ls 7 [(4, .int 0), (3, .ref o), (2, .ref (M 0)), (1, .ref (X 0)), (0, .ref b)]) : W p l e room_1 s m #[Value.ref b] below meth c H locs 125 106894 (lw_Z below #[Value.ref b] s) (F0 m 1691 ls []) := by
  obtain ⟨hx, hb, hr, hml, hown, hts0, hXs, hbl, hlk, hgv⟩ := id C0
  have hts : ∀ w ∈ wAll, w.before #[Value.ref b] s = true := fun w hw => hts0 w (wAll_tbl w hw)
  have C : hC p s m #[Value.ref b] meth c cL_law 7 RL D G b0 := ⟨hx, hb, hml, hown, hts, hE0, hlk⟩
  have hbA : ¬ hA b0 b := by rw [← hb0]; exact Nat.not_le.mpr hbl
  obtain ⟨kx0, kx1, kx2, kx3, kx4, kx5, kx6, kx7, kx8, kx9⟩ := (id hX)
  obtain ⟨km0, km1, km2, km3, km4, km5⟩ := (id hM)
  refine lv_aload_n hx hb dL_law_1691 rfl (lv_at hl 3 rfl) ?_
  refine lv_aload_n hx hb dL_law_1692 rfl (lv_at hl 4 rfl) ?_
  refine lv_iload hx hb dL_law_1693 (lv_at hl 0 rfl) ?_
  refine lv_iconst (v := 1) hx hb dL_law_1695 (by decide) ?_
  refine lv_iadd hx hb dL_law_1696 ?_
  refine lv_topi (fun x_ e_ => ?_)
  obtain rfl : 1 = x_ := by rw [e_]; decide
  refine va_sld hx hb hXs hbl hbA h.2.2.1 (by unfold vp_in; decide) dL_law_1697 ?_
  refine k_i (r_V C h hl (As := [.int (xs (Int32.toNatClampNeg 1))]) (rest := []) (c_X10_period l D G b0 f X hX (xs (Int32.toNatClampNeg 1))) kx0 (Cn := RX10) (T := TX10) (N := 10) rfl rfl mk_X10_period w_917 w_918 w_919 w_920 ⟨Nat.le_of_ble_eq_true rfl, Nat.le_of_ble_eq_true rfl⟩ rfl (Nat.le_of_ble_eq_true rfl) ⟨Nat.le_of_ble_eq_true rfl, Nat.le_of_ble_eq_true rfl⟩ rfl dL_law_1698) h (fun r_3978 f_3979 H locs p_3980 h => ?_)
  obtain ⟨rfl, p_3980⟩ := p_3980
  have k_3981 : f_3979 (M 0) = some (.inr (12, [.int 0, .ref (M 1), .int 0, .int 0, .int 0, .ref (M 2), .ref (M 3), .ref (M 4), .ref (M 5), .ref (M 6), .int 0, .int 0, .ref (M 7), .ref (M 8), .int 0, .ref (M 9), .ref (M 10), .ref (M 11), .long 0, .ref (M 12), .ref (M 13), .ref (M 14), .ref (M 15), .ref (M 16), .ref (M 17), .ref (M 18), .ref (M 19), .int 0, .int 0, .ref (M 20), .ref (M 21), .int 0])) := (p_3980 _ (fun i hi => (hMX i hi).1)).trans km0
  have k_3982 : f_3979 (M 1) = some (.inl (G 0, 200, .inl (fun _ => 0))) := (p_3980 _ (fun i hi => (hMX i hi).2.1)).trans km1
  have k_3983 : f_3979 (M 2) = some (.inl (G 1, 10, .inl (fun _ => 0))) := (p_3980 _ (fun i hi => (hMX i hi).2.2.1)).trans km2
  have k_3984 : f_3979 (M 3) = some (.inl (G 1, 81, .inl (fun _ => 0))) := (p_3980 _ (fun i hi => (hMX i hi).2.2.2.1)).trans km3
  have k_3985 : f_3979 (M 4) = some (.inl (G 1, 81, .inl (fun _ => 0))) := (p_3980 _ (fun i hi => (hMX i hi).2.2.2.2.1)).trans km4
  have k_3986 : f_3979 (M 6) = some (.inl (G 1, 4, .inl (fun _ => 0))) := (p_3980 _ (fun i hi => (hMX i hi).2.2.2.2.2)).trans km5
  refine lv_aload_n hx hb dL_law_1701 rfl (lv_at hl 2 rfl) ?_
  refine lv_aload_n hx hb dL_law_1702 rfl (lv_at hl 4 rfl) ?_
  refine lv_iload hx hb dL_law_1703 (lv_at hl 0 rfl) ?_
  refine lv_iconst (v := 1) hx hb dL_law_1705 (by decide) ?_
  refine lv_iadd hx hb dL_law_1706 ?_
  refine lv_topi (fun x_ e_ => ?_)
  obtain rfl : 1 = x_ := by rw [e_]; decide
  refine va_sld hx hb hXs hbl hbA h.2.2.1 (by unfold vp_in; decide) dL_law_1707 ?_
  refine k_i (r_V C h hl (As := [.int (xs (Int32.toNatClampNeg 1))]) (rest := [.int (-1)]) (c_X11_period l D G b0 f_3979 M ⟨k_3981, k_3982, k_3983, k_3984, k_3985, k_3986⟩ (xs (Int32.toNatClampNeg 1))) k_3981 (Cn := RX11) (T := TX11) (N := 32) rfl rfl mk_X11_period w_1858 w_1859 w_1860 w_1861 ⟨Nat.le_of_ble_eq_true rfl, Nat.le_of_ble_eq_true rfl⟩ rfl (Nat.le_of_ble_eq_true rfl) ⟨Nat.le_of_ble_eq_true rfl, Nat.le_of_ble_eq_true rfl⟩ rfl dL_law_1708) h (fun r_3987 f_3988 H locs p_3989 h => ?_)
  subst p_3989
  refine lv_icmp_eq (tgt := 2593) hx hb dL_law_1711 (by decide) (fun c_3990 => ?_) (fun c_3990 => ?_)
  · exact law_end C0 hb0 hE0 h (lv_sub hl [0, 4] rfl) (Nat.le_of_ble_eq_true rfl) (Nat.le_of_ble_eq_true rfl)
  · exact absurd c_3990 (by decide)
set_option maxRecDepth 100000 in
set_option maxHeartbeats 4000000 in
theorem law_30 {p : Program} {l : Launch} {e : Env} {s : State} {m : MethodId} {below : List Frame} {meth : Method} {c : Code} (hst : l.stackTraces = false) {b : Nat} {xs : Nat → Int32} (C0 : lw_At p s m meth c b 8 xs) {D : va_G} {G : Nat → Nat} {b0 : Nat} (hb0 : s.heap.size = b0) (hE0 : hE D G b0 s s.heap) {f : hM} {X M : Nat → Nat} {o : Nat} (hX : xw G f X) (hM : mw G f M) (hMX : ∀ i, i ∈ XI → M 0 ≠ X i ∧ M 1 ≠ X i ∧ M 2 ≠ X i ∧ M 3 ≠ X i ∧ M 4 ≠ X i ∧ M 6 ≠ X i) {H : Heap} {locs : List Loc} {ls : Array Slot} (h : hw D b0 s.heap f H locs) (hl : lv_has ls 7 [(4, .int 0), (3, .ref o), (2, .ref (M 0)), (1, .ref (X 0)), (0, .ref b)]) : W p l e room_1 s m #[Value.ref b] below meth c H locs 125 106894 (lw_Z below #[Value.ref b] s) (F0 m 1716 ls []) := by
  obtain ⟨hx, hb, hr, hml, hown, hts0, hXs, hbl, hlk, hgv⟩ := id C0
  have hts : ∀ w ∈ wAll, w.before #[Value.ref b] s = true := fun w hw => hts0 w (wAll_tbl w hw)
  have C : hC p s m #[Value.ref b] meth c cL_law 7 RL D G b0 := ⟨hx, hb, hml, hown, hts, hE0, hlk⟩
  have hbA : ¬ hA b0 b := by rw [← hb0]; exact Nat.not_le.mpr hbl
  obtain ⟨kx0, kx1, kx2, kx3, kx4, kx5, kx6, kx7, kx8, kx9⟩ := (id hX)
  obtain ⟨km0, km1, km2, km3, km4, km5⟩ := (id hM)
  refine lv_aload_n hx hb dL_law_1716 rfl (lv_at hl 3 rfl) ?_
  refine lv_aload_n hx hb dL_law_1717 rfl (lv_at hl 4 rfl) ?_
  refine lv_iload hx hb dL_law_1718 (lv_at hl 0 rfl) ?_
  refine lv_iconst (v := 1) hx hb dL_law_1720 (by decide) ?_
  refine lv_iadd hx hb dL_law_1721 ?_
  refine lv_topi (fun x_ e_ => ?_)
  obtain rfl : 1 = x_ := by rw [e_]; decide
  refine va_sld hx hb hXs hbl hbA h.2.2.1 (by unfold vp_in; decide) dL_law_1722 ?_
  refine lv_aload_n hx hb dL_law_1723 rfl (lv_at hl 4 rfl) ?_
  refine lv_iload hx hb dL_law_1724 (lv_at hl 0 rfl) ?_
  refine lv_iconst (v := 2) hx hb dL_law_1726 (by decide) ?_
  refine lv_iadd hx hb dL_law_1727 ?_
  refine lv_topi (fun x_ e_ => ?_)
  obtain rfl : 2 = x_ := by rw [e_]; decide
  refine va_sld hx hb hXs hbl hbA h.2.2.1 (by unfold vp_in; decide) dL_law_1728 ?_
  refine lv_aload_n hx hb dL_law_1729 rfl (lv_at hl 4 rfl) ?_
  refine lv_iload hx hb dL_law_1730 (lv_at hl 0 rfl) ?_
  refine lv_iconst (v := 3) hx hb dL_law_1732 (by decide) ?_
  refine lv_iadd hx hb dL_law_1733 ?_
  refine lv_topi (fun x_ e_ => ?_)
  obtain rfl : 3 = x_ := by rw [e_]; decide
  refine va_sld hx hb hXs hbl hbA h.2.2.1 (by unfold vp_in; decide) dL_law_1734 ?_
  refine k_i (r_V C h hl (As := [.int (xs (Int32.toNatClampNeg 1)), .int (xs (Int32.toNatClampNeg 2)), .int (xs (Int32.toNatClampNeg 3))]) (rest := []) (c_X10_meet l D G b0 f X hX (xs (Int32.toNatClampNeg 1)) (xs (Int32.toNatClampNeg 2)) (xs (Int32.toNatClampNeg 3))) kx0 (Cn := RX10) (T := TX10) (N := 10) rfl rfl mk_X10_meet w_924 w_925 w_926 w_927 ⟨Nat.le_of_ble_eq_true rfl, Nat.le_of_ble_eq_true rfl⟩ rfl (Nat.le_of_ble_eq_true rfl) ⟨Nat.le_of_ble_eq_true rfl, Nat.le_of_ble_eq_true rfl⟩ rfl dL_law_1735) h (fun r_3991 f_3992 H locs p_3993 h => ?_)
  obtain ⟨rfl, p_3993⟩ := p_3993
  have k_3994 : f_3992 (M 0) = some (.inr (12, [.int 0, .ref (M 1), .int 0, .int 0, .int 0, .ref (M 2), .ref (M 3), .ref (M 4), .ref (M 5), .ref (M 6), .int 0, .int 0, .ref (M 7), .ref (M 8), .int 0, .ref (M 9), .ref (M 10), .ref (M 11), .long 0, .ref (M 12), .ref (M 13), .ref (M 14), .ref (M 15), .ref (M 16), .ref (M 17), .ref (M 18), .ref (M 19), .int 0, .int 0, .ref (M 20), .ref (M 21), .int 0])) := (p_3993 _ (fun i hi => (hMX i hi).1)).trans km0
  have k_3995 : f_3992 (M 1) = some (.inl (G 0, 200, .inl (fun _ => 0))) := (p_3993 _ (fun i hi => (hMX i hi).2.1)).trans km1
  have k_3996 : f_3992 (M 2) = some (.inl (G 1, 10, .inl (fun _ => 0))) := (p_3993 _ (fun i hi => (hMX i hi).2.2.1)).trans km2
  have k_3997 : f_3992 (M 3) = some (.inl (G 1, 81, .inl (fun _ => 0))) := (p_3993 _ (fun i hi => (hMX i hi).2.2.2.1)).trans km3
  have k_3998 : f_3992 (M 4) = some (.inl (G 1, 81, .inl (fun _ => 0))) := (p_3993 _ (fun i hi => (hMX i hi).2.2.2.2.1)).trans km4
  have k_3999 : f_3992 (M 6) = some (.inl (G 1, 4, .inl (fun _ => 0))) := (p_3993 _ (fun i hi => (hMX i hi).2.2.2.2.2)).trans km5
  refine lv_aload_n hx hb dL_law_1738 rfl (lv_at hl 2 rfl) ?_
  refine lv_aload_n hx hb dL_law_1739 rfl (lv_at hl 4 rfl) ?_
  refine lv_iload hx hb dL_law_1740 (lv_at hl 0 rfl) ?_
  refine lv_iconst (v := 1) hx hb dL_law_1742 (by decide) ?_
  refine lv_iadd hx hb dL_law_1743 ?_
  refine lv_topi (fun x_ e_ => ?_)
  obtain rfl : 1 = x_ := by rw [e_]; decide
  refine va_sld hx hb hXs hbl hbA h.2.2.1 (by unfold vp_in; decide) dL_law_1744 ?_
  refine lv_aload_n hx hb dL_law_1745 rfl (lv_at hl 4 rfl) ?_
  refine lv_iload hx hb dL_law_1746 (lv_at hl 0 rfl) ?_
  refine lv_iconst (v := 2) hx hb dL_law_1748 (by decide) ?_
  refine lv_iadd hx hb dL_law_1749 ?_
  refine lv_topi (fun x_ e_ => ?_)
  obtain rfl : 2 = x_ := by rw [e_]; decide
  refine va_sld hx hb hXs hbl hbA h.2.2.1 (by unfold vp_in; decide) dL_law_1750 ?_
  refine lv_aload_n hx hb dL_law_1751 rfl (lv_at hl 4 rfl) ?_
  refine lv_iload hx hb dL_law_1752 (lv_at hl 0 rfl) ?_
  refine lv_iconst (v := 3) hx hb dL_law_1754 (by decide) ?_
  refine lv_iadd hx hb dL_law_1755 ?_
  refine lv_topi (fun x_ e_ => ?_)
  obtain rfl : 3 = x_ := by rw [e_]; decide
  refine va_sld hx hb hXs hbl hbA h.2.2.1 (by unfold vp_in; decide) dL_law_1756 ?_
  refine k_i (r_V C h hl (As := [.int (xs (Int32.toNatClampNeg 1)), .int (xs (Int32.toNatClampNeg 2)), .int (xs (Int32.toNatClampNeg 3))]) (rest := [.int (-1)]) (c_X11_meet l D G b0 f_3992 M ⟨k_3994, k_3995, k_3996, k_3997, k_3998, k_3999⟩ (xs (Int32.toNatClampNeg 1)) (xs (Int32.toNatClampNeg 2)) (xs (Int32.toNatClampNeg 3))) k_3994 (Cn := RX11) (T := TX11) (N := 32) rfl rfl mk_X11_meet w_1865 w_1866 w_1867 w_1868 ⟨Nat.le_of_ble_eq_true rfl, Nat.le_of_ble_eq_true rfl⟩ rfl (Nat.le_of_ble_eq_true rfl) ⟨Nat.le_of_ble_eq_true rfl, Nat.le_of_ble_eq_true rfl⟩ rfl dL_law_1757) h (fun r_4000 f_4001 H locs p_4002 h => ?_)
  subst p_4002
  refine lv_icmp_eq (tgt := 2593) hx hb dL_law_1760 (by decide) (fun c_4003 => ?_) (fun c_4003 => ?_)
  · exact law_end C0 hb0 hE0 h (lv_sub hl [0, 4] rfl) (Nat.le_of_ble_eq_true rfl) (Nat.le_of_ble_eq_true rfl)
  · exact absurd c_4003 (by decide)
set_option maxRecDepth 100000 in
set_option maxHeartbeats 4000000 in
theorem law_31 {p : Program} {l : Launch} {e : Env} {s : State} {m : MethodId} {below : List Frame} {meth : Method} {c : Code} (hst : l.stackTraces = false) {b : Nat} {xs : Nat → Int32} (C0 : lw_At p s m meth c b 8 xs) {D : va_G} {G : Nat → Nat} {b0 : Nat} (hb0 : s.heap.size = b0) (hE0 : hE D G b0 s s.heap) {f : hM} {X M : Nat → Nat} {o : Nat} (hX : xw G f X) (hM : mw G f M) (hMX : ∀ i, i ∈ XI → M 0 ≠ X i ∧ M 1 ≠ X i ∧ M 2 ≠ X i ∧ M 3 ≠ X i ∧ M 4 ≠ X i ∧ M 6 ≠ X i) {H : Heap} {locs : List Loc} {ls : Array Slot} (h : hw D b0 s.heap f H locs) (hl : lv_has ls 7 [(4, .int 0), (3, .ref o), (2, .ref (M 0)), (1, .ref (X 0)), (0, .ref b)]) : W p l e room_1 s m #[Value.ref b] below meth c H locs 125 106894 (lw_Z below #[Value.ref b] s) (F0 m 1765 ls []) := by
  obtain ⟨hx, hb, hr, hml, hown, hts0, hXs, hbl, hlk, hgv⟩ := id C0
  have hts : ∀ w ∈ wAll, w.before #[Value.ref b] s = true := fun w hw => hts0 w (wAll_tbl w hw)
  have C : hC p s m #[Value.ref b] meth c cL_law 7 RL D G b0 := ⟨hx, hb, hml, hown, hts, hE0, hlk⟩
  have hbA : ¬ hA b0 b := by rw [← hb0]; exact Nat.not_le.mpr hbl
  obtain ⟨kx0, kx1, kx2, kx3, kx4, kx5, kx6, kx7, kx8, kx9⟩ := (id hX)
  obtain ⟨km0, km1, km2, km3, km4, km5⟩ := (id hM)
  refine lv_aload_n hx hb dL_law_1765 rfl (lv_at hl 3 rfl) ?_
  refine lv_aload_n hx hb dL_law_1766 rfl (lv_at hl 4 rfl) ?_
  refine lv_iload hx hb dL_law_1767 (lv_at hl 0 rfl) ?_
  refine lv_iconst (v := 1) hx hb dL_law_1769 (by decide) ?_
  refine lv_iadd hx hb dL_law_1770 ?_
  refine lv_topi (fun x_ e_ => ?_)
  obtain rfl : 1 = x_ := by rw [e_]; decide
  refine va_sld hx hb hXs hbl hbA h.2.2.1 (by unfold vp_in; decide) dL_law_1771 ?_
  refine lv_aload_n hx hb dL_law_1772 rfl (lv_at hl 4 rfl) ?_
  refine lv_iload hx hb dL_law_1773 (lv_at hl 0 rfl) ?_
  refine lv_iconst (v := 2) hx hb dL_law_1775 (by decide) ?_
  refine lv_iadd hx hb dL_law_1776 ?_
  refine lv_topi (fun x_ e_ => ?_)
  obtain rfl : 2 = x_ := by rw [e_]; decide
  refine va_sld hx hb hXs hbl hbA h.2.2.1 (by unfold vp_in; decide) dL_law_1777 ?_
  refine lv_aload_n hx hb dL_law_1778 rfl (lv_at hl 4 rfl) ?_
  refine lv_iload hx hb dL_law_1779 (lv_at hl 0 rfl) ?_
  refine lv_iconst (v := 3) hx hb dL_law_1781 (by decide) ?_
  refine lv_iadd hx hb dL_law_1782 ?_
  refine lv_topi (fun x_ e_ => ?_)
  obtain rfl : 3 = x_ := by rw [e_]; decide
  refine va_sld hx hb hXs hbl hbA h.2.2.1 (by unfold vp_in; decide) dL_law_1783 ?_
  refine k_i (r_V C h hl (As := [.int (xs (Int32.toNatClampNeg 1)), .int (xs (Int32.toNatClampNeg 2)), .int (xs (Int32.toNatClampNeg 3))]) (rest := []) (c_X10_kernel l D G b0 f X hX (xs (Int32.toNatClampNeg 1)) (xs (Int32.toNatClampNeg 2)) (xs (Int32.toNatClampNeg 3))) kx0 (Cn := RX10) (T := TX10) (N := 10) rfl rfl mk_X10_kernel w_937 w_938 w_939 w_940 ⟨Nat.le_of_ble_eq_true rfl, Nat.le_of_ble_eq_true rfl⟩ rfl (Nat.le_of_ble_eq_true rfl) ⟨Nat.le_of_ble_eq_true rfl, Nat.le_of_ble_eq_true rfl⟩ rfl dL_law_1784) h (fun r_4004 f_4005 H locs p_4006 h => ?_)
  obtain ⟨rfl, p_4006⟩ := p_4006
  have k_4007 : f_4005 (M 0) = some (.inr (12, [.int 0, .ref (M 1), .int 0, .int 0, .int 0, .ref (M 2), .ref (M 3), .ref (M 4), .ref (M 5), .ref (M 6), .int 0, .int 0, .ref (M 7), .ref (M 8), .int 0, .ref (M 9), .ref (M 10), .ref (M 11), .long 0, .ref (M 12), .ref (M 13), .ref (M 14), .ref (M 15), .ref (M 16), .ref (M 17), .ref (M 18), .ref (M 19), .int 0, .int 0, .ref (M 20), .ref (M 21), .int 0])) := (p_4006 _ (fun i hi => (hMX i hi).1)).trans km0
  have k_4008 : f_4005 (M 1) = some (.inl (G 0, 200, .inl (fun _ => 0))) := (p_4006 _ (fun i hi => (hMX i hi).2.1)).trans km1
  have k_4009 : f_4005 (M 2) = some (.inl (G 1, 10, .inl (fun _ => 0))) := (p_4006 _ (fun i hi => (hMX i hi).2.2.1)).trans km2
  have k_4010 : f_4005 (M 3) = some (.inl (G 1, 81, .inl (fun _ => 0))) := (p_4006 _ (fun i hi => (hMX i hi).2.2.2.1)).trans km3
  have k_4011 : f_4005 (M 4) = some (.inl (G 1, 81, .inl (fun _ => 0))) := (p_4006 _ (fun i hi => (hMX i hi).2.2.2.2.1)).trans km4
  have k_4012 : f_4005 (M 6) = some (.inl (G 1, 4, .inl (fun _ => 0))) := (p_4006 _ (fun i hi => (hMX i hi).2.2.2.2.2)).trans km5
  refine lv_aload_n hx hb dL_law_1787 rfl (lv_at hl 2 rfl) ?_
  refine lv_aload_n hx hb dL_law_1788 rfl (lv_at hl 4 rfl) ?_
  refine lv_iload hx hb dL_law_1789 (lv_at hl 0 rfl) ?_
  refine lv_iconst (v := 1) hx hb dL_law_1791 (by decide) ?_
  refine lv_iadd hx hb dL_law_1792 ?_
  refine lv_topi (fun x_ e_ => ?_)
  obtain rfl : 1 = x_ := by rw [e_]; decide
  refine va_sld hx hb hXs hbl hbA h.2.2.1 (by unfold vp_in; decide) dL_law_1793 ?_
  refine lv_aload_n hx hb dL_law_1794 rfl (lv_at hl 4 rfl) ?_
  refine lv_iload hx hb dL_law_1795 (lv_at hl 0 rfl) ?_
  refine lv_iconst (v := 2) hx hb dL_law_1797 (by decide) ?_
  refine lv_iadd hx hb dL_law_1798 ?_
  refine lv_topi (fun x_ e_ => ?_)
  obtain rfl : 2 = x_ := by rw [e_]; decide
  refine va_sld hx hb hXs hbl hbA h.2.2.1 (by unfold vp_in; decide) dL_law_1799 ?_
  refine lv_aload_n hx hb dL_law_1800 rfl (lv_at hl 4 rfl) ?_
  refine lv_iload hx hb dL_law_1801 (lv_at hl 0 rfl) ?_
  refine lv_iconst (v := 3) hx hb dL_law_1803 (by decide) ?_
  refine lv_iadd hx hb dL_law_1804 ?_
  refine lv_topi (fun x_ e_ => ?_)
  obtain rfl : 3 = x_ := by rw [e_]; decide
  refine va_sld hx hb hXs hbl hbA h.2.2.1 (by unfold vp_in; decide) dL_law_1805 ?_
  refine k_i (r_V C h hl (As := [.int (xs (Int32.toNatClampNeg 1)), .int (xs (Int32.toNatClampNeg 2)), .int (xs (Int32.toNatClampNeg 3))]) (rest := [.int (-1)]) (c_X11_kernel l D G b0 f_4005 M ⟨k_4007, k_4008, k_4009, k_4010, k_4011, k_4012⟩ (xs (Int32.toNatClampNeg 1)) (xs (Int32.toNatClampNeg 2)) (xs (Int32.toNatClampNeg 3))) k_4007 (Cn := RX11) (T := TX11) (N := 32) rfl rfl mk_X11_kernel w_1869 w_1870 w_1871 w_1872 ⟨Nat.le_of_ble_eq_true rfl, Nat.le_of_ble_eq_true rfl⟩ rfl (Nat.le_of_ble_eq_true rfl) ⟨Nat.le_of_ble_eq_true rfl, Nat.le_of_ble_eq_true rfl⟩ rfl dL_law_1806) h (fun r_4013 f_4014 H locs p_4015 h => ?_)
  subst p_4015
  refine lv_icmp_eq (tgt := 2593) hx hb dL_law_1809 (by decide) (fun c_4016 => ?_) (fun c_4016 => ?_)
  · exact law_end C0 hb0 hE0 h (lv_sub hl [0, 4] rfl) (Nat.le_of_ble_eq_true rfl) (Nat.le_of_ble_eq_true rfl)
  · exact absurd c_4016 (by decide)
set_option maxRecDepth 100000 in
set_option maxHeartbeats 4000000 in
theorem law_32 {p : Program} {l : Launch} {e : Env} {s : State} {m : MethodId} {below : List Frame} {meth : Method} {c : Code} (hst : l.stackTraces = false) {b : Nat} {xs : Nat → Int32} (C0 : lw_At p s m meth c b 8 xs) {D : va_G} {G : Nat → Nat} {b0 : Nat} (hb0 : s.heap.size = b0) (hE0 : hE D G b0 s s.heap) {f : hM} {X M : Nat → Nat} {o : Nat} (hX : xw G f X) (hM : mw G f M) (hMX : ∀ i, i ∈ XI → M 0 ≠ X i ∧ M 1 ≠ X i ∧ M 2 ≠ X i ∧ M 3 ≠ X i ∧ M 4 ≠ X i ∧ M 6 ≠ X i) {H : Heap} {locs : List Loc} {ls : Array Slot} (h : hw D b0 s.heap f H locs) (hl : lv_has ls 7 [(4, .int 0), (3, .ref o), (2, .ref (M 0)), (1, .ref (X 0)), (0, .ref b)]) : W p l e room_1 s m #[Value.ref b] below meth c H locs 125 106894 (lw_Z below #[Value.ref b] s) (F0 m 1814 ls []) := by
  obtain ⟨hx, hb, hr, hml, hown, hts0, hXs, hbl, hlk, hgv⟩ := id C0
  have hts : ∀ w ∈ wAll, w.before #[Value.ref b] s = true := fun w hw => hts0 w (wAll_tbl w hw)
  have C : hC p s m #[Value.ref b] meth c cL_law 7 RL D G b0 := ⟨hx, hb, hml, hown, hts, hE0, hlk⟩
  have hbA : ¬ hA b0 b := by rw [← hb0]; exact Nat.not_le.mpr hbl
  obtain ⟨kx0, kx1, kx2, kx3, kx4, kx5, kx6, kx7, kx8, kx9⟩ := (id hX)
  obtain ⟨km0, km1, km2, km3, km4, km5⟩ := (id hM)
  refine lv_aload_n hx hb dL_law_1814 rfl (lv_at hl 3 rfl) ?_
  refine lv_aload_n hx hb dL_law_1815 rfl (lv_at hl 4 rfl) ?_
  refine lv_iload hx hb dL_law_1816 (lv_at hl 0 rfl) ?_
  refine lv_iconst (v := 1) hx hb dL_law_1818 (by decide) ?_
  refine lv_iadd hx hb dL_law_1819 ?_
  refine lv_topi (fun x_ e_ => ?_)
  obtain rfl : 1 = x_ := by rw [e_]; decide
  refine va_sld hx hb hXs hbl hbA h.2.2.1 (by unfold vp_in; decide) dL_law_1820 ?_
  refine lv_aload_n hx hb dL_law_1821 rfl (lv_at hl 4 rfl) ?_
  refine lv_iload hx hb dL_law_1822 (lv_at hl 0 rfl) ?_
  refine lv_iconst (v := 2) hx hb dL_law_1824 (by decide) ?_
  refine lv_iadd hx hb dL_law_1825 ?_
  refine lv_topi (fun x_ e_ => ?_)
  obtain rfl : 2 = x_ := by rw [e_]; decide
  refine va_sld hx hb hXs hbl hbA h.2.2.1 (by unfold vp_in; decide) dL_law_1826 ?_
  refine lv_aload_n hx hb dL_law_1827 rfl (lv_at hl 4 rfl) ?_
  refine lv_iload hx hb dL_law_1828 (lv_at hl 0 rfl) ?_
  refine lv_iconst (v := 3) hx hb dL_law_1830 (by decide) ?_
  refine lv_iadd hx hb dL_law_1831 ?_
  refine lv_topi (fun x_ e_ => ?_)
  obtain rfl : 3 = x_ := by rw [e_]; decide
  refine va_sld hx hb hXs hbl hbA h.2.2.1 (by unfold vp_in; decide) dL_law_1832 ?_
  refine lv_aload_n hx hb dL_law_1833 rfl (lv_at hl 4 rfl) ?_
  refine lv_iload hx hb dL_law_1834 (lv_at hl 0 rfl) ?_
  refine lv_iconst (v := 4) hx hb dL_law_1836 (by decide) ?_
  refine lv_iadd hx hb dL_law_1837 ?_
  refine lv_topi (fun x_ e_ => ?_)
  obtain rfl : 4 = x_ := by rw [e_]; decide
  refine va_sld hx hb hXs hbl hbA h.2.2.1 (by unfold vp_in; decide) dL_law_1838 ?_
  refine k_i (r_V C h hl (As := [.int (xs (Int32.toNatClampNeg 1)), .int (xs (Int32.toNatClampNeg 2)), .int (xs (Int32.toNatClampNeg 3)), .int (xs (Int32.toNatClampNeg 4))]) (rest := []) (c_X10_turned l D G b0 f X hX (xs (Int32.toNatClampNeg 1)) (xs (Int32.toNatClampNeg 2)) (xs (Int32.toNatClampNeg 3)) (xs (Int32.toNatClampNeg 4))) kx0 (Cn := RX10) (T := TX10) (N := 10) rfl rfl mk_X10_turned w_953 w_954 w_955 w_956 ⟨Nat.le_of_ble_eq_true rfl, Nat.le_of_ble_eq_true rfl⟩ rfl (Nat.le_of_ble_eq_true rfl) ⟨Nat.le_of_ble_eq_true rfl, Nat.le_of_ble_eq_true rfl⟩ rfl dL_law_1839) h (fun r_4017 f_4018 H locs p_4019 h => ?_)
  obtain ⟨rfl, p_4019⟩ := p_4019
  have k_4020 : f_4018 (M 0) = some (.inr (12, [.int 0, .ref (M 1), .int 0, .int 0, .int 0, .ref (M 2), .ref (M 3), .ref (M 4), .ref (M 5), .ref (M 6), .int 0, .int 0, .ref (M 7), .ref (M 8), .int 0, .ref (M 9), .ref (M 10), .ref (M 11), .long 0, .ref (M 12), .ref (M 13), .ref (M 14), .ref (M 15), .ref (M 16), .ref (M 17), .ref (M 18), .ref (M 19), .int 0, .int 0, .ref (M 20), .ref (M 21), .int 0])) := (p_4019 _ (fun i hi => (hMX i hi).1)).trans km0
  have k_4021 : f_4018 (M 1) = some (.inl (G 0, 200, .inl (fun _ => 0))) := (p_4019 _ (fun i hi => (hMX i hi).2.1)).trans km1
  have k_4022 : f_4018 (M 2) = some (.inl (G 1, 10, .inl (fun _ => 0))) := (p_4019 _ (fun i hi => (hMX i hi).2.2.1)).trans km2
  have k_4023 : f_4018 (M 3) = some (.inl (G 1, 81, .inl (fun _ => 0))) := (p_4019 _ (fun i hi => (hMX i hi).2.2.2.1)).trans km3
  have k_4024 : f_4018 (M 4) = some (.inl (G 1, 81, .inl (fun _ => 0))) := (p_4019 _ (fun i hi => (hMX i hi).2.2.2.2.1)).trans km4
  have k_4025 : f_4018 (M 6) = some (.inl (G 1, 4, .inl (fun _ => 0))) := (p_4019 _ (fun i hi => (hMX i hi).2.2.2.2.2)).trans km5
  refine lv_aload_n hx hb dL_law_1842 rfl (lv_at hl 2 rfl) ?_
  refine lv_aload_n hx hb dL_law_1843 rfl (lv_at hl 4 rfl) ?_
  refine lv_iload hx hb dL_law_1844 (lv_at hl 0 rfl) ?_
  refine lv_iconst (v := 1) hx hb dL_law_1846 (by decide) ?_
  refine lv_iadd hx hb dL_law_1847 ?_
  refine lv_topi (fun x_ e_ => ?_)
  obtain rfl : 1 = x_ := by rw [e_]; decide
  refine va_sld hx hb hXs hbl hbA h.2.2.1 (by unfold vp_in; decide) dL_law_1848 ?_
  refine lv_aload_n hx hb dL_law_1849 rfl (lv_at hl 4 rfl) ?_
  refine lv_iload hx hb dL_law_1850 (lv_at hl 0 rfl) ?_
  refine lv_iconst (v := 2) hx hb dL_law_1852 (by decide) ?_
  refine lv_iadd hx hb dL_law_1853 ?_
  refine lv_topi (fun x_ e_ => ?_)
  obtain rfl : 2 = x_ := by rw [e_]; decide
  refine va_sld hx hb hXs hbl hbA h.2.2.1 (by unfold vp_in; decide) dL_law_1854 ?_
  refine lv_aload_n hx hb dL_law_1855 rfl (lv_at hl 4 rfl) ?_
  refine lv_iload hx hb dL_law_1856 (lv_at hl 0 rfl) ?_
  refine lv_iconst (v := 3) hx hb dL_law_1858 (by decide) ?_
  refine lv_iadd hx hb dL_law_1859 ?_
  refine lv_topi (fun x_ e_ => ?_)
  obtain rfl : 3 = x_ := by rw [e_]; decide
  refine va_sld hx hb hXs hbl hbA h.2.2.1 (by unfold vp_in; decide) dL_law_1860 ?_
  refine lv_aload_n hx hb dL_law_1861 rfl (lv_at hl 4 rfl) ?_
  refine lv_iload hx hb dL_law_1862 (lv_at hl 0 rfl) ?_
  refine lv_iconst (v := 4) hx hb dL_law_1864 (by decide) ?_
  refine lv_iadd hx hb dL_law_1865 ?_
  refine lv_topi (fun x_ e_ => ?_)
  obtain rfl : 4 = x_ := by rw [e_]; decide
  refine va_sld hx hb hXs hbl hbA h.2.2.1 (by unfold vp_in; decide) dL_law_1866 ?_
  refine k_i (r_V C h hl (As := [.int (xs (Int32.toNatClampNeg 1)), .int (xs (Int32.toNatClampNeg 2)), .int (xs (Int32.toNatClampNeg 3)), .int (xs (Int32.toNatClampNeg 4))]) (rest := [.int (-1)]) (c_X11_turned l D G b0 f_4018 M ⟨k_4020, k_4021, k_4022, k_4023, k_4024, k_4025⟩ (xs (Int32.toNatClampNeg 1)) (xs (Int32.toNatClampNeg 2)) (xs (Int32.toNatClampNeg 3)) (xs (Int32.toNatClampNeg 4))) k_4020 (Cn := RX11) (T := TX11) (N := 32) rfl rfl mk_X11_turned w_1879 w_1880 w_1881 w_1882 ⟨Nat.le_of_ble_eq_true rfl, Nat.le_of_ble_eq_true rfl⟩ rfl (Nat.le_of_ble_eq_true rfl) ⟨Nat.le_of_ble_eq_true rfl, Nat.le_of_ble_eq_true rfl⟩ rfl dL_law_1867) h (fun r_4026 f_4027 H locs p_4028 h => ?_)
  subst p_4028
  refine lv_icmp_eq (tgt := 2593) hx hb dL_law_1870 (by decide) (fun c_4029 => ?_) (fun c_4029 => ?_)
  · exact law_end C0 hb0 hE0 h (lv_sub hl [0, 4] rfl) (Nat.le_of_ble_eq_true rfl) (Nat.le_of_ble_eq_true rfl)
  · exact absurd c_4029 (by decide)
set_option maxRecDepth 100000 in
set_option maxHeartbeats 4000000 in
theorem law_33 {p : Program} {l : Launch} {e : Env} {s : State} {m : MethodId} {below : List Frame} {meth : Method} {c : Code} (hst : l.stackTraces = false) {b : Nat} {xs : Nat → Int32} (C0 : lw_At p s m meth c b 8 xs) {D : va_G} {G : Nat → Nat} {b0 : Nat} (hb0 : s.heap.size = b0) (hE0 : hE D G b0 s s.heap) {f : hM} {X M : Nat → Nat} {o : Nat} (hX : xw G f X) (hM : mw G f M) (hMX : ∀ i, i ∈ XI → M 0 ≠ X i ∧ M 1 ≠ X i ∧ M 2 ≠ X i ∧ M 3 ≠ X i ∧ M 4 ≠ X i ∧ M 6 ≠ X i) {H : Heap} {locs : List Loc} {ls : Array Slot} (h : hw D b0 s.heap f H locs) (hl : lv_has ls 7 [(4, .int 0), (3, .ref o), (2, .ref (M 0)), (1, .ref (X 0)), (0, .ref b)]) : W p l e room_1 s m #[Value.ref b] below meth c H locs 125 106894 (lw_Z below #[Value.ref b] s) (F0 m 1875 ls []) := by
  obtain ⟨hx, hb, hr, hml, hown, hts0, hXs, hbl, hlk, hgv⟩ := id C0
  have hts : ∀ w ∈ wAll, w.before #[Value.ref b] s = true := fun w hw => hts0 w (wAll_tbl w hw)
  have C : hC p s m #[Value.ref b] meth c cL_law 7 RL D G b0 := ⟨hx, hb, hml, hown, hts, hE0, hlk⟩
  have hbA : ¬ hA b0 b := by rw [← hb0]; exact Nat.not_le.mpr hbl
  obtain ⟨kx0, kx1, kx2, kx3, kx4, kx5, kx6, kx7, kx8, kx9⟩ := (id hX)
  obtain ⟨km0, km1, km2, km3, km4, km5⟩ := (id hM)
  refine lv_aload_n hx hb dL_law_1875 rfl (lv_at hl 3 rfl) ?_
  refine lv_aload_n hx hb dL_law_1876 rfl (lv_at hl 4 rfl) ?_
  refine lv_iload hx hb dL_law_1877 (lv_at hl 0 rfl) ?_
  refine lv_iconst (v := 1) hx hb dL_law_1879 (by decide) ?_
  refine lv_iadd hx hb dL_law_1880 ?_
  refine lv_topi (fun x_ e_ => ?_)
  obtain rfl : 1 = x_ := by rw [e_]; decide
  refine va_sld hx hb hXs hbl hbA h.2.2.1 (by unfold vp_in; decide) dL_law_1881 ?_
  refine lv_aload_n hx hb dL_law_1882 rfl (lv_at hl 4 rfl) ?_
  refine lv_iload hx hb dL_law_1883 (lv_at hl 0 rfl) ?_
  refine lv_iconst (v := 2) hx hb dL_law_1885 (by decide) ?_
  refine lv_iadd hx hb dL_law_1886 ?_
  refine lv_topi (fun x_ e_ => ?_)
  obtain rfl : 2 = x_ := by rw [e_]; decide
  refine va_sld hx hb hXs hbl hbA h.2.2.1 (by unfold vp_in; decide) dL_law_1887 ?_
  refine lv_aload_n hx hb dL_law_1888 rfl (lv_at hl 4 rfl) ?_
  refine lv_iload hx hb dL_law_1889 (lv_at hl 0 rfl) ?_
  refine lv_iconst (v := 3) hx hb dL_law_1891 (by decide) ?_
  refine lv_iadd hx hb dL_law_1892 ?_
  refine lv_topi (fun x_ e_ => ?_)
  obtain rfl : 3 = x_ := by rw [e_]; decide
  refine va_sld hx hb hXs hbl hbA h.2.2.1 (by unfold vp_in; decide) dL_law_1893 ?_
  refine lv_aload_n hx hb dL_law_1894 rfl (lv_at hl 4 rfl) ?_
  refine lv_iload hx hb dL_law_1895 (lv_at hl 0 rfl) ?_
  refine lv_iconst (v := 4) hx hb dL_law_1897 (by decide) ?_
  refine lv_iadd hx hb dL_law_1898 ?_
  refine lv_topi (fun x_ e_ => ?_)
  obtain rfl : 4 = x_ := by rw [e_]; decide
  refine va_sld hx hb hXs hbl hbA h.2.2.1 (by unfold vp_in; decide) dL_law_1899 ?_
  refine lv_aload_n hx hb dL_law_1900 rfl (lv_at hl 4 rfl) ?_
  refine lv_iload hx hb dL_law_1901 (lv_at hl 0 rfl) ?_
  refine lv_iconst (v := 5) hx hb dL_law_1903 (by decide) ?_
  refine lv_iadd hx hb dL_law_1904 ?_
  refine lv_topi (fun x_ e_ => ?_)
  obtain rfl : 5 = x_ := by rw [e_]; decide
  refine va_sld hx hb hXs hbl hbA h.2.2.1 (by unfold vp_in; decide) dL_law_1905 ?_
  refine k_i (r_V C h hl (As := [.int (xs (Int32.toNatClampNeg 1)), .int (xs (Int32.toNatClampNeg 2)), .int (xs (Int32.toNatClampNeg 3)), .int (xs (Int32.toNatClampNeg 4)), .int (xs (Int32.toNatClampNeg 5))]) (rest := []) (c_X10_orbit l D G b0 f X hX (xs (Int32.toNatClampNeg 1)) (xs (Int32.toNatClampNeg 2)) (xs (Int32.toNatClampNeg 3)) (xs (Int32.toNatClampNeg 4)) (xs (Int32.toNatClampNeg 5))) kx0 (Cn := RX10) (T := TX10) (N := 10) rfl rfl mk_X10_orbit w_966 w_967 w_968 w_969 ⟨Nat.le_of_ble_eq_true rfl, Nat.le_of_ble_eq_true rfl⟩ rfl (Nat.le_of_ble_eq_true rfl) ⟨Nat.le_of_ble_eq_true rfl, Nat.le_of_ble_eq_true rfl⟩ rfl dL_law_1906) h (fun r_4030 f_4031 H locs p_4032 h => ?_)
  obtain ⟨rfl, p_4032⟩ := p_4032
  have k_4033 : f_4031 (M 0) = some (.inr (12, [.int 0, .ref (M 1), .int 0, .int 0, .int 0, .ref (M 2), .ref (M 3), .ref (M 4), .ref (M 5), .ref (M 6), .int 0, .int 0, .ref (M 7), .ref (M 8), .int 0, .ref (M 9), .ref (M 10), .ref (M 11), .long 0, .ref (M 12), .ref (M 13), .ref (M 14), .ref (M 15), .ref (M 16), .ref (M 17), .ref (M 18), .ref (M 19), .int 0, .int 0, .ref (M 20), .ref (M 21), .int 0])) := (p_4032 _ (fun i hi => (hMX i hi).1)).trans km0
  have k_4034 : f_4031 (M 1) = some (.inl (G 0, 200, .inl (fun _ => 0))) := (p_4032 _ (fun i hi => (hMX i hi).2.1)).trans km1
  have k_4035 : f_4031 (M 2) = some (.inl (G 1, 10, .inl (fun _ => 0))) := (p_4032 _ (fun i hi => (hMX i hi).2.2.1)).trans km2
  have k_4036 : f_4031 (M 3) = some (.inl (G 1, 81, .inl (fun _ => 0))) := (p_4032 _ (fun i hi => (hMX i hi).2.2.2.1)).trans km3
  have k_4037 : f_4031 (M 4) = some (.inl (G 1, 81, .inl (fun _ => 0))) := (p_4032 _ (fun i hi => (hMX i hi).2.2.2.2.1)).trans km4
  have k_4038 : f_4031 (M 6) = some (.inl (G 1, 4, .inl (fun _ => 0))) := (p_4032 _ (fun i hi => (hMX i hi).2.2.2.2.2)).trans km5
  refine lv_aload_n hx hb dL_law_1909 rfl (lv_at hl 2 rfl) ?_
  refine lv_aload_n hx hb dL_law_1910 rfl (lv_at hl 4 rfl) ?_
  refine lv_iload hx hb dL_law_1911 (lv_at hl 0 rfl) ?_
  refine lv_iconst (v := 1) hx hb dL_law_1913 (by decide) ?_
  refine lv_iadd hx hb dL_law_1914 ?_
  refine lv_topi (fun x_ e_ => ?_)
  obtain rfl : 1 = x_ := by rw [e_]; decide
  refine va_sld hx hb hXs hbl hbA h.2.2.1 (by unfold vp_in; decide) dL_law_1915 ?_
  refine lv_aload_n hx hb dL_law_1916 rfl (lv_at hl 4 rfl) ?_
  refine lv_iload hx hb dL_law_1917 (lv_at hl 0 rfl) ?_
  refine lv_iconst (v := 2) hx hb dL_law_1919 (by decide) ?_
  refine lv_iadd hx hb dL_law_1920 ?_
  refine lv_topi (fun x_ e_ => ?_)
  obtain rfl : 2 = x_ := by rw [e_]; decide
  refine va_sld hx hb hXs hbl hbA h.2.2.1 (by unfold vp_in; decide) dL_law_1921 ?_
  refine lv_aload_n hx hb dL_law_1922 rfl (lv_at hl 4 rfl) ?_
  refine lv_iload hx hb dL_law_1923 (lv_at hl 0 rfl) ?_
  refine lv_iconst (v := 3) hx hb dL_law_1925 (by decide) ?_
  refine lv_iadd hx hb dL_law_1926 ?_
  refine lv_topi (fun x_ e_ => ?_)
  obtain rfl : 3 = x_ := by rw [e_]; decide
  refine va_sld hx hb hXs hbl hbA h.2.2.1 (by unfold vp_in; decide) dL_law_1927 ?_
  refine lv_aload_n hx hb dL_law_1928 rfl (lv_at hl 4 rfl) ?_
  refine lv_iload hx hb dL_law_1929 (lv_at hl 0 rfl) ?_
  refine lv_iconst (v := 4) hx hb dL_law_1931 (by decide) ?_
  refine lv_iadd hx hb dL_law_1932 ?_
  refine lv_topi (fun x_ e_ => ?_)
  obtain rfl : 4 = x_ := by rw [e_]; decide
  refine va_sld hx hb hXs hbl hbA h.2.2.1 (by unfold vp_in; decide) dL_law_1933 ?_
  refine lv_aload_n hx hb dL_law_1934 rfl (lv_at hl 4 rfl) ?_
  refine lv_iload hx hb dL_law_1935 (lv_at hl 0 rfl) ?_
  refine lv_iconst (v := 5) hx hb dL_law_1937 (by decide) ?_
  refine lv_iadd hx hb dL_law_1938 ?_
  refine lv_topi (fun x_ e_ => ?_)
  obtain rfl : 5 = x_ := by rw [e_]; decide
  refine va_sld hx hb hXs hbl hbA h.2.2.1 (by unfold vp_in; decide) dL_law_1939 ?_
  refine k_i (r_V C h hl (As := [.int (xs (Int32.toNatClampNeg 1)), .int (xs (Int32.toNatClampNeg 2)), .int (xs (Int32.toNatClampNeg 3)), .int (xs (Int32.toNatClampNeg 4)), .int (xs (Int32.toNatClampNeg 5))]) (rest := [.int (-2)]) (c_X11_orbit l D G b0 f_4031 M ⟨k_4033, k_4034, k_4035, k_4036, k_4037, k_4038⟩ (xs (Int32.toNatClampNeg 1)) (xs (Int32.toNatClampNeg 2)) (xs (Int32.toNatClampNeg 3)) (xs (Int32.toNatClampNeg 4)) (xs (Int32.toNatClampNeg 5))) k_4033 (Cn := RX11) (T := TX11) (N := 32) rfl rfl mk_X11_orbit w_1891 w_1892 w_1893 w_1894 ⟨Nat.le_of_ble_eq_true rfl, Nat.le_of_ble_eq_true rfl⟩ rfl (Nat.le_of_ble_eq_true rfl) ⟨Nat.le_of_ble_eq_true rfl, Nat.le_of_ble_eq_true rfl⟩ rfl dL_law_1940) h (fun r_4039 f_4040 H locs p_4041 h => ?_)
  subst p_4041
  refine lv_icmp_eq (tgt := 2593) hx hb dL_law_1943 (by decide) (fun c_4042 => ?_) (fun c_4042 => ?_)
  · exact law_end C0 hb0 hE0 h (lv_sub hl [0, 4] rfl) (Nat.le_of_ble_eq_true rfl) (Nat.le_of_ble_eq_true rfl)
  · exact absurd c_4042 (by decide)
set_option maxRecDepth 100000 in
set_option maxHeartbeats 4000000 in
theorem law_34 {p : Program} {l : Launch} {e : Env} {s : State} {m : MethodId} {below : List Frame} {meth : Method} {c : Code} (hst : l.stackTraces = false) {b : Nat} {xs : Nat → Int32} (C0 : lw_At p s m meth c b 8 xs) {D : va_G} {G : Nat → Nat} {b0 : Nat} (hb0 : s.heap.size = b0) (hE0 : hE D G b0 s s.heap) {f : hM} {X M : Nat → Nat} {o : Nat} (hX : xw G f X) (hM : mw G f M) (hMX : ∀ i, i ∈ XI → M 0 ≠ X i ∧ M 1 ≠ X i ∧ M 2 ≠ X i ∧ M 3 ≠ X i ∧ M 4 ≠ X i ∧ M 6 ≠ X i) {H : Heap} {locs : List Loc} {ls : Array Slot} (h : hw D b0 s.heap f H locs) (hl : lv_has ls 7 [(4, .int 0), (3, .ref o), (2, .ref (M 0)), (1, .ref (X 0)), (0, .ref b)]) : W p l e room_1 s m #[Value.ref b] below meth c H locs 125 106894 (lw_Z below #[Value.ref b] s) (F0 m 1948 ls []) := by
  obtain ⟨hx, hb, hr, hml, hown, hts0, hXs, hbl, hlk, hgv⟩ := id C0
  have hts : ∀ w ∈ wAll, w.before #[Value.ref b] s = true := fun w hw => hts0 w (wAll_tbl w hw)
  have C : hC p s m #[Value.ref b] meth c cL_law 7 RL D G b0 := ⟨hx, hb, hml, hown, hts, hE0, hlk⟩
  have hbA : ¬ hA b0 b := by rw [← hb0]; exact Nat.not_le.mpr hbl
  obtain ⟨kx0, kx1, kx2, kx3, kx4, kx5, kx6, kx7, kx8, kx9⟩ := (id hX)
  obtain ⟨km0, km1, km2, km3, km4, km5⟩ := (id hM)
  refine lv_aload_n hx hb dL_law_1948 rfl (lv_at hl 3 rfl) ?_
  refine lv_aload_n hx hb dL_law_1949 rfl (lv_at hl 4 rfl) ?_
  refine lv_iload hx hb dL_law_1950 (lv_at hl 0 rfl) ?_
  refine lv_iconst (v := 1) hx hb dL_law_1952 (by decide) ?_
  refine lv_iadd hx hb dL_law_1953 ?_
  refine lv_topi (fun x_ e_ => ?_)
  obtain rfl : 1 = x_ := by rw [e_]; decide
  refine va_sld hx hb hXs hbl hbA h.2.2.1 (by unfold vp_in; decide) dL_law_1954 ?_
  refine k_i (r_V C h hl (As := [.int (xs (Int32.toNatClampNeg 1))]) (rest := []) (c_X10_group l D G b0 f X hX (xs (Int32.toNatClampNeg 1))) kx0 (Cn := RX10) (T := TX10) (N := 10) rfl rfl mk_X10_group w_976 w_977 w_978 w_979 ⟨Nat.le_of_ble_eq_true rfl, Nat.le_of_ble_eq_true rfl⟩ rfl (Nat.le_of_ble_eq_true rfl) ⟨Nat.le_of_ble_eq_true rfl, Nat.le_of_ble_eq_true rfl⟩ rfl dL_law_1955) h (fun r_4043 f_4044 H locs p_4045 h => ?_)
  obtain ⟨rfl, p_4045⟩ := p_4045
  have k_4046 : f_4044 (M 0) = some (.inr (12, [.int 0, .ref (M 1), .int 0, .int 0, .int 0, .ref (M 2), .ref (M 3), .ref (M 4), .ref (M 5), .ref (M 6), .int 0, .int 0, .ref (M 7), .ref (M 8), .int 0, .ref (M 9), .ref (M 10), .ref (M 11), .long 0, .ref (M 12), .ref (M 13), .ref (M 14), .ref (M 15), .ref (M 16), .ref (M 17), .ref (M 18), .ref (M 19), .int 0, .int 0, .ref (M 20), .ref (M 21), .int 0])) := (p_4045 _ (fun i hi => (hMX i hi).1)).trans km0
  have k_4047 : f_4044 (M 1) = some (.inl (G 0, 200, .inl (fun _ => 0))) := (p_4045 _ (fun i hi => (hMX i hi).2.1)).trans km1
  have k_4048 : f_4044 (M 2) = some (.inl (G 1, 10, .inl (fun _ => 0))) := (p_4045 _ (fun i hi => (hMX i hi).2.2.1)).trans km2
  have k_4049 : f_4044 (M 3) = some (.inl (G 1, 81, .inl (fun _ => 0))) := (p_4045 _ (fun i hi => (hMX i hi).2.2.2.1)).trans km3
  have k_4050 : f_4044 (M 4) = some (.inl (G 1, 81, .inl (fun _ => 0))) := (p_4045 _ (fun i hi => (hMX i hi).2.2.2.2.1)).trans km4
  have k_4051 : f_4044 (M 6) = some (.inl (G 1, 4, .inl (fun _ => 0))) := (p_4045 _ (fun i hi => (hMX i hi).2.2.2.2.2)).trans km5
  refine lv_aload_n hx hb dL_law_1958 rfl (lv_at hl 2 rfl) ?_
  refine lv_aload_n hx hb dL_law_1959 rfl (lv_at hl 4 rfl) ?_
  refine lv_iload hx hb dL_law_1960 (lv_at hl 0 rfl) ?_
  refine lv_iconst (v := 1) hx hb dL_law_1962 (by decide) ?_
  refine lv_iadd hx hb dL_law_1963 ?_
  refine lv_topi (fun x_ e_ => ?_)
  obtain rfl : 1 = x_ := by rw [e_]; decide
  refine va_sld hx hb hXs hbl hbA h.2.2.1 (by unfold vp_in; decide) dL_law_1964 ?_
  refine k_i (r_V C h hl (As := [.int (xs (Int32.toNatClampNeg 1))]) (rest := [.int (-2)]) (c_X11_group l D G b0 f_4044 M ⟨k_4046, k_4047, k_4048, k_4049, k_4050, k_4051⟩ (xs (Int32.toNatClampNeg 1))) k_4046 (Cn := RX11) (T := TX11) (N := 32) rfl rfl mk_X11_group w_1899 w_1900 w_1901 w_1902 ⟨Nat.le_of_ble_eq_true rfl, Nat.le_of_ble_eq_true rfl⟩ rfl (Nat.le_of_ble_eq_true rfl) ⟨Nat.le_of_ble_eq_true rfl, Nat.le_of_ble_eq_true rfl⟩ rfl dL_law_1965) h (fun r_4052 f_4053 H locs p_4054 h => ?_)
  subst p_4054
  refine lv_icmp_eq (tgt := 2593) hx hb dL_law_1968 (by decide) (fun c_4055 => ?_) (fun c_4055 => ?_)
  · exact law_end C0 hb0 hE0 h (lv_sub hl [0, 4] rfl) (Nat.le_of_ble_eq_true rfl) (Nat.le_of_ble_eq_true rfl)
  · exact absurd c_4055 (by decide)
set_option maxRecDepth 100000 in
set_option maxHeartbeats 4000000 in
theorem law_35 {p : Program} {l : Launch} {e : Env} {s : State} {m : MethodId} {below : List Frame} {meth : Method} {c : Code} (hst : l.stackTraces = false) {b : Nat} {xs : Nat → Int32} (C0 : lw_At p s m meth c b 8 xs) {D : va_G} {G : Nat → Nat} {b0 : Nat} (hb0 : s.heap.size = b0) (hE0 : hE D G b0 s s.heap) {f : hM} {X M : Nat → Nat} {o : Nat} (hX : xw G f X) (hM : mw G f M) (hMX : ∀ i, i ∈ XI → M 0 ≠ X i ∧ M 1 ≠ X i ∧ M 2 ≠ X i ∧ M 3 ≠ X i ∧ M 4 ≠ X i ∧ M 6 ≠ X i) {H : Heap} {locs : List Loc} {ls : Array Slot} (h : hw D b0 s.heap f H locs) (hl : lv_has ls 7 [(4, .int 0), (3, .ref o), (2, .ref (M 0)), (1, .ref (X 0)), (0, .ref b)]) : W p l e room_1 s m #[Value.ref b] below meth c H locs 125 106894 (lw_Z below #[Value.ref b] s) (F0 m 1973 ls []) := by
  obtain ⟨hx, hb, hr, hml, hown, hts0, hXs, hbl, hlk, hgv⟩ := id C0
  have hts : ∀ w ∈ wAll, w.before #[Value.ref b] s = true := fun w hw => hts0 w (wAll_tbl w hw)
  have C : hC p s m #[Value.ref b] meth c cL_law 7 RL D G b0 := ⟨hx, hb, hml, hown, hts, hE0, hlk⟩
  have hbA : ¬ hA b0 b := by rw [← hb0]; exact Nat.not_le.mpr hbl
  obtain ⟨kx0, kx1, kx2, kx3, kx4, kx5, kx6, kx7, kx8, kx9⟩ := (id hX)
  obtain ⟨km0, km1, km2, km3, km4, km5⟩ := (id hM)
  refine lv_aload_n hx hb dL_law_1973 rfl (lv_at hl 3 rfl) ?_
  refine lv_aload_n hx hb dL_law_1974 rfl (lv_at hl 4 rfl) ?_
  refine lv_iload hx hb dL_law_1975 (lv_at hl 0 rfl) ?_
  refine lv_iconst (v := 1) hx hb dL_law_1977 (by decide) ?_
  refine lv_iadd hx hb dL_law_1978 ?_
  refine lv_topi (fun x_ e_ => ?_)
  obtain rfl : 1 = x_ := by rw [e_]; decide
  refine va_sld hx hb hXs hbl hbA h.2.2.1 (by unfold vp_in; decide) dL_law_1979 ?_
  refine lv_aload_n hx hb dL_law_1980 rfl (lv_at hl 4 rfl) ?_
  refine lv_iload hx hb dL_law_1981 (lv_at hl 0 rfl) ?_
  refine lv_iconst (v := 2) hx hb dL_law_1983 (by decide) ?_
  refine lv_iadd hx hb dL_law_1984 ?_
  refine lv_topi (fun x_ e_ => ?_)
  obtain rfl : 2 = x_ := by rw [e_]; decide
  refine va_sld hx hb hXs hbl hbA h.2.2.1 (by unfold vp_in; decide) dL_law_1985 ?_
  refine lv_aload_n hx hb dL_law_1986 rfl (lv_at hl 4 rfl) ?_
  refine lv_iload hx hb dL_law_1987 (lv_at hl 0 rfl) ?_
  refine lv_iconst (v := 3) hx hb dL_law_1989 (by decide) ?_
  refine lv_iadd hx hb dL_law_1990 ?_
  refine lv_topi (fun x_ e_ => ?_)
  obtain rfl : 3 = x_ := by rw [e_]; decide
  refine va_sld hx hb hXs hbl hbA h.2.2.1 (by unfold vp_in; decide) dL_law_1991 ?_
  refine k_i (r_V C h hl (As := [.int (xs (Int32.toNatClampNeg 1)), .int (xs (Int32.toNatClampNeg 2)), .int (xs (Int32.toNatClampNeg 3))]) (rest := []) (c_X10_sum l D G b0 f X hX (xs (Int32.toNatClampNeg 1)) (xs (Int32.toNatClampNeg 2)) (xs (Int32.toNatClampNeg 3))) kx0 (Cn := RX10) (T := TX10) (N := 10) rfl rfl mk_X10_sum w_986 w_987 w_988 w_989 ⟨Nat.le_of_ble_eq_true rfl, Nat.le_of_ble_eq_true rfl⟩ rfl (Nat.le_of_ble_eq_true rfl) ⟨Nat.le_of_ble_eq_true rfl, Nat.le_of_ble_eq_true rfl⟩ rfl dL_law_1992) h (fun r_4056 f_4057 H locs p_4058 h => ?_)
  obtain ⟨rfl, p_4058⟩ := p_4058
  have k_4059 : f_4057 (M 0) = some (.inr (12, [.int 0, .ref (M 1), .int 0, .int 0, .int 0, .ref (M 2), .ref (M 3), .ref (M 4), .ref (M 5), .ref (M 6), .int 0, .int 0, .ref (M 7), .ref (M 8), .int 0, .ref (M 9), .ref (M 10), .ref (M 11), .long 0, .ref (M 12), .ref (M 13), .ref (M 14), .ref (M 15), .ref (M 16), .ref (M 17), .ref (M 18), .ref (M 19), .int 0, .int 0, .ref (M 20), .ref (M 21), .int 0])) := (p_4058 _ (fun i hi => (hMX i hi).1)).trans km0
  have k_4060 : f_4057 (M 1) = some (.inl (G 0, 200, .inl (fun _ => 0))) := (p_4058 _ (fun i hi => (hMX i hi).2.1)).trans km1
  have k_4061 : f_4057 (M 2) = some (.inl (G 1, 10, .inl (fun _ => 0))) := (p_4058 _ (fun i hi => (hMX i hi).2.2.1)).trans km2
  have k_4062 : f_4057 (M 3) = some (.inl (G 1, 81, .inl (fun _ => 0))) := (p_4058 _ (fun i hi => (hMX i hi).2.2.2.1)).trans km3
  have k_4063 : f_4057 (M 4) = some (.inl (G 1, 81, .inl (fun _ => 0))) := (p_4058 _ (fun i hi => (hMX i hi).2.2.2.2.1)).trans km4
  have k_4064 : f_4057 (M 6) = some (.inl (G 1, 4, .inl (fun _ => 0))) := (p_4058 _ (fun i hi => (hMX i hi).2.2.2.2.2)).trans km5
  refine lv_aload_n hx hb dL_law_1995 rfl (lv_at hl 2 rfl) ?_
  refine lv_aload_n hx hb dL_law_1996 rfl (lv_at hl 4 rfl) ?_
  refine lv_iload hx hb dL_law_1997 (lv_at hl 0 rfl) ?_
  refine lv_iconst (v := 1) hx hb dL_law_1999 (by decide) ?_
  refine lv_iadd hx hb dL_law_2000 ?_
  refine lv_topi (fun x_ e_ => ?_)
  obtain rfl : 1 = x_ := by rw [e_]; decide
  refine va_sld hx hb hXs hbl hbA h.2.2.1 (by unfold vp_in; decide) dL_law_2001 ?_
  refine lv_aload_n hx hb dL_law_2002 rfl (lv_at hl 4 rfl) ?_
  refine lv_iload hx hb dL_law_2003 (lv_at hl 0 rfl) ?_
  refine lv_iconst (v := 2) hx hb dL_law_2005 (by decide) ?_
  refine lv_iadd hx hb dL_law_2006 ?_
  refine lv_topi (fun x_ e_ => ?_)
  obtain rfl : 2 = x_ := by rw [e_]; decide
  refine va_sld hx hb hXs hbl hbA h.2.2.1 (by unfold vp_in; decide) dL_law_2007 ?_
  refine lv_aload_n hx hb dL_law_2008 rfl (lv_at hl 4 rfl) ?_
  refine lv_iload hx hb dL_law_2009 (lv_at hl 0 rfl) ?_
  refine lv_iconst (v := 3) hx hb dL_law_2011 (by decide) ?_
  refine lv_iadd hx hb dL_law_2012 ?_
  refine lv_topi (fun x_ e_ => ?_)
  obtain rfl : 3 = x_ := by rw [e_]; decide
  refine va_sld hx hb hXs hbl hbA h.2.2.1 (by unfold vp_in; decide) dL_law_2013 ?_
  refine k_i (r_V C h hl (As := [.int (xs (Int32.toNatClampNeg 1)), .int (xs (Int32.toNatClampNeg 2)), .int (xs (Int32.toNatClampNeg 3))]) (rest := [.int (-2)]) (c_X11_sum l D G b0 f_4057 M ⟨k_4059, k_4060, k_4061, k_4062, k_4063, k_4064⟩ (xs (Int32.toNatClampNeg 1)) (xs (Int32.toNatClampNeg 2)) (xs (Int32.toNatClampNeg 3))) k_4059 (Cn := RX11) (T := TX11) (N := 32) rfl rfl mk_X11_sum w_1908 w_1909 w_1910 w_1911 ⟨Nat.le_of_ble_eq_true rfl, Nat.le_of_ble_eq_true rfl⟩ rfl (Nat.le_of_ble_eq_true rfl) ⟨Nat.le_of_ble_eq_true rfl, Nat.le_of_ble_eq_true rfl⟩ rfl dL_law_2014) h (fun r_4065 f_4066 H locs p_4067 h => ?_)
  subst p_4067
  refine lv_icmp_eq (tgt := 2593) hx hb dL_law_2017 (by decide) (fun c_4068 => ?_) (fun c_4068 => ?_)
  · exact law_end C0 hb0 hE0 h (lv_sub hl [0, 4] rfl) (Nat.le_of_ble_eq_true rfl) (Nat.le_of_ble_eq_true rfl)
  · exact absurd c_4068 (by decide)
set_option maxRecDepth 100000 in
set_option maxHeartbeats 4000000 in
theorem law_36 {p : Program} {l : Launch} {e : Env} {s : State} {m : MethodId} {below : List Frame} {meth : Method} {c : Code} (hst : l.stackTraces = false) {b : Nat} {xs : Nat → Int32} (C0 : lw_At p s m meth c b 8 xs) {D : va_G} {G : Nat → Nat} {b0 : Nat} (hb0 : s.heap.size = b0) (hE0 : hE D G b0 s s.heap) {f : hM} {X M : Nat → Nat} {o : Nat} (hX : xw G f X) (hM : mw G f M) (hMX : ∀ i, i ∈ XI → M 0 ≠ X i ∧ M 1 ≠ X i ∧ M 2 ≠ X i ∧ M 3 ≠ X i ∧ M 4 ≠ X i ∧ M 6 ≠ X i) {H : Heap} {locs : List Loc} {ls : Array Slot} (h : hw D b0 s.heap f H locs) (hl : lv_has ls 7 [(4, .int 0), (3, .ref o), (2, .ref (M 0)), (1, .ref (X 0)), (0, .ref b)]) : W p l e room_1 s m #[Value.ref b] below meth c H locs 125 106894 (lw_Z below #[Value.ref b] s) (F0 m 2022 ls []) := by
  obtain ⟨hx, hb, hr, hml, hown, hts0, hXs, hbl, hlk, hgv⟩ := id C0
  have hts : ∀ w ∈ wAll, w.before #[Value.ref b] s = true := fun w hw => hts0 w (wAll_tbl w hw)
  have C : hC p s m #[Value.ref b] meth c cL_law 7 RL D G b0 := ⟨hx, hb, hml, hown, hts, hE0, hlk⟩
  have hbA : ¬ hA b0 b := by rw [← hb0]; exact Nat.not_le.mpr hbl
  obtain ⟨kx0, kx1, kx2, kx3, kx4, kx5, kx6, kx7, kx8, kx9⟩ := (id hX)
  obtain ⟨km0, km1, km2, km3, km4, km5⟩ := (id hM)
  refine lv_aload_n hx hb dL_law_2022 rfl (lv_at hl 3 rfl) ?_
  refine lv_aload_n hx hb dL_law_2023 rfl (lv_at hl 4 rfl) ?_
  refine lv_iload hx hb dL_law_2024 (lv_at hl 0 rfl) ?_
  refine lv_iconst (v := 1) hx hb dL_law_2026 (by decide) ?_
  refine lv_iadd hx hb dL_law_2027 ?_
  refine lv_topi (fun x_ e_ => ?_)
  obtain rfl : 1 = x_ := by rw [e_]; decide
  refine va_sld hx hb hXs hbl hbA h.2.2.1 (by unfold vp_in; decide) dL_law_2028 ?_
  refine k_i (r_V C h hl (As := [.int (xs (Int32.toNatClampNeg 1))]) (rest := []) (c_X10_noUse l D G b0 f X hX (xs (Int32.toNatClampNeg 1))) kx0 (Cn := RX10) (T := TX10) (N := 10) rfl rfl mk_X10_noUse w_994 w_995 w_996 w_997 ⟨Nat.le_of_ble_eq_true rfl, Nat.le_of_ble_eq_true rfl⟩ rfl (Nat.le_of_ble_eq_true rfl) ⟨Nat.le_of_ble_eq_true rfl, Nat.le_of_ble_eq_true rfl⟩ rfl dL_law_2029) h (fun r_4069 f_4070 H locs p_4071 h => ?_)
  obtain ⟨rfl, p_4071⟩ := p_4071
  have k_4072 : f_4070 (M 0) = some (.inr (12, [.int 0, .ref (M 1), .int 0, .int 0, .int 0, .ref (M 2), .ref (M 3), .ref (M 4), .ref (M 5), .ref (M 6), .int 0, .int 0, .ref (M 7), .ref (M 8), .int 0, .ref (M 9), .ref (M 10), .ref (M 11), .long 0, .ref (M 12), .ref (M 13), .ref (M 14), .ref (M 15), .ref (M 16), .ref (M 17), .ref (M 18), .ref (M 19), .int 0, .int 0, .ref (M 20), .ref (M 21), .int 0])) := (p_4071 _ (fun i hi => (hMX i hi).1)).trans km0
  have k_4073 : f_4070 (M 1) = some (.inl (G 0, 200, .inl (fun _ => 0))) := (p_4071 _ (fun i hi => (hMX i hi).2.1)).trans km1
  have k_4074 : f_4070 (M 2) = some (.inl (G 1, 10, .inl (fun _ => 0))) := (p_4071 _ (fun i hi => (hMX i hi).2.2.1)).trans km2
  have k_4075 : f_4070 (M 3) = some (.inl (G 1, 81, .inl (fun _ => 0))) := (p_4071 _ (fun i hi => (hMX i hi).2.2.2.1)).trans km3
  have k_4076 : f_4070 (M 4) = some (.inl (G 1, 81, .inl (fun _ => 0))) := (p_4071 _ (fun i hi => (hMX i hi).2.2.2.2.1)).trans km4
  have k_4077 : f_4070 (M 6) = some (.inl (G 1, 4, .inl (fun _ => 0))) := (p_4071 _ (fun i hi => (hMX i hi).2.2.2.2.2)).trans km5
  refine lv_aload_n hx hb dL_law_2032 rfl (lv_at hl 2 rfl) ?_
  refine lv_aload_n hx hb dL_law_2033 rfl (lv_at hl 4 rfl) ?_
  refine lv_iload hx hb dL_law_2034 (lv_at hl 0 rfl) ?_
  refine lv_iconst (v := 1) hx hb dL_law_2036 (by decide) ?_
  refine lv_iadd hx hb dL_law_2037 ?_
  refine lv_topi (fun x_ e_ => ?_)
  obtain rfl : 1 = x_ := by rw [e_]; decide
  refine va_sld hx hb hXs hbl hbA h.2.2.1 (by unfold vp_in; decide) dL_law_2038 ?_
  refine k_i (r_V C h hl (As := [.int (xs (Int32.toNatClampNeg 1))]) (rest := [.int (-1)]) (c_X11_noUse l D G b0 f_4070 M ⟨k_4072, k_4073, k_4074, k_4075, k_4076, k_4077⟩ (xs (Int32.toNatClampNeg 1))) k_4072 (Cn := RX11) (T := TX11) (N := 32) rfl rfl mk_X11_noUse w_1912 w_1913 w_1914 w_1915 ⟨Nat.le_of_ble_eq_true rfl, Nat.le_of_ble_eq_true rfl⟩ rfl (Nat.le_of_ble_eq_true rfl) ⟨Nat.le_of_ble_eq_true rfl, Nat.le_of_ble_eq_true rfl⟩ rfl dL_law_2039) h (fun r_4078 f_4079 H locs p_4080 h => ?_)
  subst p_4080
  refine lv_icmp_eq (tgt := 2593) hx hb dL_law_2042 (by decide) (fun c_4081 => ?_) (fun c_4081 => ?_)
  · exact law_end C0 hb0 hE0 h (lv_sub hl [0, 4] rfl) (Nat.le_of_ble_eq_true rfl) (Nat.le_of_ble_eq_true rfl)
  · exact absurd c_4081 (by decide)
set_option maxRecDepth 100000 in
set_option maxHeartbeats 4000000 in
theorem law_37 {p : Program} {l : Launch} {e : Env} {s : State} {m : MethodId} {below : List Frame} {meth : Method} {c : Code} (hst : l.stackTraces = false) {b : Nat} {xs : Nat → Int32} (C0 : lw_At p s m meth c b 8 xs) {D : va_G} {G : Nat → Nat} {b0 : Nat} (hb0 : s.heap.size = b0) (hE0 : hE D G b0 s s.heap) {f : hM} {X M : Nat → Nat} {o : Nat} (hX : xw G f X) (hM : mw G f M) (hMX : ∀ i, i ∈ XI → M 0 ≠ X i ∧ M 1 ≠ X i ∧ M 2 ≠ X i ∧ M 3 ≠ X i ∧ M 4 ≠ X i ∧ M 6 ≠ X i) {H : Heap} {locs : List Loc} {ls : Array Slot} (h : hw D b0 s.heap f H locs) (hl : lv_has ls 7 [(4, .int 0), (3, .ref o), (2, .ref (M 0)), (1, .ref (X 0)), (0, .ref b)]) : W p l e room_1 s m #[Value.ref b] below meth c H locs 125 106894 (lw_Z below #[Value.ref b] s) (F0 m 2047 ls []) := by
  obtain ⟨hx, hb, hr, hml, hown, hts0, hXs, hbl, hlk, hgv⟩ := id C0
  have hts : ∀ w ∈ wAll, w.before #[Value.ref b] s = true := fun w hw => hts0 w (wAll_tbl w hw)
  have C : hC p s m #[Value.ref b] meth c cL_law 7 RL D G b0 := ⟨hx, hb, hml, hown, hts, hE0, hlk⟩
  have hbA : ¬ hA b0 b := by rw [← hb0]; exact Nat.not_le.mpr hbl
  obtain ⟨kx0, kx1, kx2, kx3, kx4, kx5, kx6, kx7, kx8, kx9⟩ := (id hX)
  obtain ⟨km0, km1, km2, km3, km4, km5⟩ := (id hM)
  refine lv_aload_n hx hb dL_law_2047 rfl (lv_at hl 3 rfl) ?_
  refine lv_aload_n hx hb dL_law_2048 rfl (lv_at hl 4 rfl) ?_
  refine lv_iload hx hb dL_law_2049 (lv_at hl 0 rfl) ?_
  refine lv_iconst (v := 1) hx hb dL_law_2051 (by decide) ?_
  refine lv_iadd hx hb dL_law_2052 ?_
  refine lv_topi (fun x_ e_ => ?_)
  obtain rfl : 1 = x_ := by rw [e_]; decide
  refine va_sld hx hb hXs hbl hbA h.2.2.1 (by unfold vp_in; decide) dL_law_2053 ?_
  refine k_i (r_V C h hl (As := [.int (xs (Int32.toNatClampNeg 1))]) (rest := []) (c_X10_enough l D G b0 f X hX (xs (Int32.toNatClampNeg 1))) kx0 (Cn := RX10) (T := TX10) (N := 10) rfl rfl mk_X10_enough w_1006 w_1007 w_1008 w_1009 ⟨Nat.le_of_ble_eq_true rfl, Nat.le_of_ble_eq_true rfl⟩ rfl (Nat.le_of_ble_eq_true rfl) ⟨Nat.le_of_ble_eq_true rfl, Nat.le_of_ble_eq_true rfl⟩ rfl dL_law_2054) h (fun r_4082 f_4083 H locs p_4084 h => ?_)
  obtain ⟨rfl, p_4084⟩ := p_4084
  have k_4085 : f_4083 (M 0) = some (.inr (12, [.int 0, .ref (M 1), .int 0, .int 0, .int 0, .ref (M 2), .ref (M 3), .ref (M 4), .ref (M 5), .ref (M 6), .int 0, .int 0, .ref (M 7), .ref (M 8), .int 0, .ref (M 9), .ref (M 10), .ref (M 11), .long 0, .ref (M 12), .ref (M 13), .ref (M 14), .ref (M 15), .ref (M 16), .ref (M 17), .ref (M 18), .ref (M 19), .int 0, .int 0, .ref (M 20), .ref (M 21), .int 0])) := (p_4084 _ (fun i hi => (hMX i hi).1)).trans km0
  have k_4086 : f_4083 (M 1) = some (.inl (G 0, 200, .inl (fun _ => 0))) := (p_4084 _ (fun i hi => (hMX i hi).2.1)).trans km1
  have k_4087 : f_4083 (M 2) = some (.inl (G 1, 10, .inl (fun _ => 0))) := (p_4084 _ (fun i hi => (hMX i hi).2.2.1)).trans km2
  have k_4088 : f_4083 (M 3) = some (.inl (G 1, 81, .inl (fun _ => 0))) := (p_4084 _ (fun i hi => (hMX i hi).2.2.2.1)).trans km3
  have k_4089 : f_4083 (M 4) = some (.inl (G 1, 81, .inl (fun _ => 0))) := (p_4084 _ (fun i hi => (hMX i hi).2.2.2.2.1)).trans km4
  have k_4090 : f_4083 (M 6) = some (.inl (G 1, 4, .inl (fun _ => 0))) := (p_4084 _ (fun i hi => (hMX i hi).2.2.2.2.2)).trans km5
  refine lv_aload_n hx hb dL_law_2057 rfl (lv_at hl 2 rfl) ?_
  refine lv_aload_n hx hb dL_law_2058 rfl (lv_at hl 4 rfl) ?_
  refine lv_iload hx hb dL_law_2059 (lv_at hl 0 rfl) ?_
  refine lv_iconst (v := 1) hx hb dL_law_2061 (by decide) ?_
  refine lv_iadd hx hb dL_law_2062 ?_
  refine lv_topi (fun x_ e_ => ?_)
  obtain rfl : 1 = x_ := by rw [e_]; decide
  refine va_sld hx hb hXs hbl hbA h.2.2.1 (by unfold vp_in; decide) dL_law_2063 ?_
  refine k_i (r_V C h hl (As := [.int (xs (Int32.toNatClampNeg 1))]) (rest := [.int (-1)]) (c_X11_enough l D G b0 f_4083 M ⟨k_4085, k_4086, k_4087, k_4088, k_4089, k_4090⟩ (xs (Int32.toNatClampNeg 1))) k_4085 (Cn := RX11) (T := TX11) (N := 32) rfl rfl mk_X11_enough w_1916 w_1917 w_1918 w_1919 ⟨Nat.le_of_ble_eq_true rfl, Nat.le_of_ble_eq_true rfl⟩ rfl (Nat.le_of_ble_eq_true rfl) ⟨Nat.le_of_ble_eq_true rfl, Nat.le_of_ble_eq_true rfl⟩ rfl dL_law_2064) h (fun r_4091 f_4092 H locs p_4093 h => ?_)
  subst p_4093
  refine lv_icmp_eq (tgt := 2593) hx hb dL_law_2067 (by decide) (fun c_4094 => ?_) (fun c_4094 => ?_)
  · exact law_end C0 hb0 hE0 h (lv_sub hl [0, 4] rfl) (Nat.le_of_ble_eq_true rfl) (Nat.le_of_ble_eq_true rfl)
  · exact absurd c_4094 (by decide)
set_option maxRecDepth 100000 in
set_option maxHeartbeats 4000000 in
theorem law_38 {p : Program} {l : Launch} {e : Env} {s : State} {m : MethodId} {below : List Frame} {meth : Method} {c : Code} (hst : l.stackTraces = false) {b : Nat} {xs : Nat → Int32} (C0 : lw_At p s m meth c b 8 xs) {D : va_G} {G : Nat → Nat} {b0 : Nat} (hb0 : s.heap.size = b0) (hE0 : hE D G b0 s s.heap) {f : hM} {X M : Nat → Nat} {o : Nat} (hX : xw G f X) (hM : mw G f M) (hMX : ∀ i, i ∈ XI → M 0 ≠ X i ∧ M 1 ≠ X i ∧ M 2 ≠ X i ∧ M 3 ≠ X i ∧ M 4 ≠ X i ∧ M 6 ≠ X i) {H : Heap} {locs : List Loc} {ls : Array Slot} (h : hw D b0 s.heap f H locs) (hl : lv_has ls 7 [(4, .int 0), (3, .ref o), (2, .ref (M 0)), (1, .ref (X 0)), (0, .ref b)]) : W p l e room_1 s m #[Value.ref b] below meth c H locs 125 106894 (lw_Z below #[Value.ref b] s) (F0 m 2072 ls []) := by
  obtain ⟨hx, hb, hr, hml, hown, hts0, hXs, hbl, hlk, hgv⟩ := id C0
  have hts : ∀ w ∈ wAll, w.before #[Value.ref b] s = true := fun w hw => hts0 w (wAll_tbl w hw)
  have C : hC p s m #[Value.ref b] meth c cL_law 7 RL D G b0 := ⟨hx, hb, hml, hown, hts, hE0, hlk⟩
  have hbA : ¬ hA b0 b := by rw [← hb0]; exact Nat.not_le.mpr hbl
  obtain ⟨kx0, kx1, kx2, kx3, kx4, kx5, kx6, kx7, kx8, kx9⟩ := (id hX)
  obtain ⟨km0, km1, km2, km3, km4, km5⟩ := (id hM)
  refine lv_aload_n hx hb dL_law_2072 rfl (lv_at hl 3 rfl) ?_
  refine lv_aload_n hx hb dL_law_2073 rfl (lv_at hl 4 rfl) ?_
  refine lv_iload hx hb dL_law_2074 (lv_at hl 0 rfl) ?_
  refine lv_iconst (v := 1) hx hb dL_law_2076 (by decide) ?_
  refine lv_iadd hx hb dL_law_2077 ?_
  refine lv_topi (fun x_ e_ => ?_)
  obtain rfl : 1 = x_ := by rw [e_]; decide
  refine va_sld hx hb hXs hbl hbA h.2.2.1 (by unfold vp_in; decide) dL_law_2078 ?_
  refine k_i (r_V C h hl (As := [.int (xs (Int32.toNatClampNeg 1))]) (rest := []) (c_X10_alike l D G b0 f X hX (xs (Int32.toNatClampNeg 1))) kx0 (Cn := RX10) (T := TX10) (N := 10) rfl rfl mk_X10_alike w_1015 w_1016 w_1017 w_1018 ⟨Nat.le_of_ble_eq_true rfl, Nat.le_of_ble_eq_true rfl⟩ rfl (Nat.le_of_ble_eq_true rfl) ⟨Nat.le_of_ble_eq_true rfl, Nat.le_of_ble_eq_true rfl⟩ rfl dL_law_2079) h (fun r_4095 f_4096 H locs p_4097 h => ?_)
  obtain ⟨rfl, p_4097⟩ := p_4097
  have k_4098 : f_4096 (M 0) = some (.inr (12, [.int 0, .ref (M 1), .int 0, .int 0, .int 0, .ref (M 2), .ref (M 3), .ref (M 4), .ref (M 5), .ref (M 6), .int 0, .int 0, .ref (M 7), .ref (M 8), .int 0, .ref (M 9), .ref (M 10), .ref (M 11), .long 0, .ref (M 12), .ref (M 13), .ref (M 14), .ref (M 15), .ref (M 16), .ref (M 17), .ref (M 18), .ref (M 19), .int 0, .int 0, .ref (M 20), .ref (M 21), .int 0])) := (p_4097 _ (fun i hi => (hMX i hi).1)).trans km0
  have k_4099 : f_4096 (M 1) = some (.inl (G 0, 200, .inl (fun _ => 0))) := (p_4097 _ (fun i hi => (hMX i hi).2.1)).trans km1
  have k_4100 : f_4096 (M 2) = some (.inl (G 1, 10, .inl (fun _ => 0))) := (p_4097 _ (fun i hi => (hMX i hi).2.2.1)).trans km2
  have k_4101 : f_4096 (M 3) = some (.inl (G 1, 81, .inl (fun _ => 0))) := (p_4097 _ (fun i hi => (hMX i hi).2.2.2.1)).trans km3
  have k_4102 : f_4096 (M 4) = some (.inl (G 1, 81, .inl (fun _ => 0))) := (p_4097 _ (fun i hi => (hMX i hi).2.2.2.2.1)).trans km4
  have k_4103 : f_4096 (M 6) = some (.inl (G 1, 4, .inl (fun _ => 0))) := (p_4097 _ (fun i hi => (hMX i hi).2.2.2.2.2)).trans km5
  refine lv_aload_n hx hb dL_law_2082 rfl (lv_at hl 2 rfl) ?_
  refine lv_aload_n hx hb dL_law_2083 rfl (lv_at hl 4 rfl) ?_
  refine lv_iload hx hb dL_law_2084 (lv_at hl 0 rfl) ?_
  refine lv_iconst (v := 1) hx hb dL_law_2086 (by decide) ?_
  refine lv_iadd hx hb dL_law_2087 ?_
  refine lv_topi (fun x_ e_ => ?_)
  obtain rfl : 1 = x_ := by rw [e_]; decide
  refine va_sld hx hb hXs hbl hbA h.2.2.1 (by unfold vp_in; decide) dL_law_2088 ?_
  refine k_i (r_V C h hl (As := [.int (xs (Int32.toNatClampNeg 1))]) (rest := [.int (-1)]) (c_X11_alike l D G b0 f_4096 M ⟨k_4098, k_4099, k_4100, k_4101, k_4102, k_4103⟩ (xs (Int32.toNatClampNeg 1))) k_4098 (Cn := RX11) (T := TX11) (N := 32) rfl rfl mk_X11_alike w_1924 w_1925 w_1926 w_1927 ⟨Nat.le_of_ble_eq_true rfl, Nat.le_of_ble_eq_true rfl⟩ rfl (Nat.le_of_ble_eq_true rfl) ⟨Nat.le_of_ble_eq_true rfl, Nat.le_of_ble_eq_true rfl⟩ rfl dL_law_2089) h (fun r_4104 f_4105 H locs p_4106 h => ?_)
  subst p_4106
  refine lv_icmp_eq (tgt := 2593) hx hb dL_law_2092 (by decide) (fun c_4107 => ?_) (fun c_4107 => ?_)
  · exact law_end C0 hb0 hE0 h (lv_sub hl [0, 4] rfl) (Nat.le_of_ble_eq_true rfl) (Nat.le_of_ble_eq_true rfl)
  · exact absurd c_4107 (by decide)
set_option maxRecDepth 100000 in
set_option maxHeartbeats 4000000 in
theorem law_39 {p : Program} {l : Launch} {e : Env} {s : State} {m : MethodId} {below : List Frame} {meth : Method} {c : Code} (hst : l.stackTraces = false) {b : Nat} {xs : Nat → Int32} (C0 : lw_At p s m meth c b 8 xs) {D : va_G} {G : Nat → Nat} {b0 : Nat} (hb0 : s.heap.size = b0) (hE0 : hE D G b0 s s.heap) {f : hM} {X M : Nat → Nat} {o : Nat} (hX : xw G f X) (hM : mw G f M) (hMX : ∀ i, i ∈ XI → M 0 ≠ X i ∧ M 1 ≠ X i ∧ M 2 ≠ X i ∧ M 3 ≠ X i ∧ M 4 ≠ X i ∧ M 6 ≠ X i) {H : Heap} {locs : List Loc} {ls : Array Slot} (h : hw D b0 s.heap f H locs) (hl : lv_has ls 7 [(4, .int 0), (3, .ref o), (2, .ref (M 0)), (1, .ref (X 0)), (0, .ref b)]) : W p l e room_1 s m #[Value.ref b] below meth c H locs 125 106894 (lw_Z below #[Value.ref b] s) (F0 m 2097 ls []) := by
  obtain ⟨hx, hb, hr, hml, hown, hts0, hXs, hbl, hlk, hgv⟩ := id C0
  have hts : ∀ w ∈ wAll, w.before #[Value.ref b] s = true := fun w hw => hts0 w (wAll_tbl w hw)
  have C : hC p s m #[Value.ref b] meth c cL_law 7 RL D G b0 := ⟨hx, hb, hml, hown, hts, hE0, hlk⟩
  have hbA : ¬ hA b0 b := by rw [← hb0]; exact Nat.not_le.mpr hbl
  obtain ⟨kx0, kx1, kx2, kx3, kx4, kx5, kx6, kx7, kx8, kx9⟩ := (id hX)
  obtain ⟨km0, km1, km2, km3, km4, km5⟩ := (id hM)
  refine lv_aload_n hx hb dL_law_2097 rfl (lv_at hl 3 rfl) ?_
  refine lv_aload_n hx hb dL_law_2098 rfl (lv_at hl 4 rfl) ?_
  refine lv_iload hx hb dL_law_2099 (lv_at hl 0 rfl) ?_
  refine lv_iconst (v := 1) hx hb dL_law_2101 (by decide) ?_
  refine lv_iadd hx hb dL_law_2102 ?_
  refine lv_topi (fun x_ e_ => ?_)
  obtain rfl : 1 = x_ := by rw [e_]; decide
  refine va_sld hx hb hXs hbl hbA h.2.2.1 (by unfold vp_in; decide) dL_law_2103 ?_
  refine lv_aload_n hx hb dL_law_2104 rfl (lv_at hl 4 rfl) ?_
  refine lv_iload hx hb dL_law_2105 (lv_at hl 0 rfl) ?_
  refine lv_iconst (v := 2) hx hb dL_law_2107 (by decide) ?_
  refine lv_iadd hx hb dL_law_2108 ?_
  refine lv_topi (fun x_ e_ => ?_)
  obtain rfl : 2 = x_ := by rw [e_]; decide
  refine va_sld hx hb hXs hbl hbA h.2.2.1 (by unfold vp_in; decide) dL_law_2109 ?_
  refine lv_aload_n hx hb dL_law_2110 rfl (lv_at hl 4 rfl) ?_
  refine lv_iload hx hb dL_law_2111 (lv_at hl 0 rfl) ?_
  refine lv_iconst (v := 3) hx hb dL_law_2113 (by decide) ?_
  refine lv_iadd hx hb dL_law_2114 ?_
  refine lv_topi (fun x_ e_ => ?_)
  obtain rfl : 3 = x_ := by rw [e_]; decide
  refine va_sld hx hb hXs hbl hbA h.2.2.1 (by unfold vp_in; decide) dL_law_2115 ?_
  refine lv_aload_n hx hb dL_law_2116 rfl (lv_at hl 4 rfl) ?_
  refine lv_iload hx hb dL_law_2117 (lv_at hl 0 rfl) ?_
  refine lv_iconst (v := 4) hx hb dL_law_2119 (by decide) ?_
  refine lv_iadd hx hb dL_law_2120 ?_
  refine lv_topi (fun x_ e_ => ?_)
  obtain rfl : 4 = x_ := by rw [e_]; decide
  refine va_sld hx hb hXs hbl hbA h.2.2.1 (by unfold vp_in; decide) dL_law_2121 ?_
  refine lv_aload_n hx hb dL_law_2122 rfl (lv_at hl 4 rfl) ?_
  refine lv_iload hx hb dL_law_2123 (lv_at hl 0 rfl) ?_
  refine lv_iconst (v := 5) hx hb dL_law_2125 (by decide) ?_
  refine lv_iadd hx hb dL_law_2126 ?_
  refine lv_topi (fun x_ e_ => ?_)
  obtain rfl : 5 = x_ := by rw [e_]; decide
  refine va_sld hx hb hXs hbl hbA h.2.2.1 (by unfold vp_in; decide) dL_law_2127 ?_
  refine lv_aload_n hx hb dL_law_2128 rfl (lv_at hl 4 rfl) ?_
  refine lv_iload hx hb dL_law_2129 (lv_at hl 0 rfl) ?_
  refine lv_bipush (v := 6) hx hb dL_law_2131 (by decide) ?_
  refine lv_iadd hx hb dL_law_2133 ?_
  refine lv_topi (fun x_ e_ => ?_)
  obtain rfl : 6 = x_ := by rw [e_]; decide
  refine va_sld hx hb hXs hbl hbA h.2.2.1 (by unfold vp_in; decide) dL_law_2134 ?_
  refine k_i (r_V C h hl (As := [.int (xs (Int32.toNatClampNeg 1)), .int (xs (Int32.toNatClampNeg 2)), .int (xs (Int32.toNatClampNeg 3)), .int (xs (Int32.toNatClampNeg 4)), .int (xs (Int32.toNatClampNeg 5)), .int (xs (Int32.toNatClampNeg 6))]) (rest := []) (c_X10_recurrence l D G b0 f X hX (xs (Int32.toNatClampNeg 1)) (xs (Int32.toNatClampNeg 2)) (xs (Int32.toNatClampNeg 3)) (xs (Int32.toNatClampNeg 4)) (xs (Int32.toNatClampNeg 5)) (xs (Int32.toNatClampNeg 6))) kx0 (Cn := RX10) (T := TX10) (N := 10) rfl rfl mk_X10_recurrence w_1022 w_1023 w_1024 w_1025 ⟨Nat.le_of_ble_eq_true rfl, Nat.le_of_ble_eq_true rfl⟩ rfl (Nat.le_of_ble_eq_true rfl) ⟨Nat.le_of_ble_eq_true rfl, Nat.le_of_ble_eq_true rfl⟩ rfl dL_law_2135) h (fun r_4108 f_4109 H locs p_4110 h => ?_)
  obtain ⟨rfl, p_4110⟩ := p_4110
  have k_4111 : f_4109 (M 0) = some (.inr (12, [.int 0, .ref (M 1), .int 0, .int 0, .int 0, .ref (M 2), .ref (M 3), .ref (M 4), .ref (M 5), .ref (M 6), .int 0, .int 0, .ref (M 7), .ref (M 8), .int 0, .ref (M 9), .ref (M 10), .ref (M 11), .long 0, .ref (M 12), .ref (M 13), .ref (M 14), .ref (M 15), .ref (M 16), .ref (M 17), .ref (M 18), .ref (M 19), .int 0, .int 0, .ref (M 20), .ref (M 21), .int 0])) := (p_4110 _ (fun i hi => (hMX i hi).1)).trans km0
  have k_4112 : f_4109 (M 1) = some (.inl (G 0, 200, .inl (fun _ => 0))) := (p_4110 _ (fun i hi => (hMX i hi).2.1)).trans km1
  have k_4113 : f_4109 (M 2) = some (.inl (G 1, 10, .inl (fun _ => 0))) := (p_4110 _ (fun i hi => (hMX i hi).2.2.1)).trans km2
  have k_4114 : f_4109 (M 3) = some (.inl (G 1, 81, .inl (fun _ => 0))) := (p_4110 _ (fun i hi => (hMX i hi).2.2.2.1)).trans km3
  have k_4115 : f_4109 (M 4) = some (.inl (G 1, 81, .inl (fun _ => 0))) := (p_4110 _ (fun i hi => (hMX i hi).2.2.2.2.1)).trans km4
  have k_4116 : f_4109 (M 6) = some (.inl (G 1, 4, .inl (fun _ => 0))) := (p_4110 _ (fun i hi => (hMX i hi).2.2.2.2.2)).trans km5
  refine lv_aload_n hx hb dL_law_2138 rfl (lv_at hl 2 rfl) ?_
  refine lv_aload_n hx hb dL_law_2139 rfl (lv_at hl 4 rfl) ?_
  refine lv_iload hx hb dL_law_2140 (lv_at hl 0 rfl) ?_
  refine lv_iconst (v := 1) hx hb dL_law_2142 (by decide) ?_
  refine lv_iadd hx hb dL_law_2143 ?_
  refine lv_topi (fun x_ e_ => ?_)
  obtain rfl : 1 = x_ := by rw [e_]; decide
  refine va_sld hx hb hXs hbl hbA h.2.2.1 (by unfold vp_in; decide) dL_law_2144 ?_
  refine lv_aload_n hx hb dL_law_2145 rfl (lv_at hl 4 rfl) ?_
  refine lv_iload hx hb dL_law_2146 (lv_at hl 0 rfl) ?_
  refine lv_iconst (v := 2) hx hb dL_law_2148 (by decide) ?_
  refine lv_iadd hx hb dL_law_2149 ?_
  refine lv_topi (fun x_ e_ => ?_)
  obtain rfl : 2 = x_ := by rw [e_]; decide
  refine va_sld hx hb hXs hbl hbA h.2.2.1 (by unfold vp_in; decide) dL_law_2150 ?_
  refine lv_aload_n hx hb dL_law_2151 rfl (lv_at hl 4 rfl) ?_
  refine lv_iload hx hb dL_law_2152 (lv_at hl 0 rfl) ?_
  refine lv_iconst (v := 3) hx hb dL_law_2154 (by decide) ?_
  refine lv_iadd hx hb dL_law_2155 ?_
  refine lv_topi (fun x_ e_ => ?_)
  obtain rfl : 3 = x_ := by rw [e_]; decide
  refine va_sld hx hb hXs hbl hbA h.2.2.1 (by unfold vp_in; decide) dL_law_2156 ?_
  refine lv_aload_n hx hb dL_law_2157 rfl (lv_at hl 4 rfl) ?_
  refine lv_iload hx hb dL_law_2158 (lv_at hl 0 rfl) ?_
  refine lv_iconst (v := 4) hx hb dL_law_2160 (by decide) ?_
  refine lv_iadd hx hb dL_law_2161 ?_
  refine lv_topi (fun x_ e_ => ?_)
  obtain rfl : 4 = x_ := by rw [e_]; decide
  refine va_sld hx hb hXs hbl hbA h.2.2.1 (by unfold vp_in; decide) dL_law_2162 ?_
  refine lv_aload_n hx hb dL_law_2163 rfl (lv_at hl 4 rfl) ?_
  refine lv_iload hx hb dL_law_2164 (lv_at hl 0 rfl) ?_
  refine lv_iconst (v := 5) hx hb dL_law_2166 (by decide) ?_
  refine lv_iadd hx hb dL_law_2167 ?_
  refine lv_topi (fun x_ e_ => ?_)
  obtain rfl : 5 = x_ := by rw [e_]; decide
  refine va_sld hx hb hXs hbl hbA h.2.2.1 (by unfold vp_in; decide) dL_law_2168 ?_
  refine lv_aload_n hx hb dL_law_2169 rfl (lv_at hl 4 rfl) ?_
  refine lv_iload hx hb dL_law_2170 (lv_at hl 0 rfl) ?_
  refine lv_bipush (v := 6) hx hb dL_law_2172 (by decide) ?_
  refine lv_iadd hx hb dL_law_2174 ?_
  refine lv_topi (fun x_ e_ => ?_)
  obtain rfl : 6 = x_ := by rw [e_]; decide
  refine va_sld hx hb hXs hbl hbA h.2.2.1 (by unfold vp_in; decide) dL_law_2175 ?_
  refine k_i (r_V C h hl (As := [.int (xs (Int32.toNatClampNeg 1)), .int (xs (Int32.toNatClampNeg 2)), .int (xs (Int32.toNatClampNeg 3)), .int (xs (Int32.toNatClampNeg 4)), .int (xs (Int32.toNatClampNeg 5)), .int (xs (Int32.toNatClampNeg 6))]) (rest := [.int (-1000000)]) (c_X11_recurrence l D G b0 f_4109 M ⟨k_4111, k_4112, k_4113, k_4114, k_4115, k_4116⟩ (xs (Int32.toNatClampNeg 1)) (xs (Int32.toNatClampNeg 2)) (xs (Int32.toNatClampNeg 3)) (xs (Int32.toNatClampNeg 4)) (xs (Int32.toNatClampNeg 5)) (xs (Int32.toNatClampNeg 6))) k_4111 (Cn := RX11) (T := TX11) (N := 32) rfl rfl mk_X11_recurrence w_1932 w_1933 w_1934 w_1935 ⟨Nat.le_of_ble_eq_true rfl, Nat.le_of_ble_eq_true rfl⟩ rfl (Nat.le_of_ble_eq_true rfl) ⟨Nat.le_of_ble_eq_true rfl, Nat.le_of_ble_eq_true rfl⟩ rfl dL_law_2176) h (fun r_4117 f_4118 H locs p_4119 h => ?_)
  subst p_4119
  refine lv_icmp_eq (tgt := 2593) hx hb dL_law_2179 (by decide) (fun c_4120 => ?_) (fun c_4120 => ?_)
  · exact law_end C0 hb0 hE0 h (lv_sub hl [0, 4] rfl) (Nat.le_of_ble_eq_true rfl) (Nat.le_of_ble_eq_true rfl)
  · exact absurd c_4120 (by decide)
set_option maxRecDepth 100000 in
set_option maxHeartbeats 4000000 in
theorem law_40 {p : Program} {l : Launch} {e : Env} {s : State} {m : MethodId} {below : List Frame} {meth : Method} {c : Code} (hst : l.stackTraces = false) {b : Nat} {xs : Nat → Int32} (C0 : lw_At p s m meth c b 8 xs) {D : va_G} {G : Nat → Nat} {b0 : Nat} (hb0 : s.heap.size = b0) (hE0 : hE D G b0 s s.heap) {f : hM} {X M : Nat → Nat} {o : Nat} (hX : xw G f X) (hM : mw G f M) (hMX : ∀ i, i ∈ XI → M 0 ≠ X i ∧ M 1 ≠ X i ∧ M 2 ≠ X i ∧ M 3 ≠ X i ∧ M 4 ≠ X i ∧ M 6 ≠ X i) {H : Heap} {locs : List Loc} {ls : Array Slot} (h : hw D b0 s.heap f H locs) (hl : lv_has ls 7 [(4, .int 0), (3, .ref o), (2, .ref (M 0)), (1, .ref (X 0)), (0, .ref b)]) : W p l e room_1 s m #[Value.ref b] below meth c H locs 125 106894 (lw_Z below #[Value.ref b] s) (F0 m 2184 ls []) := by
  obtain ⟨hx, hb, hr, hml, hown, hts0, hXs, hbl, hlk, hgv⟩ := id C0
  have hts : ∀ w ∈ wAll, w.before #[Value.ref b] s = true := fun w hw => hts0 w (wAll_tbl w hw)
  have C : hC p s m #[Value.ref b] meth c cL_law 7 RL D G b0 := ⟨hx, hb, hml, hown, hts, hE0, hlk⟩
  have hbA : ¬ hA b0 b := by rw [← hb0]; exact Nat.not_le.mpr hbl
  obtain ⟨kx0, kx1, kx2, kx3, kx4, kx5, kx6, kx7, kx8, kx9⟩ := (id hX)
  obtain ⟨km0, km1, km2, km3, km4, km5⟩ := (id hM)
  refine lv_aload_n hx hb dL_law_2184 rfl (lv_at hl 3 rfl) ?_
  refine lv_aload_n hx hb dL_law_2185 rfl (lv_at hl 4 rfl) ?_
  refine lv_iload hx hb dL_law_2186 (lv_at hl 0 rfl) ?_
  refine lv_iconst (v := 1) hx hb dL_law_2188 (by decide) ?_
  refine lv_iadd hx hb dL_law_2189 ?_
  refine lv_topi (fun x_ e_ => ?_)
  obtain rfl : 1 = x_ := by rw [e_]; decide
  refine va_sld hx hb hXs hbl hbA h.2.2.1 (by unfold vp_in; decide) dL_law_2190 ?_
  refine lv_aload_n hx hb dL_law_2191 rfl (lv_at hl 4 rfl) ?_
  refine lv_iload hx hb dL_law_2192 (lv_at hl 0 rfl) ?_
  refine lv_iconst (v := 2) hx hb dL_law_2194 (by decide) ?_
  refine lv_iadd hx hb dL_law_2195 ?_
  refine lv_topi (fun x_ e_ => ?_)
  obtain rfl : 2 = x_ := by rw [e_]; decide
  refine va_sld hx hb hXs hbl hbA h.2.2.1 (by unfold vp_in; decide) dL_law_2196 ?_
  refine lv_aload_n hx hb dL_law_2197 rfl (lv_at hl 4 rfl) ?_
  refine lv_iload hx hb dL_law_2198 (lv_at hl 0 rfl) ?_
  refine lv_iconst (v := 3) hx hb dL_law_2200 (by decide) ?_
  refine lv_iadd hx hb dL_law_2201 ?_
  refine lv_topi (fun x_ e_ => ?_)
  obtain rfl : 3 = x_ := by rw [e_]; decide
  refine va_sld hx hb hXs hbl hbA h.2.2.1 (by unfold vp_in; decide) dL_law_2202 ?_
  refine lv_aload_n hx hb dL_law_2203 rfl (lv_at hl 4 rfl) ?_
  refine lv_iload hx hb dL_law_2204 (lv_at hl 0 rfl) ?_
  refine lv_iconst (v := 4) hx hb dL_law_2206 (by decide) ?_
  refine lv_iadd hx hb dL_law_2207 ?_
  refine lv_topi (fun x_ e_ => ?_)
  obtain rfl : 4 = x_ := by rw [e_]; decide
  refine va_sld hx hb hXs hbl hbA h.2.2.1 (by unfold vp_in; decide) dL_law_2208 ?_
  refine k_i (r_V C h hl (As := [.int (xs (Int32.toNatClampNeg 1)), .int (xs (Int32.toNatClampNeg 2)), .int (xs (Int32.toNatClampNeg 3)), .int (xs (Int32.toNatClampNeg 4))]) (rest := []) (c_X10_fails l D G b0 f X hX (xs (Int32.toNatClampNeg 1)) (xs (Int32.toNatClampNeg 2)) (xs (Int32.toNatClampNeg 3)) (xs (Int32.toNatClampNeg 4))) kx0 (Cn := RX10) (T := TX10) (N := 10) rfl rfl mk_X10_fails w_1067 w_1068 w_1069 w_1070 ⟨Nat.le_of_ble_eq_true rfl, Nat.le_of_ble_eq_true rfl⟩ rfl (Nat.le_of_ble_eq_true rfl) ⟨Nat.le_of_ble_eq_true rfl, Nat.le_of_ble_eq_true rfl⟩ rfl dL_law_2209) h (fun r_4121 f_4122 H locs p_4123 h => ?_)
  obtain ⟨rfl, p_4123⟩ := p_4123
  have k_4124 : f_4122 (M 0) = some (.inr (12, [.int 0, .ref (M 1), .int 0, .int 0, .int 0, .ref (M 2), .ref (M 3), .ref (M 4), .ref (M 5), .ref (M 6), .int 0, .int 0, .ref (M 7), .ref (M 8), .int 0, .ref (M 9), .ref (M 10), .ref (M 11), .long 0, .ref (M 12), .ref (M 13), .ref (M 14), .ref (M 15), .ref (M 16), .ref (M 17), .ref (M 18), .ref (M 19), .int 0, .int 0, .ref (M 20), .ref (M 21), .int 0])) := (p_4123 _ (fun i hi => (hMX i hi).1)).trans km0
  have k_4125 : f_4122 (M 1) = some (.inl (G 0, 200, .inl (fun _ => 0))) := (p_4123 _ (fun i hi => (hMX i hi).2.1)).trans km1
  have k_4126 : f_4122 (M 2) = some (.inl (G 1, 10, .inl (fun _ => 0))) := (p_4123 _ (fun i hi => (hMX i hi).2.2.1)).trans km2
  have k_4127 : f_4122 (M 3) = some (.inl (G 1, 81, .inl (fun _ => 0))) := (p_4123 _ (fun i hi => (hMX i hi).2.2.2.1)).trans km3
  have k_4128 : f_4122 (M 4) = some (.inl (G 1, 81, .inl (fun _ => 0))) := (p_4123 _ (fun i hi => (hMX i hi).2.2.2.2.1)).trans km4
  have k_4129 : f_4122 (M 6) = some (.inl (G 1, 4, .inl (fun _ => 0))) := (p_4123 _ (fun i hi => (hMX i hi).2.2.2.2.2)).trans km5
  refine lv_aload_n hx hb dL_law_2212 rfl (lv_at hl 2 rfl) ?_
  refine lv_aload_n hx hb dL_law_2213 rfl (lv_at hl 4 rfl) ?_
  refine lv_iload hx hb dL_law_2214 (lv_at hl 0 rfl) ?_
  refine lv_iconst (v := 1) hx hb dL_law_2216 (by decide) ?_
  refine lv_iadd hx hb dL_law_2217 ?_
  refine lv_topi (fun x_ e_ => ?_)
  obtain rfl : 1 = x_ := by rw [e_]; decide
  refine va_sld hx hb hXs hbl hbA h.2.2.1 (by unfold vp_in; decide) dL_law_2218 ?_
  refine lv_aload_n hx hb dL_law_2219 rfl (lv_at hl 4 rfl) ?_
  refine lv_iload hx hb dL_law_2220 (lv_at hl 0 rfl) ?_
  refine lv_iconst (v := 2) hx hb dL_law_2222 (by decide) ?_
  refine lv_iadd hx hb dL_law_2223 ?_
  refine lv_topi (fun x_ e_ => ?_)
  obtain rfl : 2 = x_ := by rw [e_]; decide
  refine va_sld hx hb hXs hbl hbA h.2.2.1 (by unfold vp_in; decide) dL_law_2224 ?_
  refine lv_aload_n hx hb dL_law_2225 rfl (lv_at hl 4 rfl) ?_
  refine lv_iload hx hb dL_law_2226 (lv_at hl 0 rfl) ?_
  refine lv_iconst (v := 3) hx hb dL_law_2228 (by decide) ?_
  refine lv_iadd hx hb dL_law_2229 ?_
  refine lv_topi (fun x_ e_ => ?_)
  obtain rfl : 3 = x_ := by rw [e_]; decide
  refine va_sld hx hb hXs hbl hbA h.2.2.1 (by unfold vp_in; decide) dL_law_2230 ?_
  refine lv_aload_n hx hb dL_law_2231 rfl (lv_at hl 4 rfl) ?_
  refine lv_iload hx hb dL_law_2232 (lv_at hl 0 rfl) ?_
  refine lv_iconst (v := 4) hx hb dL_law_2234 (by decide) ?_
  refine lv_iadd hx hb dL_law_2235 ?_
  refine lv_topi (fun x_ e_ => ?_)
  obtain rfl : 4 = x_ := by rw [e_]; decide
  refine va_sld hx hb hXs hbl hbA h.2.2.1 (by unfold vp_in; decide) dL_law_2236 ?_
  refine k_i (r_V C h hl (As := [.int (xs (Int32.toNatClampNeg 1)), .int (xs (Int32.toNatClampNeg 2)), .int (xs (Int32.toNatClampNeg 3)), .int (xs (Int32.toNatClampNeg 4))]) (rest := [.int (-1000000)]) (c_X11_fails_ l D G b0 f_4122 M ⟨k_4124, k_4125, k_4126, k_4127, k_4128, k_4129⟩ (xs (Int32.toNatClampNeg 1)) (xs (Int32.toNatClampNeg 2)) (xs (Int32.toNatClampNeg 3)) (xs (Int32.toNatClampNeg 4))) k_4124 (Cn := RX11) (T := TX11) (N := 32) rfl rfl mk_X11_fails_ w_1977 w_1978 w_1979 w_1980 ⟨Nat.le_of_ble_eq_true rfl, Nat.le_of_ble_eq_true rfl⟩ rfl (Nat.le_of_ble_eq_true rfl) ⟨Nat.le_of_ble_eq_true rfl, Nat.le_of_ble_eq_true rfl⟩ rfl dL_law_2237) h (fun r_4130 f_4131 H locs p_4132 h => ?_)
  subst p_4132
  refine lv_icmp_eq (tgt := 2593) hx hb dL_law_2240 (by decide) (fun c_4133 => ?_) (fun c_4133 => ?_)
  · exact law_end C0 hb0 hE0 h (lv_sub hl [0, 4] rfl) (Nat.le_of_ble_eq_true rfl) (Nat.le_of_ble_eq_true rfl)
  · exact absurd c_4133 (by decide)
set_option maxRecDepth 100000 in
set_option maxHeartbeats 4000000 in
theorem law_41 {p : Program} {l : Launch} {e : Env} {s : State} {m : MethodId} {below : List Frame} {meth : Method} {c : Code} (hst : l.stackTraces = false) {b : Nat} {xs : Nat → Int32} (C0 : lw_At p s m meth c b 8 xs) {D : va_G} {G : Nat → Nat} {b0 : Nat} (hb0 : s.heap.size = b0) (hE0 : hE D G b0 s s.heap) {f : hM} {X M : Nat → Nat} {o : Nat} (hX : xw G f X) (hM : mw G f M) (hMX : ∀ i, i ∈ XI → M 0 ≠ X i ∧ M 1 ≠ X i ∧ M 2 ≠ X i ∧ M 3 ≠ X i ∧ M 4 ≠ X i ∧ M 6 ≠ X i) {H : Heap} {locs : List Loc} {ls : Array Slot} (h : hw D b0 s.heap f H locs) (hl : lv_has ls 7 [(4, .int 0), (3, .ref o), (2, .ref (M 0)), (1, .ref (X 0)), (0, .ref b)]) : W p l e room_1 s m #[Value.ref b] below meth c H locs 125 106894 (lw_Z below #[Value.ref b] s) (F0 m 2245 ls []) := by
  obtain ⟨hx, hb, hr, hml, hown, hts0, hXs, hbl, hlk, hgv⟩ := id C0
  have hts : ∀ w ∈ wAll, w.before #[Value.ref b] s = true := fun w hw => hts0 w (wAll_tbl w hw)
  have C : hC p s m #[Value.ref b] meth c cL_law 7 RL D G b0 := ⟨hx, hb, hml, hown, hts, hE0, hlk⟩
  have hbA : ¬ hA b0 b := by rw [← hb0]; exact Nat.not_le.mpr hbl
  obtain ⟨kx0, kx1, kx2, kx3, kx4, kx5, kx6, kx7, kx8, kx9⟩ := (id hX)
  obtain ⟨km0, km1, km2, km3, km4, km5⟩ := (id hM)
  refine lv_aload_n hx hb dL_law_2245 rfl (lv_at hl 3 rfl) ?_
  refine lv_aload_n hx hb dL_law_2246 rfl (lv_at hl 4 rfl) ?_
  refine lv_iload hx hb dL_law_2247 (lv_at hl 0 rfl) ?_
  refine lv_iconst (v := 1) hx hb dL_law_2249 (by decide) ?_
  refine lv_iadd hx hb dL_law_2250 ?_
  refine lv_topi (fun x_ e_ => ?_)
  obtain rfl : 1 = x_ := by rw [e_]; decide
  refine va_sld hx hb hXs hbl hbA h.2.2.1 (by unfold vp_in; decide) dL_law_2251 ?_
  refine lv_aload_n hx hb dL_law_2252 rfl (lv_at hl 4 rfl) ?_
  refine lv_iload hx hb dL_law_2253 (lv_at hl 0 rfl) ?_
  refine lv_iconst (v := 2) hx hb dL_law_2255 (by decide) ?_
  refine lv_iadd hx hb dL_law_2256 ?_
  refine lv_topi (fun x_ e_ => ?_)
  obtain rfl : 2 = x_ := by rw [e_]; decide
  refine va_sld hx hb hXs hbl hbA h.2.2.1 (by unfold vp_in; decide) dL_law_2257 ?_
  refine lv_aload_n hx hb dL_law_2258 rfl (lv_at hl 4 rfl) ?_
  refine lv_iload hx hb dL_law_2259 (lv_at hl 0 rfl) ?_
  refine lv_iconst (v := 3) hx hb dL_law_2261 (by decide) ?_
  refine lv_iadd hx hb dL_law_2262 ?_
  refine lv_topi (fun x_ e_ => ?_)
  obtain rfl : 3 = x_ := by rw [e_]; decide
  refine va_sld hx hb hXs hbl hbA h.2.2.1 (by unfold vp_in; decide) dL_law_2263 ?_
  refine lv_aload_n hx hb dL_law_2264 rfl (lv_at hl 4 rfl) ?_
  refine lv_iload hx hb dL_law_2265 (lv_at hl 0 rfl) ?_
  refine lv_iconst (v := 4) hx hb dL_law_2267 (by decide) ?_
  refine lv_iadd hx hb dL_law_2268 ?_
  refine lv_topi (fun x_ e_ => ?_)
  obtain rfl : 4 = x_ := by rw [e_]; decide
  refine va_sld hx hb hXs hbl hbA h.2.2.1 (by unfold vp_in; decide) dL_law_2269 ?_
  refine lv_aload_n hx hb dL_law_2270 rfl (lv_at hl 4 rfl) ?_
  refine lv_iload hx hb dL_law_2271 (lv_at hl 0 rfl) ?_
  refine lv_iconst (v := 5) hx hb dL_law_2273 (by decide) ?_
  refine lv_iadd hx hb dL_law_2274 ?_
  refine lv_topi (fun x_ e_ => ?_)
  obtain rfl : 5 = x_ := by rw [e_]; decide
  refine va_sld hx hb hXs hbl hbA h.2.2.1 (by unfold vp_in; decide) dL_law_2275 ?_
  refine lv_aload_n hx hb dL_law_2276 rfl (lv_at hl 4 rfl) ?_
  refine lv_iload hx hb dL_law_2277 (lv_at hl 0 rfl) ?_
  refine lv_bipush (v := 6) hx hb dL_law_2279 (by decide) ?_
  refine lv_iadd hx hb dL_law_2281 ?_
  refine lv_topi (fun x_ e_ => ?_)
  obtain rfl : 6 = x_ := by rw [e_]; decide
  refine va_sld hx hb hXs hbl hbA h.2.2.1 (by unfold vp_in; decide) dL_law_2282 ?_
  refine k_i (r_V C h hl (As := [.int (xs (Int32.toNatClampNeg 1)), .int (xs (Int32.toNatClampNeg 2)), .int (xs (Int32.toNatClampNeg 3)), .int (xs (Int32.toNatClampNeg 4)), .int (xs (Int32.toNatClampNeg 5)), .int (xs (Int32.toNatClampNeg 6))]) (rest := []) (c_X10_equation l D G b0 f X hX (xs (Int32.toNatClampNeg 1)) (xs (Int32.toNatClampNeg 2)) (xs (Int32.toNatClampNeg 3)) (xs (Int32.toNatClampNeg 4)) (xs (Int32.toNatClampNeg 5)) (xs (Int32.toNatClampNeg 6))) kx0 (Cn := RX10) (T := TX10) (N := 10) rfl rfl mk_X10_equation w_1079 w_1080 w_1081 w_1082 ⟨Nat.le_of_ble_eq_true rfl, Nat.le_of_ble_eq_true rfl⟩ rfl (Nat.le_of_ble_eq_true rfl) ⟨Nat.le_of_ble_eq_true rfl, Nat.le_of_ble_eq_true rfl⟩ rfl dL_law_2283) h (fun r_4134 f_4135 H locs p_4136 h => ?_)
  obtain ⟨rfl, p_4136⟩ := p_4136
  have k_4137 : f_4135 (M 0) = some (.inr (12, [.int 0, .ref (M 1), .int 0, .int 0, .int 0, .ref (M 2), .ref (M 3), .ref (M 4), .ref (M 5), .ref (M 6), .int 0, .int 0, .ref (M 7), .ref (M 8), .int 0, .ref (M 9), .ref (M 10), .ref (M 11), .long 0, .ref (M 12), .ref (M 13), .ref (M 14), .ref (M 15), .ref (M 16), .ref (M 17), .ref (M 18), .ref (M 19), .int 0, .int 0, .ref (M 20), .ref (M 21), .int 0])) := (p_4136 _ (fun i hi => (hMX i hi).1)).trans km0
  have k_4138 : f_4135 (M 1) = some (.inl (G 0, 200, .inl (fun _ => 0))) := (p_4136 _ (fun i hi => (hMX i hi).2.1)).trans km1
  have k_4139 : f_4135 (M 2) = some (.inl (G 1, 10, .inl (fun _ => 0))) := (p_4136 _ (fun i hi => (hMX i hi).2.2.1)).trans km2
  have k_4140 : f_4135 (M 3) = some (.inl (G 1, 81, .inl (fun _ => 0))) := (p_4136 _ (fun i hi => (hMX i hi).2.2.2.1)).trans km3
  have k_4141 : f_4135 (M 4) = some (.inl (G 1, 81, .inl (fun _ => 0))) := (p_4136 _ (fun i hi => (hMX i hi).2.2.2.2.1)).trans km4
  have k_4142 : f_4135 (M 6) = some (.inl (G 1, 4, .inl (fun _ => 0))) := (p_4136 _ (fun i hi => (hMX i hi).2.2.2.2.2)).trans km5
  refine lv_aload_n hx hb dL_law_2286 rfl (lv_at hl 2 rfl) ?_
  refine lv_aload_n hx hb dL_law_2287 rfl (lv_at hl 4 rfl) ?_
  refine lv_iload hx hb dL_law_2288 (lv_at hl 0 rfl) ?_
  refine lv_iconst (v := 1) hx hb dL_law_2290 (by decide) ?_
  refine lv_iadd hx hb dL_law_2291 ?_
  refine lv_topi (fun x_ e_ => ?_)
  obtain rfl : 1 = x_ := by rw [e_]; decide
  refine va_sld hx hb hXs hbl hbA h.2.2.1 (by unfold vp_in; decide) dL_law_2292 ?_
  refine lv_aload_n hx hb dL_law_2293 rfl (lv_at hl 4 rfl) ?_
  refine lv_iload hx hb dL_law_2294 (lv_at hl 0 rfl) ?_
  refine lv_iconst (v := 2) hx hb dL_law_2296 (by decide) ?_
  refine lv_iadd hx hb dL_law_2297 ?_
  refine lv_topi (fun x_ e_ => ?_)
  obtain rfl : 2 = x_ := by rw [e_]; decide
  refine va_sld hx hb hXs hbl hbA h.2.2.1 (by unfold vp_in; decide) dL_law_2298 ?_
  refine lv_aload_n hx hb dL_law_2299 rfl (lv_at hl 4 rfl) ?_
  refine lv_iload hx hb dL_law_2300 (lv_at hl 0 rfl) ?_
  refine lv_iconst (v := 3) hx hb dL_law_2302 (by decide) ?_
  refine lv_iadd hx hb dL_law_2303 ?_
  refine lv_topi (fun x_ e_ => ?_)
  obtain rfl : 3 = x_ := by rw [e_]; decide
  refine va_sld hx hb hXs hbl hbA h.2.2.1 (by unfold vp_in; decide) dL_law_2304 ?_
  refine lv_aload_n hx hb dL_law_2305 rfl (lv_at hl 4 rfl) ?_
  refine lv_iload hx hb dL_law_2306 (lv_at hl 0 rfl) ?_
  refine lv_iconst (v := 4) hx hb dL_law_2308 (by decide) ?_
  refine lv_iadd hx hb dL_law_2309 ?_
  refine lv_topi (fun x_ e_ => ?_)
  obtain rfl : 4 = x_ := by rw [e_]; decide
  refine va_sld hx hb hXs hbl hbA h.2.2.1 (by unfold vp_in; decide) dL_law_2310 ?_
  refine lv_aload_n hx hb dL_law_2311 rfl (lv_at hl 4 rfl) ?_
  refine lv_iload hx hb dL_law_2312 (lv_at hl 0 rfl) ?_
  refine lv_iconst (v := 5) hx hb dL_law_2314 (by decide) ?_
  refine lv_iadd hx hb dL_law_2315 ?_
  refine lv_topi (fun x_ e_ => ?_)
  obtain rfl : 5 = x_ := by rw [e_]; decide
  refine va_sld hx hb hXs hbl hbA h.2.2.1 (by unfold vp_in; decide) dL_law_2316 ?_
  refine lv_aload_n hx hb dL_law_2317 rfl (lv_at hl 4 rfl) ?_
  refine lv_iload hx hb dL_law_2318 (lv_at hl 0 rfl) ?_
  refine lv_bipush (v := 6) hx hb dL_law_2320 (by decide) ?_
  refine lv_iadd hx hb dL_law_2322 ?_
  refine lv_topi (fun x_ e_ => ?_)
  obtain rfl : 6 = x_ := by rw [e_]; decide
  refine va_sld hx hb hXs hbl hbA h.2.2.1 (by unfold vp_in; decide) dL_law_2323 ?_
  refine k_i (r_V C h hl (As := [.int (xs (Int32.toNatClampNeg 1)), .int (xs (Int32.toNatClampNeg 2)), .int (xs (Int32.toNatClampNeg 3)), .int (xs (Int32.toNatClampNeg 4)), .int (xs (Int32.toNatClampNeg 5)), .int (xs (Int32.toNatClampNeg 6))]) (rest := [.int (-1000000)]) (c_X11_equation l D G b0 f_4135 M ⟨k_4137, k_4138, k_4139, k_4140, k_4141, k_4142⟩ (xs (Int32.toNatClampNeg 1)) (xs (Int32.toNatClampNeg 2)) (xs (Int32.toNatClampNeg 3)) (xs (Int32.toNatClampNeg 4)) (xs (Int32.toNatClampNeg 5)) (xs (Int32.toNatClampNeg 6))) k_4137 (Cn := RX11) (T := TX11) (N := 32) rfl rfl mk_X11_equation w_1989 w_1990 w_1991 w_1992 ⟨Nat.le_of_ble_eq_true rfl, Nat.le_of_ble_eq_true rfl⟩ rfl (Nat.le_of_ble_eq_true rfl) ⟨Nat.le_of_ble_eq_true rfl, Nat.le_of_ble_eq_true rfl⟩ rfl dL_law_2324) h (fun r_4143 f_4144 H locs p_4145 h => ?_)
  subst p_4145
  refine lv_icmp_eq (tgt := 2593) hx hb dL_law_2327 (by decide) (fun c_4146 => ?_) (fun c_4146 => ?_)
  · exact law_end C0 hb0 hE0 h (lv_sub hl [0, 4] rfl) (Nat.le_of_ble_eq_true rfl) (Nat.le_of_ble_eq_true rfl)
  · exact absurd c_4146 (by decide)
set_option maxRecDepth 100000 in
set_option maxHeartbeats 4000000 in
theorem law_42 {p : Program} {l : Launch} {e : Env} {s : State} {m : MethodId} {below : List Frame} {meth : Method} {c : Code} (hst : l.stackTraces = false) {b : Nat} {xs : Nat → Int32} (C0 : lw_At p s m meth c b 8 xs) {D : va_G} {G : Nat → Nat} {b0 : Nat} (hb0 : s.heap.size = b0) (hE0 : hE D G b0 s s.heap) {f : hM} {X M : Nat → Nat} {o : Nat} (hX : xw G f X) (hM : mw G f M) (hMX : ∀ i, i ∈ XI → M 0 ≠ X i ∧ M 1 ≠ X i ∧ M 2 ≠ X i ∧ M 3 ≠ X i ∧ M 4 ≠ X i ∧ M 6 ≠ X i) {H : Heap} {locs : List Loc} {ls : Array Slot} (h : hw D b0 s.heap f H locs) (hl : lv_has ls 7 [(4, .int 0), (3, .ref o), (2, .ref (M 0)), (1, .ref (X 0)), (0, .ref b)]) : W p l e room_1 s m #[Value.ref b] below meth c H locs 125 106894 (lw_Z below #[Value.ref b] s) (F0 m 2332 ls []) := by
  obtain ⟨hx, hb, hr, hml, hown, hts0, hXs, hbl, hlk, hgv⟩ := id C0
  have hts : ∀ w ∈ wAll, w.before #[Value.ref b] s = true := fun w hw => hts0 w (wAll_tbl w hw)
  have C : hC p s m #[Value.ref b] meth c cL_law 7 RL D G b0 := ⟨hx, hb, hml, hown, hts, hE0, hlk⟩
  have hbA : ¬ hA b0 b := by rw [← hb0]; exact Nat.not_le.mpr hbl
  obtain ⟨kx0, kx1, kx2, kx3, kx4, kx5, kx6, kx7, kx8, kx9⟩ := (id hX)
  obtain ⟨km0, km1, km2, km3, km4, km5⟩ := (id hM)
  refine lv_aload_n hx hb dL_law_2332 rfl (lv_at hl 3 rfl) ?_
  refine lv_aload_n hx hb dL_law_2333 rfl (lv_at hl 4 rfl) ?_
  refine lv_iload hx hb dL_law_2334 (lv_at hl 0 rfl) ?_
  refine lv_iconst (v := 1) hx hb dL_law_2336 (by decide) ?_
  refine lv_iadd hx hb dL_law_2337 ?_
  refine lv_topi (fun x_ e_ => ?_)
  obtain rfl : 1 = x_ := by rw [e_]; decide
  refine va_sld hx hb hXs hbl hbA h.2.2.1 (by unfold vp_in; decide) dL_law_2338 ?_
  refine lv_aload_n hx hb dL_law_2339 rfl (lv_at hl 4 rfl) ?_
  refine lv_iload hx hb dL_law_2340 (lv_at hl 0 rfl) ?_
  refine lv_iconst (v := 2) hx hb dL_law_2342 (by decide) ?_
  refine lv_iadd hx hb dL_law_2343 ?_
  refine lv_topi (fun x_ e_ => ?_)
  obtain rfl : 2 = x_ := by rw [e_]; decide
  refine va_sld hx hb hXs hbl hbA h.2.2.1 (by unfold vp_in; decide) dL_law_2344 ?_
  refine lv_aload_n hx hb dL_law_2345 rfl (lv_at hl 4 rfl) ?_
  refine lv_iload hx hb dL_law_2346 (lv_at hl 0 rfl) ?_
  refine lv_iconst (v := 3) hx hb dL_law_2348 (by decide) ?_
  refine lv_iadd hx hb dL_law_2349 ?_
  refine lv_topi (fun x_ e_ => ?_)
  obtain rfl : 3 = x_ := by rw [e_]; decide
  refine va_sld hx hb hXs hbl hbA h.2.2.1 (by unfold vp_in; decide) dL_law_2350 ?_
  refine lv_aload_n hx hb dL_law_2351 rfl (lv_at hl 4 rfl) ?_
  refine lv_iload hx hb dL_law_2352 (lv_at hl 0 rfl) ?_
  refine lv_iconst (v := 4) hx hb dL_law_2354 (by decide) ?_
  refine lv_iadd hx hb dL_law_2355 ?_
  refine lv_topi (fun x_ e_ => ?_)
  obtain rfl : 4 = x_ := by rw [e_]; decide
  refine va_sld hx hb hXs hbl hbA h.2.2.1 (by unfold vp_in; decide) dL_law_2356 ?_
  refine k_i (r_V C h hl (As := [.int (xs (Int32.toNatClampNeg 1)), .int (xs (Int32.toNatClampNeg 2)), .int (xs (Int32.toNatClampNeg 3)), .int (xs (Int32.toNatClampNeg 4))]) (rest := []) (c_X10_breaks l D G b0 f X hX (xs (Int32.toNatClampNeg 1)) (xs (Int32.toNatClampNeg 2)) (xs (Int32.toNatClampNeg 3)) (xs (Int32.toNatClampNeg 4))) kx0 (Cn := RX10) (T := TX10) (N := 10) rfl rfl mk_X10_breaks w_1083 w_1084 w_1085 w_1086 ⟨Nat.le_of_ble_eq_true rfl, Nat.le_of_ble_eq_true rfl⟩ rfl (Nat.le_of_ble_eq_true rfl) ⟨Nat.le_of_ble_eq_true rfl, Nat.le_of_ble_eq_true rfl⟩ rfl dL_law_2357) h (fun r_4147 f_4148 H locs p_4149 h => ?_)
  obtain ⟨rfl, p_4149⟩ := p_4149
  have k_4150 : f_4148 (M 0) = some (.inr (12, [.int 0, .ref (M 1), .int 0, .int 0, .int 0, .ref (M 2), .ref (M 3), .ref (M 4), .ref (M 5), .ref (M 6), .int 0, .int 0, .ref (M 7), .ref (M 8), .int 0, .ref (M 9), .ref (M 10), .ref (M 11), .long 0, .ref (M 12), .ref (M 13), .ref (M 14), .ref (M 15), .ref (M 16), .ref (M 17), .ref (M 18), .ref (M 19), .int 0, .int 0, .ref (M 20), .ref (M 21), .int 0])) := (p_4149 _ (fun i hi => (hMX i hi).1)).trans km0
  have k_4151 : f_4148 (M 1) = some (.inl (G 0, 200, .inl (fun _ => 0))) := (p_4149 _ (fun i hi => (hMX i hi).2.1)).trans km1
  have k_4152 : f_4148 (M 2) = some (.inl (G 1, 10, .inl (fun _ => 0))) := (p_4149 _ (fun i hi => (hMX i hi).2.2.1)).trans km2
  have k_4153 : f_4148 (M 3) = some (.inl (G 1, 81, .inl (fun _ => 0))) := (p_4149 _ (fun i hi => (hMX i hi).2.2.2.1)).trans km3
  have k_4154 : f_4148 (M 4) = some (.inl (G 1, 81, .inl (fun _ => 0))) := (p_4149 _ (fun i hi => (hMX i hi).2.2.2.2.1)).trans km4
  have k_4155 : f_4148 (M 6) = some (.inl (G 1, 4, .inl (fun _ => 0))) := (p_4149 _ (fun i hi => (hMX i hi).2.2.2.2.2)).trans km5
  refine lv_aload_n hx hb dL_law_2360 rfl (lv_at hl 2 rfl) ?_
  refine lv_aload_n hx hb dL_law_2361 rfl (lv_at hl 4 rfl) ?_
  refine lv_iload hx hb dL_law_2362 (lv_at hl 0 rfl) ?_
  refine lv_iconst (v := 1) hx hb dL_law_2364 (by decide) ?_
  refine lv_iadd hx hb dL_law_2365 ?_
  refine lv_topi (fun x_ e_ => ?_)
  obtain rfl : 1 = x_ := by rw [e_]; decide
  refine va_sld hx hb hXs hbl hbA h.2.2.1 (by unfold vp_in; decide) dL_law_2366 ?_
  refine lv_aload_n hx hb dL_law_2367 rfl (lv_at hl 4 rfl) ?_
  refine lv_iload hx hb dL_law_2368 (lv_at hl 0 rfl) ?_
  refine lv_iconst (v := 2) hx hb dL_law_2370 (by decide) ?_
  refine lv_iadd hx hb dL_law_2371 ?_
  refine lv_topi (fun x_ e_ => ?_)
  obtain rfl : 2 = x_ := by rw [e_]; decide
  refine va_sld hx hb hXs hbl hbA h.2.2.1 (by unfold vp_in; decide) dL_law_2372 ?_
  refine lv_aload_n hx hb dL_law_2373 rfl (lv_at hl 4 rfl) ?_
  refine lv_iload hx hb dL_law_2374 (lv_at hl 0 rfl) ?_
  refine lv_iconst (v := 3) hx hb dL_law_2376 (by decide) ?_
  refine lv_iadd hx hb dL_law_2377 ?_
  refine lv_topi (fun x_ e_ => ?_)
  obtain rfl : 3 = x_ := by rw [e_]; decide
  refine va_sld hx hb hXs hbl hbA h.2.2.1 (by unfold vp_in; decide) dL_law_2378 ?_
  refine lv_aload_n hx hb dL_law_2379 rfl (lv_at hl 4 rfl) ?_
  refine lv_iload hx hb dL_law_2380 (lv_at hl 0 rfl) ?_
  refine lv_iconst (v := 4) hx hb dL_law_2382 (by decide) ?_
  refine lv_iadd hx hb dL_law_2383 ?_
  refine lv_topi (fun x_ e_ => ?_)
  obtain rfl : 4 = x_ := by rw [e_]; decide
  refine va_sld hx hb hXs hbl hbA h.2.2.1 (by unfold vp_in; decide) dL_law_2384 ?_
  refine k_i (r_V C h hl (As := [.int (xs (Int32.toNatClampNeg 1)), .int (xs (Int32.toNatClampNeg 2)), .int (xs (Int32.toNatClampNeg 3)), .int (xs (Int32.toNatClampNeg 4))]) (rest := [.int (-1000000)]) (c_X11_breaks l D G b0 f_4148 M ⟨k_4150, k_4151, k_4152, k_4153, k_4154, k_4155⟩ (xs (Int32.toNatClampNeg 1)) (xs (Int32.toNatClampNeg 2)) (xs (Int32.toNatClampNeg 3)) (xs (Int32.toNatClampNeg 4))) k_4150 (Cn := RX11) (T := TX11) (N := 32) rfl rfl mk_X11_breaks w_1993 w_1994 w_1995 w_1996 ⟨Nat.le_of_ble_eq_true rfl, Nat.le_of_ble_eq_true rfl⟩ rfl (Nat.le_of_ble_eq_true rfl) ⟨Nat.le_of_ble_eq_true rfl, Nat.le_of_ble_eq_true rfl⟩ rfl dL_law_2385) h (fun r_4156 f_4157 H locs p_4158 h => ?_)
  subst p_4158
  refine lv_icmp_eq (tgt := 2593) hx hb dL_law_2388 (by decide) (fun c_4159 => ?_) (fun c_4159 => ?_)
  · exact law_end C0 hb0 hE0 h (lv_sub hl [0, 4] rfl) (Nat.le_of_ble_eq_true rfl) (Nat.le_of_ble_eq_true rfl)
  · exact absurd c_4159 (by decide)
set_option maxRecDepth 100000 in
set_option maxHeartbeats 4000000 in
theorem law_43 {p : Program} {l : Launch} {e : Env} {s : State} {m : MethodId} {below : List Frame} {meth : Method} {c : Code} (hst : l.stackTraces = false) {b : Nat} {xs : Nat → Int32} (C0 : lw_At p s m meth c b 8 xs) {D : va_G} {G : Nat → Nat} {b0 : Nat} (hb0 : s.heap.size = b0) (hE0 : hE D G b0 s s.heap) {f : hM} {X M : Nat → Nat} {o : Nat} (hX : xw G f X) (hM : mw G f M) (hMX : ∀ i, i ∈ XI → M 0 ≠ X i ∧ M 1 ≠ X i ∧ M 2 ≠ X i ∧ M 3 ≠ X i ∧ M 4 ≠ X i ∧ M 6 ≠ X i) {H : Heap} {locs : List Loc} {ls : Array Slot} (h : hw D b0 s.heap f H locs) (hl : lv_has ls 7 [(4, .int 0), (3, .ref o), (2, .ref (M 0)), (1, .ref (X 0)), (0, .ref b)]) : W p l e room_1 s m #[Value.ref b] below meth c H locs 125 106894 (lw_Z below #[Value.ref b] s) (F0 m 2393 ls []) := by
  obtain ⟨hx, hb, hr, hml, hown, hts0, hXs, hbl, hlk, hgv⟩ := id C0
  have hts : ∀ w ∈ wAll, w.before #[Value.ref b] s = true := fun w hw => hts0 w (wAll_tbl w hw)
  have C : hC p s m #[Value.ref b] meth c cL_law 7 RL D G b0 := ⟨hx, hb, hml, hown, hts, hE0, hlk⟩
  have hbA : ¬ hA b0 b := by rw [← hb0]; exact Nat.not_le.mpr hbl
  obtain ⟨kx0, kx1, kx2, kx3, kx4, kx5, kx6, kx7, kx8, kx9⟩ := (id hX)
  obtain ⟨km0, km1, km2, km3, km4, km5⟩ := (id hM)
  refine lv_aload_n hx hb dL_law_2393 rfl (lv_at hl 3 rfl) ?_
  refine lv_aload_n hx hb dL_law_2394 rfl (lv_at hl 4 rfl) ?_
  refine lv_iload hx hb dL_law_2395 (lv_at hl 0 rfl) ?_
  refine lv_iconst (v := 1) hx hb dL_law_2397 (by decide) ?_
  refine lv_iadd hx hb dL_law_2398 ?_
  refine lv_topi (fun x_ e_ => ?_)
  obtain rfl : 1 = x_ := by rw [e_]; decide
  refine va_sld hx hb hXs hbl hbA h.2.2.1 (by unfold vp_in; decide) dL_law_2399 ?_
  refine lv_aload_n hx hb dL_law_2400 rfl (lv_at hl 4 rfl) ?_
  refine lv_iload hx hb dL_law_2401 (lv_at hl 0 rfl) ?_
  refine lv_iconst (v := 2) hx hb dL_law_2403 (by decide) ?_
  refine lv_iadd hx hb dL_law_2404 ?_
  refine lv_topi (fun x_ e_ => ?_)
  obtain rfl : 2 = x_ := by rw [e_]; decide
  refine va_sld hx hb hXs hbl hbA h.2.2.1 (by unfold vp_in; decide) dL_law_2405 ?_
  refine lv_aload_n hx hb dL_law_2406 rfl (lv_at hl 4 rfl) ?_
  refine lv_iload hx hb dL_law_2407 (lv_at hl 0 rfl) ?_
  refine lv_iconst (v := 3) hx hb dL_law_2409 (by decide) ?_
  refine lv_iadd hx hb dL_law_2410 ?_
  refine lv_topi (fun x_ e_ => ?_)
  obtain rfl : 3 = x_ := by rw [e_]; decide
  refine va_sld hx hb hXs hbl hbA h.2.2.1 (by unfold vp_in; decide) dL_law_2411 ?_
  refine k_i (r_V C h hl (As := [.int (xs (Int32.toNatClampNeg 1)), .int (xs (Int32.toNatClampNeg 2)), .int (xs (Int32.toNatClampNeg 3))]) (rest := []) (c_X10_least l D G b0 f X hX (xs (Int32.toNatClampNeg 1)) (xs (Int32.toNatClampNeg 2)) (xs (Int32.toNatClampNeg 3))) kx0 (Cn := RX10) (T := TX10) (N := 10) rfl rfl mk_X10_least w_1087 w_1088 w_1089 w_1090 ⟨Nat.le_of_ble_eq_true rfl, Nat.le_of_ble_eq_true rfl⟩ rfl (Nat.le_of_ble_eq_true rfl) ⟨Nat.le_of_ble_eq_true rfl, Nat.le_of_ble_eq_true rfl⟩ rfl dL_law_2412) h (fun r_4160 f_4161 H locs p_4162 h => ?_)
  obtain ⟨rfl, p_4162⟩ := p_4162
  have k_4163 : f_4161 (M 0) = some (.inr (12, [.int 0, .ref (M 1), .int 0, .int 0, .int 0, .ref (M 2), .ref (M 3), .ref (M 4), .ref (M 5), .ref (M 6), .int 0, .int 0, .ref (M 7), .ref (M 8), .int 0, .ref (M 9), .ref (M 10), .ref (M 11), .long 0, .ref (M 12), .ref (M 13), .ref (M 14), .ref (M 15), .ref (M 16), .ref (M 17), .ref (M 18), .ref (M 19), .int 0, .int 0, .ref (M 20), .ref (M 21), .int 0])) := (p_4162 _ (fun i hi => (hMX i hi).1)).trans km0
  have k_4164 : f_4161 (M 1) = some (.inl (G 0, 200, .inl (fun _ => 0))) := (p_4162 _ (fun i hi => (hMX i hi).2.1)).trans km1
  have k_4165 : f_4161 (M 2) = some (.inl (G 1, 10, .inl (fun _ => 0))) := (p_4162 _ (fun i hi => (hMX i hi).2.2.1)).trans km2
  have k_4166 : f_4161 (M 3) = some (.inl (G 1, 81, .inl (fun _ => 0))) := (p_4162 _ (fun i hi => (hMX i hi).2.2.2.1)).trans km3
  have k_4167 : f_4161 (M 4) = some (.inl (G 1, 81, .inl (fun _ => 0))) := (p_4162 _ (fun i hi => (hMX i hi).2.2.2.2.1)).trans km4
  have k_4168 : f_4161 (M 6) = some (.inl (G 1, 4, .inl (fun _ => 0))) := (p_4162 _ (fun i hi => (hMX i hi).2.2.2.2.2)).trans km5
  refine lv_aload_n hx hb dL_law_2415 rfl (lv_at hl 2 rfl) ?_
  refine lv_aload_n hx hb dL_law_2416 rfl (lv_at hl 4 rfl) ?_
  refine lv_iload hx hb dL_law_2417 (lv_at hl 0 rfl) ?_
  refine lv_iconst (v := 1) hx hb dL_law_2419 (by decide) ?_
  refine lv_iadd hx hb dL_law_2420 ?_
  refine lv_topi (fun x_ e_ => ?_)
  obtain rfl : 1 = x_ := by rw [e_]; decide
  refine va_sld hx hb hXs hbl hbA h.2.2.1 (by unfold vp_in; decide) dL_law_2421 ?_
  refine lv_aload_n hx hb dL_law_2422 rfl (lv_at hl 4 rfl) ?_
  refine lv_iload hx hb dL_law_2423 (lv_at hl 0 rfl) ?_
  refine lv_iconst (v := 2) hx hb dL_law_2425 (by decide) ?_
  refine lv_iadd hx hb dL_law_2426 ?_
  refine lv_topi (fun x_ e_ => ?_)
  obtain rfl : 2 = x_ := by rw [e_]; decide
  refine va_sld hx hb hXs hbl hbA h.2.2.1 (by unfold vp_in; decide) dL_law_2427 ?_
  refine lv_aload_n hx hb dL_law_2428 rfl (lv_at hl 4 rfl) ?_
  refine lv_iload hx hb dL_law_2429 (lv_at hl 0 rfl) ?_
  refine lv_iconst (v := 3) hx hb dL_law_2431 (by decide) ?_
  refine lv_iadd hx hb dL_law_2432 ?_
  refine lv_topi (fun x_ e_ => ?_)
  obtain rfl : 3 = x_ := by rw [e_]; decide
  refine va_sld hx hb hXs hbl hbA h.2.2.1 (by unfold vp_in; decide) dL_law_2433 ?_
  refine k_i (r_V C h hl (As := [.int (xs (Int32.toNatClampNeg 1)), .int (xs (Int32.toNatClampNeg 2)), .int (xs (Int32.toNatClampNeg 3))]) (rest := [.int (-1000000)]) (c_X11_least l D G b0 f_4161 M ⟨k_4163, k_4164, k_4165, k_4166, k_4167, k_4168⟩ (xs (Int32.toNatClampNeg 1)) (xs (Int32.toNatClampNeg 2)) (xs (Int32.toNatClampNeg 3))) k_4163 (Cn := RX11) (T := TX11) (N := 32) rfl rfl mk_X11_least w_1997 w_1998 w_1999 w_2000 ⟨Nat.le_of_ble_eq_true rfl, Nat.le_of_ble_eq_true rfl⟩ rfl (Nat.le_of_ble_eq_true rfl) ⟨Nat.le_of_ble_eq_true rfl, Nat.le_of_ble_eq_true rfl⟩ rfl dL_law_2434) h (fun r_4169 f_4170 H locs p_4171 h => ?_)
  subst p_4171
  refine lv_icmp_eq (tgt := 2593) hx hb dL_law_2437 (by decide) (fun c_4172 => ?_) (fun c_4172 => ?_)
  · exact law_end C0 hb0 hE0 h (lv_sub hl [0, 4] rfl) (Nat.le_of_ble_eq_true rfl) (Nat.le_of_ble_eq_true rfl)
  · exact absurd c_4172 (by decide)
set_option maxRecDepth 100000 in
set_option maxHeartbeats 4000000 in
theorem law_44 {p : Program} {l : Launch} {e : Env} {s : State} {m : MethodId} {below : List Frame} {meth : Method} {c : Code} (hst : l.stackTraces = false) {b : Nat} {xs : Nat → Int32} (C0 : lw_At p s m meth c b 8 xs) {D : va_G} {G : Nat → Nat} {b0 : Nat} (hb0 : s.heap.size = b0) (hE0 : hE D G b0 s s.heap) {f : hM} {X M : Nat → Nat} {o : Nat} (hX : xw G f X) (hM : mw G f M) (hMX : ∀ i, i ∈ XI → M 0 ≠ X i ∧ M 1 ≠ X i ∧ M 2 ≠ X i ∧ M 3 ≠ X i ∧ M 4 ≠ X i ∧ M 6 ≠ X i) {H : Heap} {locs : List Loc} {ls : Array Slot} (h : hw D b0 s.heap f H locs) (hl : lv_has ls 7 [(4, .int 0), (3, .ref o), (2, .ref (M 0)), (1, .ref (X 0)), (0, .ref b)]) : W p l e room_1 s m #[Value.ref b] below meth c H locs 125 106894 (lw_Z below #[Value.ref b] s) (F0 m 2442 ls []) := by
  obtain ⟨hx, hb, hr, hml, hown, hts0, hXs, hbl, hlk, hgv⟩ := id C0
  have hts : ∀ w ∈ wAll, w.before #[Value.ref b] s = true := fun w hw => hts0 w (wAll_tbl w hw)
  have C : hC p s m #[Value.ref b] meth c cL_law 7 RL D G b0 := ⟨hx, hb, hml, hown, hts, hE0, hlk⟩
  have hbA : ¬ hA b0 b := by rw [← hb0]; exact Nat.not_le.mpr hbl
  obtain ⟨kx0, kx1, kx2, kx3, kx4, kx5, kx6, kx7, kx8, kx9⟩ := (id hX)
  obtain ⟨km0, km1, km2, km3, km4, km5⟩ := (id hM)
  refine lv_aload_n hx hb dL_law_2442 rfl (lv_at hl 3 rfl) ?_
  refine lv_aload_n hx hb dL_law_2443 rfl (lv_at hl 4 rfl) ?_
  refine lv_iload hx hb dL_law_2444 (lv_at hl 0 rfl) ?_
  refine lv_iconst (v := 1) hx hb dL_law_2446 (by decide) ?_
  refine lv_iadd hx hb dL_law_2447 ?_
  refine lv_topi (fun x_ e_ => ?_)
  obtain rfl : 1 = x_ := by rw [e_]; decide
  refine va_sld hx hb hXs hbl hbA h.2.2.1 (by unfold vp_in; decide) dL_law_2448 ?_
  refine lv_aload_n hx hb dL_law_2449 rfl (lv_at hl 4 rfl) ?_
  refine lv_iload hx hb dL_law_2450 (lv_at hl 0 rfl) ?_
  refine lv_iconst (v := 2) hx hb dL_law_2452 (by decide) ?_
  refine lv_iadd hx hb dL_law_2453 ?_
  refine lv_topi (fun x_ e_ => ?_)
  obtain rfl : 2 = x_ := by rw [e_]; decide
  refine va_sld hx hb hXs hbl hbA h.2.2.1 (by unfold vp_in; decide) dL_law_2454 ?_
  refine k_i (r_V C h hl (As := [.int (xs (Int32.toNatClampNeg 1)), .int (xs (Int32.toNatClampNeg 2))]) (rest := []) (c_X10_written l D G b0 f X hX (xs (Int32.toNatClampNeg 1)) (xs (Int32.toNatClampNeg 2))) kx0 (Cn := RX10) (T := TX10) (N := 10) rfl rfl mk_X10_written w_1096 w_1097 w_1098 w_1099 ⟨Nat.le_of_ble_eq_true rfl, Nat.le_of_ble_eq_true rfl⟩ rfl (Nat.le_of_ble_eq_true rfl) ⟨Nat.le_of_ble_eq_true rfl, Nat.le_of_ble_eq_true rfl⟩ rfl dL_law_2455) h (fun r_4173 f_4174 H locs p_4175 h => ?_)
  obtain ⟨rfl, p_4175⟩ := p_4175
  have k_4176 : f_4174 (M 0) = some (.inr (12, [.int 0, .ref (M 1), .int 0, .int 0, .int 0, .ref (M 2), .ref (M 3), .ref (M 4), .ref (M 5), .ref (M 6), .int 0, .int 0, .ref (M 7), .ref (M 8), .int 0, .ref (M 9), .ref (M 10), .ref (M 11), .long 0, .ref (M 12), .ref (M 13), .ref (M 14), .ref (M 15), .ref (M 16), .ref (M 17), .ref (M 18), .ref (M 19), .int 0, .int 0, .ref (M 20), .ref (M 21), .int 0])) := (p_4175 _ (fun i hi => (hMX i hi).1)).trans km0
  have k_4177 : f_4174 (M 1) = some (.inl (G 0, 200, .inl (fun _ => 0))) := (p_4175 _ (fun i hi => (hMX i hi).2.1)).trans km1
  have k_4178 : f_4174 (M 2) = some (.inl (G 1, 10, .inl (fun _ => 0))) := (p_4175 _ (fun i hi => (hMX i hi).2.2.1)).trans km2
  have k_4179 : f_4174 (M 3) = some (.inl (G 1, 81, .inl (fun _ => 0))) := (p_4175 _ (fun i hi => (hMX i hi).2.2.2.1)).trans km3
  have k_4180 : f_4174 (M 4) = some (.inl (G 1, 81, .inl (fun _ => 0))) := (p_4175 _ (fun i hi => (hMX i hi).2.2.2.2.1)).trans km4
  have k_4181 : f_4174 (M 6) = some (.inl (G 1, 4, .inl (fun _ => 0))) := (p_4175 _ (fun i hi => (hMX i hi).2.2.2.2.2)).trans km5
  refine lv_aload_n hx hb dL_law_2458 rfl (lv_at hl 2 rfl) ?_
  refine lv_aload_n hx hb dL_law_2459 rfl (lv_at hl 4 rfl) ?_
  refine lv_iload hx hb dL_law_2460 (lv_at hl 0 rfl) ?_
  refine lv_iconst (v := 1) hx hb dL_law_2462 (by decide) ?_
  refine lv_iadd hx hb dL_law_2463 ?_
  refine lv_topi (fun x_ e_ => ?_)
  obtain rfl : 1 = x_ := by rw [e_]; decide
  refine va_sld hx hb hXs hbl hbA h.2.2.1 (by unfold vp_in; decide) dL_law_2464 ?_
  refine lv_aload_n hx hb dL_law_2465 rfl (lv_at hl 4 rfl) ?_
  refine lv_iload hx hb dL_law_2466 (lv_at hl 0 rfl) ?_
  refine lv_iconst (v := 2) hx hb dL_law_2468 (by decide) ?_
  refine lv_iadd hx hb dL_law_2469 ?_
  refine lv_topi (fun x_ e_ => ?_)
  obtain rfl : 2 = x_ := by rw [e_]; decide
  refine va_sld hx hb hXs hbl hbA h.2.2.1 (by unfold vp_in; decide) dL_law_2470 ?_
  refine k_i (r_V C h hl (As := [.int (xs (Int32.toNatClampNeg 1)), .int (xs (Int32.toNatClampNeg 2))]) (rest := [.int (-1)]) (c_X11_written l D G b0 f_4174 M ⟨k_4176, k_4177, k_4178, k_4179, k_4180, k_4181⟩ (xs (Int32.toNatClampNeg 1)) (xs (Int32.toNatClampNeg 2))) k_4176 (Cn := RX11) (T := TX11) (N := 32) rfl rfl mk_X11_written w_2001 w_2002 w_2003 w_2004 ⟨Nat.le_of_ble_eq_true rfl, Nat.le_of_ble_eq_true rfl⟩ rfl (Nat.le_of_ble_eq_true rfl) ⟨Nat.le_of_ble_eq_true rfl, Nat.le_of_ble_eq_true rfl⟩ rfl dL_law_2471) h (fun r_4182 f_4183 H locs p_4184 h => ?_)
  subst p_4184
  refine lv_icmp_eq (tgt := 2593) hx hb dL_law_2474 (by decide) (fun c_4185 => ?_) (fun c_4185 => ?_)
  · exact law_end C0 hb0 hE0 h (lv_sub hl [0, 4] rfl) (Nat.le_of_ble_eq_true rfl) (Nat.le_of_ble_eq_true rfl)
  · exact absurd c_4185 (by decide)
set_option maxRecDepth 100000 in
set_option maxHeartbeats 4000000 in
theorem law_45 {p : Program} {l : Launch} {e : Env} {s : State} {m : MethodId} {below : List Frame} {meth : Method} {c : Code} (hst : l.stackTraces = false) {b : Nat} {xs : Nat → Int32} (C0 : lw_At p s m meth c b 8 xs) {D : va_G} {G : Nat → Nat} {b0 : Nat} (hb0 : s.heap.size = b0) (hE0 : hE D G b0 s s.heap) {f : hM} {X M : Nat → Nat} {o : Nat} (hX : xw G f X) (hM : mw G f M) (hMX : ∀ i, i ∈ XI → M 0 ≠ X i ∧ M 1 ≠ X i ∧ M 2 ≠ X i ∧ M 3 ≠ X i ∧ M 4 ≠ X i ∧ M 6 ≠ X i) {H : Heap} {locs : List Loc} {ls : Array Slot} (h : hw D b0 s.heap f H locs) (hl : lv_has ls 7 [(4, .int 0), (3, .ref o), (2, .ref (M 0)), (1, .ref (X 0)), (0, .ref b)]) : W p l e room_1 s m #[Value.ref b] below meth c H locs 125 106894 (lw_Z below #[Value.ref b] s) (F0 m 2479 ls []) := by
  obtain ⟨hx, hb, hr, hml, hown, hts0, hXs, hbl, hlk, hgv⟩ := id C0
  have hts : ∀ w ∈ wAll, w.before #[Value.ref b] s = true := fun w hw => hts0 w (wAll_tbl w hw)
  have C : hC p s m #[Value.ref b] meth c cL_law 7 RL D G b0 := ⟨hx, hb, hml, hown, hts, hE0, hlk⟩
  have hbA : ¬ hA b0 b := by rw [← hb0]; exact Nat.not_le.mpr hbl
  obtain ⟨kx0, kx1, kx2, kx3, kx4, kx5, kx6, kx7, kx8, kx9⟩ := (id hX)
  obtain ⟨km0, km1, km2, km3, km4, km5⟩ := (id hM)
  refine lv_aload_n hx hb dL_law_2479 rfl (lv_at hl 3 rfl) ?_
  refine k_i (r_V C h hl (As := []) (rest := []) (c_X10_undo l D G b0 f X hX ) kx0 (Cn := RX10) (T := TX10) (N := 10) rfl rfl mk_X10_undo w_1285 w_1286 w_1287 w_1288 ⟨Nat.le_of_ble_eq_true rfl, Nat.le_of_ble_eq_true rfl⟩ rfl (Nat.le_of_ble_eq_true rfl) ⟨Nat.le_of_ble_eq_true rfl, Nat.le_of_ble_eq_true rfl⟩ rfl dL_law_2480) h (fun r_4186 f_4187 H locs p_4188 h => ?_)
  obtain ⟨rfl, p_4188⟩ := p_4188
  have k_4189 : f_4187 (M 0) = some (.inr (12, [.int 0, .ref (M 1), .int 0, .int 0, .int 0, .ref (M 2), .ref (M 3), .ref (M 4), .ref (M 5), .ref (M 6), .int 0, .int 0, .ref (M 7), .ref (M 8), .int 0, .ref (M 9), .ref (M 10), .ref (M 11), .long 0, .ref (M 12), .ref (M 13), .ref (M 14), .ref (M 15), .ref (M 16), .ref (M 17), .ref (M 18), .ref (M 19), .int 0, .int 0, .ref (M 20), .ref (M 21), .int 0])) := (p_4188 _ (fun i hi => (hMX i hi).1)).trans km0
  have k_4190 : f_4187 (M 1) = some (.inl (G 0, 200, .inl (fun _ => 0))) := (p_4188 _ (fun i hi => (hMX i hi).2.1)).trans km1
  have k_4191 : f_4187 (M 2) = some (.inl (G 1, 10, .inl (fun _ => 0))) := (p_4188 _ (fun i hi => (hMX i hi).2.2.1)).trans km2
  have k_4192 : f_4187 (M 3) = some (.inl (G 1, 81, .inl (fun _ => 0))) := (p_4188 _ (fun i hi => (hMX i hi).2.2.2.1)).trans km3
  have k_4193 : f_4187 (M 4) = some (.inl (G 1, 81, .inl (fun _ => 0))) := (p_4188 _ (fun i hi => (hMX i hi).2.2.2.2.1)).trans km4
  have k_4194 : f_4187 (M 6) = some (.inl (G 1, 4, .inl (fun _ => 0))) := (p_4188 _ (fun i hi => (hMX i hi).2.2.2.2.2)).trans km5
  refine lv_aload_n hx hb dL_law_2483 rfl (lv_at hl 2 rfl) ?_
  refine k_i (r_V C h hl (As := []) (rest := [.int (-1)]) (c_X11_undo l D G b0 f_4187 M ⟨k_4189, k_4190, k_4191, k_4192, k_4193, k_4194⟩ ) k_4189 (Cn := RX11) (T := TX11) (N := 32) rfl rfl mk_X11_undo w_2022 w_2023 w_2024 w_2025 ⟨Nat.le_of_ble_eq_true rfl, Nat.le_of_ble_eq_true rfl⟩ rfl (Nat.le_of_ble_eq_true rfl) ⟨Nat.le_of_ble_eq_true rfl, Nat.le_of_ble_eq_true rfl⟩ rfl dL_law_2484) h (fun r_4195 f_4196 H locs p_4197 h => ?_)
  subst p_4197
  refine lv_icmp_eq (tgt := 2593) hx hb dL_law_2487 (by decide) (fun c_4198 => ?_) (fun c_4198 => ?_)
  · exact law_end C0 hb0 hE0 h (lv_sub hl [0, 4] rfl) (Nat.le_of_ble_eq_true rfl) (Nat.le_of_ble_eq_true rfl)
  · exact absurd c_4198 (by decide)
set_option maxRecDepth 100000 in
set_option maxHeartbeats 4000000 in
theorem law_46 {p : Program} {l : Launch} {e : Env} {s : State} {m : MethodId} {below : List Frame} {meth : Method} {c : Code} (hst : l.stackTraces = false) {b : Nat} {xs : Nat → Int32} (C0 : lw_At p s m meth c b 8 xs) {D : va_G} {G : Nat → Nat} {b0 : Nat} (hb0 : s.heap.size = b0) (hE0 : hE D G b0 s s.heap) {f : hM} {X M : Nat → Nat} {o : Nat} (hX : xw G f X) (hM : mw G f M) (hMX : ∀ i, i ∈ XI → M 0 ≠ X i ∧ M 1 ≠ X i ∧ M 2 ≠ X i ∧ M 3 ≠ X i ∧ M 4 ≠ X i ∧ M 6 ≠ X i) {H : Heap} {locs : List Loc} {ls : Array Slot} (h : hw D b0 s.heap f H locs) (hl : lv_has ls 7 [(4, .int 0), (3, .ref o), (2, .ref (M 0)), (1, .ref (X 0)), (0, .ref b)]) : W p l e room_1 s m #[Value.ref b] below meth c H locs 125 106894 (lw_Z below #[Value.ref b] s) (F0 m 2492 ls []) := by
  obtain ⟨hx, hb, hr, hml, hown, hts0, hXs, hbl, hlk, hgv⟩ := id C0
  have hts : ∀ w ∈ wAll, w.before #[Value.ref b] s = true := fun w hw => hts0 w (wAll_tbl w hw)
  have C : hC p s m #[Value.ref b] meth c cL_law 7 RL D G b0 := ⟨hx, hb, hml, hown, hts, hE0, hlk⟩
  have hbA : ¬ hA b0 b := by rw [← hb0]; exact Nat.not_le.mpr hbl
  obtain ⟨kx0, kx1, kx2, kx3, kx4, kx5, kx6, kx7, kx8, kx9⟩ := (id hX)
  obtain ⟨km0, km1, km2, km3, km4, km5⟩ := (id hM)
  refine lv_aload_n hx hb dL_law_2492 rfl (lv_at hl 3 rfl) ?_
  refine k_i (r_V C h hl (As := []) (rest := []) (c_X10_image l D G b0 f X hX ) kx0 (Cn := RX10) (T := TX10) (N := 10) rfl rfl mk_X10_image w_1293 w_1294 w_1295 w_1296 ⟨Nat.le_of_ble_eq_true rfl, Nat.le_of_ble_eq_true rfl⟩ rfl (Nat.le_of_ble_eq_true rfl) ⟨Nat.le_of_ble_eq_true rfl, Nat.le_of_ble_eq_true rfl⟩ rfl dL_law_2493) h (fun r_4199 f_4200 H locs p_4201 h => ?_)
  obtain ⟨rfl, p_4201⟩ := p_4201
  have k_4202 : f_4200 (M 0) = some (.inr (12, [.int 0, .ref (M 1), .int 0, .int 0, .int 0, .ref (M 2), .ref (M 3), .ref (M 4), .ref (M 5), .ref (M 6), .int 0, .int 0, .ref (M 7), .ref (M 8), .int 0, .ref (M 9), .ref (M 10), .ref (M 11), .long 0, .ref (M 12), .ref (M 13), .ref (M 14), .ref (M 15), .ref (M 16), .ref (M 17), .ref (M 18), .ref (M 19), .int 0, .int 0, .ref (M 20), .ref (M 21), .int 0])) := (p_4201 _ (fun i hi => (hMX i hi).1)).trans km0
  have k_4203 : f_4200 (M 1) = some (.inl (G 0, 200, .inl (fun _ => 0))) := (p_4201 _ (fun i hi => (hMX i hi).2.1)).trans km1
  have k_4204 : f_4200 (M 2) = some (.inl (G 1, 10, .inl (fun _ => 0))) := (p_4201 _ (fun i hi => (hMX i hi).2.2.1)).trans km2
  have k_4205 : f_4200 (M 3) = some (.inl (G 1, 81, .inl (fun _ => 0))) := (p_4201 _ (fun i hi => (hMX i hi).2.2.2.1)).trans km3
  have k_4206 : f_4200 (M 4) = some (.inl (G 1, 81, .inl (fun _ => 0))) := (p_4201 _ (fun i hi => (hMX i hi).2.2.2.2.1)).trans km4
  have k_4207 : f_4200 (M 6) = some (.inl (G 1, 4, .inl (fun _ => 0))) := (p_4201 _ (fun i hi => (hMX i hi).2.2.2.2.2)).trans km5
  refine lv_aload_n hx hb dL_law_2496 rfl (lv_at hl 2 rfl) ?_
  refine k_i (r_V C h hl (As := []) (rest := [.int 0]) (c_X11_image l D G b0 f_4200 M ⟨k_4202, k_4203, k_4204, k_4205, k_4206, k_4207⟩ ) k_4202 (Cn := RX11) (T := TX11) (N := 32) rfl rfl mk_X11_image w_2026 w_2027 w_2028 w_2029 ⟨Nat.le_of_ble_eq_true rfl, Nat.le_of_ble_eq_true rfl⟩ rfl (Nat.le_of_ble_eq_true rfl) ⟨Nat.le_of_ble_eq_true rfl, Nat.le_of_ble_eq_true rfl⟩ rfl dL_law_2497) h (fun r_4208 f_4209 H locs p_4210 h => ?_)
  subst p_4210
  refine lv_icmp_eq (tgt := 2593) hx hb dL_law_2500 (by decide) (fun c_4211 => ?_) (fun c_4211 => ?_)
  · exact law_end C0 hb0 hE0 h (lv_sub hl [0, 4] rfl) (Nat.le_of_ble_eq_true rfl) (Nat.le_of_ble_eq_true rfl)
  · exact absurd c_4211 (by decide)
set_option maxRecDepth 100000 in
set_option maxHeartbeats 4000000 in
theorem law_47 {p : Program} {l : Launch} {e : Env} {s : State} {m : MethodId} {below : List Frame} {meth : Method} {c : Code} (hst : l.stackTraces = false) {b : Nat} {xs : Nat → Int32} (C0 : lw_At p s m meth c b 8 xs) {D : va_G} {G : Nat → Nat} {b0 : Nat} (hb0 : s.heap.size = b0) (hE0 : hE D G b0 s s.heap) {f : hM} {X M : Nat → Nat} {o : Nat} (hX : xw G f X) (hM : mw G f M) (hMX : ∀ i, i ∈ XI → M 0 ≠ X i ∧ M 1 ≠ X i ∧ M 2 ≠ X i ∧ M 3 ≠ X i ∧ M 4 ≠ X i ∧ M 6 ≠ X i) {H : Heap} {locs : List Loc} {ls : Array Slot} (h : hw D b0 s.heap f H locs) (hl : lv_has ls 7 [(4, .int 0), (3, .ref o), (2, .ref (M 0)), (1, .ref (X 0)), (0, .ref b)]) : W p l e room_1 s m #[Value.ref b] below meth c H locs 125 106894 (lw_Z below #[Value.ref b] s) (F0 m 2505 ls []) := by
  obtain ⟨hx, hb, hr, hml, hown, hts0, hXs, hbl, hlk, hgv⟩ := id C0
  have hts : ∀ w ∈ wAll, w.before #[Value.ref b] s = true := fun w hw => hts0 w (wAll_tbl w hw)
  have C : hC p s m #[Value.ref b] meth c cL_law 7 RL D G b0 := ⟨hx, hb, hml, hown, hts, hE0, hlk⟩
  have hbA : ¬ hA b0 b := by rw [← hb0]; exact Nat.not_le.mpr hbl
  obtain ⟨kx0, kx1, kx2, kx3, kx4, kx5, kx6, kx7, kx8, kx9⟩ := (id hX)
  obtain ⟨km0, km1, km2, km3, km4, km5⟩ := (id hM)
  refine lv_aload_n hx hb dL_law_2505 rfl (lv_at hl 3 rfl) ?_
  refine k_i (r_V C h hl (As := []) (rest := []) (c_X10_back l D G b0 f X hX ) kx0 (Cn := RX10) (T := TX10) (N := 10) rfl rfl mk_X10_back w_1301 w_1302 w_1303 w_1304 ⟨Nat.le_of_ble_eq_true rfl, Nat.le_of_ble_eq_true rfl⟩ rfl (Nat.le_of_ble_eq_true rfl) ⟨Nat.le_of_ble_eq_true rfl, Nat.le_of_ble_eq_true rfl⟩ rfl dL_law_2506) h (fun r_4212 f_4213 H locs p_4214 h => ?_)
  obtain ⟨rfl, p_4214⟩ := p_4214
  have k_4215 : f_4213 (M 0) = some (.inr (12, [.int 0, .ref (M 1), .int 0, .int 0, .int 0, .ref (M 2), .ref (M 3), .ref (M 4), .ref (M 5), .ref (M 6), .int 0, .int 0, .ref (M 7), .ref (M 8), .int 0, .ref (M 9), .ref (M 10), .ref (M 11), .long 0, .ref (M 12), .ref (M 13), .ref (M 14), .ref (M 15), .ref (M 16), .ref (M 17), .ref (M 18), .ref (M 19), .int 0, .int 0, .ref (M 20), .ref (M 21), .int 0])) := (p_4214 _ (fun i hi => (hMX i hi).1)).trans km0
  have k_4216 : f_4213 (M 1) = some (.inl (G 0, 200, .inl (fun _ => 0))) := (p_4214 _ (fun i hi => (hMX i hi).2.1)).trans km1
  have k_4217 : f_4213 (M 2) = some (.inl (G 1, 10, .inl (fun _ => 0))) := (p_4214 _ (fun i hi => (hMX i hi).2.2.1)).trans km2
  have k_4218 : f_4213 (M 3) = some (.inl (G 1, 81, .inl (fun _ => 0))) := (p_4214 _ (fun i hi => (hMX i hi).2.2.2.1)).trans km3
  have k_4219 : f_4213 (M 4) = some (.inl (G 1, 81, .inl (fun _ => 0))) := (p_4214 _ (fun i hi => (hMX i hi).2.2.2.2.1)).trans km4
  have k_4220 : f_4213 (M 6) = some (.inl (G 1, 4, .inl (fun _ => 0))) := (p_4214 _ (fun i hi => (hMX i hi).2.2.2.2.2)).trans km5
  refine lv_aload_n hx hb dL_law_2509 rfl (lv_at hl 2 rfl) ?_
  refine k_i (r_V C h hl (As := []) (rest := [.int (-1)]) (c_X11_back l D G b0 f_4213 M ⟨k_4215, k_4216, k_4217, k_4218, k_4219, k_4220⟩ ) k_4215 (Cn := RX11) (T := TX11) (N := 32) rfl rfl mk_X11_back w_2030 w_2031 w_2032 w_2033 ⟨Nat.le_of_ble_eq_true rfl, Nat.le_of_ble_eq_true rfl⟩ rfl (Nat.le_of_ble_eq_true rfl) ⟨Nat.le_of_ble_eq_true rfl, Nat.le_of_ble_eq_true rfl⟩ rfl dL_law_2510) h (fun r_4221 f_4222 H locs p_4223 h => ?_)
  subst p_4223
  refine lv_icmp_eq (tgt := 2593) hx hb dL_law_2513 (by decide) (fun c_4224 => ?_) (fun c_4224 => ?_)
  · exact law_end C0 hb0 hE0 h (lv_sub hl [0, 4] rfl) (Nat.le_of_ble_eq_true rfl) (Nat.le_of_ble_eq_true rfl)
  · exact absurd c_4224 (by decide)
set_option maxRecDepth 100000 in
set_option maxHeartbeats 4000000 in
theorem law_48 {p : Program} {l : Launch} {e : Env} {s : State} {m : MethodId} {below : List Frame} {meth : Method} {c : Code} (hst : l.stackTraces = false) {b : Nat} {xs : Nat → Int32} (C0 : lw_At p s m meth c b 8 xs) {D : va_G} {G : Nat → Nat} {b0 : Nat} (hb0 : s.heap.size = b0) (hE0 : hE D G b0 s s.heap) {f : hM} {X M : Nat → Nat} {o : Nat} (hX : xw G f X) (hM : mw G f M) (hMX : ∀ i, i ∈ XI → M 0 ≠ X i ∧ M 1 ≠ X i ∧ M 2 ≠ X i ∧ M 3 ≠ X i ∧ M 4 ≠ X i ∧ M 6 ≠ X i) {H : Heap} {locs : List Loc} {ls : Array Slot} (h : hw D b0 s.heap f H locs) (hl : lv_has ls 7 [(4, .int 0), (3, .ref o), (2, .ref (M 0)), (1, .ref (X 0)), (0, .ref b)]) : W p l e room_1 s m #[Value.ref b] below meth c H locs 125 106894 (lw_Z below #[Value.ref b] s) (F0 m 2518 ls []) := by
  obtain ⟨hx, hb, hr, hml, hown, hts0, hXs, hbl, hlk, hgv⟩ := id C0
  have hts : ∀ w ∈ wAll, w.before #[Value.ref b] s = true := fun w hw => hts0 w (wAll_tbl w hw)
  have C : hC p s m #[Value.ref b] meth c cL_law 7 RL D G b0 := ⟨hx, hb, hml, hown, hts, hE0, hlk⟩
  have hbA : ¬ hA b0 b := by rw [← hb0]; exact Nat.not_le.mpr hbl
  obtain ⟨kx0, kx1, kx2, kx3, kx4, kx5, kx6, kx7, kx8, kx9⟩ := (id hX)
  obtain ⟨km0, km1, km2, km3, km4, km5⟩ := (id hM)
  refine lv_aload_n hx hb dL_law_2518 rfl (lv_at hl 3 rfl) ?_
  refine lv_aload_n hx hb dL_law_2519 rfl (lv_at hl 4 rfl) ?_
  refine lv_iload hx hb dL_law_2520 (lv_at hl 0 rfl) ?_
  refine lv_iconst (v := 1) hx hb dL_law_2522 (by decide) ?_
  refine lv_iadd hx hb dL_law_2523 ?_
  refine lv_topi (fun x_ e_ => ?_)
  obtain rfl : 1 = x_ := by rw [e_]; decide
  refine va_sld hx hb hXs hbl hbA h.2.2.1 (by unfold vp_in; decide) dL_law_2524 ?_
  refine k_i (r_V C h hl (As := [.int (xs (Int32.toNatClampNeg 1))]) (rest := []) (c_X10_status l D G b0 f X hX (xs (Int32.toNatClampNeg 1))) kx0 (Cn := RX10) (T := TX10) (N := 10) rfl rfl mk_X10_status w_1309 w_1310 w_1311 w_1312 ⟨Nat.le_of_ble_eq_true rfl, Nat.le_of_ble_eq_true rfl⟩ rfl (Nat.le_of_ble_eq_true rfl) ⟨Nat.le_of_ble_eq_true rfl, Nat.le_of_ble_eq_true rfl⟩ rfl dL_law_2525) h (fun r_4225 f_4226 H locs p_4227 h => ?_)
  obtain ⟨rfl, p_4227⟩ := p_4227
  have k_4228 : f_4226 (M 0) = some (.inr (12, [.int 0, .ref (M 1), .int 0, .int 0, .int 0, .ref (M 2), .ref (M 3), .ref (M 4), .ref (M 5), .ref (M 6), .int 0, .int 0, .ref (M 7), .ref (M 8), .int 0, .ref (M 9), .ref (M 10), .ref (M 11), .long 0, .ref (M 12), .ref (M 13), .ref (M 14), .ref (M 15), .ref (M 16), .ref (M 17), .ref (M 18), .ref (M 19), .int 0, .int 0, .ref (M 20), .ref (M 21), .int 0])) := (p_4227 _ (fun i hi => (hMX i hi).1)).trans km0
  have k_4229 : f_4226 (M 1) = some (.inl (G 0, 200, .inl (fun _ => 0))) := (p_4227 _ (fun i hi => (hMX i hi).2.1)).trans km1
  have k_4230 : f_4226 (M 2) = some (.inl (G 1, 10, .inl (fun _ => 0))) := (p_4227 _ (fun i hi => (hMX i hi).2.2.1)).trans km2
  have k_4231 : f_4226 (M 3) = some (.inl (G 1, 81, .inl (fun _ => 0))) := (p_4227 _ (fun i hi => (hMX i hi).2.2.2.1)).trans km3
  have k_4232 : f_4226 (M 4) = some (.inl (G 1, 81, .inl (fun _ => 0))) := (p_4227 _ (fun i hi => (hMX i hi).2.2.2.2.1)).trans km4
  have k_4233 : f_4226 (M 6) = some (.inl (G 1, 4, .inl (fun _ => 0))) := (p_4227 _ (fun i hi => (hMX i hi).2.2.2.2.2)).trans km5
  refine lv_aload_n hx hb dL_law_2528 rfl (lv_at hl 2 rfl) ?_
  refine lv_aload_n hx hb dL_law_2529 rfl (lv_at hl 4 rfl) ?_
  refine lv_iload hx hb dL_law_2530 (lv_at hl 0 rfl) ?_
  refine lv_iconst (v := 1) hx hb dL_law_2532 (by decide) ?_
  refine lv_iadd hx hb dL_law_2533 ?_
  refine lv_topi (fun x_ e_ => ?_)
  obtain rfl : 1 = x_ := by rw [e_]; decide
  refine va_sld hx hb hXs hbl hbA h.2.2.1 (by unfold vp_in; decide) dL_law_2534 ?_
  refine k_i (r_V C h hl (As := [.int (xs (Int32.toNatClampNeg 1))]) (rest := [.int (Vstatus (xs (Int32.toNatClampNeg 1)))]) (c_X11_status l D G b0 f_4226 M ⟨k_4228, k_4229, k_4230, k_4231, k_4232, k_4233⟩ (xs (Int32.toNatClampNeg 1))) k_4228 (Cn := RX11) (T := TX11) (N := 32) rfl rfl mk_X11_status w_2034 w_2035 w_2036 w_2037 ⟨Nat.le_of_ble_eq_true rfl, Nat.le_of_ble_eq_true rfl⟩ rfl (Nat.le_of_ble_eq_true rfl) ⟨Nat.le_of_ble_eq_true rfl, Nat.le_of_ble_eq_true rfl⟩ rfl dL_law_2535) h (fun r_4234 f_4235 H locs p_4236 h => ?_)
  subst p_4236
  refine lv_icmp_eq (tgt := 2593) hx hb dL_law_2538 (by decide) (fun c_4237 => ?_) (fun c_4237 => ?_)
  · exact law_end C0 hb0 hE0 h (lv_sub hl [0, 4] rfl) (Nat.le_of_ble_eq_true rfl) (Nat.le_of_ble_eq_true rfl)
  · exact absurd rfl c_4237
set_option maxRecDepth 100000 in
set_option maxHeartbeats 4000000 in
theorem law_49 {p : Program} {l : Launch} {e : Env} {s : State} {m : MethodId} {below : List Frame} {meth : Method} {c : Code} (hst : l.stackTraces = false) {b : Nat} {xs : Nat → Int32} (C0 : lw_At p s m meth c b 8 xs) {D : va_G} {G : Nat → Nat} {b0 : Nat} (hb0 : s.heap.size = b0) (hE0 : hE D G b0 s s.heap) {f : hM} {X M : Nat → Nat} {o : Nat} (hX : xw G f X) (hM : mw G f M) (hMX : ∀ i, i ∈ XI → M 0 ≠ X i ∧ M 1 ≠ X i ∧ M 2 ≠ X i ∧ M 3 ≠ X i ∧ M 4 ≠ X i ∧ M 6 ≠ X i) {H : Heap} {locs : List Loc} {ls : Array Slot} (h : hw D b0 s.heap f H locs) (hl : lv_has ls 7 [(4, .int 0), (3, .ref o), (2, .ref (M 0)), (1, .ref (X 0)), (0, .ref b)]) : W p l e room_1 s m #[Value.ref b] below meth c H locs 125 106894 (lw_Z below #[Value.ref b] s) (F0 m 2543 ls []) := by
  obtain ⟨hx, hb, hr, hml, hown, hts0, hXs, hbl, hlk, hgv⟩ := id C0
  have hts : ∀ w ∈ wAll, w.before #[Value.ref b] s = true := fun w hw => hts0 w (wAll_tbl w hw)
  have C : hC p s m #[Value.ref b] meth c cL_law 7 RL D G b0 := ⟨hx, hb, hml, hown, hts, hE0, hlk⟩
  have hbA : ¬ hA b0 b := by rw [← hb0]; exact Nat.not_le.mpr hbl
  obtain ⟨kx0, kx1, kx2, kx3, kx4, kx5, kx6, kx7, kx8, kx9⟩ := (id hX)
  obtain ⟨km0, km1, km2, km3, km4, km5⟩ := (id hM)
  refine lv_aload_n hx hb dL_law_2543 rfl (lv_at hl 3 rfl) ?_
  refine lv_aload_n hx hb dL_law_2544 rfl (lv_at hl 4 rfl) ?_
  refine lv_iload hx hb dL_law_2545 (lv_at hl 0 rfl) ?_
  refine lv_iconst (v := 1) hx hb dL_law_2547 (by decide) ?_
  refine lv_iadd hx hb dL_law_2548 ?_
  refine lv_topi (fun x_ e_ => ?_)
  obtain rfl : 1 = x_ := by rw [e_]; decide
  refine va_sld hx hb hXs hbl hbA h.2.2.1 (by unfold vp_in; decide) dL_law_2549 ?_
  refine k_i (r_V C h hl (As := [.int (xs (Int32.toNatClampNeg 1))]) (rest := []) (c_X10_most l D G b0 f X hX (xs (Int32.toNatClampNeg 1))) kx0 (Cn := RX10) (T := TX10) (N := 10) rfl rfl mk_X10_most w_1313 w_1314 w_1315 w_1316 ⟨Nat.le_of_ble_eq_true rfl, Nat.le_of_ble_eq_true rfl⟩ rfl (Nat.le_of_ble_eq_true rfl) ⟨Nat.le_of_ble_eq_true rfl, Nat.le_of_ble_eq_true rfl⟩ rfl dL_law_2550) h (fun r_4238 f_4239 H locs p_4240 h => ?_)
  obtain ⟨rfl, p_4240⟩ := p_4240
  have k_4241 : f_4239 (M 0) = some (.inr (12, [.int 0, .ref (M 1), .int 0, .int 0, .int 0, .ref (M 2), .ref (M 3), .ref (M 4), .ref (M 5), .ref (M 6), .int 0, .int 0, .ref (M 7), .ref (M 8), .int 0, .ref (M 9), .ref (M 10), .ref (M 11), .long 0, .ref (M 12), .ref (M 13), .ref (M 14), .ref (M 15), .ref (M 16), .ref (M 17), .ref (M 18), .ref (M 19), .int 0, .int 0, .ref (M 20), .ref (M 21), .int 0])) := (p_4240 _ (fun i hi => (hMX i hi).1)).trans km0
  have k_4242 : f_4239 (M 1) = some (.inl (G 0, 200, .inl (fun _ => 0))) := (p_4240 _ (fun i hi => (hMX i hi).2.1)).trans km1
  have k_4243 : f_4239 (M 2) = some (.inl (G 1, 10, .inl (fun _ => 0))) := (p_4240 _ (fun i hi => (hMX i hi).2.2.1)).trans km2
  have k_4244 : f_4239 (M 3) = some (.inl (G 1, 81, .inl (fun _ => 0))) := (p_4240 _ (fun i hi => (hMX i hi).2.2.2.1)).trans km3
  have k_4245 : f_4239 (M 4) = some (.inl (G 1, 81, .inl (fun _ => 0))) := (p_4240 _ (fun i hi => (hMX i hi).2.2.2.2.1)).trans km4
  have k_4246 : f_4239 (M 6) = some (.inl (G 1, 4, .inl (fun _ => 0))) := (p_4240 _ (fun i hi => (hMX i hi).2.2.2.2.2)).trans km5
  refine lv_aload_n hx hb dL_law_2553 rfl (lv_at hl 2 rfl) ?_
  refine lv_aload_n hx hb dL_law_2554 rfl (lv_at hl 4 rfl) ?_
  refine lv_iload hx hb dL_law_2555 (lv_at hl 0 rfl) ?_
  refine lv_iconst (v := 1) hx hb dL_law_2557 (by decide) ?_
  refine lv_iadd hx hb dL_law_2558 ?_
  refine lv_topi (fun x_ e_ => ?_)
  obtain rfl : 1 = x_ := by rw [e_]; decide
  refine va_sld hx hb hXs hbl hbA h.2.2.1 (by unfold vp_in; decide) dL_law_2559 ?_
  refine k_i (r_V C h hl (As := [.int (xs (Int32.toNatClampNeg 1))]) (rest := [.int (Vmost (xs (Int32.toNatClampNeg 1)))]) (c_X11_most l D G b0 f_4239 M ⟨k_4241, k_4242, k_4243, k_4244, k_4245, k_4246⟩ (xs (Int32.toNatClampNeg 1))) k_4241 (Cn := RX11) (T := TX11) (N := 32) rfl rfl mk_X11_most w_2038 w_2039 w_2040 w_2041 ⟨Nat.le_of_ble_eq_true rfl, Nat.le_of_ble_eq_true rfl⟩ rfl (Nat.le_of_ble_eq_true rfl) ⟨Nat.le_of_ble_eq_true rfl, Nat.le_of_ble_eq_true rfl⟩ rfl dL_law_2560) h (fun r_4247 f_4248 H locs p_4249 h => ?_)
  subst p_4249
  refine lv_icmp_eq (tgt := 2593) hx hb dL_law_2563 (by decide) (fun c_4250 => ?_) (fun c_4250 => ?_)
  · exact law_end C0 hb0 hE0 h (lv_sub hl [0, 4] rfl) (Nat.le_of_ble_eq_true rfl) (Nat.le_of_ble_eq_true rfl)
  · exact absurd rfl c_4250
set_option maxRecDepth 100000 in
set_option maxHeartbeats 4000000 in
theorem law_50 {p : Program} {l : Launch} {e : Env} {s : State} {m : MethodId} {below : List Frame} {meth : Method} {c : Code} (hst : l.stackTraces = false) {b : Nat} {xs : Nat → Int32} (C0 : lw_At p s m meth c b 8 xs) {D : va_G} {G : Nat → Nat} {b0 : Nat} (hb0 : s.heap.size = b0) (hE0 : hE D G b0 s s.heap) {f : hM} {X M : Nat → Nat} {o : Nat} (hX : xw G f X) (hM : mw G f M) (hMX : ∀ i, i ∈ XI → M 0 ≠ X i ∧ M 1 ≠ X i ∧ M 2 ≠ X i ∧ M 3 ≠ X i ∧ M 4 ≠ X i ∧ M 6 ≠ X i) {H : Heap} {locs : List Loc} {ls : Array Slot} (h : hw D b0 s.heap f H locs) (hl : lv_has ls 7 [(4, .int 0), (3, .ref o), (2, .ref (M 0)), (1, .ref (X 0)), (0, .ref b)]) : W p l e room_1 s m #[Value.ref b] below meth c H locs 125 106894 (lw_Z below #[Value.ref b] s) (F0 m 2568 ls []) := by
  obtain ⟨hx, hb, hr, hml, hown, hts0, hXs, hbl, hlk, hgv⟩ := id C0
  have hts : ∀ w ∈ wAll, w.before #[Value.ref b] s = true := fun w hw => hts0 w (wAll_tbl w hw)
  have C : hC p s m #[Value.ref b] meth c cL_law 7 RL D G b0 := ⟨hx, hb, hml, hown, hts, hE0, hlk⟩
  have hbA : ¬ hA b0 b := by rw [← hb0]; exact Nat.not_le.mpr hbl
  obtain ⟨kx0, kx1, kx2, kx3, kx4, kx5, kx6, kx7, kx8, kx9⟩ := (id hX)
  obtain ⟨km0, km1, km2, km3, km4, km5⟩ := (id hM)
  refine lv_aload_n hx hb dL_law_2568 rfl (lv_at hl 3 rfl) ?_
  refine lv_aload_n hx hb dL_law_2569 rfl (lv_at hl 4 rfl) ?_
  refine lv_iload hx hb dL_law_2570 (lv_at hl 0 rfl) ?_
  refine lv_iconst (v := 1) hx hb dL_law_2572 (by decide) ?_
  refine lv_iadd hx hb dL_law_2573 ?_
  refine lv_topi (fun x_ e_ => ?_)
  obtain rfl : 1 = x_ := by rw [e_]; decide
  refine va_sld hx hb hXs hbl hbA h.2.2.1 (by unfold vp_in; decide) dL_law_2574 ?_
  refine k_i (r_V C h hl (As := [.int (xs (Int32.toNatClampNeg 1))]) (rest := []) (c_X10_count l D G b0 f X hX (xs (Int32.toNatClampNeg 1))) kx0 (Cn := RX10) (T := TX10) (N := 10) rfl rfl mk_X10_count w_1348 w_1349 w_1350 w_1351 ⟨Nat.le_of_ble_eq_true rfl, Nat.le_of_ble_eq_true rfl⟩ rfl (Nat.le_of_ble_eq_true rfl) ⟨Nat.le_of_ble_eq_true rfl, Nat.le_of_ble_eq_true rfl⟩ rfl dL_law_2575) h (fun r_4251 f_4252 H locs p_4253 h => ?_)
  obtain ⟨rfl, p_4253⟩ := p_4253
  have k_4254 : f_4252 (M 0) = some (.inr (12, [.int 0, .ref (M 1), .int 0, .int 0, .int 0, .ref (M 2), .ref (M 3), .ref (M 4), .ref (M 5), .ref (M 6), .int 0, .int 0, .ref (M 7), .ref (M 8), .int 0, .ref (M 9), .ref (M 10), .ref (M 11), .long 0, .ref (M 12), .ref (M 13), .ref (M 14), .ref (M 15), .ref (M 16), .ref (M 17), .ref (M 18), .ref (M 19), .int 0, .int 0, .ref (M 20), .ref (M 21), .int 0])) := (p_4253 _ (fun i hi => (hMX i hi).1)).trans km0
  have k_4255 : f_4252 (M 1) = some (.inl (G 0, 200, .inl (fun _ => 0))) := (p_4253 _ (fun i hi => (hMX i hi).2.1)).trans km1
  have k_4256 : f_4252 (M 2) = some (.inl (G 1, 10, .inl (fun _ => 0))) := (p_4253 _ (fun i hi => (hMX i hi).2.2.1)).trans km2
  have k_4257 : f_4252 (M 3) = some (.inl (G 1, 81, .inl (fun _ => 0))) := (p_4253 _ (fun i hi => (hMX i hi).2.2.2.1)).trans km3
  have k_4258 : f_4252 (M 4) = some (.inl (G 1, 81, .inl (fun _ => 0))) := (p_4253 _ (fun i hi => (hMX i hi).2.2.2.2.1)).trans km4
  have k_4259 : f_4252 (M 6) = some (.inl (G 1, 4, .inl (fun _ => 0))) := (p_4253 _ (fun i hi => (hMX i hi).2.2.2.2.2)).trans km5
  refine lv_aload_n hx hb dL_law_2578 rfl (lv_at hl 2 rfl) ?_
  refine lv_aload_n hx hb dL_law_2579 rfl (lv_at hl 4 rfl) ?_
  refine lv_iload hx hb dL_law_2580 (lv_at hl 0 rfl) ?_
  refine lv_iconst (v := 1) hx hb dL_law_2582 (by decide) ?_
  refine lv_iadd hx hb dL_law_2583 ?_
  refine lv_topi (fun x_ e_ => ?_)
  obtain rfl : 1 = x_ := by rw [e_]; decide
  refine va_sld hx hb hXs hbl hbA h.2.2.1 (by unfold vp_in; decide) dL_law_2584 ?_
  refine k_i (r_V C h hl (As := [.int (xs (Int32.toNatClampNeg 1))]) (rest := [.int (Vcount (xs (Int32.toNatClampNeg 1)))]) (c_X11_count l D G b0 f_4252 M ⟨k_4254, k_4255, k_4256, k_4257, k_4258, k_4259⟩ (xs (Int32.toNatClampNeg 1))) k_4254 (Cn := RX11) (T := TX11) (N := 32) rfl rfl mk_X11_count w_2058 w_2059 w_2060 w_2061 ⟨Nat.le_of_ble_eq_true rfl, Nat.le_of_ble_eq_true rfl⟩ rfl (Nat.le_of_ble_eq_true rfl) ⟨Nat.le_of_ble_eq_true rfl, Nat.le_of_ble_eq_true rfl⟩ rfl dL_law_2585) h (fun r_4260 f_4261 H locs p_4262 h => ?_)
  subst p_4262
  refine lv_icmp_eq (tgt := 2593) hx hb dL_law_2588 (by decide) (fun c_4263 => ?_) (fun c_4263 => ?_)
  · exact law_end C0 hb0 hE0 h (lv_sub hl [0, 4] rfl) (Nat.le_of_ble_eq_true rfl) (Nat.le_of_ble_eq_true rfl)
  · exact absurd rfl c_4263
