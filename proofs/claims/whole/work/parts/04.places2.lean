set_option maxRecDepth 20000 in
theorem mw_360 : (Cond.code yX3_pieces cX3_pieces 2 (some .int)) ∈ wsL_law := List.mem_of_getElem? (i := 360) rfl
set_option maxRecDepth 20000 in
theorem mw_361 : (Cond.methodLink RX3 105 yX3_findPieces) ∈ wsL_law := List.mem_of_getElem? (i := 361) rfl
set_option maxRecDepth 20000 in
theorem mw_362 : (Cond.instanceMethod yX3_findPieces) ∈ wsL_law := List.mem_of_getElem? (i := 362) rfl
set_option maxRecDepth 20000 in
theorem mw_363 : (Cond.selects RX3 yX3_findPieces yX3_findPieces) ∈ wsL_law := List.mem_of_getElem? (i := 363) rfl
set_option maxRecDepth 20000 in
theorem mw_364 : (Cond.code yX3_findPieces cX3_findPieces 2 (some .boolean)) ∈ wsL_law := List.mem_of_getElem? (i := 364) rfl
set_option maxRecDepth 20000 in
theorem mw_365 : (Cond.methodLink RX3 152 yX2_wantParts) ∈ wsL_law := List.mem_of_getElem? (i := 365) rfl
set_option maxRecDepth 20000 in
theorem mw_366 : (Cond.instanceMethod yX2_wantParts) ∈ wsL_law := List.mem_of_getElem? (i := 366) rfl
set_option maxRecDepth 20000 in
theorem mw_367 : (Cond.selects RX2 yX2_wantParts yX2_wantParts) ∈ wsL_law := List.mem_of_getElem? (i := 367) rfl
set_option maxRecDepth 20000 in
theorem mw_368 : (Cond.code yX2_wantParts cX2_wantParts 2 none) ∈ wsL_law := List.mem_of_getElem? (i := 368) rfl
set_option maxRecDepth 20000 in
theorem mw_369 : (Cond.methodLink RL 76 yX4_pieces) ∈ wsL_law := List.mem_of_getElem? (i := 369) rfl
set_option maxRecDepth 20000 in
theorem mw_370 : (Cond.instanceMethod yX4_pieces) ∈ wsL_law := List.mem_of_getElem? (i := 370) rfl
set_option maxRecDepth 20000 in
theorem mw_371 : (Cond.selects RX4 yX4_pieces yX4_pieces) ∈ wsL_law := List.mem_of_getElem? (i := 371) rfl
set_option maxRecDepth 20000 in
theorem mw_372 : (Cond.code yX4_pieces cX4_pieces 2 (some .int)) ∈ wsL_law := List.mem_of_getElem? (i := 372) rfl
set_option maxRecDepth 20000 in
theorem mw_373 : (Cond.methodLink RL 77 yX3_piece) ∈ wsL_law := List.mem_of_getElem? (i := 373) rfl
set_option maxRecDepth 20000 in
theorem mw_374 : (Cond.instanceMethod yX3_piece) ∈ wsL_law := List.mem_of_getElem? (i := 374) rfl
set_option maxRecDepth 20000 in
theorem mw_375 : (Cond.selects RX3 yX3_piece yX3_piece) ∈ wsL_law := List.mem_of_getElem? (i := 375) rfl
set_option maxRecDepth 20000 in
theorem mw_376 : (Cond.code yX3_piece cX3_piece 3 (some .int)) ∈ wsL_law := List.mem_of_getElem? (i := 376) rfl
set_option maxRecDepth 20000 in
theorem mw_377 : (Cond.methodLink RL 80 yX4_piece) ∈ wsL_law := List.mem_of_getElem? (i := 377) rfl
set_option maxRecDepth 20000 in
theorem mw_378 : (Cond.instanceMethod yX4_piece) ∈ wsL_law := List.mem_of_getElem? (i := 378) rfl
set_option maxRecDepth 20000 in
theorem mw_379 : (Cond.selects RX4 yX4_piece yX4_piece) ∈ wsL_law := List.mem_of_getElem? (i := 379) rfl
set_option maxRecDepth 20000 in
theorem mw_380 : (Cond.code yX4_piece cX4_piece 3 (some .int)) ∈ wsL_law := List.mem_of_getElem? (i := 380) rfl
set_option maxRecDepth 20000 in
theorem mw_381 : (Cond.methodLink RL 81 yX3_wholes) ∈ wsL_law := List.mem_of_getElem? (i := 381) rfl
set_option maxRecDepth 20000 in
theorem mw_382 : (Cond.instanceMethod yX3_wholes) ∈ wsL_law := List.mem_of_getElem? (i := 382) rfl
set_option maxRecDepth 20000 in
theorem mw_383 : (Cond.selects RX3 yX3_wholes yX3_wholes) ∈ wsL_law := List.mem_of_getElem? (i := 383) rfl
set_option maxRecDepth 20000 in
theorem mw_384 : (Cond.code yX3_wholes cX3_wholes 1 (some .int)) ∈ wsL_law := List.mem_of_getElem? (i := 384) rfl
set_option maxRecDepth 20000 in
theorem mw_385 : (Cond.fieldLink RX3 112 "NetCuts$Halvings" "size" "I") ∈ wsL_law := List.mem_of_getElem? (i := 385) rfl
set_option maxRecDepth 20000 in
theorem mw_386 : (Cond.methodLink RX3 108 yX0_gather) ∈ wsL_law := List.mem_of_getElem? (i := 386) rfl
set_option maxRecDepth 20000 in
theorem mw_387 : (Cond.instanceMethod yX0_gather) ∈ wsL_law := List.mem_of_getElem? (i := 387) rfl
set_option maxRecDepth 20000 in
theorem mw_388 : (Cond.selects RX0 yX0_gather yX0_gather) ∈ wsL_law := List.mem_of_getElem? (i := 388) rfl
set_option maxRecDepth 20000 in
theorem mw_389 : (Cond.code yX0_gather cX0_gather 6 none) ∈ wsL_law := List.mem_of_getElem? (i := 389) rfl
set_option maxRecDepth 20000 in
theorem mw_390 : (Cond.fieldLink RX0 19 "NetCuts$Net" "posts" "I") ∈ wsL_law := List.mem_of_getElem? (i := 390) rfl
set_option maxRecDepth 20000 in
theorem mw_391 : (Cond.constant RX0 24 (1000000)) ∈ wsL_law := List.mem_of_getElem? (i := 391) rfl
set_option maxRecDepth 20000 in
theorem mw_392 : (Cond.methodLink RX0 25 yX0_heapOf) ∈ wsL_law := List.mem_of_getElem? (i := 392) rfl
set_option maxRecDepth 20000 in
theorem mw_393 : (Cond.static yX0_heapOf) ∈ wsL_law := List.mem_of_getElem? (i := 393) rfl
set_option maxRecDepth 20000 in
theorem mw_394 : (Cond.code yX0_heapOf cX0_heapOf 4 (some .int)) ∈ wsL_law := List.mem_of_getElem? (i := 394) rfl
set_option maxRecDepth 20000 in
theorem mw_395 : (Cond.methodLink RX0 29 yX1_sumAround) ∈ wsL_law := List.mem_of_getElem? (i := 395) rfl
set_option maxRecDepth 20000 in
theorem mw_396 : (Cond.instanceMethod yX1_sumAround) ∈ wsL_law := List.mem_of_getElem? (i := 396) rfl
set_option maxRecDepth 20000 in
theorem mw_397 : (Cond.selects RX1 yX1_sumAround yX1_sumAround) ∈ wsL_law := List.mem_of_getElem? (i := 397) rfl
set_option maxRecDepth 20000 in
theorem mw_398 : (Cond.code yX1_sumAround cX1_sumAround 4 (some .int)) ∈ wsL_law := List.mem_of_getElem? (i := 398) rfl
set_option maxRecDepth 20000 in
theorem mw_399 : (Cond.methodLink RL 84 yX4_wholes) ∈ wsL_law := List.mem_of_getElem? (i := 399) rfl
set_option maxRecDepth 20000 in
theorem mw_400 : (Cond.instanceMethod yX4_wholes) ∈ wsL_law := List.mem_of_getElem? (i := 400) rfl
set_option maxRecDepth 20000 in
theorem mw_401 : (Cond.selects RX4 yX4_wholes yX4_wholes) ∈ wsL_law := List.mem_of_getElem? (i := 401) rfl
set_option maxRecDepth 20000 in
theorem mw_402 : (Cond.code yX4_wholes cX4_wholes 1 (some .int)) ∈ wsL_law := List.mem_of_getElem? (i := 402) rfl
set_option maxRecDepth 20000 in
theorem mw_403 : (Cond.methodLink RL 85 yX3_whole) ∈ wsL_law := List.mem_of_getElem? (i := 403) rfl
set_option maxRecDepth 20000 in
theorem mw_404 : (Cond.instanceMethod yX3_whole) ∈ wsL_law := List.mem_of_getElem? (i := 404) rfl
set_option maxRecDepth 20000 in
theorem mw_405 : (Cond.selects RX3 yX3_whole yX3_whole) ∈ wsL_law := List.mem_of_getElem? (i := 405) rfl
set_option maxRecDepth 20000 in
theorem mw_406 : (Cond.code yX3_whole cX3_whole 3 (some .int)) ∈ wsL_law := List.mem_of_getElem? (i := 406) rfl
set_option maxRecDepth 20000 in
theorem mw_407 : (Cond.methodLink RX3 115 yX0_sideOf) ∈ wsL_law := List.mem_of_getElem? (i := 407) rfl
set_option maxRecDepth 20000 in
theorem mw_408 : (Cond.instanceMethod yX0_sideOf) ∈ wsL_law := List.mem_of_getElem? (i := 408) rfl
set_option maxRecDepth 20000 in
theorem mw_409 : (Cond.selects RX0 yX0_sideOf yX0_sideOf) ∈ wsL_law := List.mem_of_getElem? (i := 409) rfl
set_option maxRecDepth 20000 in
theorem mw_410 : (Cond.code yX0_sideOf cX0_sideOf 3 (some .int)) ∈ wsL_law := List.mem_of_getElem? (i := 410) rfl
set_option maxRecDepth 20000 in
theorem mw_411 : (Cond.methodLink RL 88 yX4_whole) ∈ wsL_law := List.mem_of_getElem? (i := 411) rfl
set_option maxRecDepth 20000 in
theorem mw_412 : (Cond.instanceMethod yX4_whole) ∈ wsL_law := List.mem_of_getElem? (i := 412) rfl
set_option maxRecDepth 20000 in
theorem mw_413 : (Cond.selects RX4 yX4_whole yX4_whole) ∈ wsL_law := List.mem_of_getElem? (i := 413) rfl
set_option maxRecDepth 20000 in
theorem mw_414 : (Cond.code yX4_whole cX4_whole 3 (some .int)) ∈ wsL_law := List.mem_of_getElem? (i := 414) rfl
set_option maxRecDepth 20000 in
theorem mw_415 : (Cond.methodLink RL 89 yX3_regret) ∈ wsL_law := List.mem_of_getElem? (i := 415) rfl
set_option maxRecDepth 20000 in
theorem mw_416 : (Cond.instanceMethod yX3_regret) ∈ wsL_law := List.mem_of_getElem? (i := 416) rfl
set_option maxRecDepth 20000 in
theorem mw_417 : (Cond.selects RX3 yX3_regret yX3_regret) ∈ wsL_law := List.mem_of_getElem? (i := 417) rfl
set_option maxRecDepth 20000 in
theorem mw_418 : (Cond.code yX3_regret cX3_regret 1 (some .int)) ∈ wsL_law := List.mem_of_getElem? (i := 418) rfl
set_option maxRecDepth 20000 in
theorem mw_419 : (Cond.methodLink RX3 119 yX3_findRegret) ∈ wsL_law := List.mem_of_getElem? (i := 419) rfl
set_option maxRecDepth 20000 in
theorem mw_420 : (Cond.instanceMethod yX3_findRegret) ∈ wsL_law := List.mem_of_getElem? (i := 420) rfl
set_option maxRecDepth 20000 in
theorem mw_421 : (Cond.selects RX3 yX3_findRegret yX3_findRegret) ∈ wsL_law := List.mem_of_getElem? (i := 421) rfl
set_option maxRecDepth 20000 in
theorem mw_422 : (Cond.code yX3_findRegret cX3_findRegret 4 (some .boolean)) ∈ wsL_law := List.mem_of_getElem? (i := 422) rfl
set_option maxRecDepth 20000 in
theorem mw_423 : (Cond.fieldLink RX3 169 "NetCuts$Net" "likes" "[Z") ∈ wsL_law := List.mem_of_getElem? (i := 423) rfl
set_option maxRecDepth 20000 in
theorem mw_424 : (Cond.methodLink RL 92 yX4_regret) ∈ wsL_law := List.mem_of_getElem? (i := 424) rfl
set_option maxRecDepth 20000 in
theorem mw_425 : (Cond.instanceMethod yX4_regret) ∈ wsL_law := List.mem_of_getElem? (i := 425) rfl
set_option maxRecDepth 20000 in
theorem mw_426 : (Cond.selects RX4 yX4_regret yX4_regret) ∈ wsL_law := List.mem_of_getElem? (i := 426) rfl
set_option maxRecDepth 20000 in
theorem mw_427 : (Cond.code yX4_regret cX4_regret 1 (some .int)) ∈ wsL_law := List.mem_of_getElem? (i := 427) rfl
set_option maxRecDepth 20000 in
theorem mw_428 : (Cond.methodLink RL 93 yX3_regretPart) ∈ wsL_law := List.mem_of_getElem? (i := 428) rfl
set_option maxRecDepth 20000 in
theorem mw_429 : (Cond.instanceMethod yX3_regretPart) ∈ wsL_law := List.mem_of_getElem? (i := 429) rfl
set_option maxRecDepth 20000 in
theorem mw_430 : (Cond.selects RX3 yX3_regretPart yX3_regretPart) ∈ wsL_law := List.mem_of_getElem? (i := 430) rfl
set_option maxRecDepth 20000 in
theorem mw_431 : (Cond.code yX3_regretPart cX3_regretPart 2 (some .int)) ∈ wsL_law := List.mem_of_getElem? (i := 431) rfl
set_option maxRecDepth 20000 in
theorem mw_432 : (Cond.methodLink RL 96 yX4_regretPart) ∈ wsL_law := List.mem_of_getElem? (i := 432) rfl
set_option maxRecDepth 20000 in
theorem mw_433 : (Cond.instanceMethod yX4_regretPart) ∈ wsL_law := List.mem_of_getElem? (i := 433) rfl
set_option maxRecDepth 20000 in
theorem mw_434 : (Cond.selects RX4 yX4_regretPart yX4_regretPart) ∈ wsL_law := List.mem_of_getElem? (i := 434) rfl
set_option maxRecDepth 20000 in
theorem mw_435 : (Cond.code yX4_regretPart cX4_regretPart 2 (some .int)) ∈ wsL_law := List.mem_of_getElem? (i := 435) rfl
set_option maxRecDepth 20000 in
theorem mw_436 : (Cond.methodLink RL 97 yX3_bar) ∈ wsL_law := List.mem_of_getElem? (i := 436) rfl
set_option maxRecDepth 20000 in
theorem mw_437 : (Cond.instanceMethod yX3_bar) ∈ wsL_law := List.mem_of_getElem? (i := 437) rfl
set_option maxRecDepth 20000 in
theorem mw_438 : (Cond.selects RX3 yX3_bar yX3_bar) ∈ wsL_law := List.mem_of_getElem? (i := 438) rfl
set_option maxRecDepth 20000 in
theorem mw_439 : (Cond.code yX3_bar cX3_bar 4 (some .int)) ∈ wsL_law := List.mem_of_getElem? (i := 439) rfl
set_option maxRecDepth 20000 in
theorem mw_440 : (Cond.methodLink RX3 122 yX1_barringHeap) ∈ wsL_law := List.mem_of_getElem? (i := 440) rfl
set_option maxRecDepth 20000 in
theorem mw_441 : (Cond.instanceMethod yX1_barringHeap) ∈ wsL_law := List.mem_of_getElem? (i := 441) rfl
set_option maxRecDepth 20000 in
theorem mw_442 : (Cond.selects RX1 yX1_barringHeap yX1_barringHeap) ∈ wsL_law := List.mem_of_getElem? (i := 442) rfl
set_option maxRecDepth 20000 in
theorem mw_443 : (Cond.code yX1_barringHeap cX1_barringHeap 8 (some .int)) ∈ wsL_law := List.mem_of_getElem? (i := 443) rfl
set_option maxRecDepth 20000 in
theorem mw_444 : (Cond.constant RX1 63 (1000000)) ∈ wsL_law := List.mem_of_getElem? (i := 444) rfl
set_option maxRecDepth 20000 in
theorem mw_445 : (Cond.methodLink RX1 55 yX1_joinPosts) ∈ wsL_law := List.mem_of_getElem? (i := 445) rfl
set_option maxRecDepth 20000 in
theorem mw_446 : (Cond.instanceMethod yX1_joinPosts) ∈ wsL_law := List.mem_of_getElem? (i := 446) rfl
set_option maxRecDepth 20000 in
theorem mw_447 : (Cond.selects RX1 yX1_joinPosts yX1_joinPosts) ∈ wsL_law := List.mem_of_getElem? (i := 447) rfl
set_option maxRecDepth 20000 in
theorem mw_448 : (Cond.code yX1_joinPosts cX1_joinPosts 3 none) ∈ wsL_law := List.mem_of_getElem? (i := 448) rfl
set_option maxRecDepth 20000 in
theorem mw_449 : (Cond.methodLink RX1 64 yX1_priceOfHeap) ∈ wsL_law := List.mem_of_getElem? (i := 449) rfl
set_option maxRecDepth 20000 in
theorem mw_450 : (Cond.instanceMethod yX1_priceOfHeap) ∈ wsL_law := List.mem_of_getElem? (i := 450) rfl
set_option maxRecDepth 20000 in
theorem mw_451 : (Cond.selects RX1 yX1_priceOfHeap yX1_priceOfHeap) ∈ wsL_law := List.mem_of_getElem? (i := 451) rfl
set_option maxRecDepth 20000 in
theorem mw_452 : (Cond.code yX1_priceOfHeap cX1_priceOfHeap 4 (some .int)) ∈ wsL_law := List.mem_of_getElem? (i := 452) rfl
set_option maxRecDepth 20000 in
theorem mw_453 : (Cond.methodLink RX1 59 yX1_reach) ∈ wsL_law := List.mem_of_getElem? (i := 453) rfl
set_option maxRecDepth 20000 in
theorem mw_454 : (Cond.instanceMethod yX1_reach) ∈ wsL_law := List.mem_of_getElem? (i := 454) rfl
set_option maxRecDepth 20000 in
theorem mw_455 : (Cond.selects RX1 yX1_reach yX1_reach) ∈ wsL_law := List.mem_of_getElem? (i := 455) rfl
set_option maxRecDepth 20000 in
theorem mw_456 : (Cond.code yX1_reach cX1_reach 7 (some .int)) ∈ wsL_law := List.mem_of_getElem? (i := 456) rfl
set_option maxRecDepth 20000 in
theorem mw_457 : (Cond.methodLink RX3 125 yX1_priceOfHeap) ∈ wsL_law := List.mem_of_getElem? (i := 457) rfl
set_option maxRecDepth 20000 in
theorem mw_458 : (Cond.methodLink RL 100 yX4_bar) ∈ wsL_law := List.mem_of_getElem? (i := 458) rfl
set_option maxRecDepth 20000 in
theorem mw_459 : (Cond.instanceMethod yX4_bar) ∈ wsL_law := List.mem_of_getElem? (i := 459) rfl
set_option maxRecDepth 20000 in
theorem mw_460 : (Cond.selects RX4 yX4_bar yX4_bar) ∈ wsL_law := List.mem_of_getElem? (i := 460) rfl
set_option maxRecDepth 20000 in
theorem mw_461 : (Cond.code yX4_bar cX4_bar 3 (some .int)) ∈ wsL_law := List.mem_of_getElem? (i := 461) rfl
set_option maxRecDepth 20000 in
theorem mw_462 : (Cond.methodLink RX4 133 yX4_barOf) ∈ wsL_law := List.mem_of_getElem? (i := 462) rfl
set_option maxRecDepth 20000 in
theorem mw_463 : (Cond.instanceMethod yX4_barOf) ∈ wsL_law := List.mem_of_getElem? (i := 463) rfl
set_option maxRecDepth 20000 in
theorem mw_464 : (Cond.selects RX4 yX4_barOf yX4_barOf) ∈ wsL_law := List.mem_of_getElem? (i := 464) rfl
set_option maxRecDepth 20000 in
theorem mw_465 : (Cond.code yX4_barOf cX4_barOf 5 (some .int)) ∈ wsL_law := List.mem_of_getElem? (i := 465) rfl
set_option maxRecDepth 20000 in
theorem mw_466 : (Cond.methodLink RX4 126 yX4_reaches) ∈ wsL_law := List.mem_of_getElem? (i := 466) rfl
set_option maxRecDepth 20000 in
theorem mw_467 : (Cond.instanceMethod yX4_reaches) ∈ wsL_law := List.mem_of_getElem? (i := 467) rfl
set_option maxRecDepth 20000 in
theorem mw_468 : (Cond.selects RX4 yX4_reaches yX4_reaches) ∈ wsL_law := List.mem_of_getElem? (i := 468) rfl
set_option maxRecDepth 20000 in
theorem mw_469 : (Cond.code yX4_reaches cX4_reaches 6 none) ∈ wsL_law := List.mem_of_getElem? (i := 469) rfl
set_option maxRecDepth 20000 in
theorem mw_470 : (Cond.methodLink RX4 130 yX4_heapPrice) ∈ wsL_law := List.mem_of_getElem? (i := 470) rfl
set_option maxRecDepth 20000 in
theorem mw_471 : (Cond.instanceMethod yX4_heapPrice) ∈ wsL_law := List.mem_of_getElem? (i := 471) rfl
set_option maxRecDepth 20000 in
theorem mw_472 : (Cond.selects RX4 yX4_heapPrice yX4_heapPrice) ∈ wsL_law := List.mem_of_getElem? (i := 472) rfl
set_option maxRecDepth 20000 in
theorem mw_473 : (Cond.code yX4_heapPrice cX4_heapPrice 4 (some .int)) ∈ wsL_law := List.mem_of_getElem? (i := 473) rfl
set_option maxRecDepth 20000 in
theorem mw_474 : (Cond.methodLink RL 101 yX3_bars) ∈ wsL_law := List.mem_of_getElem? (i := 474) rfl
set_option maxRecDepth 20000 in
theorem mw_475 : (Cond.instanceMethod yX3_bars) ∈ wsL_law := List.mem_of_getElem? (i := 475) rfl
set_option maxRecDepth 20000 in
theorem mw_476 : (Cond.selects RX3 yX3_bars yX3_bars) ∈ wsL_law := List.mem_of_getElem? (i := 476) rfl
set_option maxRecDepth 20000 in
theorem mw_477 : (Cond.code yX3_bars cX3_bars 3 (some .int)) ∈ wsL_law := List.mem_of_getElem? (i := 477) rfl
set_option maxRecDepth 20000 in
theorem mw_478 : (Cond.methodLink RL 104 yX4_bars) ∈ wsL_law := List.mem_of_getElem? (i := 478) rfl
set_option maxRecDepth 20000 in
theorem mw_479 : (Cond.instanceMethod yX4_bars) ∈ wsL_law := List.mem_of_getElem? (i := 479) rfl
set_option maxRecDepth 20000 in
theorem mw_480 : (Cond.selects RX4 yX4_bars yX4_bars) ∈ wsL_law := List.mem_of_getElem? (i := 480) rfl
set_option maxRecDepth 20000 in
theorem mw_481 : (Cond.code yX4_bars cX4_bars 3 (some .int)) ∈ wsL_law := List.mem_of_getElem? (i := 481) rfl
set_option maxRecDepth 20000 in
theorem mw_482 : (Cond.methodLink RL 105 yX3_bridge) ∈ wsL_law := List.mem_of_getElem? (i := 482) rfl
set_option maxRecDepth 20000 in
theorem mw_483 : (Cond.instanceMethod yX3_bridge) ∈ wsL_law := List.mem_of_getElem? (i := 483) rfl
set_option maxRecDepth 20000 in
theorem mw_484 : (Cond.selects RX3 yX3_bridge yX3_bridge) ∈ wsL_law := List.mem_of_getElem? (i := 484) rfl
set_option maxRecDepth 20000 in
theorem mw_485 : (Cond.code yX3_bridge cX3_bridge 2 (some .boolean)) ∈ wsL_law := List.mem_of_getElem? (i := 485) rfl
set_option maxRecDepth 20000 in
theorem mw_486 : (Cond.methodLink RX3 128 yX1_isBridge) ∈ wsL_law := List.mem_of_getElem? (i := 486) rfl
set_option maxRecDepth 20000 in
theorem mw_487 : (Cond.instanceMethod yX1_isBridge) ∈ wsL_law := List.mem_of_getElem? (i := 487) rfl
set_option maxRecDepth 20000 in
theorem mw_488 : (Cond.selects RX1 yX1_isBridge yX1_isBridge) ∈ wsL_law := List.mem_of_getElem? (i := 488) rfl
set_option maxRecDepth 20000 in
theorem mw_489 : (Cond.code yX1_isBridge cX1_isBridge 2 (some .boolean)) ∈ wsL_law := List.mem_of_getElem? (i := 489) rfl
set_option maxRecDepth 20000 in
theorem mw_490 : (Cond.methodLink RL 108 yX4_bridge) ∈ wsL_law := List.mem_of_getElem? (i := 490) rfl
set_option maxRecDepth 20000 in
theorem mw_491 : (Cond.instanceMethod yX4_bridge) ∈ wsL_law := List.mem_of_getElem? (i := 491) rfl
set_option maxRecDepth 20000 in
theorem mw_492 : (Cond.selects RX4 yX4_bridge yX4_bridge) ∈ wsL_law := List.mem_of_getElem? (i := 492) rfl
set_option maxRecDepth 20000 in
theorem mw_493 : (Cond.code yX4_bridge cX4_bridge 2 (some .boolean)) ∈ wsL_law := List.mem_of_getElem? (i := 493) rfl
set_option maxRecDepth 20000 in
theorem mw_494 : (Cond.methodLink RL 109 yX3_hinge) ∈ wsL_law := List.mem_of_getElem? (i := 494) rfl
set_option maxRecDepth 20000 in
theorem mw_495 : (Cond.instanceMethod yX3_hinge) ∈ wsL_law := List.mem_of_getElem? (i := 495) rfl
set_option maxRecDepth 20000 in
theorem mw_496 : (Cond.selects RX3 yX3_hinge yX3_hinge) ∈ wsL_law := List.mem_of_getElem? (i := 496) rfl
set_option maxRecDepth 20000 in
theorem mw_497 : (Cond.code yX3_hinge cX3_hinge 2 (some .boolean)) ∈ wsL_law := List.mem_of_getElem? (i := 497) rfl
set_option maxRecDepth 20000 in
theorem mw_498 : (Cond.methodLink RX3 131 yX1_isHinge) ∈ wsL_law := List.mem_of_getElem? (i := 498) rfl
set_option maxRecDepth 20000 in
theorem mw_499 : (Cond.instanceMethod yX1_isHinge) ∈ wsL_law := List.mem_of_getElem? (i := 499) rfl
set_option maxRecDepth 20000 in
theorem mw_500 : (Cond.selects RX1 yX1_isHinge yX1_isHinge) ∈ wsL_law := List.mem_of_getElem? (i := 500) rfl
set_option maxRecDepth 20000 in
theorem mw_501 : (Cond.code yX1_isHinge cX1_isHinge 5 (some .boolean)) ∈ wsL_law := List.mem_of_getElem? (i := 501) rfl
set_option maxRecDepth 20000 in
theorem mw_502 : (Cond.methodLink RL 112 yX4_hinge) ∈ wsL_law := List.mem_of_getElem? (i := 502) rfl
set_option maxRecDepth 20000 in
theorem mw_503 : (Cond.instanceMethod yX4_hinge) ∈ wsL_law := List.mem_of_getElem? (i := 503) rfl
set_option maxRecDepth 20000 in
theorem mw_504 : (Cond.selects RX4 yX4_hinge yX4_hinge) ∈ wsL_law := List.mem_of_getElem? (i := 504) rfl
set_option maxRecDepth 20000 in
theorem mw_505 : (Cond.code yX4_hinge cX4_hinge 4 (some .boolean)) ∈ wsL_law := List.mem_of_getElem? (i := 505) rfl
set_option maxRecDepth 20000 in
theorem mw_506 : (Cond.methodLink RL 113 yX3_count) ∈ wsL_law := List.mem_of_getElem? (i := 506) rfl
set_option maxRecDepth 20000 in
theorem mw_507 : (Cond.instanceMethod yX3_count) ∈ wsL_law := List.mem_of_getElem? (i := 507) rfl
set_option maxRecDepth 20000 in
theorem mw_508 : (Cond.selects RX3 yX3_count yX3_count) ∈ wsL_law := List.mem_of_getElem? (i := 508) rfl
set_option maxRecDepth 20000 in
theorem mw_509 : (Cond.code yX3_count cX3_count 2 (some .int)) ∈ wsL_law := List.mem_of_getElem? (i := 509) rfl
set_option maxRecDepth 20000 in
theorem mw_510 : (Cond.methodLink RX3 137 yX1_linesLeft) ∈ wsL_law := List.mem_of_getElem? (i := 510) rfl
set_option maxRecDepth 20000 in
theorem mw_511 : (Cond.instanceMethod yX1_linesLeft) ∈ wsL_law := List.mem_of_getElem? (i := 511) rfl
set_option maxRecDepth 20000 in
theorem mw_512 : (Cond.selects RX1 yX1_linesLeft yX1_linesLeft) ∈ wsL_law := List.mem_of_getElem? (i := 512) rfl
set_option maxRecDepth 20000 in
theorem mw_513 : (Cond.code yX1_linesLeft cX1_linesLeft 3 (some .int)) ∈ wsL_law := List.mem_of_getElem? (i := 513) rfl
set_option maxRecDepth 20000 in
theorem mw_514 : (Cond.methodLink RX3 140 yX3_sizeOf) ∈ wsL_law := List.mem_of_getElem? (i := 514) rfl
set_option maxRecDepth 20000 in
theorem mw_515 : (Cond.static yX3_sizeOf) ∈ wsL_law := List.mem_of_getElem? (i := 515) rfl
set_option maxRecDepth 20000 in
theorem mw_516 : (Cond.code yX3_sizeOf cX3_sizeOf 3 (some .int)) ∈ wsL_law := List.mem_of_getElem? (i := 516) rfl
set_option maxRecDepth 20000 in
theorem mw_517 : (Cond.methodLink RX3 143 yX1_hangingPieces) ∈ wsL_law := List.mem_of_getElem? (i := 517) rfl
set_option maxRecDepth 20000 in
theorem mw_518 : (Cond.instanceMethod yX1_hangingPieces) ∈ wsL_law := List.mem_of_getElem? (i := 518) rfl
set_option maxRecDepth 20000 in
theorem mw_519 : (Cond.selects RX1 yX1_hangingPieces yX1_hangingPieces) ∈ wsL_law := List.mem_of_getElem? (i := 519) rfl
set_option maxRecDepth 20000 in
theorem mw_520 : (Cond.code yX1_hangingPieces cX1_hangingPieces 4 (some .int)) ∈ wsL_law := List.mem_of_getElem? (i := 520) rfl
set_option maxRecDepth 20000 in
theorem mw_521 : (Cond.methodLink RL 116 yX4_count) ∈ wsL_law := List.mem_of_getElem? (i := 521) rfl
set_option maxRecDepth 20000 in
theorem mw_522 : (Cond.instanceMethod yX4_count) ∈ wsL_law := List.mem_of_getElem? (i := 522) rfl
set_option maxRecDepth 20000 in
theorem mw_523 : (Cond.selects RX4 yX4_count yX4_count) ∈ wsL_law := List.mem_of_getElem? (i := 523) rfl
set_option maxRecDepth 20000 in
theorem mw_524 : (Cond.code yX4_count cX4_count 6 (some .int)) ∈ wsL_law := List.mem_of_getElem? (i := 524) rfl
