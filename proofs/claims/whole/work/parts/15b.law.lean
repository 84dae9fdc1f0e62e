theorem dL_law_370 : decode cL_law 370 = .ok (.aload_n 1, 1) := by decide +kernel
theorem dL_law_371 : decode cL_law 371 = .ok (.aload_n 0, 1) := by decide +kernel
theorem dL_law_372 : decode cL_law 372 = .ok (.iload_n 3, 1) := by decide +kernel
theorem dL_law_373 : decode cL_law 373 = .ok (.iconst 1, 1) := by decide +kernel
theorem dL_law_374 : decode cL_law 374 = .ok (.iadd, 1) := by decide +kernel
theorem dL_law_375 : decode cL_law 375 = .ok (.iaload, 1) := by decide +kernel
theorem dL_law_376 : decode cL_law 376 = .ok (.invokevirtual 48, 3) := by decide +kernel
theorem dL_law_379 : decode cL_law 379 = .ok (.aload_n 2, 1) := by decide +kernel
theorem dL_law_380 : decode cL_law 380 = .ok (.aload_n 0, 1) := by decide +kernel
theorem dL_law_381 : decode cL_law 381 = .ok (.iload_n 3, 1) := by decide +kernel
theorem dL_law_382 : decode cL_law 382 = .ok (.iconst 1, 1) := by decide +kernel
theorem dL_law_383 : decode cL_law 383 = .ok (.iadd, 1) := by decide +kernel
theorem dL_law_384 : decode cL_law 384 = .ok (.iaload, 1) := by decide +kernel
theorem dL_law_385 : decode cL_law 385 = .ok (.invokevirtual 51, 3) := by decide +kernel
theorem dL_law_388 : decode cL_law 388 = .ok (.if_icmp .eq 614, 3) := by decide +kernel
theorem dL_law_391 : decode cL_law 391 = .ok (.iconst 0, 1) := by decide +kernel
theorem dL_law_392 : decode cL_law 392 = .ok (.ireturn, 1) := by decide +kernel
theorem dL_law_393 : decode cL_law 393 = .ok (.aload_n 1, 1) := by decide +kernel
theorem dL_law_394 : decode cL_law 394 = .ok (.invokevirtual 52, 3) := by decide +kernel
theorem dL_law_397 : decode cL_law 397 = .ok (.aload_n 2, 1) := by decide +kernel
theorem dL_law_398 : decode cL_law 398 = .ok (.invokevirtual 55, 3) := by decide +kernel
theorem dL_law_401 : decode cL_law 401 = .ok (.if_icmp .eq 601, 3) := by decide +kernel
theorem dL_law_404 : decode cL_law 404 = .ok (.iconst 0, 1) := by decide +kernel
theorem dL_law_405 : decode cL_law 405 = .ok (.ireturn, 1) := by decide +kernel
theorem dL_law_406 : decode cL_law 406 = .ok (.aload_n 1, 1) := by decide +kernel
theorem dL_law_407 : decode cL_law 407 = .ok (.aload_n 0, 1) := by decide +kernel
theorem dL_law_408 : decode cL_law 408 = .ok (.iload_n 3, 1) := by decide +kernel
theorem dL_law_409 : decode cL_law 409 = .ok (.iconst 1, 1) := by decide +kernel
theorem dL_law_410 : decode cL_law 410 = .ok (.iadd, 1) := by decide +kernel
theorem dL_law_411 : decode cL_law 411 = .ok (.iaload, 1) := by decide +kernel
theorem dL_law_412 : decode cL_law 412 = .ok (.invokevirtual 56, 3) := by decide +kernel
theorem dL_law_415 : decode cL_law 415 = .ok (.aload_n 2, 1) := by decide +kernel
theorem dL_law_416 : decode cL_law 416 = .ok (.aload_n 0, 1) := by decide +kernel
theorem dL_law_417 : decode cL_law 417 = .ok (.iload_n 3, 1) := by decide +kernel
theorem dL_law_418 : decode cL_law 418 = .ok (.iconst 1, 1) := by decide +kernel
theorem dL_law_419 : decode cL_law 419 = .ok (.iadd, 1) := by decide +kernel
theorem dL_law_420 : decode cL_law 420 = .ok (.iaload, 1) := by decide +kernel
theorem dL_law_421 : decode cL_law 421 = .ok (.invokevirtual 59, 3) := by decide +kernel
theorem dL_law_424 : decode cL_law 424 = .ok (.if_icmp .eq 578, 3) := by decide +kernel
theorem dL_law_427 : decode cL_law 427 = .ok (.iconst 0, 1) := by decide +kernel
theorem dL_law_428 : decode cL_law 428 = .ok (.ireturn, 1) := by decide +kernel
theorem dL_law_429 : decode cL_law 429 = .ok (.aload_n 1, 1) := by decide +kernel
theorem dL_law_430 : decode cL_law 430 = .ok (.aload_n 0, 1) := by decide +kernel
theorem dL_law_431 : decode cL_law 431 = .ok (.iload_n 3, 1) := by decide +kernel
theorem dL_law_432 : decode cL_law 432 = .ok (.iconst 1, 1) := by decide +kernel
theorem dL_law_433 : decode cL_law 433 = .ok (.iadd, 1) := by decide +kernel
theorem dL_law_434 : decode cL_law 434 = .ok (.iaload, 1) := by decide +kernel
theorem dL_law_435 : decode cL_law 435 = .ok (.invokevirtual 60, 3) := by decide +kernel
theorem dL_law_438 : decode cL_law 438 = .ok (.aload_n 2, 1) := by decide +kernel
theorem dL_law_439 : decode cL_law 439 = .ok (.aload_n 0, 1) := by decide +kernel
theorem dL_law_440 : decode cL_law 440 = .ok (.iload_n 3, 1) := by decide +kernel
theorem dL_law_441 : decode cL_law 441 = .ok (.iconst 1, 1) := by decide +kernel
theorem dL_law_442 : decode cL_law 442 = .ok (.iadd, 1) := by decide +kernel
theorem dL_law_443 : decode cL_law 443 = .ok (.iaload, 1) := by decide +kernel
theorem dL_law_444 : decode cL_law 444 = .ok (.invokevirtual 63, 3) := by decide +kernel
theorem dL_law_447 : decode cL_law 447 = .ok (.if_icmp .eq 555, 3) := by decide +kernel
theorem dL_law_450 : decode cL_law 450 = .ok (.iconst 0, 1) := by decide +kernel
theorem dL_law_451 : decode cL_law 451 = .ok (.ireturn, 1) := by decide +kernel
theorem dL_law_452 : decode cL_law 452 = .ok (.aload_n 1, 1) := by decide +kernel
theorem dL_law_453 : decode cL_law 453 = .ok (.aload_n 0, 1) := by decide +kernel
theorem dL_law_454 : decode cL_law 454 = .ok (.iload_n 3, 1) := by decide +kernel
theorem dL_law_455 : decode cL_law 455 = .ok (.iconst 1, 1) := by decide +kernel
theorem dL_law_456 : decode cL_law 456 = .ok (.iadd, 1) := by decide +kernel
theorem dL_law_457 : decode cL_law 457 = .ok (.iaload, 1) := by decide +kernel
theorem dL_law_458 : decode cL_law 458 = .ok (.invokevirtual 64, 3) := by decide +kernel
theorem dL_law_461 : decode cL_law 461 = .ok (.aload_n 2, 1) := by decide +kernel
theorem dL_law_462 : decode cL_law 462 = .ok (.aload_n 0, 1) := by decide +kernel
theorem dL_law_463 : decode cL_law 463 = .ok (.iload_n 3, 1) := by decide +kernel
theorem dL_law_464 : decode cL_law 464 = .ok (.iconst 1, 1) := by decide +kernel
theorem dL_law_465 : decode cL_law 465 = .ok (.iadd, 1) := by decide +kernel
theorem dL_law_466 : decode cL_law 466 = .ok (.iaload, 1) := by decide +kernel
theorem dL_law_467 : decode cL_law 467 = .ok (.invokevirtual 67, 3) := by decide +kernel
theorem dL_law_470 : decode cL_law 470 = .ok (.if_icmp .eq 532, 3) := by decide +kernel
theorem dL_law_473 : decode cL_law 473 = .ok (.iconst 0, 1) := by decide +kernel
theorem dL_law_474 : decode cL_law 474 = .ok (.ireturn, 1) := by decide +kernel
theorem dL_law_475 : decode cL_law 475 = .ok (.aload_n 1, 1) := by decide +kernel
theorem dL_law_476 : decode cL_law 476 = .ok (.aload_n 0, 1) := by decide +kernel
theorem dL_law_477 : decode cL_law 477 = .ok (.iload_n 3, 1) := by decide +kernel
theorem dL_law_478 : decode cL_law 478 = .ok (.iconst 1, 1) := by decide +kernel
theorem dL_law_479 : decode cL_law 479 = .ok (.iadd, 1) := by decide +kernel
theorem dL_law_480 : decode cL_law 480 = .ok (.iaload, 1) := by decide +kernel
theorem dL_law_481 : decode cL_law 481 = .ok (.invokevirtual 68, 3) := by decide +kernel
theorem dL_law_484 : decode cL_law 484 = .ok (.aload_n 2, 1) := by decide +kernel
theorem dL_law_485 : decode cL_law 485 = .ok (.aload_n 0, 1) := by decide +kernel
theorem dL_law_486 : decode cL_law 486 = .ok (.iload_n 3, 1) := by decide +kernel
theorem dL_law_487 : decode cL_law 487 = .ok (.iconst 1, 1) := by decide +kernel
theorem dL_law_488 : decode cL_law 488 = .ok (.iadd, 1) := by decide +kernel
theorem dL_law_489 : decode cL_law 489 = .ok (.iaload, 1) := by decide +kernel
theorem dL_law_490 : decode cL_law 490 = .ok (.invokevirtual 71, 3) := by decide +kernel
theorem dL_law_493 : decode cL_law 493 = .ok (.if_icmp .eq 509, 3) := by decide +kernel
theorem dL_law_496 : decode cL_law 496 = .ok (.iconst 0, 1) := by decide +kernel
theorem dL_law_497 : decode cL_law 497 = .ok (.ireturn, 1) := by decide +kernel
theorem dL_law_498 : decode cL_law 498 = .ok (.aload_n 1, 1) := by decide +kernel
theorem dL_law_499 : decode cL_law 499 = .ok (.invokevirtual 72, 3) := by decide +kernel
theorem dL_law_502 : decode cL_law 502 = .ok (.aload_n 2, 1) := by decide +kernel
theorem dL_law_503 : decode cL_law 503 = .ok (.invokevirtual 75, 3) := by decide +kernel
theorem dL_law_506 : decode cL_law 506 = .ok (.if_icmp .eq 496, 3) := by decide +kernel
theorem dL_law_509 : decode cL_law 509 = .ok (.iconst 0, 1) := by decide +kernel
theorem dL_law_510 : decode cL_law 510 = .ok (.ireturn, 1) := by decide +kernel
theorem dL_law_511 : decode cL_law 511 = .ok (.aload_n 1, 1) := by decide +kernel
theorem dL_law_512 : decode cL_law 512 = .ok (.invokevirtual 76, 3) := by decide +kernel
theorem dL_law_515 : decode cL_law 515 = .ok (.aload_n 2, 1) := by decide +kernel
theorem dL_law_516 : decode cL_law 516 = .ok (.invokevirtual 79, 3) := by decide +kernel
theorem dL_law_519 : decode cL_law 519 = .ok (.if_icmp .eq 483, 3) := by decide +kernel
theorem dL_law_522 : decode cL_law 522 = .ok (.iconst 0, 1) := by decide +kernel
theorem dL_law_523 : decode cL_law 523 = .ok (.ireturn, 1) := by decide +kernel
theorem wyn_67 : Cond.methodLink RL 48 yX8_free ∈ WL_ := wl_in (tj_3 (List.mem_of_getElem? (i := 201) rfl)) rfl
theorem wyn_68 : Cond.instanceMethod yX8_free ∈ WL_ := wl_in (tj_3 (List.mem_of_getElem? (i := 202) rfl)) rfl
theorem wyn_69 : Cond.selects RX8 yX8_free yX8_free ∈ WL_ := wl_in (tj_3 (List.mem_of_getElem? (i := 203) rfl)) rfl
theorem wyn_70 : Cond.code yX8_free cX8_free 2 (some .int) ∈ WL_ := wl_in (tj_3 (List.mem_of_getElem? (i := 204) rfl)) rfl
theorem wyn_71 : Cond.methodLink RL 51 yX9_free ∈ WL_ := wl_in (tj_6 (List.mem_of_getElem? (i := 148) rfl)) rfl
theorem wyn_72 : Cond.instanceMethod yX9_free ∈ WL_ := wl_in (tj_6 (List.mem_of_getElem? (i := 149) rfl)) rfl
theorem wyn_73 : Cond.selects RX9 yX9_free yX9_free ∈ WL_ := wl_in (tj_6 (List.mem_of_getElem? (i := 150) rfl)) rfl
theorem wyn_74 : Cond.code yX9_free cX9_free 2 (some .int) ∈ WL_ := wl_in (tj_6 (List.mem_of_getElem? (i := 151) rfl)) rfl
theorem wyn_75 : Cond.methodLink RL 52 yX8_undo ∈ WL_ := wl_in (tj_3 (List.mem_of_getElem? (i := 205) rfl)) rfl
theorem wyn_76 : Cond.instanceMethod yX8_undo ∈ WL_ := wl_in (tj_3 (List.mem_of_getElem? (i := 206) rfl)) rfl
theorem wyn_77 : Cond.selects RX8 yX8_undo yX8_undo ∈ WL_ := wl_in (tj_3 (List.mem_of_getElem? (i := 207) rfl)) rfl
theorem wyn_78 : Cond.code yX8_undo cX8_undo 1 (some .int) ∈ WL_ := wl_in (tj_3 (List.mem_of_getElem? (i := 208) rfl)) rfl
theorem wyn_79 : Cond.methodLink RL 55 yX9_undo ∈ WL_ := wl_in (tj_6 (List.mem_of_getElem? (i := 152) rfl)) rfl
theorem wyn_80 : Cond.instanceMethod yX9_undo ∈ WL_ := wl_in (tj_6 (List.mem_of_getElem? (i := 153) rfl)) rfl
theorem wyn_81 : Cond.selects RX9 yX9_undo yX9_undo ∈ WL_ := wl_in (tj_6 (List.mem_of_getElem? (i := 154) rfl)) rfl
theorem wyn_82 : Cond.code yX9_undo cX9_undo 2 (some .int) ∈ WL_ := wl_in (tj_6 (List.mem_of_getElem? (i := 155) rfl)) rfl
theorem wyn_83 : Cond.methodLink RL 56 yX8_keep ∈ WL_ := wl_in (tj_3 (List.mem_of_getElem? (i := 217) rfl)) rfl
theorem wyn_84 : Cond.instanceMethod yX8_keep ∈ WL_ := wl_in (tj_3 (List.mem_of_getElem? (i := 218) rfl)) rfl
theorem wyn_85 : Cond.selects RX8 yX8_keep yX8_keep ∈ WL_ := wl_in (tj_3 (List.mem_of_getElem? (i := 219) rfl)) rfl
theorem wyn_86 : Cond.code yX8_keep cX8_keep 2 (some .int) ∈ WL_ := wl_in (tj_3 (List.mem_of_getElem? (i := 220) rfl)) rfl
theorem wyn_87 : Cond.methodLink RL 59 yX9_keep ∈ WL_ := wl_in (tj_6 (List.mem_of_getElem? (i := 156) rfl)) rfl
theorem wyn_88 : Cond.instanceMethod yX9_keep ∈ WL_ := wl_in (tj_6 (List.mem_of_getElem? (i := 157) rfl)) rfl
theorem wyn_89 : Cond.selects RX9 yX9_keep yX9_keep ∈ WL_ := wl_in (tj_6 (List.mem_of_getElem? (i := 158) rfl)) rfl
theorem wyn_90 : Cond.code yX9_keep cX9_keep 3 (some .int) ∈ WL_ := wl_in (tj_6 (List.mem_of_getElem? (i := 159) rfl)) rfl
theorem wyn_91 : Cond.methodLink RL 60 yX8_back ∈ WL_ := wl_in (tj_3 (List.mem_of_getElem? (i := 225) rfl)) rfl
theorem wyn_92 : Cond.instanceMethod yX8_back ∈ WL_ := wl_in (tj_3 (List.mem_of_getElem? (i := 226) rfl)) rfl
theorem wyn_93 : Cond.selects RX8 yX8_back yX8_back ∈ WL_ := wl_in (tj_3 (List.mem_of_getElem? (i := 227) rfl)) rfl
theorem wyn_94 : Cond.code yX8_back cX8_back 2 (some .int) ∈ WL_ := wl_in (tj_3 (List.mem_of_getElem? (i := 228) rfl)) rfl
theorem wyn_95 : Cond.methodLink RL 63 yX9_back ∈ WL_ := wl_in (tj_6 (List.mem_of_getElem? (i := 160) rfl)) rfl
theorem wyn_96 : Cond.instanceMethod yX9_back ∈ WL_ := wl_in (tj_6 (List.mem_of_getElem? (i := 161) rfl)) rfl
theorem wyn_97 : Cond.selects RX9 yX9_back yX9_back ∈ WL_ := wl_in (tj_6 (List.mem_of_getElem? (i := 162) rfl)) rfl
theorem wyn_98 : Cond.code yX9_back cX9_back 3 (some .int) ∈ WL_ := wl_in (tj_6 (List.mem_of_getElem? (i := 163) rfl)) rfl
theorem wyn_99 : Cond.methodLink RL 64 yX8_letter ∈ WL_ := wl_in (tj_3 (List.mem_of_getElem? (i := 237) rfl)) rfl
theorem wyn_100 : Cond.instanceMethod yX8_letter ∈ WL_ := wl_in (tj_3 (List.mem_of_getElem? (i := 238) rfl)) rfl
theorem wyn_101 : Cond.selects RX8 yX8_letter yX8_letter ∈ WL_ := wl_in (tj_3 (List.mem_of_getElem? (i := 239) rfl)) rfl
theorem wyn_102 : Cond.code yX8_letter cX8_letter 2 (some .int) ∈ WL_ := wl_in (tj_4 (List.mem_of_getElem? (i := 0) rfl)) rfl
theorem wyn_103 : Cond.methodLink RL 67 yX9_letter ∈ WL_ := wl_in (tj_6 (List.mem_of_getElem? (i := 164) rfl)) rfl
theorem wyn_104 : Cond.instanceMethod yX9_letter ∈ WL_ := wl_in (tj_6 (List.mem_of_getElem? (i := 165) rfl)) rfl
theorem wyn_105 : Cond.selects RX9 yX9_letter yX9_letter ∈ WL_ := wl_in (tj_6 (List.mem_of_getElem? (i := 166) rfl)) rfl
theorem wyn_106 : Cond.code yX9_letter cX9_letter 4 (some .int) ∈ WL_ := wl_in (tj_6 (List.mem_of_getElem? (i := 167) rfl)) rfl
theorem wyn_107 : Cond.methodLink RL 68 yX8_fails ∈ WL_ := wl_in (tj_4 (List.mem_of_getElem? (i := 6) rfl)) rfl
theorem wyn_108 : Cond.instanceMethod yX8_fails ∈ WL_ := wl_in (tj_4 (List.mem_of_getElem? (i := 7) rfl)) rfl
theorem wyn_109 : Cond.selects RX8 yX8_fails yX8_fails ∈ WL_ := wl_in (tj_4 (List.mem_of_getElem? (i := 8) rfl)) rfl
theorem wyn_110 : Cond.code yX8_fails cX8_fails 2 (some .int) ∈ WL_ := wl_in (tj_4 (List.mem_of_getElem? (i := 9) rfl)) rfl
theorem wyn_111 : Cond.methodLink RL 71 yX9_fails ∈ WL_ := wl_in (tj_6 (List.mem_of_getElem? (i := 168) rfl)) rfl
theorem wyn_112 : Cond.instanceMethod yX9_fails ∈ WL_ := wl_in (tj_6 (List.mem_of_getElem? (i := 169) rfl)) rfl
theorem wyn_113 : Cond.selects RX9 yX9_fails yX9_fails ∈ WL_ := wl_in (tj_6 (List.mem_of_getElem? (i := 170) rfl)) rfl
theorem wyn_114 : Cond.code yX9_fails cX9_fails 2 (some .int) ∈ WL_ := wl_in (tj_6 (List.mem_of_getElem? (i := 171) rfl)) rfl
theorem wyn_115 : Cond.methodLink RL 72 yX8_open ∈ WL_ := wl_in (tj_4 (List.mem_of_getElem? (i := 14) rfl)) rfl
theorem wyn_116 : Cond.instanceMethod yX8_open ∈ WL_ := wl_in (tj_4 (List.mem_of_getElem? (i := 15) rfl)) rfl
theorem wyn_117 : Cond.selects RX8 yX8_open yX8_open ∈ WL_ := wl_in (tj_4 (List.mem_of_getElem? (i := 16) rfl)) rfl
theorem wyn_118 : Cond.code yX8_open cX8_open 1 (some .int) ∈ WL_ := wl_in (tj_4 (List.mem_of_getElem? (i := 17) rfl)) rfl
theorem wyn_119 : Cond.methodLink RL 75 yX9_open ∈ WL_ := wl_in (tj_6 (List.mem_of_getElem? (i := 173) rfl)) rfl
theorem wyn_120 : Cond.instanceMethod yX9_open ∈ WL_ := wl_in (tj_6 (List.mem_of_getElem? (i := 174) rfl)) rfl
theorem wyn_121 : Cond.selects RX9 yX9_open yX9_open ∈ WL_ := wl_in (tj_6 (List.mem_of_getElem? (i := 175) rfl)) rfl
theorem wyn_122 : Cond.code yX9_open cX9_open 4 (some .int) ∈ WL_ := wl_in (tj_6 (List.mem_of_getElem? (i := 176) rfl)) rfl
theorem wyn_123 : Cond.methodLink RL 76 yX8_ways ∈ WL_ := wl_in (tj_4 (List.mem_of_getElem? (i := 26) rfl)) rfl
theorem wyn_124 : Cond.instanceMethod yX8_ways ∈ WL_ := wl_in (tj_4 (List.mem_of_getElem? (i := 27) rfl)) rfl
theorem wyn_125 : Cond.selects RX8 yX8_ways yX8_ways ∈ WL_ := wl_in (tj_4 (List.mem_of_getElem? (i := 28) rfl)) rfl
theorem wyn_126 : Cond.code yX8_ways cX8_ways 1 (some .int) ∈ WL_ := wl_in (tj_4 (List.mem_of_getElem? (i := 29) rfl)) rfl
theorem wyn_127 : Cond.methodLink RL 79 yX9_ways ∈ WL_ := wl_in (tj_6 (List.mem_of_getElem? (i := 184) rfl)) rfl
theorem wyn_128 : Cond.instanceMethod yX9_ways ∈ WL_ := wl_in (tj_6 (List.mem_of_getElem? (i := 185) rfl)) rfl
theorem wyn_129 : Cond.selects RX9 yX9_ways yX9_ways ∈ WL_ := wl_in (tj_6 (List.mem_of_getElem? (i := 186) rfl)) rfl
theorem wyn_130 : Cond.code yX9_ways cX9_ways 2 (some .int) ∈ WL_ := wl_in (tj_6 (List.mem_of_getElem? (i := 187) rfl)) rfl
section LAWC
variable {adK adV : Nat → Nat} {tA : Nat} {p : Program} {l : Launch} {e : Env} {s : State} {m : MethodId} {args : Array Value} {below : List Frame} {meth : Method} {c : Code} {H : Heap} {locs : List Loc} {Q : State → Prop} {D : va_G} {aC : Nat → ClassId} {A : Nat → Prop} {ls : Array Slot} {a : Nat → Nat → Nat} {b L i : Nat} {xs : Nat → Int32} {x t n n2 v d v2 d2 g w v3 d3 q r o : Ob_T}
set_option maxHeartbeats 4000000 in
set_option maxRecDepth 100000 in
theorem lc_free (hE : EX_ adK adV tA A s s.heap) (hX : K_X p s m args meth c cL_law 4 WL_ RL D aC A) (hSc : va_X b L xs s s.heap) (hbl : b < s.heap.size) (hbA : ¬ A b) (hi : i + 6 ≤ L) (hL : L ≤ 3072) (h : RR_ x t n v w g q r o) (hZ : K_S D A s (FL (BK_ aC a x t n n2 v d v2 d2 g w v3 d3 q r o) A15) H locs) (hl : lv_has ls 4 [(0, .ref b), (1, .ref (a 0 0)), (2, .ref (a 14 0)), (3, .int (nI i))]) (kk : ∀ (x t n n2 v d v2 d2 g w v3 d3 q r o : Ob_T) (H : Heap) (locs : List Loc), RR_ x t n v w g q r o → K_S D A s (FL (BK_ aC a x t n n2 v d v2 d2 g w v3 d3 q r o) A15) H locs → W p l e room_1 s m args below meth c H locs 86 1484 Q (F0 m 1002 ls [])) : W p l e room_1 s m args below meth c H locs 86 1484 Q (F0 m 370 ls []) := by
  obtain ⟨hx, hb, hml, hown, hts, hK, hA, hlk⟩ := id hX
  obtain ⟨u, hu, y, hy, e1, hR⟩ := rr_free h (xs (nI i + 1).toNatClampNeg)
  refine lv_aload_n hx hb dL_law_370 rfl (lv_at hl 1 rfl) ?_
  refine lv_aload_n hx hb dL_law_371 rfl (lv_at hl 0 rfl) ?_
  refine lv_iload_n hx hb dL_law_372 rfl (lv_at hl 3 rfl) ?_
  refine lv_iconst (v := 1) hx hb dL_law_373 (by decide) ?_
  refine lv_iadd hx hb dL_law_374 ?_
  refine va_sld hx hb hSc hbl hbA hZ.2.2 (sc_in (j := 1) (by omega) hL) dL_law_375 ?_
  refine k_LW (B := BK_ aC a x t n n2 v d v2 d2 g w v3 d3 q r o) (B' := BK_ aC a u.2.1 t n n2 v d v2 d2 u.2.2 w v3 d3 q r o) (As := [.int (xs (nI i + 1).toNatClampNeg)]) (rest := []) (v := some (.int u.1)) (st1 := [.int u.1]) hX hl.1 [0, 8] [1, 2, 3, 4, 5, 6, 7, 9, 10, 11, 12, 13, 14] A15 hZ (by decide) (c_X8_free (aC := aC) (a_x := a 0) (a_g := a 8) (a_t := a 1) (a_n := a 2) (a_n2 := a 3) (a_v := a 4) (a_v2 := a 6) (a_w := a 9) (a_q := a 12) (a_r := a 13) x g (xs (nI i + 1).toNatClampNeg) hu) rfl rfl (gv_ wyn_67 wyn_68 wyn_69 wyn_4 wyn_70) rfl hd_X8_free ⟨rfl, rfl⟩ 8 rfl rfl rfl rfl rfl dL_law_376 rfl ⟨rfl, rfl⟩ (fun H locs hZ => ?_)
  refine lv_aload_n hx hb dL_law_379 rfl (lv_at hl 2 rfl) ?_
  refine lv_aload_n hx hb dL_law_380 rfl (lv_at hl 0 rfl) ?_
  refine lv_iload_n hx hb dL_law_381 rfl (lv_at hl 3 rfl) ?_
  refine lv_iconst (v := 1) hx hb dL_law_382 (by decide) ?_
  refine lv_iadd hx hb dL_law_383 ?_
  refine va_sld hx hb hSc hbl hbA hZ.2.2 (sc_in (j := 1) (by omega) hL) dL_law_384 ?_
  refine k_LW (B := BK_ aC a u.2.1 t n n2 v d v2 d2 u.2.2 w v3 d3 q r o) (B' := BK_ aC a u.2.1 t n n2 v d v2 d2 u.2.2 w v3 d3 q r y.2) (As := [.int (xs (nI i + 1).toNatClampNeg)]) (rest := [.int u.1]) (v := some (.int y.1)) (st1 := [.int y.1, .int u.1]) hX hl.1 [14] [0, 1, 2, 3, 4, 5, 6, 7, 8, 9, 10, 11, 12, 13] A15 hZ (by decide) (c_X9_free (aC := aC) (a_o := a 14) o (xs (nI i + 1).toNatClampNeg) hy) rfl rfl (gv_ wyn_71 wyn_72 wyn_73 wyn_9 wyn_74) rfl hd_X9_free ⟨rfl, rfl⟩ 9 rfl rfl rfl rfl rfl dL_law_385 rfl ⟨rfl, rfl⟩ (fun H locs hZ => ?_)
  refine lv_icmp_eq (tgt := 1002) hx hb dL_law_388 (by decide) (fun _ => ?_) (fun cd => absurd e1 cd)
  exact kk _ _ _ _ _ _ _ _ _ _ _ _ _ _ _ _ _ hR hZ
set_option maxHeartbeats 4000000 in
set_option maxRecDepth 100000 in
theorem lc_undo (hE : EX_ adK adV tA A s s.heap) (hX : K_X p s m args meth c cL_law 4 WL_ RL D aC A) (hSc : va_X b L xs s s.heap) (hbl : b < s.heap.size) (hbA : ¬ A b) (hi : i + 6 ≤ L) (hL : L ≤ 3072) (h : RR_ x t n v w g q r o) (hZ : K_S D A s (FL (BK_ aC a x t n n2 v d v2 d2 g w v3 d3 q r o) A15) H locs) (hl : lv_has ls 4 [(0, .ref b), (1, .ref (a 0 0)), (2, .ref (a 14 0)), (3, .int (nI i))]) (kk : ∀ (x t n n2 v d v2 d2 g w v3 d3 q r o : Ob_T) (H : Heap) (locs : List Loc), RR_ x t n v w g q r o → K_S D A s (FL (BK_ aC a x t n n2 v d v2 d2 g w v3 d3 q r o) A15) H locs → W p l e room_1 s m args below meth c H locs 86 1484 Q (F0 m 1002 ls [])) : W p l e room_1 s m args below meth c H locs 86 1484 Q (F0 m 393 ls []) := by
  obtain ⟨hx, hb, hml, hown, hts, hK, hA, hlk⟩ := id hX
  obtain ⟨u, hu, y, hy, e1, hR⟩ := rr_undo h 
  refine lv_aload_n hx hb dL_law_393 rfl (lv_at hl 1 rfl) ?_
  refine k_LW (B := BK_ aC a x t n n2 v d v2 d2 g w v3 d3 q r o) (B' := BK_ aC a u.2.1 t n n2 v d v2 d2 u.2.2 w v3 d3 q r o) (As := []) (rest := []) (v := some (.int u.1)) (st1 := [.int u.1]) hX hl.1 [0, 8] [1, 2, 3, 4, 5, 6, 7, 9, 10, 11, 12, 13, 14] A15 hZ (by decide) (c_X8_undo (aC := aC) (a_x := a 0) (a_g := a 8) (a_t := a 1) (a_n := a 2) (a_n2 := a 3) (a_v := a 4) (a_v2 := a 6) (a_w := a 9) (a_q := a 12) (a_r := a 13) x g hu) rfl rfl (gv_ wyn_75 wyn_76 wyn_77 wyn_4 wyn_78) rfl hd_X8_undo ⟨rfl, rfl⟩ 8 rfl rfl rfl rfl rfl dL_law_394 rfl ⟨rfl, rfl⟩ (fun H locs hZ => ?_)
  refine lv_aload_n hx hb dL_law_397 rfl (lv_at hl 2 rfl) ?_
  refine k_LW (B := BK_ aC a u.2.1 t n n2 v d v2 d2 u.2.2 w v3 d3 q r o) (B' := BK_ aC a u.2.1 t n n2 v d v2 d2 u.2.2 w v3 d3 q r y.2) (As := []) (rest := [.int u.1]) (v := some (.int y.1)) (st1 := [.int y.1, .int u.1]) hX hl.1 [14] [0, 1, 2, 3, 4, 5, 6, 7, 8, 9, 10, 11, 12, 13] A15 hZ (by decide) (c_X9_undo (aC := aC) (a_o := a 14) o  hy) rfl rfl (gv_ wyn_79 wyn_80 wyn_81 wyn_9 wyn_82) rfl hd_X9_undo ⟨rfl, rfl⟩ 9 rfl rfl rfl rfl rfl dL_law_398 rfl ⟨rfl, rfl⟩ (fun H locs hZ => ?_)
  refine lv_icmp_eq (tgt := 1002) hx hb dL_law_401 (by decide) (fun _ => ?_) (fun cd => absurd e1 cd)
  exact kk _ _ _ _ _ _ _ _ _ _ _ _ _ _ _ _ _ hR hZ
set_option maxHeartbeats 4000000 in
set_option maxRecDepth 100000 in
theorem lc_keep (hE : EX_ adK adV tA A s s.heap) (hX : K_X p s m args meth c cL_law 4 WL_ RL D aC A) (hSc : va_X b L xs s s.heap) (hbl : b < s.heap.size) (hbA : ¬ A b) (hi : i + 6 ≤ L) (hL : L ≤ 3072) (h : RR_ x t n v w g q r o) (hZ : K_S D A s (FL (BK_ aC a x t n n2 v d v2 d2 g w v3 d3 q r o) A15) H locs) (hl : lv_has ls 4 [(0, .ref b), (1, .ref (a 0 0)), (2, .ref (a 14 0)), (3, .int (nI i))]) (kk : ∀ (x t n n2 v d v2 d2 g w v3 d3 q r o : Ob_T) (H : Heap) (locs : List Loc), RR_ x t n v w g q r o → K_S D A s (FL (BK_ aC a x t n n2 v d v2 d2 g w v3 d3 q r o) A15) H locs → W p l e room_1 s m args below meth c H locs 86 1484 Q (F0 m 1002 ls [])) : W p l e room_1 s m args below meth c H locs 86 1484 Q (F0 m 406 ls []) := by
  obtain ⟨hx, hb, hml, hown, hts, hK, hA, hlk⟩ := id hX
  obtain ⟨u, hu, y, hy, e1, hR⟩ := rr_keep h (xs (nI i + 1).toNatClampNeg)
  refine lv_aload_n hx hb dL_law_406 rfl (lv_at hl 1 rfl) ?_
  refine lv_aload_n hx hb dL_law_407 rfl (lv_at hl 0 rfl) ?_
  refine lv_iload_n hx hb dL_law_408 rfl (lv_at hl 3 rfl) ?_
  refine lv_iconst (v := 1) hx hb dL_law_409 (by decide) ?_
  refine lv_iadd hx hb dL_law_410 ?_
  refine va_sld hx hb hSc hbl hbA hZ.2.2 (sc_in (j := 1) (by omega) hL) dL_law_411 ?_
  refine k_LW (B := BK_ aC a x t n n2 v d v2 d2 g w v3 d3 q r o) (B' := BK_ aC a x t n n2 v d v2 d2 u.2 w v3 d3 q r o) (As := [.int (xs (nI i + 1).toNatClampNeg)]) (rest := []) (v := some (.int u.1)) (st1 := [.int u.1]) hX hl.1 [0, 8] [1, 2, 3, 4, 5, 6, 7, 9, 10, 11, 12, 13, 14] A15 hZ (by decide) (c_X8_keep (aC := aC) (a_x := a 0) (a_g := a 8) (a_t := a 1) (a_n := a 2) (a_n2 := a 3) (a_v := a 4) (a_v2 := a 6) (a_w := a 9) (a_q := a 12) (a_r := a 13) x g (xs (nI i + 1).toNatClampNeg) hu) rfl rfl (gv_ wyn_83 wyn_84 wyn_85 wyn_4 wyn_86) rfl hd_X8_keep ⟨rfl, rfl⟩ 8 rfl rfl rfl rfl rfl dL_law_412 rfl ⟨rfl, rfl⟩ (fun H locs hZ => ?_)
  refine lv_aload_n hx hb dL_law_415 rfl (lv_at hl 2 rfl) ?_
  refine lv_aload_n hx hb dL_law_416 rfl (lv_at hl 0 rfl) ?_
  refine lv_iload_n hx hb dL_law_417 rfl (lv_at hl 3 rfl) ?_
  refine lv_iconst (v := 1) hx hb dL_law_418 (by decide) ?_
  refine lv_iadd hx hb dL_law_419 ?_
  refine va_sld hx hb hSc hbl hbA hZ.2.2 (sc_in (j := 1) (by omega) hL) dL_law_420 ?_
  refine k_LW (B := BK_ aC a x t n n2 v d v2 d2 u.2 w v3 d3 q r o) (B' := BK_ aC a x t n n2 v d v2 d2 u.2 w v3 d3 q r y.2) (As := [.int (xs (nI i + 1).toNatClampNeg)]) (rest := [.int u.1]) (v := some (.int y.1)) (st1 := [.int y.1, .int u.1]) hX hl.1 [14] [0, 1, 2, 3, 4, 5, 6, 7, 8, 9, 10, 11, 12, 13] A15 hZ (by decide) (c_X9_keep (aC := aC) (a_o := a 14) o (xs (nI i + 1).toNatClampNeg) hy) rfl rfl (gv_ wyn_87 wyn_88 wyn_89 wyn_9 wyn_90) rfl hd_X9_keep ⟨rfl, rfl⟩ 9 rfl rfl rfl rfl rfl dL_law_421 rfl ⟨rfl, rfl⟩ (fun H locs hZ => ?_)
  refine lv_icmp_eq (tgt := 1002) hx hb dL_law_424 (by decide) (fun _ => ?_) (fun cd => absurd e1 cd)
  exact kk _ _ _ _ _ _ _ _ _ _ _ _ _ _ _ _ _ hR hZ
set_option maxHeartbeats 4000000 in
set_option maxRecDepth 100000 in
theorem lc_back (hE : EX_ adK adV tA A s s.heap) (hX : K_X p s m args meth c cL_law 4 WL_ RL D aC A) (hSc : va_X b L xs s s.heap) (hbl : b < s.heap.size) (hbA : ¬ A b) (hi : i + 6 ≤ L) (hL : L ≤ 3072) (h : RR_ x t n v w g q r o) (hZ : K_S D A s (FL (BK_ aC a x t n n2 v d v2 d2 g w v3 d3 q r o) A15) H locs) (hl : lv_has ls 4 [(0, .ref b), (1, .ref (a 0 0)), (2, .ref (a 14 0)), (3, .int (nI i))]) (kk : ∀ (x t n n2 v d v2 d2 g w v3 d3 q r o : Ob_T) (H : Heap) (locs : List Loc), RR_ x t n v w g q r o → K_S D A s (FL (BK_ aC a x t n n2 v d v2 d2 g w v3 d3 q r o) A15) H locs → W p l e room_1 s m args below meth c H locs 86 1484 Q (F0 m 1002 ls [])) : W p l e room_1 s m args below meth c H locs 86 1484 Q (F0 m 429 ls []) := by
  obtain ⟨hx, hb, hml, hown, hts, hK, hA, hlk⟩ := id hX
  obtain ⟨u, hu, y, hy, e1, hR⟩ := rr_back h (xs (nI i + 1).toNatClampNeg)
  refine lv_aload_n hx hb dL_law_429 rfl (lv_at hl 1 rfl) ?_
  refine lv_aload_n hx hb dL_law_430 rfl (lv_at hl 0 rfl) ?_
  refine lv_iload_n hx hb dL_law_431 rfl (lv_at hl 3 rfl) ?_
  refine lv_iconst (v := 1) hx hb dL_law_432 (by decide) ?_
  refine lv_iadd hx hb dL_law_433 ?_
  refine va_sld hx hb hSc hbl hbA hZ.2.2 (sc_in (j := 1) (by omega) hL) dL_law_434 ?_
  refine k_LW (B := BK_ aC a x t n n2 v d v2 d2 g w v3 d3 q r o) (B' := BK_ aC a u.2.1 t n n2 v d v2 d2 u.2.2 w v3 d3 q r o) (As := [.int (xs (nI i + 1).toNatClampNeg)]) (rest := []) (v := some (.int u.1)) (st1 := [.int u.1]) hX hl.1 [0, 8] [1, 2, 3, 4, 5, 6, 7, 9, 10, 11, 12, 13, 14] A15 hZ (by decide) (c_X8_back (aC := aC) (a_x := a 0) (a_g := a 8) (a_t := a 1) (a_n := a 2) (a_n2 := a 3) (a_v := a 4) (a_v2 := a 6) (a_w := a 9) (a_q := a 12) (a_r := a 13) x g (xs (nI i + 1).toNatClampNeg) hu) rfl rfl (gv_ wyn_91 wyn_92 wyn_93 wyn_4 wyn_94) rfl hd_X8_back ⟨rfl, rfl⟩ 8 rfl rfl rfl rfl rfl dL_law_435 rfl ⟨rfl, rfl⟩ (fun H locs hZ => ?_)
  refine lv_aload_n hx hb dL_law_438 rfl (lv_at hl 2 rfl) ?_
  refine lv_aload_n hx hb dL_law_439 rfl (lv_at hl 0 rfl) ?_
  refine lv_iload_n hx hb dL_law_440 rfl (lv_at hl 3 rfl) ?_
  refine lv_iconst (v := 1) hx hb dL_law_441 (by decide) ?_
  refine lv_iadd hx hb dL_law_442 ?_
  refine va_sld hx hb hSc hbl hbA hZ.2.2 (sc_in (j := 1) (by omega) hL) dL_law_443 ?_
  refine k_LW (B := BK_ aC a u.2.1 t n n2 v d v2 d2 u.2.2 w v3 d3 q r o) (B' := BK_ aC a u.2.1 t n n2 v d v2 d2 u.2.2 w v3 d3 q r y.2) (As := [.int (xs (nI i + 1).toNatClampNeg)]) (rest := [.int u.1]) (v := some (.int y.1)) (st1 := [.int y.1, .int u.1]) hX hl.1 [14] [0, 1, 2, 3, 4, 5, 6, 7, 8, 9, 10, 11, 12, 13] A15 hZ (by decide) (c_X9_back (aC := aC) (a_o := a 14) o (xs (nI i + 1).toNatClampNeg) hy) rfl rfl (gv_ wyn_95 wyn_96 wyn_97 wyn_9 wyn_98) rfl hd_X9_back ⟨rfl, rfl⟩ 9 rfl rfl rfl rfl rfl dL_law_444 rfl ⟨rfl, rfl⟩ (fun H locs hZ => ?_)
  refine lv_icmp_eq (tgt := 1002) hx hb dL_law_447 (by decide) (fun _ => ?_) (fun cd => absurd e1 cd)
  exact kk _ _ _ _ _ _ _ _ _ _ _ _ _ _ _ _ _ hR hZ
set_option maxHeartbeats 4000000 in
set_option maxRecDepth 100000 in
theorem lc_letter (hE : EX_ adK adV tA A s s.heap) (hX : K_X p s m args meth c cL_law 4 WL_ RL D aC A) (hSc : va_X b L xs s s.heap) (hbl : b < s.heap.size) (hbA : ¬ A b) (hi : i + 6 ≤ L) (hL : L ≤ 3072) (h : RR_ x t n v w g q r o) (hZ : K_S D A s (FL (BK_ aC a x t n n2 v d v2 d2 g w v3 d3 q r o) A15) H locs) (hl : lv_has ls 4 [(0, .ref b), (1, .ref (a 0 0)), (2, .ref (a 14 0)), (3, .int (nI i))]) (kk : ∀ (x t n n2 v d v2 d2 g w v3 d3 q r o : Ob_T) (H : Heap) (locs : List Loc), RR_ x t n v w g q r o → K_S D A s (FL (BK_ aC a x t n n2 v d v2 d2 g w v3 d3 q r o) A15) H locs → W p l e room_1 s m args below meth c H locs 86 1484 Q (F0 m 1002 ls [])) : W p l e room_1 s m args below meth c H locs 86 1484 Q (F0 m 452 ls []) := by
  obtain ⟨hx, hb, hml, hown, hts, hK, hA, hlk⟩ := id hX
  obtain ⟨u, hu, y, hy, e1, hR⟩ := rr_letter h d (xs (nI i + 1).toNatClampNeg)
  refine lv_aload_n hx hb dL_law_452 rfl (lv_at hl 1 rfl) ?_
  refine lv_aload_n hx hb dL_law_453 rfl (lv_at hl 0 rfl) ?_
  refine lv_iload_n hx hb dL_law_454 rfl (lv_at hl 3 rfl) ?_
  refine lv_iconst (v := 1) hx hb dL_law_455 (by decide) ?_
  refine lv_iadd hx hb dL_law_456 ?_
  refine va_sld hx hb hSc hbl hbA hZ.2.2 (sc_in (j := 1) (by omega) hL) dL_law_457 ?_
  refine k_LW (B := BK_ aC a x t n n2 v d v2 d2 g w v3 d3 q r o) (B' := BK_ aC a u.2.1 t n n2 u.2.2.1 u.2.2.2 v2 d2 g w v3 d3 q r o) (As := [.int (xs (nI i + 1).toNatClampNeg)]) (rest := []) (v := some (.int u.1)) (st1 := [.int u.1]) hX hl.1 [0, 2, 4, 5, 8] [1, 3, 6, 7, 9, 10, 11, 12, 13, 14] A15 hZ (by decide) (c_X8_letter (aC := aC) (a_x := a 0) (a_n := a 2) (a_v := a 4) (a_d := a 5) (a_g := a 8) (a_t := a 1) (a_n2 := a 3) (a_v2 := a 6) (a_w := a 9) (a_q := a 12) (a_r := a 13) x n v d g (xs (nI i + 1).toNatClampNeg) hu) rfl rfl (gv_ wyn_99 wyn_100 wyn_101 wyn_4 wyn_102) rfl hd_X8_letter ⟨rfl, rfl⟩ 8 rfl rfl rfl rfl rfl dL_law_458 rfl ⟨rfl, rfl⟩ (fun H locs hZ => ?_)
  refine lv_aload_n hx hb dL_law_461 rfl (lv_at hl 2 rfl) ?_
  refine lv_aload_n hx hb dL_law_462 rfl (lv_at hl 0 rfl) ?_
  refine lv_iload_n hx hb dL_law_463 rfl (lv_at hl 3 rfl) ?_
  refine lv_iconst (v := 1) hx hb dL_law_464 (by decide) ?_
  refine lv_iadd hx hb dL_law_465 ?_
  refine va_sld hx hb hSc hbl hbA hZ.2.2 (sc_in (j := 1) (by omega) hL) dL_law_466 ?_
  refine k_LW (B := BK_ aC a u.2.1 t n n2 u.2.2.1 u.2.2.2 v2 d2 g w v3 d3 q r o) (B' := BK_ aC a u.2.1 t n n2 u.2.2.1 u.2.2.2 v2 d2 g w v3 d3 q r y.2) (As := [.int (xs (nI i + 1).toNatClampNeg)]) (rest := [.int u.1]) (v := some (.int y.1)) (st1 := [.int y.1, .int u.1]) hX hl.1 [14] [0, 1, 2, 3, 4, 5, 6, 7, 8, 9, 10, 11, 12, 13] A15 hZ (by decide) (c_X9_letter (aC := aC) (a_o := a 14) o (xs (nI i + 1).toNatClampNeg) hy) rfl rfl (gv_ wyn_103 wyn_104 wyn_105 wyn_9 wyn_106) rfl hd_X9_letter ⟨rfl, rfl⟩ 9 rfl rfl rfl rfl rfl dL_law_467 rfl ⟨rfl, rfl⟩ (fun H locs hZ => ?_)
  refine lv_icmp_eq (tgt := 1002) hx hb dL_law_470 (by decide) (fun _ => ?_) (fun cd => absurd e1 cd)
  exact kk _ _ _ _ _ _ _ _ _ _ _ _ _ _ _ _ _ hR hZ
set_option maxHeartbeats 4000000 in
set_option maxRecDepth 100000 in
theorem lc_fails (hE : EX_ adK adV tA A s s.heap) (hX : K_X p s m args meth c cL_law 4 WL_ RL D aC A) (hSc : va_X b L xs s s.heap) (hbl : b < s.heap.size) (hbA : ¬ A b) (hi : i + 6 ≤ L) (hL : L ≤ 3072) (h : RR_ x t n v w g q r o) (hZ : K_S D A s (FL (BK_ aC a x t n n2 v d v2 d2 g w v3 d3 q r o) A15) H locs) (hl : lv_has ls 4 [(0, .ref b), (1, .ref (a 0 0)), (2, .ref (a 14 0)), (3, .int (nI i))]) (kk : ∀ (x t n n2 v d v2 d2 g w v3 d3 q r o : Ob_T) (H : Heap) (locs : List Loc), RR_ x t n v w g q r o → K_S D A s (FL (BK_ aC a x t n n2 v d v2 d2 g w v3 d3 q r o) A15) H locs → W p l e room_1 s m args below meth c H locs 86 1484 Q (F0 m 1002 ls [])) : W p l e room_1 s m args below meth c H locs 86 1484 Q (F0 m 475 ls []) := by
  obtain ⟨hx, hb, hml, hown, hts, hK, hA, hlk⟩ := id hX
  obtain ⟨u, hu, y, hy, e1, hR⟩ := rr_fails h d (xs (nI i + 1).toNatClampNeg)
  refine lv_aload_n hx hb dL_law_475 rfl (lv_at hl 1 rfl) ?_
  refine lv_aload_n hx hb dL_law_476 rfl (lv_at hl 0 rfl) ?_
  refine lv_iload_n hx hb dL_law_477 rfl (lv_at hl 3 rfl) ?_
  refine lv_iconst (v := 1) hx hb dL_law_478 (by decide) ?_
  refine lv_iadd hx hb dL_law_479 ?_
  refine va_sld hx hb hSc hbl hbA hZ.2.2 (sc_in (j := 1) (by omega) hL) dL_law_480 ?_
  refine k_LW (B := BK_ aC a x t n n2 v d v2 d2 g w v3 d3 q r o) (B' := BK_ aC a u.2.1 t n n2 u.2.2.1 u.2.2.2 v2 d2 g w v3 d3 q r o) (As := [.int (xs (nI i + 1).toNatClampNeg)]) (rest := []) (v := some (.int u.1)) (st1 := [.int u.1]) hX hl.1 [0, 2, 4, 5, 8] [1, 3, 6, 7, 9, 10, 11, 12, 13, 14] A15 hZ (by decide) (c_X8_fails (aC := aC) (a_x := a 0) (a_n := a 2) (a_v := a 4) (a_d := a 5) (a_g := a 8) (a_t := a 1) (a_n2 := a 3) (a_v2 := a 6) (a_w := a 9) (a_q := a 12) (a_r := a 13) x n v d g (xs (nI i + 1).toNatClampNeg) hu) rfl rfl (gv_ wyn_107 wyn_108 wyn_109 wyn_4 wyn_110) rfl hd_X8_fails ⟨rfl, rfl⟩ 8 rfl rfl rfl rfl rfl dL_law_481 rfl ⟨rfl, rfl⟩ (fun H locs hZ => ?_)
  refine lv_aload_n hx hb dL_law_484 rfl (lv_at hl 2 rfl) ?_
  refine lv_aload_n hx hb dL_law_485 rfl (lv_at hl 0 rfl) ?_
  refine lv_iload_n hx hb dL_law_486 rfl (lv_at hl 3 rfl) ?_
  refine lv_iconst (v := 1) hx hb dL_law_487 (by decide) ?_
  refine lv_iadd hx hb dL_law_488 ?_
  refine va_sld hx hb hSc hbl hbA hZ.2.2 (sc_in (j := 1) (by omega) hL) dL_law_489 ?_
  refine k_LW (B := BK_ aC a u.2.1 t n n2 u.2.2.1 u.2.2.2 v2 d2 g w v3 d3 q r o) (B' := BK_ aC a u.2.1 t n n2 u.2.2.1 u.2.2.2 v2 d2 g w v3 d3 q r y.2) (As := [.int (xs (nI i + 1).toNatClampNeg)]) (rest := [.int u.1]) (v := some (.int y.1)) (st1 := [.int y.1, .int u.1]) hX hl.1 [14] [0, 1, 2, 3, 4, 5, 6, 7, 8, 9, 10, 11, 12, 13] A15 hZ (by decide) (c_X9_fails (aC := aC) (a_o := a 14) o (xs (nI i + 1).toNatClampNeg) hy) rfl rfl (gv_ wyn_111 wyn_112 wyn_113 wyn_9 wyn_114) rfl hd_X9_fails ⟨rfl, rfl⟩ 9 rfl rfl rfl rfl rfl dL_law_490 rfl ⟨rfl, rfl⟩ (fun H locs hZ => ?_)
  refine lv_icmp_eq (tgt := 1002) hx hb dL_law_493 (by decide) (fun _ => ?_) (fun cd => absurd e1 cd)
  exact kk _ _ _ _ _ _ _ _ _ _ _ _ _ _ _ _ _ hR hZ
set_option maxHeartbeats 4000000 in
set_option maxRecDepth 100000 in
theorem lc_open (hE : EX_ adK adV tA A s s.heap) (hX : K_X p s m args meth c cL_law 4 WL_ RL D aC A) (hSc : va_X b L xs s s.heap) (hbl : b < s.heap.size) (hbA : ¬ A b) (hi : i + 6 ≤ L) (hL : L ≤ 3072) (h : RR_ x t n v w g q r o) (hZ : K_S D A s (FL (BK_ aC a x t n n2 v d v2 d2 g w v3 d3 q r o) A15) H locs) (hl : lv_has ls 4 [(0, .ref b), (1, .ref (a 0 0)), (2, .ref (a 14 0)), (3, .int (nI i))]) (kk : ∀ (x t n n2 v d v2 d2 g w v3 d3 q r o : Ob_T) (H : Heap) (locs : List Loc), RR_ x t n v w g q r o → K_S D A s (FL (BK_ aC a x t n n2 v d v2 d2 g w v3 d3 q r o) A15) H locs → W p l e room_1 s m args below meth c H locs 86 1484 Q (F0 m 1002 ls [])) : W p l e room_1 s m args below meth c H locs 86 1484 Q (F0 m 498 ls []) := by
  obtain ⟨hx, hb, hml, hown, hts, hK, hA, hlk⟩ := id hX
  obtain ⟨u, hu, y, hy, e1, hR⟩ := rr_open h d
  refine lv_aload_n hx hb dL_law_498 rfl (lv_at hl 1 rfl) ?_
  refine k_LW (B := BK_ aC a x t n n2 v d v2 d2 g w v3 d3 q r o) (B' := BK_ aC a u.2.1 t n n2 u.2.2.1 u.2.2.2 v2 d2 g w v3 d3 q r o) (As := []) (rest := []) (v := some (.int u.1)) (st1 := [.int u.1]) hX hl.1 [0, 2, 4, 5, 8] [1, 3, 6, 7, 9, 10, 11, 12, 13, 14] A15 hZ (by decide) (c_X8_open (aC := aC) (a_x := a 0) (a_n := a 2) (a_v := a 4) (a_d := a 5) (a_g := a 8) (a_t := a 1) (a_n2 := a 3) (a_v2 := a 6) (a_w := a 9) (a_q := a 12) (a_r := a 13) x n v d g hu) rfl rfl (gv_ wyn_115 wyn_116 wyn_117 wyn_4 wyn_118) rfl hd_X8_open ⟨rfl, rfl⟩ 8 rfl rfl rfl rfl rfl dL_law_499 rfl ⟨rfl, rfl⟩ (fun H locs hZ => ?_)
  refine lv_aload_n hx hb dL_law_502 rfl (lv_at hl 2 rfl) ?_
  refine k_LW (B := BK_ aC a u.2.1 t n n2 u.2.2.1 u.2.2.2 v2 d2 g w v3 d3 q r o) (B' := BK_ aC a u.2.1 t n n2 u.2.2.1 u.2.2.2 v2 d2 g w v3 d3 q r y.2) (As := []) (rest := [.int u.1]) (v := some (.int y.1)) (st1 := [.int y.1, .int u.1]) hX hl.1 [14] [0, 1, 2, 3, 4, 5, 6, 7, 8, 9, 10, 11, 12, 13] A15 hZ (by decide) (c_X9_open (aC := aC) (a_o := a 14) o  hy) rfl rfl (gv_ wyn_119 wyn_120 wyn_121 wyn_9 wyn_122) rfl hd_X9_open ⟨rfl, rfl⟩ 9 rfl rfl rfl rfl rfl dL_law_503 rfl ⟨rfl, rfl⟩ (fun H locs hZ => ?_)
  refine lv_icmp_eq (tgt := 1002) hx hb dL_law_506 (by decide) (fun _ => ?_) (fun cd => absurd e1 cd)
  exact kk _ _ _ _ _ _ _ _ _ _ _ _ _ _ _ _ _ hR hZ
set_option maxHeartbeats 4000000 in
set_option maxRecDepth 100000 in
theorem lc_ways (hE : EX_ adK adV tA A s s.heap) (hX : K_X p s m args meth c cL_law 4 WL_ RL D aC A) (hSc : va_X b L xs s s.heap) (hbl : b < s.heap.size) (hbA : ¬ A b) (hi : i + 6 ≤ L) (hL : L ≤ 3072) (h : RR_ x t n v w g q r o) (hZ : K_S D A s (FL (BK_ aC a x t n n2 v d v2 d2 g w v3 d3 q r o) A15) H locs) (hl : lv_has ls 4 [(0, .ref b), (1, .ref (a 0 0)), (2, .ref (a 14 0)), (3, .int (nI i))]) (kk : ∀ (x t n n2 v d v2 d2 g w v3 d3 q r o : Ob_T) (H : Heap) (locs : List Loc), RR_ x t n v w g q r o → K_S D A s (FL (BK_ aC a x t n n2 v d v2 d2 g w v3 d3 q r o) A15) H locs → W p l e room_1 s m args below meth c H locs 86 1484 Q (F0 m 1002 ls [])) : W p l e room_1 s m args below meth c H locs 86 1484 Q (F0 m 511 ls []) := by
  obtain ⟨hx, hb, hml, hown, hts, hK, hA, hlk⟩ := id hX
  obtain ⟨u, hu, y, hy, e1, hR⟩ := rr_ways h d v3 d3
  refine lv_aload_n hx hb dL_law_511 rfl (lv_at hl 1 rfl) ?_
  refine k_LW (B := BK_ aC a x t n n2 v d v2 d2 g w v3 d3 q r o) (B' := BK_ aC a u.2.1 t n n2 u.2.2.1 u.2.2.2.1 v2 d2 g u.2.2.2.2.1 u.2.2.2.2.2.1 u.2.2.2.2.2.2 q r o) (As := []) (rest := []) (v := some (.int u.1)) (st1 := [.int u.1]) hX hl.1 [0, 2, 4, 5, 8, 9, 10, 11] [1, 3, 6, 7, 12, 13, 14] A15 hZ (by decide) (c_X8_ways (aC := aC) (a_x := a 0) (a_n := a 2) (a_v := a 4) (a_d := a 5) (a_g := a 8) (a_w := a 9) (a_v3 := a 10) (a_d3 := a 11) (a_t := a 1) (a_n2 := a 3) (a_v2 := a 6) (a_q := a 12) (a_r := a 13) x n v d g w v3 d3 hu) rfl rfl (gv_ wyn_123 wyn_124 wyn_125 wyn_4 wyn_126) rfl hd_X8_ways ⟨rfl, rfl⟩ 8 rfl rfl rfl rfl rfl dL_law_512 rfl ⟨rfl, rfl⟩ (fun H locs hZ => ?_)
  refine lv_aload_n hx hb dL_law_515 rfl (lv_at hl 2 rfl) ?_
  refine k_LW (B := BK_ aC a u.2.1 t n n2 u.2.2.1 u.2.2.2.1 v2 d2 g u.2.2.2.2.1 u.2.2.2.2.2.1 u.2.2.2.2.2.2 q r o) (B' := BK_ aC a u.2.1 t n n2 u.2.2.1 u.2.2.2.1 v2 d2 g u.2.2.2.2.1 u.2.2.2.2.2.1 u.2.2.2.2.2.2 q r y.2) (As := []) (rest := [.int u.1]) (v := some (.int y.1)) (st1 := [.int y.1, .int u.1]) hX hl.1 [14] [0, 1, 2, 3, 4, 5, 6, 7, 8, 9, 10, 11, 12, 13] A15 hZ (by decide) (c_X9_ways (aC := aC) (a_o := a 14) o  hy) rfl rfl (gv_ wyn_127 wyn_128 wyn_129 wyn_9 wyn_130) rfl hd_X9_ways ⟨rfl, rfl⟩ 9 rfl rfl rfl rfl rfl dL_law_516 rfl ⟨rfl, rfl⟩ (fun H locs hZ => ?_)
  refine lv_icmp_eq (tgt := 1002) hx hb dL_law_519 (by decide) (fun _ => ?_) (fun cd => absurd e1 cd)
  exact kk _ _ _ _ _ _ _ _ _ _ _ _ _ _ _ _ _ hR hZ
end LAWC
