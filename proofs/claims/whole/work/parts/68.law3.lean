/-! the law: cases 2 -/
theorem dL_law_412 : decode code 412 = .ok (.aload_n 1, 1) := by decide +kernel
theorem dL_law_413 : decode code 413 = .ok (.aload_n 0, 1) := by decide +kernel
theorem dL_law_414 : decode code 414 = .ok (.iload 4, 2) := by decide +kernel
theorem dL_law_416 : decode code 416 = .ok (.iconst 1, 1) := by decide +kernel
theorem dL_law_417 : decode code 417 = .ok (.iadd, 1) := by decide +kernel
theorem dL_law_418 : decode code 418 = .ok (.iaload, 1) := by decide +kernel
theorem dL_law_419 : decode code 419 = .ok (.aload_n 0, 1) := by decide +kernel
theorem dL_law_420 : decode code 420 = .ok (.iload 4, 2) := by decide +kernel
theorem dL_law_422 : decode code 422 = .ok (.iconst 2, 1) := by decide +kernel
theorem dL_law_423 : decode code 423 = .ok (.iadd, 1) := by decide +kernel
theorem dL_law_424 : decode code 424 = .ok (.iaload, 1) := by decide +kernel
theorem dL_law_425 : decode code 425 = .ok (.aload_n 3, 1) := by decide +kernel
theorem dL_law_426 : decode code 426 = .ok (.invokestatic 97, 3) := by decide +kernel
theorem dL_law_429 : decode code 429 = .ok (.istore 5, 2) := by decide +kernel
theorem dL_law_431 : decode code 431 = .ok (.aload_n 2, 1) := by decide +kernel
theorem dL_law_432 : decode code 432 = .ok (.aload_n 0, 1) := by decide +kernel
theorem dL_law_433 : decode code 433 = .ok (.iload 4, 2) := by decide +kernel
theorem dL_law_435 : decode code 435 = .ok (.iconst 1, 1) := by decide +kernel
theorem dL_law_436 : decode code 436 = .ok (.iadd, 1) := by decide +kernel
theorem dL_law_437 : decode code 437 = .ok (.iaload, 1) := by decide +kernel
theorem dL_law_438 : decode code 438 = .ok (.aload_n 0, 1) := by decide +kernel
theorem dL_law_439 : decode code 439 = .ok (.iload 4, 2) := by decide +kernel
theorem dL_law_441 : decode code 441 = .ok (.iconst 2, 1) := by decide +kernel
theorem dL_law_442 : decode code 442 = .ok (.iadd, 1) := by decide +kernel
theorem dL_law_443 : decode code 443 = .ok (.iaload, 1) := by decide +kernel
theorem dL_law_444 : decode code 444 = .ok (.invokevirtual 99, 3) := by decide +kernel
theorem dL_law_447 : decode code 447 = .ok (.istore 6, 2) := by decide +kernel
theorem dL_law_449 : decode code 449 = .ok (.aload_n 2, 1) := by decide +kernel
theorem dL_law_450 : decode code 450 = .ok (.invokevirtual 84, 3) := by decide +kernel
theorem dL_law_453 : decode code 453 = .ok (.iload 5, 2) := by decide +kernel
theorem dL_law_455 : decode code 455 = .ok (.if_icmp .eq 5, 3) := by decide +kernel
theorem dL_law_458 : decode code 458 = .ok (.iconst 0, 1) := by decide +kernel
theorem dL_law_459 : decode code 459 = .ok (.ireturn, 1) := by decide +kernel
theorem dL_law_460 : decode code 460 = .ok (.iload 5, 2) := by decide +kernel
theorem dL_law_462 : decode code 462 = .ok (.ifCond .ne 15, 3) := by decide +kernel
theorem dL_law_465 : decode code 465 = .ok (.aload_n 3, 1) := by decide +kernel
theorem dL_law_466 : decode code 466 = .ok (.iconst 0, 1) := by decide +kernel
theorem dL_law_467 : decode code 467 = .ok (.laload, 1) := by decide +kernel
theorem dL_law_468 : decode code 468 = .ok (.iload 6, 2) := by decide +kernel
theorem dL_law_470 : decode code 470 = .ok (.i2l, 1) := by decide +kernel
theorem dL_law_471 : decode code 471 = .ok (.lcmp, 1) := by decide +kernel
theorem dL_law_472 : decode code 472 = .ok (.ifCond .eq 5, 3) := by decide +kernel
theorem dL_law_475 : decode code 475 = .ok (.iconst 0, 1) := by decide +kernel
theorem dL_law_476 : decode code 476 = .ok (.ireturn, 1) := by decide +kernel
theorem dL_law_477 : decode code 477 = .ok (.goto 935, 3) := by decide +kernel
theorem dL_law_480 : decode code 480 = .ok (.aload_n 1, 1) := by decide +kernel
theorem dL_law_481 : decode code 481 = .ok (.aload_n 0, 1) := by decide +kernel
theorem dL_law_482 : decode code 482 = .ok (.iload 4, 2) := by decide +kernel
theorem dL_law_484 : decode code 484 = .ok (.iconst 1, 1) := by decide +kernel
theorem dL_law_485 : decode code 485 = .ok (.iadd, 1) := by decide +kernel
theorem dL_law_486 : decode code 486 = .ok (.iaload, 1) := by decide +kernel
theorem dL_law_487 : decode code 487 = .ok (.aload_n 0, 1) := by decide +kernel
theorem dL_law_488 : decode code 488 = .ok (.iload 4, 2) := by decide +kernel
theorem dL_law_490 : decode code 490 = .ok (.iconst 2, 1) := by decide +kernel
theorem dL_law_491 : decode code 491 = .ok (.iadd, 1) := by decide +kernel
theorem dL_law_492 : decode code 492 = .ok (.iaload, 1) := by decide +kernel
theorem dL_law_493 : decode code 493 = .ok (.aload_n 3, 1) := by decide +kernel
theorem dL_law_494 : decode code 494 = .ok (.invokestatic 100, 3) := by decide +kernel
theorem dL_law_497 : decode code 497 = .ok (.istore 5, 2) := by decide +kernel
theorem dL_law_499 : decode code 499 = .ok (.aload_n 2, 1) := by decide +kernel
theorem dL_law_500 : decode code 500 = .ok (.aload_n 0, 1) := by decide +kernel
theorem dL_law_501 : decode code 501 = .ok (.iload 4, 2) := by decide +kernel
theorem dL_law_503 : decode code 503 = .ok (.iconst 1, 1) := by decide +kernel
theorem dL_law_504 : decode code 504 = .ok (.iadd, 1) := by decide +kernel
theorem dL_law_505 : decode code 505 = .ok (.iaload, 1) := by decide +kernel
theorem dL_law_506 : decode code 506 = .ok (.aload_n 0, 1) := by decide +kernel
theorem dL_law_507 : decode code 507 = .ok (.iload 4, 2) := by decide +kernel
theorem dL_law_509 : decode code 509 = .ok (.iconst 2, 1) := by decide +kernel
theorem dL_law_510 : decode code 510 = .ok (.iadd, 1) := by decide +kernel
theorem dL_law_511 : decode code 511 = .ok (.iaload, 1) := by decide +kernel
theorem dL_law_512 : decode code 512 = .ok (.invokevirtual 102, 3) := by decide +kernel
theorem dL_law_515 : decode code 515 = .ok (.istore 6, 2) := by decide +kernel
theorem dL_law_517 : decode code 517 = .ok (.aload_n 2, 1) := by decide +kernel
theorem dL_law_518 : decode code 518 = .ok (.invokevirtual 84, 3) := by decide +kernel
theorem dL_law_521 : decode code 521 = .ok (.iload 5, 2) := by decide +kernel
theorem dL_law_523 : decode code 523 = .ok (.if_icmp .eq 5, 3) := by decide +kernel
theorem dL_law_526 : decode code 526 = .ok (.iconst 0, 1) := by decide +kernel
theorem dL_law_527 : decode code 527 = .ok (.ireturn, 1) := by decide +kernel
theorem dL_law_528 : decode code 528 = .ok (.iload 5, 2) := by decide +kernel
theorem dL_law_530 : decode code 530 = .ok (.ifCond .ne 15, 3) := by decide +kernel
theorem dL_law_533 : decode code 533 = .ok (.aload_n 3, 1) := by decide +kernel
theorem dL_law_534 : decode code 534 = .ok (.iconst 0, 1) := by decide +kernel
theorem dL_law_535 : decode code 535 = .ok (.laload, 1) := by decide +kernel
theorem dL_law_536 : decode code 536 = .ok (.iload 6, 2) := by decide +kernel
theorem dL_law_538 : decode code 538 = .ok (.i2l, 1) := by decide +kernel
theorem dL_law_539 : decode code 539 = .ok (.lcmp, 1) := by decide +kernel
theorem dL_law_540 : decode code 540 = .ok (.ifCond .eq 5, 3) := by decide +kernel
theorem dL_law_543 : decode code 543 = .ok (.iconst 0, 1) := by decide +kernel
theorem dL_law_544 : decode code 544 = .ok (.ireturn, 1) := by decide +kernel
theorem dL_law_545 : decode code 545 = .ok (.goto 867, 3) := by decide +kernel
theorem dL_law_548 : decode code 548 = .ok (.aload_n 1, 1) := by decide +kernel
theorem dL_law_549 : decode code 549 = .ok (.aload_n 0, 1) := by decide +kernel
theorem dL_law_550 : decode code 550 = .ok (.iload 4, 2) := by decide +kernel
theorem dL_law_552 : decode code 552 = .ok (.iconst 1, 1) := by decide +kernel
theorem dL_law_553 : decode code 553 = .ok (.iadd, 1) := by decide +kernel
theorem dL_law_554 : decode code 554 = .ok (.iaload, 1) := by decide +kernel
theorem dL_law_555 : decode code 555 = .ok (.aload_n 0, 1) := by decide +kernel
theorem dL_law_556 : decode code 556 = .ok (.iload 4, 2) := by decide +kernel
theorem dL_law_558 : decode code 558 = .ok (.iconst 2, 1) := by decide +kernel
theorem dL_law_559 : decode code 559 = .ok (.iadd, 1) := by decide +kernel
theorem dL_law_560 : decode code 560 = .ok (.iaload, 1) := by decide +kernel
theorem dL_law_561 : decode code 561 = .ok (.aload_n 3, 1) := by decide +kernel
theorem dL_law_562 : decode code 562 = .ok (.invokestatic 103, 3) := by decide +kernel
theorem dL_law_565 : decode code 565 = .ok (.istore 5, 2) := by decide +kernel
theorem dL_law_567 : decode code 567 = .ok (.aload_n 2, 1) := by decide +kernel
theorem dL_law_568 : decode code 568 = .ok (.aload_n 0, 1) := by decide +kernel
theorem dL_law_569 : decode code 569 = .ok (.iload 4, 2) := by decide +kernel
theorem dL_law_571 : decode code 571 = .ok (.iconst 1, 1) := by decide +kernel
theorem dL_law_572 : decode code 572 = .ok (.iadd, 1) := by decide +kernel
theorem dL_law_573 : decode code 573 = .ok (.iaload, 1) := by decide +kernel
theorem dL_law_574 : decode code 574 = .ok (.aload_n 0, 1) := by decide +kernel
theorem dL_law_575 : decode code 575 = .ok (.iload 4, 2) := by decide +kernel
theorem dL_law_577 : decode code 577 = .ok (.iconst 2, 1) := by decide +kernel
theorem dL_law_578 : decode code 578 = .ok (.iadd, 1) := by decide +kernel
theorem dL_law_579 : decode code 579 = .ok (.iaload, 1) := by decide +kernel
theorem dL_law_580 : decode code 580 = .ok (.invokevirtual 105, 3) := by decide +kernel
theorem dL_law_583 : decode code 583 = .ok (.istore 6, 2) := by decide +kernel
theorem dL_law_585 : decode code 585 = .ok (.aload_n 2, 1) := by decide +kernel
theorem dL_law_586 : decode code 586 = .ok (.invokevirtual 84, 3) := by decide +kernel
theorem dL_law_589 : decode code 589 = .ok (.iload 5, 2) := by decide +kernel
theorem dL_law_591 : decode code 591 = .ok (.if_icmp .eq 5, 3) := by decide +kernel
theorem dL_law_594 : decode code 594 = .ok (.iconst 0, 1) := by decide +kernel
theorem dL_law_595 : decode code 595 = .ok (.ireturn, 1) := by decide +kernel
theorem dL_law_596 : decode code 596 = .ok (.iload 5, 2) := by decide +kernel
theorem dL_law_598 : decode code 598 = .ok (.ifCond .ne 15, 3) := by decide +kernel
theorem dL_law_601 : decode code 601 = .ok (.aload_n 3, 1) := by decide +kernel
theorem dL_law_602 : decode code 602 = .ok (.iconst 0, 1) := by decide +kernel
theorem dL_law_603 : decode code 603 = .ok (.laload, 1) := by decide +kernel
theorem dL_law_604 : decode code 604 = .ok (.iload 6, 2) := by decide +kernel
theorem dL_law_606 : decode code 606 = .ok (.i2l, 1) := by decide +kernel
theorem dL_law_607 : decode code 607 = .ok (.lcmp, 1) := by decide +kernel
theorem dL_law_608 : decode code 608 = .ok (.ifCond .eq 5, 3) := by decide +kernel
theorem dL_law_611 : decode code 611 = .ok (.iconst 0, 1) := by decide +kernel
theorem dL_law_612 : decode code 612 = .ok (.ireturn, 1) := by decide +kernel
theorem dL_law_613 : decode code 613 = .ok (.goto 799, 3) := by decide +kernel
theorem dL_law_616 : decode code 616 = .ok (.aload_n 1, 1) := by decide +kernel
theorem dL_law_617 : decode code 617 = .ok (.invokevirtual 106, 3) := by decide +kernel
theorem dL_law_620 : decode code 620 = .ok (.aload_n 2, 1) := by decide +kernel
theorem dL_law_621 : decode code 621 = .ok (.invokevirtual 109, 3) := by decide +kernel
theorem dL_law_624 : decode code 624 = .ok (.if_icmp .eq 788, 3) := by decide +kernel
theorem dL_law_627 : decode code 627 = .ok (.iconst 0, 1) := by decide +kernel
theorem dL_law_628 : decode code 628 = .ok (.ireturn, 1) := by decide +kernel
theorem dL_law_629 : decode code 629 = .ok (.aload_n 1, 1) := by decide +kernel
theorem dL_law_630 : decode code 630 = .ok (.aload_n 0, 1) := by decide +kernel
theorem dL_law_631 : decode code 631 = .ok (.iload 4, 2) := by decide +kernel
theorem dL_law_633 : decode code 633 = .ok (.iconst 1, 1) := by decide +kernel
theorem dL_law_634 : decode code 634 = .ok (.iadd, 1) := by decide +kernel
theorem dL_law_635 : decode code 635 = .ok (.iaload, 1) := by decide +kernel
theorem dL_law_636 : decode code 636 = .ok (.aload_n 3, 1) := by decide +kernel
theorem dL_law_637 : decode code 637 = .ok (.invokestatic 110, 3) := by decide +kernel
theorem dL_law_640 : decode code 640 = .ok (.istore 5, 2) := by decide +kernel
theorem dL_law_642 : decode code 642 = .ok (.aload_n 2, 1) := by decide +kernel
theorem dL_law_643 : decode code 643 = .ok (.aload_n 0, 1) := by decide +kernel
theorem dL_law_644 : decode code 644 = .ok (.iload 4, 2) := by decide +kernel
theorem dL_law_646 : decode code 646 = .ok (.iconst 1, 1) := by decide +kernel
theorem dL_law_647 : decode code 647 = .ok (.iadd, 1) := by decide +kernel
theorem dL_law_648 : decode code 648 = .ok (.iaload, 1) := by decide +kernel
theorem dL_law_649 : decode code 649 = .ok (.invokevirtual 112, 3) := by decide +kernel
theorem dL_law_652 : decode code 652 = .ok (.istore 6, 2) := by decide +kernel
theorem dL_law_654 : decode code 654 = .ok (.aload_n 2, 1) := by decide +kernel
theorem dL_law_655 : decode code 655 = .ok (.invokevirtual 84, 3) := by decide +kernel
theorem dL_law_658 : decode code 658 = .ok (.iload 5, 2) := by decide +kernel
theorem dL_law_660 : decode code 660 = .ok (.if_icmp .eq 5, 3) := by decide +kernel
theorem dL_law_663 : decode code 663 = .ok (.iconst 0, 1) := by decide +kernel
theorem dL_law_664 : decode code 664 = .ok (.ireturn, 1) := by decide +kernel
theorem dL_law_665 : decode code 665 = .ok (.iload 5, 2) := by decide +kernel
theorem dL_law_667 : decode code 667 = .ok (.ifCond .ne 15, 3) := by decide +kernel
theorem dL_law_670 : decode code 670 = .ok (.aload_n 3, 1) := by decide +kernel
theorem dL_law_671 : decode code 671 = .ok (.iconst 0, 1) := by decide +kernel
theorem dL_law_672 : decode code 672 = .ok (.laload, 1) := by decide +kernel
theorem dL_law_673 : decode code 673 = .ok (.iload 6, 2) := by decide +kernel
theorem dL_law_675 : decode code 675 = .ok (.i2l, 1) := by decide +kernel
theorem dL_law_676 : decode code 676 = .ok (.lcmp, 1) := by decide +kernel
theorem dL_law_677 : decode code 677 = .ok (.ifCond .eq 5, 3) := by decide +kernel
theorem dL_law_680 : decode code 680 = .ok (.iconst 0, 1) := by decide +kernel
theorem dL_law_681 : decode code 681 = .ok (.ireturn, 1) := by decide +kernel
theorem dL_law_682 : decode code 682 = .ok (.goto 730, 3) := by decide +kernel
section ZW
variable {p : Program} {l : Launch} {e : Env} {s : State} {m : MethodId} {args : Array Value} {below : List Frame} {meth : Method} {c : Code} {Q : State → Prop} {G : zG} {b L : Nat} {xs : Nat → Int32}

set_option maxHeartbeats 4000000 in
set_option maxRecDepth 100000 in
theorem law_burn (C : zLw p l s m args meth c G b L xs) {S : zM} {n i : Int} {H : Heap} {locs : List Loc} {cells slots : Nat} {ls : Array Slot} (hI : zInv S n) (hn : n ≤ 600) (hi : 0 ≤ i ∧ i + 4 < L) (hH : zH G S s H locs) (hls : lv_has ls 9 [(0, .ref b), (1, .ref (za G 8 0)), (2, .ref (za G 9 0)), (3, .ref (za G 8 5)), (4, .int (zI i))]) (hcs : cells + 1 ≤ 629837 ∧ slots + 6 ≤ 7206592)
    (K : ∀ (S' : zM) (ls' : Array Slot), zInv S' (n + 1) → lv_has ls' 9 [(0, .ref b), (1, .ref (za G 8 0)), (2, .ref (za G 9 0)), (3, .ref (za G 8 5)), (4, .int (zI i))] → ∀ (H1 : Heap) (locs1 : List Loc), zH G S' s H1 locs1 → W p l e room_1 s m args below meth c H1 locs1 (cells + 1) (slots + 6) Q (F0 m 1412 ls' [])) :
    W p l e room_1 s m args below meth c H locs cells slots Q (F0 m 412 ls []) := by
  have h := C.h
  have f := zRl_of hI (by omega)
  have hL := C.hL
  refine lv_aload_n h.1 h.2.1 dL_law_412 rfl (lv_at hls 1 rfl) ?_
  refine lv_aload_n h.1 h.2.1 dL_law_413 rfl (lv_at hls 0 rfl) ?_
  refine lv_iload h.1 h.2.1 dL_law_414 (lv_at hls 4 rfl) ?_
  refine zb_ic h dL_law_416 ?_
  refine zb_iadd h dL_law_417 ?_
  refine zld C hH (i := (i + 1)) (by omega) dL_law_418 ?_
  refine lv_aload_n h.1 h.2.1 dL_law_419 rfl (lv_at hls 0 rfl) ?_
  refine lv_iload h.1 h.2.1 dL_law_420 (lv_at hls 4 rfl) ?_
  refine zb_ic h dL_law_422 ?_
  refine zb_iadd h dL_law_423 ?_
  refine zld C hH (i := (i + 2)) (by omega) dL_law_424 ?_
  refine lv_aload_n h.1 h.2.1 dL_law_425 rfl (lv_at hls 3 rfl) ?_
  refine zcXS h C.hX hH (n := 4) (As := [.ref (za G 8 0), .int (zI (zx xs (i + 1))), .int (zI (zx xs (i + 2))), .ref (za G 8 5)]) (rest := []) (c_L_burn l C.hl G h.2.2.2.2.2.2.2 S (zx xs (i + 1)) (zx_in _ _) (zx xs (i + 2)) (zx_in _ _) f.nx f.sz f.ms f.w) zc_L_burn zn_L ⟨by decide, by decide⟩ (by decide +kernel) zt_L_burn zm_L_97 hls.1 rfl rfl ⟨rfl, rfl⟩ ⟨Nat.le_of_ble_eq_true rfl, Nat.le_of_ble_eq_true rfl⟩ (Nat.le_of_ble_eq_true rfl) hcs dL_law_426 (fun r_1 S_1 H locs hq1 hH => ?_)
  have e9 := k9_burn hq1
  have fx := zRx_of hI e9
  refine lv_istore (lv' := [(5, .int r_1), (0, .ref b), (1, .ref (za G 8 0)), (2, .ref (za G 9 0)), (3, .ref (za G 8 5)), (4, .int (zI i))]) h.1 h.2.1 dL_law_429 hls (by decide) rfl (fun ls hls => ?_)
  refine lv_aload_n h.1 h.2.1 dL_law_431 rfl (lv_at hls 3 rfl) ?_
  refine lv_aload_n h.1 h.2.1 dL_law_432 rfl (lv_at hls 1 rfl) ?_
  refine lv_iload h.1 h.2.1 dL_law_433 (lv_at hls 5 rfl) ?_
  refine zb_ic h dL_law_435 ?_
  refine zb_iadd h dL_law_436 ?_
  refine zld C hH (i := (i + 1)) (by omega) dL_law_437 ?_
  refine lv_aload_n h.1 h.2.1 dL_law_438 rfl (lv_at hls 1 rfl) ?_
  refine lv_iload h.1 h.2.1 dL_law_439 (lv_at hls 5 rfl) ?_
  refine zb_ic h dL_law_441 ?_
  refine zb_iadd h dL_law_442 ?_
  refine zld C hH (i := (i + 2)) (by omega) dL_law_443 ?_
  refine zcVi h hH (zr_5 h hH) (As := [.int (zI (zx xs (i + 1))), .int (zI (zx xs (i + 2)))]) (rest := []) (c_X5_burn l G h.2.2.2.2.2.2.2 S_1 (zx xs (i + 1)) (zx_in _ _) (zx xs (i + 2)) (zx_in _ _) fx.sm fx.w) zce_X5_burn zcv_X5_burn zm_L_99 hls.1 rfl rfl ⟨rfl, rfl⟩ ⟨Nat.le_of_ble_eq_true rfl, Nat.le_of_ble_eq_true rfl⟩ (Nat.le_of_ble_eq_true rfl) hcs dL_law_444 (fun r_2 S_2 H locs hq2 hH => ?_)
  refine lv_istore (lv' := [(6, .int r_2), (5, .int r_1), (0, .ref b), (1, .ref (za G 8 0)), (2, .ref (za G 9 0)), (3, .ref (za G 8 5)), (4, .int (zI i))]) h.1 h.2.1 dL_law_447 hls (by decide) rfl (fun ls hls => ?_)
  exact ztail C (g_burn hI hq1 hq2) hH hls hcs dL_law_449 dL_law_450 dL_law_453 dL_law_455 dL_law_460 dL_law_462 dL_law_465 dL_law_466 dL_law_467 dL_law_468 dL_law_470 dL_law_471 dL_law_472 dL_law_477 (by decide) K
set_option maxHeartbeats 4000000 in
set_option maxRecDepth 100000 in
theorem law_hold (C : zLw p l s m args meth c G b L xs) {S : zM} {n i : Int} {H : Heap} {locs : List Loc} {cells slots : Nat} {ls : Array Slot} (hI : zInv S n) (hn : n ≤ 600) (hi : 0 ≤ i ∧ i + 4 < L) (hH : zH G S s H locs) (hls : lv_has ls 9 [(0, .ref b), (1, .ref (za G 8 0)), (2, .ref (za G 9 0)), (3, .ref (za G 8 5)), (4, .int (zI i))]) (hcs : cells + 1 ≤ 629837 ∧ slots + 6 ≤ 7206592)
    (K : ∀ (S' : zM) (ls' : Array Slot), zInv S' (n + 1) → lv_has ls' 9 [(0, .ref b), (1, .ref (za G 8 0)), (2, .ref (za G 9 0)), (3, .ref (za G 8 5)), (4, .int (zI i))] → ∀ (H1 : Heap) (locs1 : List Loc), zH G S' s H1 locs1 → W p l e room_1 s m args below meth c H1 locs1 (cells + 1) (slots + 6) Q (F0 m 1412 ls' [])) :
    W p l e room_1 s m args below meth c H locs cells slots Q (F0 m 480 ls []) := by
  have h := C.h
  have f := zRl_of hI (by omega)
  have hL := C.hL
  refine lv_aload_n h.1 h.2.1 dL_law_480 rfl (lv_at hls 1 rfl) ?_
  refine lv_aload_n h.1 h.2.1 dL_law_481 rfl (lv_at hls 0 rfl) ?_
  refine lv_iload h.1 h.2.1 dL_law_482 (lv_at hls 4 rfl) ?_
  refine zb_ic h dL_law_484 ?_
  refine zb_iadd h dL_law_485 ?_
  refine zld C hH (i := (i + 1)) (by omega) dL_law_486 ?_
  refine lv_aload_n h.1 h.2.1 dL_law_487 rfl (lv_at hls 0 rfl) ?_
  refine lv_iload h.1 h.2.1 dL_law_488 (lv_at hls 4 rfl) ?_
  refine zb_ic h dL_law_490 ?_
  refine zb_iadd h dL_law_491 ?_
  refine zld C hH (i := (i + 2)) (by omega) dL_law_492 ?_
  refine lv_aload_n h.1 h.2.1 dL_law_493 rfl (lv_at hls 3 rfl) ?_
  refine zcXS h C.hX hH (n := 4) (As := [.ref (za G 8 0), .int (zI (zx xs (i + 1))), .int (zI (zx xs (i + 2))), .ref (za G 8 5)]) (rest := []) (c_L_hold l C.hl G h.2.2.2.2.2.2.2 S (zx xs (i + 1)) (zx_in _ _) (zx xs (i + 2)) (zx_in _ _) f.nx f.sz f.ms f.w) zc_L_hold zn_L ⟨by decide, by decide⟩ (by decide +kernel) zt_L_hold zm_L_100 hls.1 rfl rfl ⟨rfl, rfl⟩ ⟨Nat.le_of_ble_eq_true rfl, Nat.le_of_ble_eq_true rfl⟩ (Nat.le_of_ble_eq_true rfl) hcs dL_law_494 (fun r_1 S_1 H locs hq1 hH => ?_)
  have e9 := k9_hold hq1
  have fx := zRx_of hI e9
  refine lv_istore (lv' := [(5, .int r_1), (0, .ref b), (1, .ref (za G 8 0)), (2, .ref (za G 9 0)), (3, .ref (za G 8 5)), (4, .int (zI i))]) h.1 h.2.1 dL_law_497 hls (by decide) rfl (fun ls hls => ?_)
  refine lv_aload_n h.1 h.2.1 dL_law_499 rfl (lv_at hls 3 rfl) ?_
  refine lv_aload_n h.1 h.2.1 dL_law_500 rfl (lv_at hls 1 rfl) ?_
  refine lv_iload h.1 h.2.1 dL_law_501 (lv_at hls 5 rfl) ?_
  refine zb_ic h dL_law_503 ?_
  refine zb_iadd h dL_law_504 ?_
  refine zld C hH (i := (i + 1)) (by omega) dL_law_505 ?_
  refine lv_aload_n h.1 h.2.1 dL_law_506 rfl (lv_at hls 1 rfl) ?_
  refine lv_iload h.1 h.2.1 dL_law_507 (lv_at hls 5 rfl) ?_
  refine zb_ic h dL_law_509 ?_
  refine zb_iadd h dL_law_510 ?_
  refine zld C hH (i := (i + 2)) (by omega) dL_law_511 ?_
  refine zcVi h hH (zr_5 h hH) (As := [.int (zI (zx xs (i + 1))), .int (zI (zx xs (i + 2)))]) (rest := []) (c_X5_hold l G h.2.2.2.2.2.2.2 S_1 (zx xs (i + 1)) (zx_in _ _) (zx xs (i + 2)) (zx_in _ _) fx.sm fx.w) zce_X5_hold zcv_X5_hold zm_L_102 hls.1 rfl rfl ⟨rfl, rfl⟩ ⟨Nat.le_of_ble_eq_true rfl, Nat.le_of_ble_eq_true rfl⟩ (Nat.le_of_ble_eq_true rfl) hcs dL_law_512 (fun r_2 S_2 H locs hq2 hH => ?_)
  refine lv_istore (lv' := [(6, .int r_2), (5, .int r_1), (0, .ref b), (1, .ref (za G 8 0)), (2, .ref (za G 9 0)), (3, .ref (za G 8 5)), (4, .int (zI i))]) h.1 h.2.1 dL_law_515 hls (by decide) rfl (fun ls hls => ?_)
  exact ztail C (g_hold hI hq1 hq2) hH hls hcs dL_law_517 dL_law_518 dL_law_521 dL_law_523 dL_law_528 dL_law_530 dL_law_533 dL_law_534 dL_law_535 dL_law_536 dL_law_538 dL_law_539 dL_law_540 dL_law_545 (by decide) K
set_option maxHeartbeats 4000000 in
set_option maxRecDepth 100000 in
theorem law_paper (C : zLw p l s m args meth c G b L xs) {S : zM} {n i : Int} {H : Heap} {locs : List Loc} {cells slots : Nat} {ls : Array Slot} (hI : zInv S n) (hn : n ≤ 600) (hi : 0 ≤ i ∧ i + 4 < L) (hH : zH G S s H locs) (hls : lv_has ls 9 [(0, .ref b), (1, .ref (za G 8 0)), (2, .ref (za G 9 0)), (3, .ref (za G 8 5)), (4, .int (zI i))]) (hcs : cells + 1 ≤ 629837 ∧ slots + 6 ≤ 7206592)
    (K : ∀ (S' : zM) (ls' : Array Slot), zInv S' (n + 1) → lv_has ls' 9 [(0, .ref b), (1, .ref (za G 8 0)), (2, .ref (za G 9 0)), (3, .ref (za G 8 5)), (4, .int (zI i))] → ∀ (H1 : Heap) (locs1 : List Loc), zH G S' s H1 locs1 → W p l e room_1 s m args below meth c H1 locs1 (cells + 1) (slots + 6) Q (F0 m 1412 ls' [])) :
    W p l e room_1 s m args below meth c H locs cells slots Q (F0 m 548 ls []) := by
  have h := C.h
  have f := zRl_of hI (by omega)
  have hL := C.hL
  refine lv_aload_n h.1 h.2.1 dL_law_548 rfl (lv_at hls 1 rfl) ?_
  refine lv_aload_n h.1 h.2.1 dL_law_549 rfl (lv_at hls 0 rfl) ?_
  refine lv_iload h.1 h.2.1 dL_law_550 (lv_at hls 4 rfl) ?_
  refine zb_ic h dL_law_552 ?_
  refine zb_iadd h dL_law_553 ?_
  refine zld C hH (i := (i + 1)) (by omega) dL_law_554 ?_
  refine lv_aload_n h.1 h.2.1 dL_law_555 rfl (lv_at hls 0 rfl) ?_
  refine lv_iload h.1 h.2.1 dL_law_556 (lv_at hls 4 rfl) ?_
  refine zb_ic h dL_law_558 ?_
  refine zb_iadd h dL_law_559 ?_
  refine zld C hH (i := (i + 2)) (by omega) dL_law_560 ?_
  refine lv_aload_n h.1 h.2.1 dL_law_561 rfl (lv_at hls 3 rfl) ?_
  refine zcXS h C.hX hH (n := 4) (As := [.ref (za G 8 0), .int (zI (zx xs (i + 1))), .int (zI (zx xs (i + 2))), .ref (za G 8 5)]) (rest := []) (c_L_paper l C.hl G h.2.2.2.2.2.2.2 S (zx xs (i + 1)) (zx_in _ _) (zx xs (i + 2)) (zx_in _ _) f.nx f.sz f.ms f.w) zc_L_paper zn_L ⟨by decide, by decide⟩ (by decide +kernel) zt_L_paper zm_L_103 hls.1 rfl rfl ⟨rfl, rfl⟩ ⟨Nat.le_of_ble_eq_true rfl, Nat.le_of_ble_eq_true rfl⟩ (Nat.le_of_ble_eq_true rfl) hcs dL_law_562 (fun r_1 S_1 H locs hq1 hH => ?_)
  have e9 := k9_paper hq1
  have fx := zRx_of hI e9
  refine lv_istore (lv' := [(5, .int r_1), (0, .ref b), (1, .ref (za G 8 0)), (2, .ref (za G 9 0)), (3, .ref (za G 8 5)), (4, .int (zI i))]) h.1 h.2.1 dL_law_565 hls (by decide) rfl (fun ls hls => ?_)
  refine lv_aload_n h.1 h.2.1 dL_law_567 rfl (lv_at hls 3 rfl) ?_
  refine lv_aload_n h.1 h.2.1 dL_law_568 rfl (lv_at hls 1 rfl) ?_
  refine lv_iload h.1 h.2.1 dL_law_569 (lv_at hls 5 rfl) ?_
  refine zb_ic h dL_law_571 ?_
  refine zb_iadd h dL_law_572 ?_
  refine zld C hH (i := (i + 1)) (by omega) dL_law_573 ?_
  refine lv_aload_n h.1 h.2.1 dL_law_574 rfl (lv_at hls 1 rfl) ?_
  refine lv_iload h.1 h.2.1 dL_law_575 (lv_at hls 5 rfl) ?_
  refine zb_ic h dL_law_577 ?_
  refine zb_iadd h dL_law_578 ?_
  refine zld C hH (i := (i + 2)) (by omega) dL_law_579 ?_
  refine zcVi h hH (zr_5 h hH) (As := [.int (zI (zx xs (i + 1))), .int (zI (zx xs (i + 2)))]) (rest := []) (c_X5_paper l G h.2.2.2.2.2.2.2 S_1 (zx xs (i + 1)) (zx_in _ _) (zx xs (i + 2)) (zx_in _ _) fx.sm fx.w) zce_X5_paper zcv_X5_paper zm_L_105 hls.1 rfl rfl ⟨rfl, rfl⟩ ⟨Nat.le_of_ble_eq_true rfl, Nat.le_of_ble_eq_true rfl⟩ (Nat.le_of_ble_eq_true rfl) hcs dL_law_580 (fun r_2 S_2 H locs hq2 hH => ?_)
  refine lv_istore (lv' := [(6, .int r_2), (5, .int r_1), (0, .ref b), (1, .ref (za G 8 0)), (2, .ref (za G 9 0)), (3, .ref (za G 8 5)), (4, .int (zI i))]) h.1 h.2.1 dL_law_583 hls (by decide) rfl (fun ls hls => ?_)
  exact ztail C (g_paper hI hq1 hq2) hH hls hcs dL_law_585 dL_law_586 dL_law_589 dL_law_591 dL_law_596 dL_law_598 dL_law_601 dL_law_602 dL_law_603 dL_law_604 dL_law_606 dL_law_607 dL_law_608 dL_law_613 (by decide) K
set_option maxHeartbeats 4000000 in
set_option maxRecDepth 100000 in
theorem law_plan (C : zLw p l s m args meth c G b L xs) {S : zM} {n i : Int} {H : Heap} {locs : List Loc} {cells slots : Nat} {ls : Array Slot} (hI : zInv S n) (hn : n ≤ 600) (hi : 0 ≤ i ∧ i + 4 < L) (hH : zH G S s H locs) (hls : lv_has ls 9 [(0, .ref b), (1, .ref (za G 8 0)), (2, .ref (za G 9 0)), (3, .ref (za G 8 5)), (4, .int (zI i))]) (hcs : cells + 1 ≤ 629837 ∧ slots + 6 ≤ 7206592)
    (K : ∀ (S' : zM) (ls' : Array Slot), zInv S' (n + 1) → lv_has ls' 9 [(0, .ref b), (1, .ref (za G 8 0)), (2, .ref (za G 9 0)), (3, .ref (za G 8 5)), (4, .int (zI i))] → ∀ (H1 : Heap) (locs1 : List Loc), zH G S' s H1 locs1 → W p l e room_1 s m args below meth c H1 locs1 (cells + 1) (slots + 6) Q (F0 m 1412 ls' [])) :
    W p l e room_1 s m args below meth c H locs cells slots Q (F0 m 616 ls []) := by
  have h := C.h
  have f := zRl_of hI (by omega)
  have hL := C.hL
  refine lv_aload_n h.1 h.2.1 dL_law_616 rfl (lv_at hls 1 rfl) ?_
  refine zcVi h hH (zr_4 h hH) (As := []) (rest := []) (c_X4_plan l G h.2.2.2.2.2.2.2 S f.nx f.sz f.ms f.w) zce_X4_plan zcv_X4_plan zm_L_106 hls.1 rfl rfl ⟨rfl, rfl⟩ ⟨Nat.le_of_ble_eq_true rfl, Nat.le_of_ble_eq_true rfl⟩ (Nat.le_of_ble_eq_true rfl) ⟨Nat.le_of_succ_le hcs.1, Nat.le_trans (Nat.le_add_right _ 6) hcs.2⟩ dL_law_617 (fun r_1 S_1 H locs hq1 hH => ?_)
  have e9 := k9_plan hq1
  have fx := zRx_of hI e9
  refine lv_aload_n h.1 h.2.1 dL_law_620 rfl (lv_at hls 2 rfl) ?_
  refine zcVi h hH (zr_5 h hH) (As := []) (rest := [.int r_1]) (c_X5_plan l G h.2.2.2.2.2.2.2 S_1 fx.sm fx.nl fx.w) zce_X5_plan zcv_X5_plan zm_L_109 hls.1 rfl rfl ⟨rfl, rfl⟩ ⟨Nat.le_of_ble_eq_true rfl, Nat.le_of_ble_eq_true rfl⟩ (Nat.le_of_ble_eq_true rfl) ⟨Nat.le_of_succ_le hcs.1, Nat.le_trans (Nat.le_add_right _ 6) hcs.2⟩ dL_law_621 (fun r_2 S_2 H locs hq2 hH => ?_)
  obtain ⟨er, hI2⟩ := g_plan hI hq1 hq2
  subst er
  refine lv_icmp_eq (tgt := 1412) h.1 h.2.1 dL_law_624 (by decide) (fun _ => ?_) (fun c9 => absurd rfl c9)
  refine W.widen (k := cells + 1) (n := slots + 6) (by omega) (by omega) ?_
  exact K S_2 ls hI2 hls H locs hH
set_option maxHeartbeats 4000000 in
set_option maxRecDepth 100000 in
theorem law_set (C : zLw p l s m args meth c G b L xs) {S : zM} {n i : Int} {H : Heap} {locs : List Loc} {cells slots : Nat} {ls : Array Slot} (hI : zInv S n) (hn : n ≤ 600) (hi : 0 ≤ i ∧ i + 4 < L) (hH : zH G S s H locs) (hls : lv_has ls 9 [(0, .ref b), (1, .ref (za G 8 0)), (2, .ref (za G 9 0)), (3, .ref (za G 8 5)), (4, .int (zI i))]) (hcs : cells + 1 ≤ 629837 ∧ slots + 6 ≤ 7206592)
    (K : ∀ (S' : zM) (ls' : Array Slot), zInv S' (n + 1) → lv_has ls' 9 [(0, .ref b), (1, .ref (za G 8 0)), (2, .ref (za G 9 0)), (3, .ref (za G 8 5)), (4, .int (zI i))] → ∀ (H1 : Heap) (locs1 : List Loc), zH G S' s H1 locs1 → W p l e room_1 s m args below meth c H1 locs1 (cells + 1) (slots + 6) Q (F0 m 1412 ls' [])) :
    W p l e room_1 s m args below meth c H locs cells slots Q (F0 m 629 ls []) := by
  have h := C.h
  have f := zRl_of hI (by omega)
  have hL := C.hL
  refine lv_aload_n h.1 h.2.1 dL_law_629 rfl (lv_at hls 1 rfl) ?_
  refine lv_aload_n h.1 h.2.1 dL_law_630 rfl (lv_at hls 0 rfl) ?_
  refine lv_iload h.1 h.2.1 dL_law_631 (lv_at hls 4 rfl) ?_
  refine zb_ic h dL_law_633 ?_
  refine zb_iadd h dL_law_634 ?_
  refine zld C hH (i := (i + 1)) (by omega) dL_law_635 ?_
  refine lv_aload_n h.1 h.2.1 dL_law_636 rfl (lv_at hls 3 rfl) ?_
  refine zcXS h C.hX hH (n := 3) (As := [.ref (za G 8 0), .int (zI (zx xs (i + 1))), .ref (za G 8 5)]) (rest := []) (c_L_set l C.hl G h.2.2.2.2.2.2.2 S (zx xs (i + 1)) (zx_in _ _) f.nx f.sz f.ms f.w) zc_L_set zn_L ⟨by decide, by decide⟩ (by decide +kernel) zt_L_set zm_L_110 hls.1 rfl rfl ⟨rfl, rfl⟩ ⟨Nat.le_of_ble_eq_true rfl, Nat.le_of_ble_eq_true rfl⟩ (Nat.le_of_ble_eq_true rfl) hcs dL_law_637 (fun r_1 S_1 H locs hq1 hH => ?_)
  have e9 := k9_set hq1
  have fx := zRx_of hI e9
  refine lv_istore (lv' := [(5, .int r_1), (0, .ref b), (1, .ref (za G 8 0)), (2, .ref (za G 9 0)), (3, .ref (za G 8 5)), (4, .int (zI i))]) h.1 h.2.1 dL_law_640 hls (by decide) rfl (fun ls hls => ?_)
  refine lv_aload_n h.1 h.2.1 dL_law_642 rfl (lv_at hls 3 rfl) ?_
  refine lv_aload_n h.1 h.2.1 dL_law_643 rfl (lv_at hls 1 rfl) ?_
  refine lv_iload h.1 h.2.1 dL_law_644 (lv_at hls 5 rfl) ?_
  refine zb_ic h dL_law_646 ?_
  refine zb_iadd h dL_law_647 ?_
  refine zld C hH (i := (i + 1)) (by omega) dL_law_648 ?_
  refine zcVi h hH (zr_5 h hH) (As := [.int (zI (zx xs (i + 1)))]) (rest := []) (c_X5_set l G h.2.2.2.2.2.2.2 S_1 (zx xs (i + 1)) (zx_in _ _) fx.sm fx.w) zce_X5_set zcv_X5_set zm_L_112 hls.1 rfl rfl ⟨rfl, rfl⟩ ⟨Nat.le_of_ble_eq_true rfl, Nat.le_of_ble_eq_true rfl⟩ (Nat.le_of_ble_eq_true rfl) hcs dL_law_649 (fun r_2 S_2 H locs hq2 hH => ?_)
  refine lv_istore (lv' := [(6, .int r_2), (5, .int r_1), (0, .ref b), (1, .ref (za G 8 0)), (2, .ref (za G 9 0)), (3, .ref (za G 8 5)), (4, .int (zI i))]) h.1 h.2.1 dL_law_652 hls (by decide) rfl (fun ls hls => ?_)
  exact ztail C (g_set hI hq1 hq2) hH hls hcs dL_law_654 dL_law_655 dL_law_658 dL_law_660 dL_law_665 dL_law_667 dL_law_670 dL_law_671 dL_law_672 dL_law_673 dL_law_675 dL_law_676 dL_law_677 dL_law_682 (by decide) K
end ZW
