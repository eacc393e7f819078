/-! Which words the rows behind use, by their places. -/
theorem tw_1380 : (Jvm.Cond.methodLink "UnikernelHttpLaw" (80 : Nat) ({ cls := "UnikernelHttpLaw", name := "tick", desc := "(LUnikernelHttp;I[J)I" } : Jvm.MethodName)) ∈ lw_tbl := ux_in 180 ux_t6 rfl
theorem tw_1381 : (Jvm.Cond.static ({ cls := "UnikernelHttpLaw", name := "tick", desc := "(LUnikernelHttp;I[J)I" } : Jvm.MethodName)) ∈ lw_tbl := ux_in 181 ux_t6 rfl
theorem tw_1382 : (Jvm.Cond.codeWith ({ cls := "UnikernelHttpLaw", name := "tick", desc := "(LUnikernelHttp;I[J)I" } : Jvm.MethodName) method_8_code (4 : Nat) (Option.some Jvm.ClassFile.FieldType.int) [((0 : Nat), (9 : Nat), (12 : Nat), (19 : Nat))]) ∈ lw_tbl := ux_in 182 ux_t6 rfl
theorem tw_1424 : (Jvm.Cond.methodLink "UnikernelHttpLaw" (83 : Nat) ({ cls := "UnikernelHttpLaw", name := "size", desc := "(LUnikernelHttp;I[J)I" } : Jvm.MethodName)) ∈ lw_tbl := ux_in 224 ux_t6 rfl
theorem tw_1425 : (Jvm.Cond.static ({ cls := "UnikernelHttpLaw", name := "size", desc := "(LUnikernelHttp;I[J)I" } : Jvm.MethodName)) ∈ lw_tbl := ux_in 225 ux_t6 rfl
theorem tw_1426 : (Jvm.Cond.codeWith ({ cls := "UnikernelHttpLaw", name := "size", desc := "(LUnikernelHttp;I[J)I" } : Jvm.MethodName) method_9_code (4 : Nat) (Option.some Jvm.ClassFile.FieldType.int) [((0 : Nat), (9 : Nat), (12 : Nat), (32 : Nat))]) ∈ lw_tbl := ux_in 226 ux_t6 rfl
theorem tw_1436 : (Jvm.Cond.methodLink "UnikernelHttpLaw" (86 : Nat) ({ cls := "UnikernelHttpLaw", name := "bytes", desc := "(LUnikernelHttp;II[J)I" } : Jvm.MethodName)) ∈ lw_tbl := ux_in 236 ux_t6 rfl
theorem tw_1437 : (Jvm.Cond.static ({ cls := "UnikernelHttpLaw", name := "bytes", desc := "(LUnikernelHttp;II[J)I" } : Jvm.MethodName)) ∈ lw_tbl := ux_in 237 ux_t6 rfl
theorem tw_1438 : (Jvm.Cond.codeWith ({ cls := "UnikernelHttpLaw", name := "bytes", desc := "(LUnikernelHttp;II[J)I" } : Jvm.MethodName) method_10_code (5 : Nat) (Option.some Jvm.ClassFile.FieldType.int) [((0 : Nat), (9 : Nat), (12 : Nat), (32 : Nat))]) ∈ lw_tbl := ux_in 238 ux_t6 rfl
theorem tw_1448 : (Jvm.Cond.methodLink "UnikernelHttpLaw" (90 : Nat) ({ cls := "UnikernelHttpLaw", name := "count", desc := "(LUnikernelHttp;I[J)I" } : Jvm.MethodName)) ∈ lw_tbl := ux_in 8 ux_t7 rfl
theorem tw_1449 : (Jvm.Cond.static ({ cls := "UnikernelHttpLaw", name := "count", desc := "(LUnikernelHttp;I[J)I" } : Jvm.MethodName)) ∈ lw_tbl := ux_in 9 ux_t7 rfl
theorem tw_1450 : (Jvm.Cond.codeWith ({ cls := "UnikernelHttpLaw", name := "count", desc := "(LUnikernelHttp;I[J)I" } : Jvm.MethodName) method_11_code (4 : Nat) (Option.some Jvm.ClassFile.FieldType.int) [((0 : Nat), (9 : Nat), (12 : Nat), (19 : Nat))]) ∈ lw_tbl := ux_in 10 ux_t7 rfl
theorem tw_1455 : (Jvm.Cond.methodLink "UnikernelHttpLaw" (93 : Nat) ({ cls := "UnikernelHttpLaw", name := "connection", desc := "(LUnikernelHttp;III[J)I" } : Jvm.MethodName)) ∈ lw_tbl := ux_in 15 ux_t7 rfl
theorem tw_1456 : (Jvm.Cond.static ({ cls := "UnikernelHttpLaw", name := "connection", desc := "(LUnikernelHttp;III[J)I" } : Jvm.MethodName)) ∈ lw_tbl := ux_in 16 ux_t7 rfl
theorem tw_1457 : (Jvm.Cond.codeWith ({ cls := "UnikernelHttpLaw", name := "connection", desc := "(LUnikernelHttp;III[J)I" } : Jvm.MethodName) method_12_code (6 : Nat) (Option.some Jvm.ClassFile.FieldType.int) [((0 : Nat), (12 : Nat), (15 : Nat), (50 : Nat)), ((0 : Nat), (12 : Nat), (19 : Nat), (19 : Nat))]) ∈ lw_tbl := ux_in 17 ux_t7 rfl
theorem tw_1949 : (Jvm.Cond.methodLink "UnikernelHttpLaw" (82 : Nat) ({ cls := "UnikernelHttpModel", name := "tick", desc := "(I)I" } : Jvm.MethodName)) ∈ lw_tbl := ux_in 29 ux_t9 rfl
theorem tw_1950 : (Jvm.Cond.instanceMethod ({ cls := "UnikernelHttpModel", name := "tick", desc := "(I)I" } : Jvm.MethodName)) ∈ lw_tbl := ux_in 30 ux_t9 rfl
theorem tw_1951 : (Jvm.Cond.selects "UnikernelHttpModel" ({ cls := "UnikernelHttpModel", name := "tick", desc := "(I)I" } : Jvm.MethodName) ({ cls := "UnikernelHttpModel", name := "tick", desc := "(I)I" } : Jvm.MethodName)) ∈ lw_tbl := ux_in 31 ux_t9 rfl
theorem tw_1952 : (Jvm.Cond.code ({ cls := "UnikernelHttpModel", name := "tick", desc := "(I)I" } : Jvm.MethodName) prog_14_method_57_code (10 : Nat) (Option.some Jvm.ClassFile.FieldType.int)) ∈ lw_tbl := ux_in 32 ux_t9 rfl
theorem tw_1957 : (Jvm.Cond.methodLink "UnikernelHttpLaw" (85 : Nat) ({ cls := "UnikernelHttpModel", name := "size", desc := "(I)I" } : Jvm.MethodName)) ∈ lw_tbl := ux_in 37 ux_t9 rfl
theorem tw_1958 : (Jvm.Cond.instanceMethod ({ cls := "UnikernelHttpModel", name := "size", desc := "(I)I" } : Jvm.MethodName)) ∈ lw_tbl := ux_in 38 ux_t9 rfl
theorem tw_1959 : (Jvm.Cond.selects "UnikernelHttpModel" ({ cls := "UnikernelHttpModel", name := "size", desc := "(I)I" } : Jvm.MethodName) ({ cls := "UnikernelHttpModel", name := "size", desc := "(I)I" } : Jvm.MethodName)) ∈ lw_tbl := ux_in 39 ux_t9 rfl
theorem tw_1960 : (Jvm.Cond.code ({ cls := "UnikernelHttpModel", name := "size", desc := "(I)I" } : Jvm.MethodName) prog_14_method_59_code (2 : Nat) (Option.some Jvm.ClassFile.FieldType.int)) ∈ lw_tbl := ux_in 40 ux_t9 rfl
theorem tw_1965 : (Jvm.Cond.methodLink "UnikernelHttpLaw" (89 : Nat) ({ cls := "UnikernelHttpModel", name := "bytes", desc := "(II)J" } : Jvm.MethodName)) ∈ lw_tbl := ux_in 45 ux_t9 rfl
theorem tw_1966 : (Jvm.Cond.instanceMethod ({ cls := "UnikernelHttpModel", name := "bytes", desc := "(II)J" } : Jvm.MethodName)) ∈ lw_tbl := ux_in 46 ux_t9 rfl
theorem tw_1967 : (Jvm.Cond.selects "UnikernelHttpModel" ({ cls := "UnikernelHttpModel", name := "bytes", desc := "(II)J" } : Jvm.MethodName) ({ cls := "UnikernelHttpModel", name := "bytes", desc := "(II)J" } : Jvm.MethodName)) ∈ lw_tbl := ux_in 47 ux_t9 rfl
theorem tw_1968 : (Jvm.Cond.code ({ cls := "UnikernelHttpModel", name := "bytes", desc := "(II)J" } : Jvm.MethodName) prog_14_method_60_code (6 : Nat) (Option.some Jvm.ClassFile.FieldType.long)) ∈ lw_tbl := ux_in 48 ux_t9 rfl
theorem tw_1969 : (Jvm.Cond.methodLink "UnikernelHttpLaw" (92 : Nat) ({ cls := "UnikernelHttpModel", name := "count", desc := "(I)I" } : Jvm.MethodName)) ∈ lw_tbl := ux_in 49 ux_t9 rfl
theorem tw_1970 : (Jvm.Cond.instanceMethod ({ cls := "UnikernelHttpModel", name := "count", desc := "(I)I" } : Jvm.MethodName)) ∈ lw_tbl := ux_in 50 ux_t9 rfl
theorem tw_1971 : (Jvm.Cond.selects "UnikernelHttpModel" ({ cls := "UnikernelHttpModel", name := "count", desc := "(I)I" } : Jvm.MethodName) ({ cls := "UnikernelHttpModel", name := "count", desc := "(I)I" } : Jvm.MethodName)) ∈ lw_tbl := ux_in 51 ux_t9 rfl
theorem tw_1972 : (Jvm.Cond.code ({ cls := "UnikernelHttpModel", name := "count", desc := "(I)I" } : Jvm.MethodName) prog_14_method_61_code (2 : Nat) (Option.some Jvm.ClassFile.FieldType.int)) ∈ lw_tbl := ux_in 52 ux_t9 rfl
theorem tw_1973 : (Jvm.Cond.methodLink "UnikernelHttpLaw" (95 : Nat) ({ cls := "UnikernelHttpModel", name := "connection", desc := "(III)I" } : Jvm.MethodName)) ∈ lw_tbl := ux_in 53 ux_t9 rfl
theorem tw_1974 : (Jvm.Cond.instanceMethod ({ cls := "UnikernelHttpModel", name := "connection", desc := "(III)I" } : Jvm.MethodName)) ∈ lw_tbl := ux_in 54 ux_t9 rfl
theorem tw_1975 : (Jvm.Cond.selects "UnikernelHttpModel" ({ cls := "UnikernelHttpModel", name := "connection", desc := "(III)I" } : Jvm.MethodName) ({ cls := "UnikernelHttpModel", name := "connection", desc := "(III)I" } : Jvm.MethodName)) ∈ lw_tbl := ux_in 55 ux_t9 rfl
theorem tw_1976 : (Jvm.Cond.code ({ cls := "UnikernelHttpModel", name := "connection", desc := "(III)I" } : Jvm.MethodName) prog_14_method_62_code (6 : Nat) (Option.some Jvm.ClassFile.FieldType.int)) ∈ lw_tbl := ux_in 56 ux_t9 rfl
theorem d_La_law_436 : decode b_La_law 436 = .ok (.aload_n 1, 1) := by decide +kernel
theorem d_La_law_437 : decode b_La_law 437 = .ok (.aload_n 0, 1) := by decide +kernel
theorem d_La_law_438 : decode b_La_law 438 = .ok (.iload 4, 2) := by decide +kernel
theorem d_La_law_440 : decode b_La_law 440 = .ok (.iconst 1, 1) := by decide +kernel
theorem d_La_law_441 : decode b_La_law 441 = .ok (.iadd, 1) := by decide +kernel
theorem d_La_law_442 : decode b_La_law 442 = .ok (.iaload, 1) := by decide +kernel
theorem d_La_law_443 : decode b_La_law 443 = .ok (.aload_n 3, 1) := by decide +kernel
theorem d_La_law_444 : decode b_La_law 444 = .ok (.invokestatic 80, 3) := by decide +kernel
theorem d_La_law_447 : decode b_La_law 447 = .ok (.istore 5, 2) := by decide +kernel
theorem d_La_law_449 : decode b_La_law 449 = .ok (.aload_n 2, 1) := by decide +kernel
theorem d_La_law_450 : decode b_La_law 450 = .ok (.aload_n 0, 1) := by decide +kernel
theorem d_La_law_451 : decode b_La_law 451 = .ok (.iload 4, 2) := by decide +kernel
theorem d_La_law_453 : decode b_La_law 453 = .ok (.iconst 1, 1) := by decide +kernel
theorem d_La_law_454 : decode b_La_law 454 = .ok (.iadd, 1) := by decide +kernel
theorem d_La_law_455 : decode b_La_law 455 = .ok (.iaload, 1) := by decide +kernel
theorem d_La_law_456 : decode b_La_law 456 = .ok (.invokevirtual 82, 3) := by decide +kernel
theorem d_La_law_459 : decode b_La_law 459 = .ok (.istore 6, 2) := by decide +kernel
theorem d_La_law_461 : decode b_La_law 461 = .ok (.aload_n 2, 1) := by decide +kernel
theorem d_La_law_462 : decode b_La_law 462 = .ok (.invokevirtual 62, 3) := by decide +kernel
theorem d_La_law_465 : decode b_La_law 465 = .ok (.iload 5, 2) := by decide +kernel
theorem d_La_law_467 : decode b_La_law 467 = .ok (.if_icmp .eq 5, 3) := by decide +kernel
theorem d_La_law_472 : decode b_La_law 472 = .ok (.iload 5, 2) := by decide +kernel
theorem d_La_law_474 : decode b_La_law 474 = .ok (.ifCond .ne 15, 3) := by decide +kernel
theorem d_La_law_477 : decode b_La_law 477 = .ok (.aload_n 3, 1) := by decide +kernel
theorem d_La_law_478 : decode b_La_law 478 = .ok (.iconst 0, 1) := by decide +kernel
theorem d_La_law_479 : decode b_La_law 479 = .ok (.laload, 1) := by decide +kernel
theorem d_La_law_480 : decode b_La_law 480 = .ok (.iload 6, 2) := by decide +kernel
theorem d_La_law_482 : decode b_La_law 482 = .ok (.i2l, 1) := by decide +kernel
theorem d_La_law_483 : decode b_La_law 483 = .ok (.lcmp, 1) := by decide +kernel
theorem d_La_law_484 : decode b_La_law 484 = .ok (.ifCond .eq 5, 3) := by decide +kernel
theorem d_La_law_489 : decode b_La_law 489 = .ok (.goto 262, 3) := by decide +kernel
theorem d_La_law_492 : decode b_La_law 492 = .ok (.aload_n 1, 1) := by decide +kernel
theorem d_La_law_493 : decode b_La_law 493 = .ok (.aload_n 0, 1) := by decide +kernel
theorem d_La_law_494 : decode b_La_law 494 = .ok (.iload 4, 2) := by decide +kernel
theorem d_La_law_496 : decode b_La_law 496 = .ok (.iconst 1, 1) := by decide +kernel
theorem d_La_law_497 : decode b_La_law 497 = .ok (.iadd, 1) := by decide +kernel
theorem d_La_law_498 : decode b_La_law 498 = .ok (.iaload, 1) := by decide +kernel
theorem d_La_law_499 : decode b_La_law 499 = .ok (.aload_n 3, 1) := by decide +kernel
theorem d_La_law_500 : decode b_La_law 500 = .ok (.invokestatic 83, 3) := by decide +kernel
theorem d_La_law_503 : decode b_La_law 503 = .ok (.istore 5, 2) := by decide +kernel
theorem d_La_law_505 : decode b_La_law 505 = .ok (.aload_n 2, 1) := by decide +kernel
theorem d_La_law_506 : decode b_La_law 506 = .ok (.aload_n 0, 1) := by decide +kernel
theorem d_La_law_507 : decode b_La_law 507 = .ok (.iload 4, 2) := by decide +kernel
theorem d_La_law_509 : decode b_La_law 509 = .ok (.iconst 1, 1) := by decide +kernel
theorem d_La_law_510 : decode b_La_law 510 = .ok (.iadd, 1) := by decide +kernel
theorem d_La_law_511 : decode b_La_law 511 = .ok (.iaload, 1) := by decide +kernel
theorem d_La_law_512 : decode b_La_law 512 = .ok (.invokevirtual 85, 3) := by decide +kernel
theorem d_La_law_515 : decode b_La_law 515 = .ok (.istore 6, 2) := by decide +kernel
theorem d_La_law_517 : decode b_La_law 517 = .ok (.aload_n 2, 1) := by decide +kernel
theorem d_La_law_518 : decode b_La_law 518 = .ok (.invokevirtual 62, 3) := by decide +kernel
theorem d_La_law_521 : decode b_La_law 521 = .ok (.iload 5, 2) := by decide +kernel
theorem d_La_law_523 : decode b_La_law 523 = .ok (.if_icmp .eq 5, 3) := by decide +kernel
theorem d_La_law_528 : decode b_La_law 528 = .ok (.iload 5, 2) := by decide +kernel
theorem d_La_law_530 : decode b_La_law 530 = .ok (.ifCond .ne 15, 3) := by decide +kernel
theorem d_La_law_545 : decode b_La_law 545 = .ok (.goto 206, 3) := by decide +kernel
theorem d_La_law_548 : decode b_La_law 548 = .ok (.aload_n 1, 1) := by decide +kernel
theorem d_La_law_549 : decode b_La_law 549 = .ok (.aload_n 0, 1) := by decide +kernel
theorem d_La_law_550 : decode b_La_law 550 = .ok (.iload 4, 2) := by decide +kernel
theorem d_La_law_552 : decode b_La_law 552 = .ok (.iconst 1, 1) := by decide +kernel
theorem d_La_law_553 : decode b_La_law 553 = .ok (.iadd, 1) := by decide +kernel
theorem d_La_law_554 : decode b_La_law 554 = .ok (.iaload, 1) := by decide +kernel
theorem d_La_law_555 : decode b_La_law 555 = .ok (.aload_n 0, 1) := by decide +kernel
theorem d_La_law_556 : decode b_La_law 556 = .ok (.iload 4, 2) := by decide +kernel
theorem d_La_law_558 : decode b_La_law 558 = .ok (.iconst 2, 1) := by decide +kernel
theorem d_La_law_559 : decode b_La_law 559 = .ok (.iadd, 1) := by decide +kernel
theorem d_La_law_560 : decode b_La_law 560 = .ok (.iaload, 1) := by decide +kernel
theorem d_La_law_561 : decode b_La_law 561 = .ok (.aload_n 3, 1) := by decide +kernel
theorem d_La_law_562 : decode b_La_law 562 = .ok (.invokestatic 86, 3) := by decide +kernel
theorem d_La_law_565 : decode b_La_law 565 = .ok (.istore 5, 2) := by decide +kernel
theorem d_La_law_567 : decode b_La_law 567 = .ok (.aload_n 2, 1) := by decide +kernel
theorem d_La_law_568 : decode b_La_law 568 = .ok (.aload_n 0, 1) := by decide +kernel
theorem d_La_law_569 : decode b_La_law 569 = .ok (.iload 4, 2) := by decide +kernel
theorem d_La_law_571 : decode b_La_law 571 = .ok (.iconst 1, 1) := by decide +kernel
theorem d_La_law_572 : decode b_La_law 572 = .ok (.iadd, 1) := by decide +kernel
theorem d_La_law_573 : decode b_La_law 573 = .ok (.iaload, 1) := by decide +kernel
theorem d_La_law_574 : decode b_La_law 574 = .ok (.aload_n 0, 1) := by decide +kernel
theorem d_La_law_575 : decode b_La_law 575 = .ok (.iload 4, 2) := by decide +kernel
theorem d_La_law_577 : decode b_La_law 577 = .ok (.iconst 2, 1) := by decide +kernel
theorem d_La_law_578 : decode b_La_law 578 = .ok (.iadd, 1) := by decide +kernel
theorem d_La_law_579 : decode b_La_law 579 = .ok (.iaload, 1) := by decide +kernel
theorem d_La_law_580 : decode b_La_law 580 = .ok (.invokevirtual 89, 3) := by decide +kernel
theorem d_La_law_583 : decode b_La_law 583 = .ok (.lstore 6, 2) := by decide +kernel
theorem d_La_law_585 : decode b_La_law 585 = .ok (.aload_n 2, 1) := by decide +kernel
theorem d_La_law_586 : decode b_La_law 586 = .ok (.invokevirtual 62, 3) := by decide +kernel
theorem d_La_law_589 : decode b_La_law 589 = .ok (.iload 5, 2) := by decide +kernel
theorem d_La_law_591 : decode b_La_law 591 = .ok (.if_icmp .eq 5, 3) := by decide +kernel
theorem d_La_law_596 : decode b_La_law 596 = .ok (.iload 5, 2) := by decide +kernel
theorem d_La_law_598 : decode b_La_law 598 = .ok (.ifCond .ne 14, 3) := by decide +kernel
theorem d_La_law_612 : decode b_La_law 612 = .ok (.goto 139, 3) := by decide +kernel
theorem d_La_law_615 : decode b_La_law 615 = .ok (.aload_n 1, 1) := by decide +kernel
theorem d_La_law_616 : decode b_La_law 616 = .ok (.aload_n 0, 1) := by decide +kernel
theorem d_La_law_617 : decode b_La_law 617 = .ok (.iload 4, 2) := by decide +kernel
theorem d_La_law_619 : decode b_La_law 619 = .ok (.iconst 1, 1) := by decide +kernel
theorem d_La_law_620 : decode b_La_law 620 = .ok (.iadd, 1) := by decide +kernel
theorem d_La_law_621 : decode b_La_law 621 = .ok (.iaload, 1) := by decide +kernel
theorem d_La_law_622 : decode b_La_law 622 = .ok (.aload_n 3, 1) := by decide +kernel
theorem d_La_law_623 : decode b_La_law 623 = .ok (.invokestatic 90, 3) := by decide +kernel
theorem d_La_law_626 : decode b_La_law 626 = .ok (.istore 5, 2) := by decide +kernel
theorem d_La_law_628 : decode b_La_law 628 = .ok (.aload_n 2, 1) := by decide +kernel
theorem d_La_law_629 : decode b_La_law 629 = .ok (.aload_n 0, 1) := by decide +kernel
theorem d_La_law_630 : decode b_La_law 630 = .ok (.iload 4, 2) := by decide +kernel
theorem d_La_law_632 : decode b_La_law 632 = .ok (.iconst 1, 1) := by decide +kernel
theorem d_La_law_633 : decode b_La_law 633 = .ok (.iadd, 1) := by decide +kernel
theorem d_La_law_634 : decode b_La_law 634 = .ok (.iaload, 1) := by decide +kernel
theorem d_La_law_635 : decode b_La_law 635 = .ok (.invokevirtual 92, 3) := by decide +kernel
theorem d_La_law_638 : decode b_La_law 638 = .ok (.istore 6, 2) := by decide +kernel
theorem d_La_law_640 : decode b_La_law 640 = .ok (.aload_n 2, 1) := by decide +kernel
theorem d_La_law_641 : decode b_La_law 641 = .ok (.invokevirtual 62, 3) := by decide +kernel
theorem d_La_law_644 : decode b_La_law 644 = .ok (.iload 5, 2) := by decide +kernel
theorem d_La_law_646 : decode b_La_law 646 = .ok (.if_icmp .eq 5, 3) := by decide +kernel
theorem d_La_law_651 : decode b_La_law 651 = .ok (.iload 5, 2) := by decide +kernel
theorem d_La_law_653 : decode b_La_law 653 = .ok (.ifCond .ne 15, 3) := by decide +kernel
theorem d_La_law_656 : decode b_La_law 656 = .ok (.aload_n 3, 1) := by decide +kernel
theorem d_La_law_657 : decode b_La_law 657 = .ok (.iconst 0, 1) := by decide +kernel
theorem d_La_law_658 : decode b_La_law 658 = .ok (.laload, 1) := by decide +kernel
theorem d_La_law_659 : decode b_La_law 659 = .ok (.iload 6, 2) := by decide +kernel
theorem d_La_law_661 : decode b_La_law 661 = .ok (.i2l, 1) := by decide +kernel
theorem d_La_law_662 : decode b_La_law 662 = .ok (.lcmp, 1) := by decide +kernel
theorem d_La_law_663 : decode b_La_law 663 = .ok (.ifCond .eq 5, 3) := by decide +kernel
theorem d_La_law_668 : decode b_La_law 668 = .ok (.goto 83, 3) := by decide +kernel
theorem d_La_law_671 : decode b_La_law 671 = .ok (.aload_n 1, 1) := by decide +kernel
theorem d_La_law_672 : decode b_La_law 672 = .ok (.aload_n 0, 1) := by decide +kernel
theorem d_La_law_673 : decode b_La_law 673 = .ok (.iload 4, 2) := by decide +kernel
theorem d_La_law_675 : decode b_La_law 675 = .ok (.iconst 1, 1) := by decide +kernel
theorem d_La_law_676 : decode b_La_law 676 = .ok (.iadd, 1) := by decide +kernel
theorem d_La_law_677 : decode b_La_law 677 = .ok (.iaload, 1) := by decide +kernel
theorem d_La_law_678 : decode b_La_law 678 = .ok (.aload_n 0, 1) := by decide +kernel
theorem d_La_law_679 : decode b_La_law 679 = .ok (.iload 4, 2) := by decide +kernel
theorem d_La_law_681 : decode b_La_law 681 = .ok (.iconst 2, 1) := by decide +kernel
theorem d_La_law_682 : decode b_La_law 682 = .ok (.iadd, 1) := by decide +kernel
theorem d_La_law_683 : decode b_La_law 683 = .ok (.iaload, 1) := by decide +kernel
theorem d_La_law_684 : decode b_La_law 684 = .ok (.aload_n 0, 1) := by decide +kernel
theorem d_La_law_685 : decode b_La_law 685 = .ok (.iload 4, 2) := by decide +kernel
theorem d_La_law_687 : decode b_La_law 687 = .ok (.iconst 3, 1) := by decide +kernel
theorem d_La_law_688 : decode b_La_law 688 = .ok (.iadd, 1) := by decide +kernel
theorem d_La_law_689 : decode b_La_law 689 = .ok (.iaload, 1) := by decide +kernel
theorem d_La_law_690 : decode b_La_law 690 = .ok (.aload_n 3, 1) := by decide +kernel
theorem d_La_law_691 : decode b_La_law 691 = .ok (.invokestatic 93, 3) := by decide +kernel
theorem d_La_law_694 : decode b_La_law 694 = .ok (.istore 5, 2) := by decide +kernel
theorem d_La_law_696 : decode b_La_law 696 = .ok (.aload_n 2, 1) := by decide +kernel
theorem d_La_law_697 : decode b_La_law 697 = .ok (.aload_n 0, 1) := by decide +kernel
theorem d_La_law_698 : decode b_La_law 698 = .ok (.iload 4, 2) := by decide +kernel
theorem d_La_law_700 : decode b_La_law 700 = .ok (.iconst 1, 1) := by decide +kernel
theorem d_La_law_701 : decode b_La_law 701 = .ok (.iadd, 1) := by decide +kernel
theorem d_La_law_702 : decode b_La_law 702 = .ok (.iaload, 1) := by decide +kernel
theorem d_La_law_703 : decode b_La_law 703 = .ok (.aload_n 0, 1) := by decide +kernel
theorem d_La_law_704 : decode b_La_law 704 = .ok (.iload 4, 2) := by decide +kernel
theorem d_La_law_706 : decode b_La_law 706 = .ok (.iconst 2, 1) := by decide +kernel
theorem d_La_law_707 : decode b_La_law 707 = .ok (.iadd, 1) := by decide +kernel
theorem d_La_law_708 : decode b_La_law 708 = .ok (.iaload, 1) := by decide +kernel
theorem d_La_law_709 : decode b_La_law 709 = .ok (.aload_n 0, 1) := by decide +kernel
theorem d_La_law_710 : decode b_La_law 710 = .ok (.iload 4, 2) := by decide +kernel
theorem d_La_law_712 : decode b_La_law 712 = .ok (.iconst 3, 1) := by decide +kernel
theorem d_La_law_713 : decode b_La_law 713 = .ok (.iadd, 1) := by decide +kernel
theorem d_La_law_714 : decode b_La_law 714 = .ok (.iaload, 1) := by decide +kernel
theorem d_La_law_715 : decode b_La_law 715 = .ok (.invokevirtual 95, 3) := by decide +kernel
theorem d_La_law_718 : decode b_La_law 718 = .ok (.istore 6, 2) := by decide +kernel
theorem d_La_law_720 : decode b_La_law 720 = .ok (.aload_n 2, 1) := by decide +kernel
theorem d_La_law_721 : decode b_La_law 721 = .ok (.invokevirtual 62, 3) := by decide +kernel
theorem d_La_law_724 : decode b_La_law 724 = .ok (.iload 5, 2) := by decide +kernel
theorem d_La_law_726 : decode b_La_law 726 = .ok (.if_icmp .eq 5, 3) := by decide +kernel
theorem d_La_law_731 : decode b_La_law 731 = .ok (.iload 5, 2) := by decide +kernel
theorem d_La_law_733 : decode b_La_law 733 = .ok (.ifCond .ne 15, 3) := by decide +kernel
theorem d_La_law_748 : decode b_La_law 748 = .ok (.goto 3, 3) := by decide +kernel
set_option maxHeartbeats 4000000 in
set_option maxRecDepth 100000 in
theorem law_5 {p : Program} {e : Env} {s : State} {m : MethodId} {below : List Frame} {meth : Method} {c : Code} (l : Launch) (hfl : l.flags = flags0) {b : Nat} {xs : Nat → Int32} {A : Nat → Prop} (hA : ∀ q, s.heap.size ≤ q → A q) (hA2 : ∀ q, A q → s.heap.size ≤ q) (C0 : lw_At p s m meth c b 6 xs) (hT : ux_T s) (hH : ux_H s) (dC : Nat → ClassId) (dI : Nat → Nat → Nat) (q1 : Nat) (q3 : Nat) (q4 : Nat) (q5 : Nat) (q6 : Nat) (q7 : Nat) (q8 : Nat) (q9 : Nat) (q10 : Nat) (q11 : Nat) (q12 : Nat) (q13 : Nat) (q14 : Nat) (q15 : Nat) (q16 : Nat) (q17 : Nat) (q18 : Nat) (q19 : Nat) (q20 : Nat) (q21 : Nat) (q22 : Nat) (q23 : Nat) (q24 : Nat) (q27 : Nat) (q29 : Nat) (q30 : Nat) (q31 : Nat) (q32 : Nat) (q33 : Nat) (q34 : Nat) (q35 : Nat) (q36 : Nat) (q37 : Nat) (q38 : Nat) (q39 : Nat) (q40 : Nat) (q41 : Nat) (q42 : Nat) (q43 : Nat) (q44 : Nat) (q45 : Nat) (q46 : Nat) (q47 : Nat) (q48 : Nat) (q49 : Nat) (q50 : Nat) (q51 : Nat) (q54 : Nat) (cA25 : ClassId) (cA52 : ClassId) (cA53 : ClassId) (cA55 : ClassId) {H : Heap} {locs : List Loc} {ls : Array Slot} (hK : va_K (dC, dI) cls [(cA25, .byte), (cA52, .byte), (cA53, .byte), (cA55, .long)] s) (hP : va_P (dC, dI) cls [(q1, .inr (0, [.ref q3, .int 0, .int 0, .ref q4, .ref q5, .ref q6, .ref q7, .ref q8, .ref q9, .ref q10, .ref q11, .ref q3, .int 0, .int 0])), (q3, .inl (cA25, 2000, .inl (fun _ => 0))), (q4, .inr (1, [.ref q12, .ref q13, .ref q14, .int 0, .int 0])), (q5, .inr (2, [.ref q4, .ref q15, .ref q16, .int 0, .int 0])), (q6, .inr (3, [.ref q17, .int 0])), (q8, .inr (6, [.ref q18, .ref q19, .ref q5, .int 0, .int 0])), (q9, .inr (10, [.ref q20, .ref q21, .ref q22, .ref q23, .ref q24, .int 0])), (q27, .inr (12, [.ref q29, .ref q30, .ref q31, .int 0, .int 0, .int 0, .int 0, .int 0, .ref q32, .ref q33, .ref q34, .ref q35, .ref q36, .int 0, .int 0, .ref q37, .ref q38, .ref q39, .ref q40, .ref q41, .ref q42, .ref q43, .ref q44, .int 0, .int 0, .ref q45, .ref q46, .ref q47, .ref q48, .ref q49, .int 0, .ref q50, .int 0, .int 0, .int 0, .int 0, .ref q51, .int 0, .int 0])), (q29, .inl (cA52, 2000, .inl (fun _ => 0))), (q30, .inl (cA53, 5718, .inl (fun _ => 0))), (q54, .inl (cA55, 1, .inr (.inl (fun _ => 0))))] H) (hD : va_D A [(q1, .inr (0, [.ref q3, .int 0, .int 0, .ref q4, .ref q5, .ref q6, .ref q7, .ref q8, .ref q9, .ref q10, .ref q11, .ref q3, .int 0, .int 0])), (q3, .inl (cA25, 2000, .inl (fun _ => 0))), (q4, .inr (1, [.ref q12, .ref q13, .ref q14, .int 0, .int 0])), (q5, .inr (2, [.ref q4, .ref q15, .ref q16, .int 0, .int 0])), (q6, .inr (3, [.ref q17, .int 0])), (q8, .inr (6, [.ref q18, .ref q19, .ref q5, .int 0, .int 0])), (q9, .inr (10, [.ref q20, .ref q21, .ref q22, .ref q23, .ref q24, .int 0])), (q27, .inr (12, [.ref q29, .ref q30, .ref q31, .int 0, .int 0, .int 0, .int 0, .int 0, .ref q32, .ref q33, .ref q34, .ref q35, .ref q36, .int 0, .int 0, .ref q37, .ref q38, .ref q39, .ref q40, .ref q41, .ref q42, .ref q43, .ref q44, .int 0, .int 0, .ref q45, .ref q46, .ref q47, .ref q48, .ref q49, .int 0, .ref q50, .int 0, .int 0, .int 0, .int 0, .ref q51, .int 0, .int 0])), (q29, .inl (cA52, 2000, .inl (fun _ => 0))), (q30, .inl (cA53, 5718, .inl (fun _ => 0))), (q54, .inl (cA55, 1, .inr (.inl (fun _ => 0))))]) (hS : va_S A s.heap H locs) (hl : lv_has ls 8 [(4, .int 0), (3, .ref q54), (2, .ref q27), (1, .ref q1), (0, .ref b)]) : W p l e room_1 s m #[Value.ref b] below meth c H locs 219 543617 (lw_Z below #[Value.ref b] s) (F0 m 436 ls []) := by
  obtain ⟨hx, hb, hr, hml, hown, hts, hX, hbl, hlocks, hgv⟩ := C0
  have hown : s.vm.findClass "UnikernelHttpLaw" = some m.cls := hown
  have hbA : ¬ A b := fun h => absurd (hA2 b h) (by omega)
  have hfx : CallFix p m c b_La_law 8 s #[Value.ref b] [] "UnikernelHttpLaw" := ⟨hx, hb, hml, hown, fun _ h => by cases h⟩
  obtain ⟨v1, hv1⟩ : ∃ v, xs (1 : Int32).toNatClampNeg = v := ⟨_, rfl⟩
  obtain ⟨v2, hv2⟩ : ∃ v, xs (2 : Int32).toNatClampNeg = v := ⟨_, rfl⟩
  obtain ⟨v3, hv3⟩ : ∃ v, xs (3 : Int32).toNatClampNeg = v := ⟨_, rfl⟩
  obtain ⟨v4, hv4⟩ : ∃ v, xs (4 : Int32).toNatClampNeg = v := ⟨_, rfl⟩
  obtain ⟨v5, hv5⟩ : ∃ v, xs (5 : Int32).toNatClampNeg = v := ⟨_, rfl⟩
  refine lv_aload_n hx hb d_La_law_436 rfl (lv_at hl 3 rfl) ?_
  refine lv_aload_n hx hb d_La_law_437 rfl (lv_at hl 4 rfl) ?_
  refine lv_iload hx hb d_La_law_438 (lv_at hl 0 rfl) ?_
  refine lv_iconst (v := 1) hx hb d_La_law_440 (by decide) ?_
  refine lv_iadd hx hb d_La_law_441 ?_
  refine lv_topi (fun x1001 ex1001 => ?_)
  obtain rfl : x1001 = 1 := ex1001.trans (by decide)
  refine va_sld hx hb hX hbl hbA hS (i := 1) (show ¬ ((1 : Int32) < 0 ∨ 6 ≤ (1 : Int32).toNatClampNeg) by decide) d_La_law_442 ?_
  refine lv_topi (fun x1002 ex1002 => ?_)
  obtain rfl : v1 = x1002 := (ex1002.trans hv1).symm
  refine lv_aload_n hx hb d_La_law_443 rfl (lv_at hl 1 rfl) ?_
  rcases (show (0 ≤ v1.toInt ∧ v1.toInt ≤ 100000) ∨ (v1.toInt < 0 ∨ 100000 < v1.toInt) by omega) with hn | hn
  · have hhp : ∀ q, q < s.heap.size → H[q]? = s.heap[q]? := fun q hq => hS.2.1 q hq (fun h => absurd (hA2 q h) (by omega))
    have hPc := hP.sub (ws' := [(q1, .inr (0, [.ref q3, .int 0, .int 0, .ref q4, .ref q5, .ref q6, .ref q7, .ref q8, .ref q9, .ref q10, .ref q11, .ref q3, .int 0, .int 0])), (q5, .inr (2, [.ref q4, .ref q15, .ref q16, .int 0, .int 0])), (q6, .inr (3, [.ref q17, .int 0])), (q8, .inr (6, [.ref q18, .ref q19, .ref q5, .int 0, .int 0])), (q54, .inl (cA55, 1, .inr (.inl (fun _ => 0))))]) [0, 3, 4, 5, 10] rfl
    have hDc := hD.sub (ws' := [(q1, .inr (0, [.ref q3, .int 0, .int 0, .ref q4, .ref q5, .ref q6, .ref q7, .ref q8, .ref q9, .ref q10, .ref q11, .ref q3, .int 0, .int 0])), (q5, .inr (2, [.ref q4, .ref q15, .ref q16, .int 0, .int 0])), (q6, .inr (3, [.ref q17, .int 0])), (q8, .inr (6, [.ref q18, .ref q19, .ref q5, .int 0, .int 0])), (q54, .inl (cA55, 1, .inr (.inl (fun _ => 0))))]) [0, 3, 4, 5, 10] (by decide) rfl
    have hKc := hK.sub (tys' := [(cA55, .long)]) [3] rfl
    have hFc := va_free (wc := [(q1, .inr (0, [.ref q3, .int 0, .int 0, .ref q4, .ref q5, .ref q6, .ref q7, .ref q8, .ref q9, .ref q10, .ref q11, .ref q3, .int 0, .int 0])), (q5, .inr (2, [.ref q4, .ref q15, .ref q16, .int 0, .int 0])), (q6, .inr (3, [.ref q17, .int 0])), (q8, .inr (6, [.ref q18, .ref q19, .ref q5, .int 0, .int 0])), (q54, .inl (cA55, 1, .inr (.inl (fun _ => 0))))]) hD hS hA [0, 3, 4, 5, 10] rfl
    have hkc : 219 + 0 ≤ 600002 := (Nat.le_of_ble_eq_true rfl)
    refine va_calli (ux_runSW (n := 3) (As := [.ref q1, .int v1, .ref q54]) (rest := []) hfx (c_La_tick_ok l dC dI q1 q54 q3 q4 q5 q6 q7 q8 q9 q10 q11 q15 q16 q17 q18 q19 cA55 v1 hn H.size) hT tw_1382 tw_1380 tw_0 tw_1381 rfl rfl (by decide +kernel) ⟨(Nat.le_of_ble_eq_true rfl), (Nat.le_of_ble_eq_true rfl)⟩ (ux_pre [.ref q1, .int v1, .ref q54] hT hPc hKc hDc) rfl rfl hl.1 rfl (lv_room (Nat.le_of_ble_eq_true rfl)) d_La_law_444 ⟨(Nat.le_of_ble_eq_true rfl), (Nat.le_of_ble_eq_true rfl)⟩) hS (fun q _ h => hFc q h) hFc (fun r1003 u t H1 locs ht hvm hw hB hz1 hk1 hS => ?_)
    obtain ⟨hP1, hK1, hD1⟩ := hB
    rw [ht] at hP1
    have hK1 := va_K.moved hvm.symm hK1
    obtain ⟨hP, hD⟩ := va_join (wr := [(q3, .inl (cA25, 2000, .inl (fun _ => 0))), (q4, .inr (1, [.ref q12, .ref q13, .ref q14, .int 0, .int 0])), (q9, .inr (10, [.ref q20, .ref q21, .ref q22, .ref q23, .ref q24, .int 0])), (q27, .inr (12, [.ref q29, .ref q30, .ref q31, .int 0, .int 0, .int 0, .int 0, .int 0, .ref q32, .ref q33, .ref q34, .ref q35, .ref q36, .int 0, .int 0, .ref q37, .ref q38, .ref q39, .ref q40, .ref q41, .ref q42, .ref q43, .ref q44, .int 0, .int 0, .ref q45, .ref q46, .ref q47, .ref q48, .ref q49, .int 0, .ref q50, .int 0, .int 0, .int 0, .int 0, .ref q51, .int 0, .int 0])), (q29, .inl (cA52, 2000, .inl (fun _ => 0))), (q30, .inl (cA53, 5718, .inl (fun _ => 0)))]) (w1 := [(q54, .inl (cA55, 1, .inr (.inl (vp_updL (fun _ => 0) (0 : Int32).toNatClampNeg 0))))]) hP hD [0, 3, 4, 5, 10] [1, 2, 6, 7, 8, 9] rfl rfl (by decide) (by decide) hk1 hFc hP1 hD1
    have hK := (hK.sub (tys' := [(cA25, .byte), (cA52, .byte), (cA53, .byte), (cA55, .long)]) [0, 1, 2, 3] rfl).app hK1
    generalize H1 = H at hP hS ⊢
    have hP : va_P (dC, dI) cls [(q3, .inl (cA25, 2000, .inl (fun _ => 0))), (q4, .inr (1, [.ref q12, .ref q13, .ref q14, .int 0, .int 0])), (q9, .inr (10, [.ref q20, .ref q21, .ref q22, .ref q23, .ref q24, .int 0])), (q27, .inr (12, [.ref q29, .ref q30, .ref q31, .int 0, .int 0, .int 0, .int 0, .int 0, .ref q32, .ref q33, .ref q34, .ref q35, .ref q36, .int 0, .int 0, .ref q37, .ref q38, .ref q39, .ref q40, .ref q41, .ref q42, .ref q43, .ref q44, .int 0, .int 0, .ref q45, .ref q46, .ref q47, .ref q48, .ref q49, .int 0, .ref q50, .int 0, .int 0, .int 0, .int 0, .ref q51, .int 0, .int 0])), (q29, .inl (cA52, 2000, .inl (fun _ => 0))), (q30, .inl (cA53, 5718, .inl (fun _ => 0))), (q54, .inl (cA55, 1, .inr (.inl (vp_updL (fun _ => 0) (0 : Int32).toNatClampNeg 0))))] H := hP
    have hD : va_D A [(q3, .inl (cA25, 2000, .inl (fun _ => 0))), (q4, .inr (1, [.ref q12, .ref q13, .ref q14, .int 0, .int 0])), (q9, .inr (10, [.ref q20, .ref q21, .ref q22, .ref q23, .ref q24, .int 0])), (q27, .inr (12, [.ref q29, .ref q30, .ref q31, .int 0, .int 0, .int 0, .int 0, .int 0, .ref q32, .ref q33, .ref q34, .ref q35, .ref q36, .int 0, .int 0, .ref q37, .ref q38, .ref q39, .ref q40, .ref q41, .ref q42, .ref q43, .ref q44, .int 0, .int 0, .ref q45, .ref q46, .ref q47, .ref q48, .ref q49, .int 0, .ref q50, .int 0, .int 0, .int 0, .int 0, .ref q51, .int 0, .int 0])), (q29, .inl (cA52, 2000, .inl (fun _ => 0))), (q30, .inl (cA53, 5718, .inl (fun _ => 0))), (q54, .inl (cA55, 1, .inr (.inl (vp_updL (fun _ => 0) (0 : Int32).toNatClampNeg 0))))] := hD
    have hK : va_K (dC, dI) cls [(cA25, .byte), (cA52, .byte), (cA53, .byte), (cA55, .long), (cA55, .long)] s := hK
    obtain rfl : r1003 = 0 := hw
    refine lv_istore hx hb d_La_law_447 hl (by decide) rfl (fun ls hl => ?_)
    have hl : lv_has ls 8 [(5, .int 0), (4, .int 0), (3, .ref q54), (2, .ref q27), (1, .ref q1), (0, .ref b)] := hl
    refine lv_aload_n hx hb d_La_law_449 rfl (lv_at hl 3 rfl) ?_
    refine lv_aload_n hx hb d_La_law_450 rfl (lv_at hl 5 rfl) ?_
    refine lv_iload hx hb d_La_law_451 (lv_at hl 1 rfl) ?_
    refine lv_iconst (v := 1) hx hb d_La_law_453 (by decide) ?_
    refine lv_iadd hx hb d_La_law_454 ?_
    refine lv_topi (fun x1004 ex1004 => ?_)
    obtain rfl : x1004 = 1 := ex1004.trans (by decide)
    refine va_sld hx hb hX hbl hbA hS (i := 1) (show ¬ ((1 : Int32) < 0 ∨ 6 ≤ (1 : Int32).toNatClampNeg) by decide) d_La_law_455 ?_
    refine lv_topi (fun x1005 ex1005 => ?_)
    obtain rfl : v1 = x1005 := (ex1005.trans hv1).symm
    have hhp : ∀ q, q < s.heap.size → H[q]? = s.heap[q]? := fun q hq => hS.2.1 q hq (fun h => absurd (hA2 q h) (by omega))
    have hPc := hP.sub (ws' := [(q27, .inr (12, [.ref q29, .ref q30, .ref q31, .int 0, .int 0, .int 0, .int 0, .int 0, .ref q32, .ref q33, .ref q34, .ref q35, .ref q36, .int 0, .int 0, .ref q37, .ref q38, .ref q39, .ref q40, .ref q41, .ref q42, .ref q43, .ref q44, .int 0, .int 0, .ref q45, .ref q46, .ref q47, .ref q48, .ref q49, .int 0, .ref q50, .int 0, .int 0, .int 0, .int 0, .ref q51, .int 0, .int 0]))]) [3] rfl
    have hDc := hD.sub (ws' := [(q27, .inr (12, [.ref q29, .ref q30, .ref q31, .int 0, .int 0, .int 0, .int 0, .int 0, .ref q32, .ref q33, .ref q34, .ref q35, .ref q36, .int 0, .int 0, .ref q37, .ref q38, .ref q39, .ref q40, .ref q41, .ref q42, .ref q43, .ref q44, .int 0, .int 0, .ref q45, .ref q46, .ref q47, .ref q48, .ref q49, .int 0, .ref q50, .int 0, .int 0, .int 0, .int 0, .ref q51, .int 0, .int 0]))]) [3] (by decide) rfl
    have hKc := hK.sub (tys' := []) [] rfl
    have hFc := va_free (wc := [(q27, .inr (12, [.ref q29, .ref q30, .ref q31, .int 0, .int 0, .int 0, .int 0, .int 0, .ref q32, .ref q33, .ref q34, .ref q35, .ref q36, .int 0, .int 0, .ref q37, .ref q38, .ref q39, .ref q40, .ref q41, .ref q42, .ref q43, .ref q44, .int 0, .int 0, .ref q45, .ref q46, .ref q47, .ref q48, .ref q49, .int 0, .ref q50, .int 0, .int 0, .int 0, .int 0, .ref q51, .int 0, .int 0]))]) hD hS hA [3] rfl
    have hkc : 219 + 0 ≤ 600002 := (Nat.le_of_ble_eq_true rfl)
    refine va_calli (va_runV (As := [.int v1]) (rest := []) hfx (c_Mo_tick_ok l dC dI q27 q29 q30 q31 q32 q33 q34 q35 q36 q37 q38 q39 q40 q41 q42 q43 q44 q45 q46 q47 q48 q49 q50 q51 v1 hn H.size) ⟨(ux_cb 1 hT tw_1952 tw_1949 tw_13 rfl rfl (by decide +kernel) ⟨(Nat.le_of_ble_eq_true rfl), (Nat.le_of_ble_eq_true rfl)⟩), (ux_T_at hT tw_1950 rfl), (ux_T_at hT tw_1951 rfl)⟩ (ux_preV (r := (R_Mo, F_Mo, 39)) (ci := 12) (q0 := 0) [.int v1] hT hPc hKc hDc rfl rfl) rfl rfl hl.1 rfl (lv_room (Nat.le_of_ble_eq_true rfl)) d_La_law_456 ⟨(Nat.le_of_ble_eq_true rfl), (Nat.le_of_ble_eq_true rfl)⟩) hS (fun q _ h => hFc q h) hFc (fun r1006 u t H1 locs ht hvm hw hB hz1 hk1 hS => ?_)
    obtain ⟨y1007, hP1, hK1, hD1⟩ := hB
    rw [ht] at hP1
    have hK1 := va_K.moved hvm.symm hK1
    obtain ⟨hP, hD⟩ := va_join (wr := [(q3, .inl (cA25, 2000, .inl (fun _ => 0))), (q4, .inr (1, [.ref q12, .ref q13, .ref q14, .int 0, .int 0])), (q9, .inr (10, [.ref q20, .ref q21, .ref q22, .ref q23, .ref q24, .int 0])), (q29, .inl (cA52, 2000, .inl (fun _ => 0))), (q30, .inl (cA53, 5718, .inl (fun _ => 0))), (q54, .inl (cA55, 1, .inr (.inl (vp_updL (fun _ => 0) (0 : Int32).toNatClampNeg 0))))]) (w1 := [(q27, .inr (12, [.ref q29, .ref q30, .ref q31, .int 0, .int 0, .int y1007, .int 0, .int 0, .ref q32, .ref q33, .ref q34, .ref q35, .ref q36, .int 0, .int 0, .ref q37, .ref q38, .ref q39, .ref q40, .ref q41, .ref q42, .ref q43, .ref q44, .int 0, .int 0, .ref q45, .ref q46, .ref q47, .ref q48, .ref q49, .int 0, .ref q50, .int 0, .int 0, .int 0, .int 0, .ref q51, .int 0, .int 0]))]) hP hD [3] [0, 1, 2, 4, 5, 6] rfl rfl (by decide) (by decide) hk1 hFc hP1 hD1
    have hK := (hK.sub (tys' := [(cA25, .byte), (cA52, .byte), (cA53, .byte), (cA55, .long), (cA55, .long)]) [0, 1, 2, 3, 4] rfl).app hK1
    generalize H1 = H at hP hS ⊢
    have hP : va_P (dC, dI) cls [(q3, .inl (cA25, 2000, .inl (fun _ => 0))), (q4, .inr (1, [.ref q12, .ref q13, .ref q14, .int 0, .int 0])), (q9, .inr (10, [.ref q20, .ref q21, .ref q22, .ref q23, .ref q24, .int 0])), (q29, .inl (cA52, 2000, .inl (fun _ => 0))), (q30, .inl (cA53, 5718, .inl (fun _ => 0))), (q54, .inl (cA55, 1, .inr (.inl (vp_updL (fun _ => 0) (0 : Int32).toNatClampNeg 0)))), (q27, .inr (12, [.ref q29, .ref q30, .ref q31, .int 0, .int 0, .int y1007, .int 0, .int 0, .ref q32, .ref q33, .ref q34, .ref q35, .ref q36, .int 0, .int 0, .ref q37, .ref q38, .ref q39, .ref q40, .ref q41, .ref q42, .ref q43, .ref q44, .int 0, .int 0, .ref q45, .ref q46, .ref q47, .ref q48, .ref q49, .int 0, .ref q50, .int 0, .int 0, .int 0, .int 0, .ref q51, .int 0, .int 0]))] H := hP
    have hD : va_D A [(q3, .inl (cA25, 2000, .inl (fun _ => 0))), (q4, .inr (1, [.ref q12, .ref q13, .ref q14, .int 0, .int 0])), (q9, .inr (10, [.ref q20, .ref q21, .ref q22, .ref q23, .ref q24, .int 0])), (q29, .inl (cA52, 2000, .inl (fun _ => 0))), (q30, .inl (cA53, 5718, .inl (fun _ => 0))), (q54, .inl (cA55, 1, .inr (.inl (vp_updL (fun _ => 0) (0 : Int32).toNatClampNeg 0)))), (q27, .inr (12, [.ref q29, .ref q30, .ref q31, .int 0, .int 0, .int y1007, .int 0, .int 0, .ref q32, .ref q33, .ref q34, .ref q35, .ref q36, .int 0, .int 0, .ref q37, .ref q38, .ref q39, .ref q40, .ref q41, .ref q42, .ref q43, .ref q44, .int 0, .int 0, .ref q45, .ref q46, .ref q47, .ref q48, .ref q49, .int 0, .ref q50, .int 0, .int 0, .int 0, .int 0, .ref q51, .int 0, .int 0]))] := hD
    have hK : va_K (dC, dI) cls [(cA25, .byte), (cA52, .byte), (cA53, .byte), (cA55, .long), (cA55, .long)] s := hK
    obtain rfl : r1006 = 0 := hw
    refine lv_istore hx hb d_La_law_459 hl (by decide) rfl (fun ls hl => ?_)
    have hl : lv_has ls 8 [(6, .int 0), (5, .int 0), (4, .int 0), (3, .ref q54), (2, .ref q27), (1, .ref q1), (0, .ref b)] := hl
    refine lv_aload_n hx hb d_La_law_461 rfl (lv_at hl 4 rfl) ?_
    have hhp : ∀ q, q < s.heap.size → H[q]? = s.heap[q]? := fun q hq => hS.2.1 q hq (fun h => absurd (hA2 q h) (by omega))
    have hPc := hP.sub (ws' := [(q27, .inr (12, [.ref q29, .ref q30, .ref q31, .int 0, .int 0, .int y1007, .int 0, .int 0, .ref q32, .ref q33, .ref q34, .ref q35, .ref q36, .int 0, .int 0, .ref q37, .ref q38, .ref q39, .ref q40, .ref q41, .ref q42, .ref q43, .ref q44, .int 0, .int 0, .ref q45, .ref q46, .ref q47, .ref q48, .ref q49, .int 0, .ref q50, .int 0, .int 0, .int 0, .int 0, .ref q51, .int 0, .int 0]))]) [6] rfl
    have hDc := hD.sub (ws' := [(q27, .inr (12, [.ref q29, .ref q30, .ref q31, .int 0, .int 0, .int y1007, .int 0, .int 0, .ref q32, .ref q33, .ref q34, .ref q35, .ref q36, .int 0, .int 0, .ref q37, .ref q38, .ref q39, .ref q40, .ref q41, .ref q42, .ref q43, .ref q44, .int 0, .int 0, .ref q45, .ref q46, .ref q47, .ref q48, .ref q49, .int 0, .ref q50, .int 0, .int 0, .int 0, .int 0, .ref q51, .int 0, .int 0]))]) [6] (by decide) rfl
    have hKc := hK.sub (tys' := []) [] rfl
    have hFc := va_free (wc := [(q27, .inr (12, [.ref q29, .ref q30, .ref q31, .int 0, .int 0, .int y1007, .int 0, .int 0, .ref q32, .ref q33, .ref q34, .ref q35, .ref q36, .int 0, .int 0, .ref q37, .ref q38, .ref q39, .ref q40, .ref q41, .ref q42, .ref q43, .ref q44, .int 0, .int 0, .ref q45, .ref q46, .ref q47, .ref q48, .ref q49, .int 0, .ref q50, .int 0, .int 0, .int 0, .int 0, .ref q51, .int 0, .int 0]))]) hD hS hA [6] rfl
    have hkc : 219 + 0 ≤ 600002 := (Nat.le_of_ble_eq_true rfl)
    refine va_calli (va_runV (As := []) (rest := []) hfx (c_Mo_thrown_0 l dC dI q27 q29 q30 q31 q32 q33 q34 q35 q36 q37 q38 q39 q40 q41 q42 q43 q44 q45 q46 q47 q48 q49 q50 q51 0 y1007 H.size) ⟨(ux_cb 0 hT tw_1714 tw_1711 tw_13 rfl rfl (by decide +kernel) ⟨(Nat.le_of_ble_eq_true rfl), (Nat.le_of_ble_eq_true rfl)⟩), (ux_T_at hT tw_1712 rfl), (ux_T_at hT tw_1713 rfl)⟩ (ux_preV (r := (R_Mo, F_Mo, 39)) (ci := 12) (q0 := 0) [] hT hPc hKc hDc rfl rfl) rfl rfl hl.1 rfl (lv_room (Nat.le_of_ble_eq_true rfl)) d_La_law_462 ⟨(Nat.le_of_ble_eq_true rfl), (Nat.le_of_ble_eq_true rfl)⟩) hS (fun q _ h => hFc q h) hFc (fun r1008 u t H1 locs ht hvm hw hB hz1 hk1 hS => ?_)
    obtain ⟨hP1, hK1, hD1⟩ := hB
    rw [ht] at hP1
    have hK1 := va_K.moved hvm.symm hK1
    obtain ⟨hP, hD⟩ := va_join (wr := [(q3, .inl (cA25, 2000, .inl (fun _ => 0))), (q4, .inr (1, [.ref q12, .ref q13, .ref q14, .int 0, .int 0])), (q9, .inr (10, [.ref q20, .ref q21, .ref q22, .ref q23, .ref q24, .int 0])), (q29, .inl (cA52, 2000, .inl (fun _ => 0))), (q30, .inl (cA53, 5718, .inl (fun _ => 0))), (q54, .inl (cA55, 1, .inr (.inl (vp_updL (fun _ => 0) (0 : Int32).toNatClampNeg 0))))]) (w1 := [(q27, .inr (12, [.ref q29, .ref q30, .ref q31, .int 0, .int 0, .int y1007, .int 0, .int 0, .ref q32, .ref q33, .ref q34, .ref q35, .ref q36, .int 0, .int 0, .ref q37, .ref q38, .ref q39, .ref q40, .ref q41, .ref q42, .ref q43, .ref q44, .int 0, .int 0, .ref q45, .ref q46, .ref q47, .ref q48, .ref q49, .int 0, .ref q50, .int 0, .int 0, .int 0, .int 0, .ref q51, .int 0, .int 0]))]) hP hD [6] [0, 1, 2, 3, 4, 5] rfl rfl (by decide) (by decide) hk1 hFc hP1 hD1
    have hK := (hK.sub (tys' := [(cA25, .byte), (cA52, .byte), (cA53, .byte), (cA55, .long), (cA55, .long)]) [0, 1, 2, 3, 4] rfl).app hK1
    generalize H1 = H at hP hS ⊢
    have hP : va_P (dC, dI) cls [(q3, .inl (cA25, 2000, .inl (fun _ => 0))), (q4, .inr (1, [.ref q12, .ref q13, .ref q14, .int 0, .int 0])), (q9, .inr (10, [.ref q20, .ref q21, .ref q22, .ref q23, .ref q24, .int 0])), (q29, .inl (cA52, 2000, .inl (fun _ => 0))), (q30, .inl (cA53, 5718, .inl (fun _ => 0))), (q54, .inl (cA55, 1, .inr (.inl (vp_updL (fun _ => 0) (0 : Int32).toNatClampNeg 0)))), (q27, .inr (12, [.ref q29, .ref q30, .ref q31, .int 0, .int 0, .int y1007, .int 0, .int 0, .ref q32, .ref q33, .ref q34, .ref q35, .ref q36, .int 0, .int 0, .ref q37, .ref q38, .ref q39, .ref q40, .ref q41, .ref q42, .ref q43, .ref q44, .int 0, .int 0, .ref q45, .ref q46, .ref q47, .ref q48, .ref q49, .int 0, .ref q50, .int 0, .int 0, .int 0, .int 0, .ref q51, .int 0, .int 0]))] H := hP
    have hD : va_D A [(q3, .inl (cA25, 2000, .inl (fun _ => 0))), (q4, .inr (1, [.ref q12, .ref q13, .ref q14, .int 0, .int 0])), (q9, .inr (10, [.ref q20, .ref q21, .ref q22, .ref q23, .ref q24, .int 0])), (q29, .inl (cA52, 2000, .inl (fun _ => 0))), (q30, .inl (cA53, 5718, .inl (fun _ => 0))), (q54, .inl (cA55, 1, .inr (.inl (vp_updL (fun _ => 0) (0 : Int32).toNatClampNeg 0)))), (q27, .inr (12, [.ref q29, .ref q30, .ref q31, .int 0, .int 0, .int y1007, .int 0, .int 0, .ref q32, .ref q33, .ref q34, .ref q35, .ref q36, .int 0, .int 0, .ref q37, .ref q38, .ref q39, .ref q40, .ref q41, .ref q42, .ref q43, .ref q44, .int 0, .int 0, .ref q45, .ref q46, .ref q47, .ref q48, .ref q49, .int 0, .ref q50, .int 0, .int 0, .int 0, .int 0, .ref q51, .int 0, .int 0]))] := hD
    have hK : va_K (dC, dI) cls [(cA25, .byte), (cA52, .byte), (cA53, .byte), (cA55, .long), (cA55, .long)] s := hK
    obtain rfl : r1008 = 0 := hw
    refine lv_iload hx hb d_La_law_465 (lv_at hl 1 rfl) ?_
    refine lv_icmp_eq (tgt := 472) hx hb d_La_law_467 (by decide) (fun _ => ?_) (fun hc => absurd (by decide) hc)
    refine lv_iload hx hb d_La_law_472 (lv_at hl 1 rfl) ?_
    refine lv_if_ne (tgt := 489) hx hb d_La_law_474 (by decide) (fun hc => absurd (by decide) hc) (fun _ => ?_)
    refine lv_aload_n hx hb d_La_law_477 rfl (lv_at hl 3 rfl) ?_
    refine lv_iconst (v := 0) hx hb d_La_law_478 (by decide) ?_
    refine va_lald hx hb hK hP 5 3 rfl rfl (i := 0) (show ¬ ((0 : Int32) < 0 ∨ 1 ≤ (0 : Int32).toNatClampNeg) by decide) d_La_law_479 ?_
    refine lv_topl (fun x1009 ex1009 => ?_)
    obtain rfl : x1009 = 0 := ex1009.trans (by decide)
    refine lv_iload hx hb d_La_law_480 (lv_at hl 0 rfl) ?_
    refine lv_i2l (v := 0) hx hb d_La_law_482 (by decide) ?_
    refine W.lcmp hx hb d_La_law_483 ?_
    refine lv_topi (fun x1010 ex1010 => ?_)
    obtain rfl : x1010 = 0 := ex1010.trans (by decide)
    refine lv_if_eq (tgt := 489) hx hb d_La_law_484 (by decide) (fun _ => ?_) (fun hc => absurd (by decide) hc)
    refine lv_goto hx hb d_La_law_489 (tgt := 751) (by decide) ?_
    exact law_end l hA2 ⟨hx, hb, hr, hml, hown, hts, hX, hbl, hlocks, hgv⟩ (Nat.le_of_ble_eq_true rfl) (Nat.le_of_ble_eq_true rfl) hS (lv_sub hl [6, 2] rfl)
  · have hhp : ∀ q, q < s.heap.size → H[q]? = s.heap[q]? := fun q hq => hS.2.1 q hq (fun h => absurd (hA2 q h) (by omega))
    have hPc := hP.sub (ws' := [(q1, .inr (0, [.ref q3, .int 0, .int 0, .ref q4, .ref q5, .ref q6, .ref q7, .ref q8, .ref q9, .ref q10, .ref q11, .ref q3, .int 0, .int 0])), (q54, .inl (cA55, 1, .inr (.inl (fun _ => 0))))]) [0, 10] rfl
    have hDc := hD.sub (ws' := [(q1, .inr (0, [.ref q3, .int 0, .int 0, .ref q4, .ref q5, .ref q6, .ref q7, .ref q8, .ref q9, .ref q10, .ref q11, .ref q3, .int 0, .int 0])), (q54, .inl (cA55, 1, .inr (.inl (fun _ => 0))))]) [0, 10] (by decide) rfl
    have hKc := hK.sub (tys' := [(cA55, .long)]) [3] rfl
    have hFc := va_free (wc := [(q1, .inr (0, [.ref q3, .int 0, .int 0, .ref q4, .ref q5, .ref q6, .ref q7, .ref q8, .ref q9, .ref q10, .ref q11, .ref q3, .int 0, .int 0])), (q54, .inl (cA55, 1, .inr (.inl (fun _ => 0))))]) hD hS hA [0, 10] rfl
    have hkc : 219 + 1 ≤ 600002 := (Nat.le_of_ble_eq_true rfl)
    refine va_calli (ux_runSW (n := 3) (As := [.ref q1, .int v1, .ref q54]) (rest := []) hfx (c_La_tick_no l hfl dC dI q1 q54 q3 q4 q5 q6 q7 q8 q9 q10 q11 cA55 v1 hn H.size) hT tw_1382 tw_1380 tw_0 tw_1381 rfl rfl (by decide +kernel) ⟨(Nat.le_of_ble_eq_true rfl), (Nat.le_of_ble_eq_true rfl)⟩ (ux_preH [.ref q1, .int v1, .ref q54] hT hH hhp hPc hKc hDc) rfl rfl hl.1 rfl (lv_room (Nat.le_of_ble_eq_true rfl)) d_La_law_444 ⟨(Nat.le_of_ble_eq_true rfl), (Nat.le_of_ble_eq_true rfl)⟩) hS (fun q _ h => hFc q h) hFc (fun r1011 u t H1 locs ht hvm hw hB hz1 hk1 hS => ?_)
    obtain ⟨hP1, hK1, hD1⟩ := hB
    rw [ht] at hP1
    have hK1 := va_K.moved hvm.symm hK1
    obtain ⟨hP, hD⟩ := va_join (wr := [(q3, .inl (cA25, 2000, .inl (fun _ => 0))), (q4, .inr (1, [.ref q12, .ref q13, .ref q14, .int 0, .int 0])), (q5, .inr (2, [.ref q4, .ref q15, .ref q16, .int 0, .int 0])), (q6, .inr (3, [.ref q17, .int 0])), (q8, .inr (6, [.ref q18, .ref q19, .ref q5, .int 0, .int 0])), (q9, .inr (10, [.ref q20, .ref q21, .ref q22, .ref q23, .ref q24, .int 0])), (q27, .inr (12, [.ref q29, .ref q30, .ref q31, .int 0, .int 0, .int 0, .int 0, .int 0, .ref q32, .ref q33, .ref q34, .ref q35, .ref q36, .int 0, .int 0, .ref q37, .ref q38, .ref q39, .ref q40, .ref q41, .ref q42, .ref q43, .ref q44, .int 0, .int 0, .ref q45, .ref q46, .ref q47, .ref q48, .ref q49, .int 0, .ref q50, .int 0, .int 0, .int 0, .int 0, .ref q51, .int 0, .int 0])), (q29, .inl (cA52, 2000, .inl (fun _ => 0))), (q30, .inl (cA53, 5718, .inl (fun _ => 0)))]) (w1 := [(q54, .inl (cA55, 1, .inr (.inl (fun _ => 0))))]) hP hD [0, 10] [1, 2, 3, 4, 5, 6, 7, 8, 9] rfl rfl (by decide) (by decide) hk1 hFc hP1 hD1
    have hK := (hK.sub (tys' := [(cA25, .byte), (cA52, .byte), (cA53, .byte), (cA55, .long)]) [0, 1, 2, 3] rfl).app hK1
    generalize H1 = H at hP hS ⊢
    have hP : va_P (dC, dI) cls [(q3, .inl (cA25, 2000, .inl (fun _ => 0))), (q4, .inr (1, [.ref q12, .ref q13, .ref q14, .int 0, .int 0])), (q5, .inr (2, [.ref q4, .ref q15, .ref q16, .int 0, .int 0])), (q6, .inr (3, [.ref q17, .int 0])), (q8, .inr (6, [.ref q18, .ref q19, .ref q5, .int 0, .int 0])), (q9, .inr (10, [.ref q20, .ref q21, .ref q22, .ref q23, .ref q24, .int 0])), (q27, .inr (12, [.ref q29, .ref q30, .ref q31, .int 0, .int 0, .int 0, .int 0, .int 0, .ref q32, .ref q33, .ref q34, .ref q35, .ref q36, .int 0, .int 0, .ref q37, .ref q38, .ref q39, .ref q40, .ref q41, .ref q42, .ref q43, .ref q44, .int 0, .int 0, .ref q45, .ref q46, .ref q47, .ref q48, .ref q49, .int 0, .ref q50, .int 0, .int 0, .int 0, .int 0, .ref q51, .int 0, .int 0])), (q29, .inl (cA52, 2000, .inl (fun _ => 0))), (q30, .inl (cA53, 5718, .inl (fun _ => 0))), (q54, .inl (cA55, 1, .inr (.inl (fun _ => 0))))] H := hP
    have hD : va_D A [(q3, .inl (cA25, 2000, .inl (fun _ => 0))), (q4, .inr (1, [.ref q12, .ref q13, .ref q14, .int 0, .int 0])), (q5, .inr (2, [.ref q4, .ref q15, .ref q16, .int 0, .int 0])), (q6, .inr (3, [.ref q17, .int 0])), (q8, .inr (6, [.ref q18, .ref q19, .ref q5, .int 0, .int 0])), (q9, .inr (10, [.ref q20, .ref q21, .ref q22, .ref q23, .ref q24, .int 0])), (q27, .inr (12, [.ref q29, .ref q30, .ref q31, .int 0, .int 0, .int 0, .int 0, .int 0, .ref q32, .ref q33, .ref q34, .ref q35, .ref q36, .int 0, .int 0, .ref q37, .ref q38, .ref q39, .ref q40, .ref q41, .ref q42, .ref q43, .ref q44, .int 0, .int 0, .ref q45, .ref q46, .ref q47, .ref q48, .ref q49, .int 0, .ref q50, .int 0, .int 0, .int 0, .int 0, .ref q51, .int 0, .int 0])), (q29, .inl (cA52, 2000, .inl (fun _ => 0))), (q30, .inl (cA53, 5718, .inl (fun _ => 0))), (q54, .inl (cA55, 1, .inr (.inl (fun _ => 0))))] := hD
    have hK : va_K (dC, dI) cls [(cA25, .byte), (cA52, .byte), (cA53, .byte), (cA55, .long), (cA55, .long)] s := hK
    obtain rfl : r1011 = 1 := hw
    refine lv_istore hx hb d_La_law_447 hl (by decide) rfl (fun ls hl => ?_)
    have hl : lv_has ls 8 [(5, .int 1), (4, .int 0), (3, .ref q54), (2, .ref q27), (1, .ref q1), (0, .ref b)] := hl
    refine lv_aload_n hx hb d_La_law_449 rfl (lv_at hl 3 rfl) ?_
    refine lv_aload_n hx hb d_La_law_450 rfl (lv_at hl 5 rfl) ?_
    refine lv_iload hx hb d_La_law_451 (lv_at hl 1 rfl) ?_
    refine lv_iconst (v := 1) hx hb d_La_law_453 (by decide) ?_
    refine lv_iadd hx hb d_La_law_454 ?_
    refine lv_topi (fun x1012 ex1012 => ?_)
    obtain rfl : x1012 = 1 := ex1012.trans (by decide)
    refine va_sld hx hb hX hbl hbA hS (i := 1) (show ¬ ((1 : Int32) < 0 ∨ 6 ≤ (1 : Int32).toNatClampNeg) by decide) d_La_law_455 ?_
    refine lv_topi (fun x1013 ex1013 => ?_)
    obtain rfl : v1 = x1013 := (ex1013.trans hv1).symm
    have hhp : ∀ q, q < s.heap.size → H[q]? = s.heap[q]? := fun q hq => hS.2.1 q hq (fun h => absurd (hA2 q h) (by omega))
    have hPc := hP.sub (ws' := [(q27, .inr (12, [.ref q29, .ref q30, .ref q31, .int 0, .int 0, .int 0, .int 0, .int 0, .ref q32, .ref q33, .ref q34, .ref q35, .ref q36, .int 0, .int 0, .ref q37, .ref q38, .ref q39, .ref q40, .ref q41, .ref q42, .ref q43, .ref q44, .int 0, .int 0, .ref q45, .ref q46, .ref q47, .ref q48, .ref q49, .int 0, .ref q50, .int 0, .int 0, .int 0, .int 0, .ref q51, .int 0, .int 0]))]) [6] rfl
    have hDc := hD.sub (ws' := [(q27, .inr (12, [.ref q29, .ref q30, .ref q31, .int 0, .int 0, .int 0, .int 0, .int 0, .ref q32, .ref q33, .ref q34, .ref q35, .ref q36, .int 0, .int 0, .ref q37, .ref q38, .ref q39, .ref q40, .ref q41, .ref q42, .ref q43, .ref q44, .int 0, .int 0, .ref q45, .ref q46, .ref q47, .ref q48, .ref q49, .int 0, .ref q50, .int 0, .int 0, .int 0, .int 0, .ref q51, .int 0, .int 0]))]) [6] (by decide) rfl
    have hKc := hK.sub (tys' := []) [] rfl
    have hFc := va_free (wc := [(q27, .inr (12, [.ref q29, .ref q30, .ref q31, .int 0, .int 0, .int 0, .int 0, .int 0, .ref q32, .ref q33, .ref q34, .ref q35, .ref q36, .int 0, .int 0, .ref q37, .ref q38, .ref q39, .ref q40, .ref q41, .ref q42, .ref q43, .ref q44, .int 0, .int 0, .ref q45, .ref q46, .ref q47, .ref q48, .ref q49, .int 0, .ref q50, .int 0, .int 0, .int 0, .int 0, .ref q51, .int 0, .int 0]))]) hD hS hA [6] rfl
    have hkc : 220 + 0 ≤ 600002 := (Nat.le_of_ble_eq_true rfl)
    refine va_calli (va_runV (As := [.int v1]) (rest := []) hfx (c_Mo_tick_no l dC dI q27 q29 q30 q31 q32 q33 q34 q35 q36 q37 q38 q39 q40 q41 q42 q43 q44 q45 q46 q47 q48 q49 q50 q51 v1 hn H.size) ⟨(ux_cb 1 hT tw_1952 tw_1949 tw_13 rfl rfl (by decide +kernel) ⟨(Nat.le_of_ble_eq_true rfl), (Nat.le_of_ble_eq_true rfl)⟩), (ux_T_at hT tw_1950 rfl), (ux_T_at hT tw_1951 rfl)⟩ (ux_preV (r := (R_Mo, F_Mo, 39)) (ci := 12) (q0 := 0) [.int v1] hT hPc hKc hDc rfl rfl) rfl rfl hl.1 rfl (lv_room (Nat.le_of_ble_eq_true rfl)) d_La_law_456 ⟨(Nat.le_of_ble_eq_true rfl), (Nat.le_of_ble_eq_true rfl)⟩) hS (fun q _ h => hFc q h) hFc (fun r1014 u t H1 locs ht hvm hw hB hz1 hk1 hS => ?_)
    obtain ⟨hP1, hK1, hD1⟩ := hB
    rw [ht] at hP1
    have hK1 := va_K.moved hvm.symm hK1
    obtain ⟨hP, hD⟩ := va_join (wr := [(q3, .inl (cA25, 2000, .inl (fun _ => 0))), (q4, .inr (1, [.ref q12, .ref q13, .ref q14, .int 0, .int 0])), (q5, .inr (2, [.ref q4, .ref q15, .ref q16, .int 0, .int 0])), (q6, .inr (3, [.ref q17, .int 0])), (q8, .inr (6, [.ref q18, .ref q19, .ref q5, .int 0, .int 0])), (q9, .inr (10, [.ref q20, .ref q21, .ref q22, .ref q23, .ref q24, .int 0])), (q29, .inl (cA52, 2000, .inl (fun _ => 0))), (q30, .inl (cA53, 5718, .inl (fun _ => 0))), (q54, .inl (cA55, 1, .inr (.inl (fun _ => 0))))]) (w1 := [(q27, .inr (12, [.ref q29, .ref q30, .ref q31, .int 0, .int 1, .int 0, .int 0, .int 0, .ref q32, .ref q33, .ref q34, .ref q35, .ref q36, .int 0, .int 0, .ref q37, .ref q38, .ref q39, .ref q40, .ref q41, .ref q42, .ref q43, .ref q44, .int 0, .int 0, .ref q45, .ref q46, .ref q47, .ref q48, .ref q49, .int 0, .ref q50, .int 0, .int 0, .int 0, .int 0, .ref q51, .int 0, .int 0]))]) hP hD [6] [0, 1, 2, 3, 4, 5, 7, 8, 9] rfl rfl (by decide) (by decide) hk1 hFc hP1 hD1
    have hK := (hK.sub (tys' := [(cA25, .byte), (cA52, .byte), (cA53, .byte), (cA55, .long), (cA55, .long)]) [0, 1, 2, 3, 4] rfl).app hK1
    generalize H1 = H at hP hS ⊢
    have hP : va_P (dC, dI) cls [(q3, .inl (cA25, 2000, .inl (fun _ => 0))), (q4, .inr (1, [.ref q12, .ref q13, .ref q14, .int 0, .int 0])), (q5, .inr (2, [.ref q4, .ref q15, .ref q16, .int 0, .int 0])), (q6, .inr (3, [.ref q17, .int 0])), (q8, .inr (6, [.ref q18, .ref q19, .ref q5, .int 0, .int 0])), (q9, .inr (10, [.ref q20, .ref q21, .ref q22, .ref q23, .ref q24, .int 0])), (q29, .inl (cA52, 2000, .inl (fun _ => 0))), (q30, .inl (cA53, 5718, .inl (fun _ => 0))), (q54, .inl (cA55, 1, .inr (.inl (fun _ => 0)))), (q27, .inr (12, [.ref q29, .ref q30, .ref q31, .int 0, .int 1, .int 0, .int 0, .int 0, .ref q32, .ref q33, .ref q34, .ref q35, .ref q36, .int 0, .int 0, .ref q37, .ref q38, .ref q39, .ref q40, .ref q41, .ref q42, .ref q43, .ref q44, .int 0, .int 0, .ref q45, .ref q46, .ref q47, .ref q48, .ref q49, .int 0, .ref q50, .int 0, .int 0, .int 0, .int 0, .ref q51, .int 0, .int 0]))] H := hP
    have hD : va_D A [(q3, .inl (cA25, 2000, .inl (fun _ => 0))), (q4, .inr (1, [.ref q12, .ref q13, .ref q14, .int 0, .int 0])), (q5, .inr (2, [.ref q4, .ref q15, .ref q16, .int 0, .int 0])), (q6, .inr (3, [.ref q17, .int 0])), (q8, .inr (6, [.ref q18, .ref q19, .ref q5, .int 0, .int 0])), (q9, .inr (10, [.ref q20, .ref q21, .ref q22, .ref q23, .ref q24, .int 0])), (q29, .inl (cA52, 2000, .inl (fun _ => 0))), (q30, .inl (cA53, 5718, .inl (fun _ => 0))), (q54, .inl (cA55, 1, .inr (.inl (fun _ => 0)))), (q27, .inr (12, [.ref q29, .ref q30, .ref q31, .int 0, .int 1, .int 0, .int 0, .int 0, .ref q32, .ref q33, .ref q34, .ref q35, .ref q36, .int 0, .int 0, .ref q37, .ref q38, .ref q39, .ref q40, .ref q41, .ref q42, .ref q43, .ref q44, .int 0, .int 0, .ref q45, .ref q46, .ref q47, .ref q48, .ref q49, .int 0, .ref q50, .int 0, .int 0, .int 0, .int 0, .ref q51, .int 0, .int 0]))] := hD
    have hK : va_K (dC, dI) cls [(cA25, .byte), (cA52, .byte), (cA53, .byte), (cA55, .long), (cA55, .long)] s := hK
    obtain rfl : r1014 = 0 := hw
    refine lv_istore hx hb d_La_law_459 hl (by decide) rfl (fun ls hl => ?_)
    have hl : lv_has ls 8 [(6, .int 0), (5, .int 1), (4, .int 0), (3, .ref q54), (2, .ref q27), (1, .ref q1), (0, .ref b)] := hl
    refine lv_aload_n hx hb d_La_law_461 rfl (lv_at hl 4 rfl) ?_
    have hhp : ∀ q, q < s.heap.size → H[q]? = s.heap[q]? := fun q hq => hS.2.1 q hq (fun h => absurd (hA2 q h) (by omega))
    have hPc := hP.sub (ws' := [(q27, .inr (12, [.ref q29, .ref q30, .ref q31, .int 0, .int 1, .int 0, .int 0, .int 0, .ref q32, .ref q33, .ref q34, .ref q35, .ref q36, .int 0, .int 0, .ref q37, .ref q38, .ref q39, .ref q40, .ref q41, .ref q42, .ref q43, .ref q44, .int 0, .int 0, .ref q45, .ref q46, .ref q47, .ref q48, .ref q49, .int 0, .ref q50, .int 0, .int 0, .int 0, .int 0, .ref q51, .int 0, .int 0]))]) [9] rfl
    have hDc := hD.sub (ws' := [(q27, .inr (12, [.ref q29, .ref q30, .ref q31, .int 0, .int 1, .int 0, .int 0, .int 0, .ref q32, .ref q33, .ref q34, .ref q35, .ref q36, .int 0, .int 0, .ref q37, .ref q38, .ref q39, .ref q40, .ref q41, .ref q42, .ref q43, .ref q44, .int 0, .int 0, .ref q45, .ref q46, .ref q47, .ref q48, .ref q49, .int 0, .ref q50, .int 0, .int 0, .int 0, .int 0, .ref q51, .int 0, .int 0]))]) [9] (by decide) rfl
    have hKc := hK.sub (tys' := []) [] rfl
    have hFc := va_free (wc := [(q27, .inr (12, [.ref q29, .ref q30, .ref q31, .int 0, .int 1, .int 0, .int 0, .int 0, .ref q32, .ref q33, .ref q34, .ref q35, .ref q36, .int 0, .int 0, .ref q37, .ref q38, .ref q39, .ref q40, .ref q41, .ref q42, .ref q43, .ref q44, .int 0, .int 0, .ref q45, .ref q46, .ref q47, .ref q48, .ref q49, .int 0, .ref q50, .int 0, .int 0, .int 0, .int 0, .ref q51, .int 0, .int 0]))]) hD hS hA [9] rfl
    have hkc : 220 + 0 ≤ 600002 := (Nat.le_of_ble_eq_true rfl)
    refine va_calli (va_runV (As := []) (rest := []) hfx (c_Mo_thrown_1 l dC dI q27 q29 q30 q31 q32 q33 q34 q35 q36 q37 q38 q39 q40 q41 q42 q43 q44 q45 q46 q47 q48 q49 q50 q51 0 0 H.size) ⟨(ux_cb 0 hT tw_1714 tw_1711 tw_13 rfl rfl (by decide +kernel) ⟨(Nat.le_of_ble_eq_true rfl), (Nat.le_of_ble_eq_true rfl)⟩), (ux_T_at hT tw_1712 rfl), (ux_T_at hT tw_1713 rfl)⟩ (ux_preV (r := (R_Mo, F_Mo, 39)) (ci := 12) (q0 := 0) [] hT hPc hKc hDc rfl rfl) rfl rfl hl.1 rfl (lv_room (Nat.le_of_ble_eq_true rfl)) d_La_law_462 ⟨(Nat.le_of_ble_eq_true rfl), (Nat.le_of_ble_eq_true rfl)⟩) hS (fun q _ h => hFc q h) hFc (fun r1015 u t H1 locs ht hvm hw hB hz1 hk1 hS => ?_)
    obtain ⟨hP1, hK1, hD1⟩ := hB
    rw [ht] at hP1
    have hK1 := va_K.moved hvm.symm hK1
    obtain ⟨hP, hD⟩ := va_join (wr := [(q3, .inl (cA25, 2000, .inl (fun _ => 0))), (q4, .inr (1, [.ref q12, .ref q13, .ref q14, .int 0, .int 0])), (q5, .inr (2, [.ref q4, .ref q15, .ref q16, .int 0, .int 0])), (q6, .inr (3, [.ref q17, .int 0])), (q8, .inr (6, [.ref q18, .ref q19, .ref q5, .int 0, .int 0])), (q9, .inr (10, [.ref q20, .ref q21, .ref q22, .ref q23, .ref q24, .int 0])), (q29, .inl (cA52, 2000, .inl (fun _ => 0))), (q30, .inl (cA53, 5718, .inl (fun _ => 0))), (q54, .inl (cA55, 1, .inr (.inl (fun _ => 0))))]) (w1 := [(q27, .inr (12, [.ref q29, .ref q30, .ref q31, .int 0, .int 1, .int 0, .int 0, .int 0, .ref q32, .ref q33, .ref q34, .ref q35, .ref q36, .int 0, .int 0, .ref q37, .ref q38, .ref q39, .ref q40, .ref q41, .ref q42, .ref q43, .ref q44, .int 0, .int 0, .ref q45, .ref q46, .ref q47, .ref q48, .ref q49, .int 0, .ref q50, .int 0, .int 0, .int 0, .int 0, .ref q51, .int 0, .int 0]))]) hP hD [9] [0, 1, 2, 3, 4, 5, 6, 7, 8] rfl rfl (by decide) (by decide) hk1 hFc hP1 hD1
    have hK := (hK.sub (tys' := [(cA25, .byte), (cA52, .byte), (cA53, .byte), (cA55, .long), (cA55, .long)]) [0, 1, 2, 3, 4] rfl).app hK1
    generalize H1 = H at hP hS ⊢
    have hP : va_P (dC, dI) cls [(q3, .inl (cA25, 2000, .inl (fun _ => 0))), (q4, .inr (1, [.ref q12, .ref q13, .ref q14, .int 0, .int 0])), (q5, .inr (2, [.ref q4, .ref q15, .ref q16, .int 0, .int 0])), (q6, .inr (3, [.ref q17, .int 0])), (q8, .inr (6, [.ref q18, .ref q19, .ref q5, .int 0, .int 0])), (q9, .inr (10, [.ref q20, .ref q21, .ref q22, .ref q23, .ref q24, .int 0])), (q29, .inl (cA52, 2000, .inl (fun _ => 0))), (q30, .inl (cA53, 5718, .inl (fun _ => 0))), (q54, .inl (cA55, 1, .inr (.inl (fun _ => 0)))), (q27, .inr (12, [.ref q29, .ref q30, .ref q31, .int 0, .int 1, .int 0, .int 0, .int 0, .ref q32, .ref q33, .ref q34, .ref q35, .ref q36, .int 0, .int 0, .ref q37, .ref q38, .ref q39, .ref q40, .ref q41, .ref q42, .ref q43, .ref q44, .int 0, .int 0, .ref q45, .ref q46, .ref q47, .ref q48, .ref q49, .int 0, .ref q50, .int 0, .int 0, .int 0, .int 0, .ref q51, .int 0, .int 0]))] H := hP
    have hD : va_D A [(q3, .inl (cA25, 2000, .inl (fun _ => 0))), (q4, .inr (1, [.ref q12, .ref q13, .ref q14, .int 0, .int 0])), (q5, .inr (2, [.ref q4, .ref q15, .ref q16, .int 0, .int 0])), (q6, .inr (3, [.ref q17, .int 0])), (q8, .inr (6, [.ref q18, .ref q19, .ref q5, .int 0, .int 0])), (q9, .inr (10, [.ref q20, .ref q21, .ref q22, .ref q23, .ref q24, .int 0])), (q29, .inl (cA52, 2000, .inl (fun _ => 0))), (q30, .inl (cA53, 5718, .inl (fun _ => 0))), (q54, .inl (cA55, 1, .inr (.inl (fun _ => 0)))), (q27, .inr (12, [.ref q29, .ref q30, .ref q31, .int 0, .int 1, .int 0, .int 0, .int 0, .ref q32, .ref q33, .ref q34, .ref q35, .ref q36, .int 0, .int 0, .ref q37, .ref q38, .ref q39, .ref q40, .ref q41, .ref q42, .ref q43, .ref q44, .int 0, .int 0, .ref q45, .ref q46, .ref q47, .ref q48, .ref q49, .int 0, .ref q50, .int 0, .int 0, .int 0, .int 0, .ref q51, .int 0, .int 0]))] := hD
    have hK : va_K (dC, dI) cls [(cA25, .byte), (cA52, .byte), (cA53, .byte), (cA55, .long), (cA55, .long)] s := hK
    obtain rfl : r1015 = 1 := hw
    refine lv_iload hx hb d_La_law_465 (lv_at hl 1 rfl) ?_
    refine lv_icmp_eq (tgt := 472) hx hb d_La_law_467 (by decide) (fun _ => ?_) (fun hc => absurd (by decide) hc)
    refine lv_iload hx hb d_La_law_472 (lv_at hl 1 rfl) ?_
    refine lv_if_ne (tgt := 489) hx hb d_La_law_474 (by decide) (fun _ => ?_) (fun hc => absurd hc (by decide))
    refine lv_goto hx hb d_La_law_489 (tgt := 751) (by decide) ?_
    exact law_end l hA2 ⟨hx, hb, hr, hml, hown, hts, hX, hbl, hlocks, hgv⟩ (Nat.le_of_ble_eq_true rfl) (Nat.le_of_ble_eq_true rfl) hS (lv_sub hl [6, 2] rfl)
set_option maxHeartbeats 4000000 in
set_option maxRecDepth 100000 in
theorem law_6 {p : Program} {e : Env} {s : State} {m : MethodId} {below : List Frame} {meth : Method} {c : Code} (l : Launch) (hfl : l.flags = flags0) {b : Nat} {xs : Nat → Int32} {A : Nat → Prop} (hA : ∀ q, s.heap.size ≤ q → A q) (hA2 : ∀ q, A q → s.heap.size ≤ q) (C0 : lw_At p s m meth c b 6 xs) (hT : ux_T s) (hH : ux_H s) (dC : Nat → ClassId) (dI : Nat → Nat → Nat) (q1 : Nat) (q3 : Nat) (q4 : Nat) (q5 : Nat) (q6 : Nat) (q7 : Nat) (q8 : Nat) (q9 : Nat) (q10 : Nat) (q11 : Nat) (q12 : Nat) (q13 : Nat) (q14 : Nat) (q15 : Nat) (q16 : Nat) (q17 : Nat) (q18 : Nat) (q19 : Nat) (q20 : Nat) (q21 : Nat) (q22 : Nat) (q23 : Nat) (q24 : Nat) (q27 : Nat) (q29 : Nat) (q30 : Nat) (q31 : Nat) (q32 : Nat) (q33 : Nat) (q34 : Nat) (q35 : Nat) (q36 : Nat) (q37 : Nat) (q38 : Nat) (q39 : Nat) (q40 : Nat) (q41 : Nat) (q42 : Nat) (q43 : Nat) (q44 : Nat) (q45 : Nat) (q46 : Nat) (q47 : Nat) (q48 : Nat) (q49 : Nat) (q50 : Nat) (q51 : Nat) (q54 : Nat) (cA25 : ClassId) (cA52 : ClassId) (cA53 : ClassId) (cA55 : ClassId) {H : Heap} {locs : List Loc} {ls : Array Slot} (hK : va_K (dC, dI) cls [(cA25, .byte), (cA52, .byte), (cA53, .byte), (cA55, .long)] s) (hP : va_P (dC, dI) cls [(q1, .inr (0, [.ref q3, .int 0, .int 0, .ref q4, .ref q5, .ref q6, .ref q7, .ref q8, .ref q9, .ref q10, .ref q11, .ref q3, .int 0, .int 0])), (q3, .inl (cA25, 2000, .inl (fun _ => 0))), (q4, .inr (1, [.ref q12, .ref q13, .ref q14, .int 0, .int 0])), (q5, .inr (2, [.ref q4, .ref q15, .ref q16, .int 0, .int 0])), (q6, .inr (3, [.ref q17, .int 0])), (q8, .inr (6, [.ref q18, .ref q19, .ref q5, .int 0, .int 0])), (q9, .inr (10, [.ref q20, .ref q21, .ref q22, .ref q23, .ref q24, .int 0])), (q27, .inr (12, [.ref q29, .ref q30, .ref q31, .int 0, .int 0, .int 0, .int 0, .int 0, .ref q32, .ref q33, .ref q34, .ref q35, .ref q36, .int 0, .int 0, .ref q37, .ref q38, .ref q39, .ref q40, .ref q41, .ref q42, .ref q43, .ref q44, .int 0, .int 0, .ref q45, .ref q46, .ref q47, .ref q48, .ref q49, .int 0, .ref q50, .int 0, .int 0, .int 0, .int 0, .ref q51, .int 0, .int 0])), (q29, .inl (cA52, 2000, .inl (fun _ => 0))), (q30, .inl (cA53, 5718, .inl (fun _ => 0))), (q54, .inl (cA55, 1, .inr (.inl (fun _ => 0))))] H) (hD : va_D A [(q1, .inr (0, [.ref q3, .int 0, .int 0, .ref q4, .ref q5, .ref q6, .ref q7, .ref q8, .ref q9, .ref q10, .ref q11, .ref q3, .int 0, .int 0])), (q3, .inl (cA25, 2000, .inl (fun _ => 0))), (q4, .inr (1, [.ref q12, .ref q13, .ref q14, .int 0, .int 0])), (q5, .inr (2, [.ref q4, .ref q15, .ref q16, .int 0, .int 0])), (q6, .inr (3, [.ref q17, .int 0])), (q8, .inr (6, [.ref q18, .ref q19, .ref q5, .int 0, .int 0])), (q9, .inr (10, [.ref q20, .ref q21, .ref q22, .ref q23, .ref q24, .int 0])), (q27, .inr (12, [.ref q29, .ref q30, .ref q31, .int 0, .int 0, .int 0, .int 0, .int 0, .ref q32, .ref q33, .ref q34, .ref q35, .ref q36, .int 0, .int 0, .ref q37, .ref q38, .ref q39, .ref q40, .ref q41, .ref q42, .ref q43, .ref q44, .int 0, .int 0, .ref q45, .ref q46, .ref q47, .ref q48, .ref q49, .int 0, .ref q50, .int 0, .int 0, .int 0, .int 0, .ref q51, .int 0, .int 0])), (q29, .inl (cA52, 2000, .inl (fun _ => 0))), (q30, .inl (cA53, 5718, .inl (fun _ => 0))), (q54, .inl (cA55, 1, .inr (.inl (fun _ => 0))))]) (hS : va_S A s.heap H locs) (hl : lv_has ls 8 [(4, .int 0), (3, .ref q54), (2, .ref q27), (1, .ref q1), (0, .ref b)]) : W p l e room_1 s m #[Value.ref b] below meth c H locs 219 543617 (lw_Z below #[Value.ref b] s) (F0 m 492 ls []) := by
  obtain ⟨hx, hb, hr, hml, hown, hts, hX, hbl, hlocks, hgv⟩ := C0
  have hown : s.vm.findClass "UnikernelHttpLaw" = some m.cls := hown
  have hbA : ¬ A b := fun h => absurd (hA2 b h) (by omega)
  have hfx : CallFix p m c b_La_law 8 s #[Value.ref b] [] "UnikernelHttpLaw" := ⟨hx, hb, hml, hown, fun _ h => by cases h⟩
  obtain ⟨v1, hv1⟩ : ∃ v, xs (1 : Int32).toNatClampNeg = v := ⟨_, rfl⟩
  obtain ⟨v2, hv2⟩ : ∃ v, xs (2 : Int32).toNatClampNeg = v := ⟨_, rfl⟩
  obtain ⟨v3, hv3⟩ : ∃ v, xs (3 : Int32).toNatClampNeg = v := ⟨_, rfl⟩
  obtain ⟨v4, hv4⟩ : ∃ v, xs (4 : Int32).toNatClampNeg = v := ⟨_, rfl⟩
  obtain ⟨v5, hv5⟩ : ∃ v, xs (5 : Int32).toNatClampNeg = v := ⟨_, rfl⟩
  refine lv_aload_n hx hb d_La_law_492 rfl (lv_at hl 3 rfl) ?_
  refine lv_aload_n hx hb d_La_law_493 rfl (lv_at hl 4 rfl) ?_
  refine lv_iload hx hb d_La_law_494 (lv_at hl 0 rfl) ?_
  refine lv_iconst (v := 1) hx hb d_La_law_496 (by decide) ?_
  refine lv_iadd hx hb d_La_law_497 ?_
  refine lv_topi (fun x1001 ex1001 => ?_)
  obtain rfl : x1001 = 1 := ex1001.trans (by decide)
  refine va_sld hx hb hX hbl hbA hS (i := 1) (show ¬ ((1 : Int32) < 0 ∨ 6 ≤ (1 : Int32).toNatClampNeg) by decide) d_La_law_498 ?_
  refine lv_topi (fun x1002 ex1002 => ?_)
  obtain rfl : v1 = x1002 := (ex1002.trans hv1).symm
  refine lv_aload_n hx hb d_La_law_499 rfl (lv_at hl 1 rfl) ?_
  have hhp : ∀ q, q < s.heap.size → H[q]? = s.heap[q]? := fun q hq => hS.2.1 q hq (fun h => absurd (hA2 q h) (by omega))
  have hPc := hP.sub (ws' := [(q1, .inr (0, [.ref q3, .int 0, .int 0, .ref q4, .ref q5, .ref q6, .ref q7, .ref q8, .ref q9, .ref q10, .ref q11, .ref q3, .int 0, .int 0])), (q5, .inr (2, [.ref q4, .ref q15, .ref q16, .int 0, .int 0])), (q54, .inl (cA55, 1, .inr (.inl (fun _ => 0))))]) [0, 3, 10] rfl
  have hDc := hD.sub (ws' := [(q1, .inr (0, [.ref q3, .int 0, .int 0, .ref q4, .ref q5, .ref q6, .ref q7, .ref q8, .ref q9, .ref q10, .ref q11, .ref q3, .int 0, .int 0])), (q5, .inr (2, [.ref q4, .ref q15, .ref q16, .int 0, .int 0])), (q54, .inl (cA55, 1, .inr (.inl (fun _ => 0))))]) [0, 3, 10] (by decide) rfl
  have hKc := hK.sub (tys' := [(cA55, .long)]) [3] rfl
  have hFc := va_free (wc := [(q1, .inr (0, [.ref q3, .int 0, .int 0, .ref q4, .ref q5, .ref q6, .ref q7, .ref q8, .ref q9, .ref q10, .ref q11, .ref q3, .int 0, .int 0])), (q5, .inr (2, [.ref q4, .ref q15, .ref q16, .int 0, .int 0])), (q54, .inl (cA55, 1, .inr (.inl (fun _ => 0))))]) hD hS hA [0, 3, 10] rfl
  have hkc : 219 + 1 ≤ 600002 := (Nat.le_of_ble_eq_true rfl)
  refine va_calli (ux_runSW (n := 3) (As := [.ref q1, .int v1, .ref q54]) (rest := []) hfx (c_La_size l hfl dC dI q1 q54 q3 q4 q5 q6 q7 q8 q9 q10 q11 q15 q16 cA55 v1 H.size) hT tw_1426 tw_1424 tw_0 tw_1425 rfl rfl (by decide +kernel) ⟨(Nat.le_of_ble_eq_true rfl), (Nat.le_of_ble_eq_true rfl)⟩ (ux_preH [.ref q1, .int v1, .ref q54] hT hH hhp hPc hKc hDc) rfl rfl hl.1 rfl (lv_room (Nat.le_of_ble_eq_true rfl)) d_La_law_500 ⟨(Nat.le_of_ble_eq_true rfl), (Nat.le_of_ble_eq_true rfl)⟩) hS (fun q _ h => hFc q h) hFc (fun r1003 u t H1 locs ht hvm hw hB hz1 hk1 hS => ?_)
  obtain ⟨hP1, hK1, hD1⟩ := hB
  rw [ht] at hP1
  have hK1 := va_K.moved hvm.symm hK1
  obtain ⟨hP, hD⟩ := va_join (wr := [(q3, .inl (cA25, 2000, .inl (fun _ => 0))), (q4, .inr (1, [.ref q12, .ref q13, .ref q14, .int 0, .int 0])), (q6, .inr (3, [.ref q17, .int 0])), (q8, .inr (6, [.ref q18, .ref q19, .ref q5, .int 0, .int 0])), (q9, .inr (10, [.ref q20, .ref q21, .ref q22, .ref q23, .ref q24, .int 0])), (q27, .inr (12, [.ref q29, .ref q30, .ref q31, .int 0, .int 0, .int 0, .int 0, .int 0, .ref q32, .ref q33, .ref q34, .ref q35, .ref q36, .int 0, .int 0, .ref q37, .ref q38, .ref q39, .ref q40, .ref q41, .ref q42, .ref q43, .ref q44, .int 0, .int 0, .ref q45, .ref q46, .ref q47, .ref q48, .ref q49, .int 0, .ref q50, .int 0, .int 0, .int 0, .int 0, .ref q51, .int 0, .int 0])), (q29, .inl (cA52, 2000, .inl (fun _ => 0))), (q30, .inl (cA53, 5718, .inl (fun _ => 0)))]) (w1 := [(q54, .inl (cA55, 1, .inr (.inl (fun _ => 0))))]) hP hD [0, 3, 10] [1, 2, 4, 5, 6, 7, 8, 9] rfl rfl (by decide) (by decide) hk1 hFc hP1 hD1
  have hK := (hK.sub (tys' := [(cA25, .byte), (cA52, .byte), (cA53, .byte), (cA55, .long)]) [0, 1, 2, 3] rfl).app hK1
  generalize H1 = H at hP hS ⊢
  have hP : va_P (dC, dI) cls [(q3, .inl (cA25, 2000, .inl (fun _ => 0))), (q4, .inr (1, [.ref q12, .ref q13, .ref q14, .int 0, .int 0])), (q6, .inr (3, [.ref q17, .int 0])), (q8, .inr (6, [.ref q18, .ref q19, .ref q5, .int 0, .int 0])), (q9, .inr (10, [.ref q20, .ref q21, .ref q22, .ref q23, .ref q24, .int 0])), (q27, .inr (12, [.ref q29, .ref q30, .ref q31, .int 0, .int 0, .int 0, .int 0, .int 0, .ref q32, .ref q33, .ref q34, .ref q35, .ref q36, .int 0, .int 0, .ref q37, .ref q38, .ref q39, .ref q40, .ref q41, .ref q42, .ref q43, .ref q44, .int 0, .int 0, .ref q45, .ref q46, .ref q47, .ref q48, .ref q49, .int 0, .ref q50, .int 0, .int 0, .int 0, .int 0, .ref q51, .int 0, .int 0])), (q29, .inl (cA52, 2000, .inl (fun _ => 0))), (q30, .inl (cA53, 5718, .inl (fun _ => 0))), (q54, .inl (cA55, 1, .inr (.inl (fun _ => 0))))] H := hP
  have hD : va_D A [(q3, .inl (cA25, 2000, .inl (fun _ => 0))), (q4, .inr (1, [.ref q12, .ref q13, .ref q14, .int 0, .int 0])), (q6, .inr (3, [.ref q17, .int 0])), (q8, .inr (6, [.ref q18, .ref q19, .ref q5, .int 0, .int 0])), (q9, .inr (10, [.ref q20, .ref q21, .ref q22, .ref q23, .ref q24, .int 0])), (q27, .inr (12, [.ref q29, .ref q30, .ref q31, .int 0, .int 0, .int 0, .int 0, .int 0, .ref q32, .ref q33, .ref q34, .ref q35, .ref q36, .int 0, .int 0, .ref q37, .ref q38, .ref q39, .ref q40, .ref q41, .ref q42, .ref q43, .ref q44, .int 0, .int 0, .ref q45, .ref q46, .ref q47, .ref q48, .ref q49, .int 0, .ref q50, .int 0, .int 0, .int 0, .int 0, .ref q51, .int 0, .int 0])), (q29, .inl (cA52, 2000, .inl (fun _ => 0))), (q30, .inl (cA53, 5718, .inl (fun _ => 0))), (q54, .inl (cA55, 1, .inr (.inl (fun _ => 0))))] := hD
  have hK : va_K (dC, dI) cls [(cA25, .byte), (cA52, .byte), (cA53, .byte), (cA55, .long), (cA55, .long)] s := hK
  obtain rfl : r1003 = 1 := hw
  refine lv_istore hx hb d_La_law_503 hl (by decide) rfl (fun ls hl => ?_)
  have hl : lv_has ls 8 [(5, .int 1), (4, .int 0), (3, .ref q54), (2, .ref q27), (1, .ref q1), (0, .ref b)] := hl
  refine lv_aload_n hx hb d_La_law_505 rfl (lv_at hl 3 rfl) ?_
  refine lv_aload_n hx hb d_La_law_506 rfl (lv_at hl 5 rfl) ?_
  refine lv_iload hx hb d_La_law_507 (lv_at hl 1 rfl) ?_
  refine lv_iconst (v := 1) hx hb d_La_law_509 (by decide) ?_
  refine lv_iadd hx hb d_La_law_510 ?_
  refine lv_topi (fun x1004 ex1004 => ?_)
  obtain rfl : x1004 = 1 := ex1004.trans (by decide)
  refine va_sld hx hb hX hbl hbA hS (i := 1) (show ¬ ((1 : Int32) < 0 ∨ 6 ≤ (1 : Int32).toNatClampNeg) by decide) d_La_law_511 ?_
  refine lv_topi (fun x1005 ex1005 => ?_)
  obtain rfl : v1 = x1005 := (ex1005.trans hv1).symm
  have hhp : ∀ q, q < s.heap.size → H[q]? = s.heap[q]? := fun q hq => hS.2.1 q hq (fun h => absurd (hA2 q h) (by omega))
  have hPc := hP.sub (ws' := [(q27, .inr (12, [.ref q29, .ref q30, .ref q31, .int 0, .int 0, .int 0, .int 0, .int 0, .ref q32, .ref q33, .ref q34, .ref q35, .ref q36, .int 0, .int 0, .ref q37, .ref q38, .ref q39, .ref q40, .ref q41, .ref q42, .ref q43, .ref q44, .int 0, .int 0, .ref q45, .ref q46, .ref q47, .ref q48, .ref q49, .int 0, .ref q50, .int 0, .int 0, .int 0, .int 0, .ref q51, .int 0, .int 0]))]) [5] rfl
  have hDc := hD.sub (ws' := [(q27, .inr (12, [.ref q29, .ref q30, .ref q31, .int 0, .int 0, .int 0, .int 0, .int 0, .ref q32, .ref q33, .ref q34, .ref q35, .ref q36, .int 0, .int 0, .ref q37, .ref q38, .ref q39, .ref q40, .ref q41, .ref q42, .ref q43, .ref q44, .int 0, .int 0, .ref q45, .ref q46, .ref q47, .ref q48, .ref q49, .int 0, .ref q50, .int 0, .int 0, .int 0, .int 0, .ref q51, .int 0, .int 0]))]) [5] (by decide) rfl
  have hKc := hK.sub (tys' := []) [] rfl
  have hFc := va_free (wc := [(q27, .inr (12, [.ref q29, .ref q30, .ref q31, .int 0, .int 0, .int 0, .int 0, .int 0, .ref q32, .ref q33, .ref q34, .ref q35, .ref q36, .int 0, .int 0, .ref q37, .ref q38, .ref q39, .ref q40, .ref q41, .ref q42, .ref q43, .ref q44, .int 0, .int 0, .ref q45, .ref q46, .ref q47, .ref q48, .ref q49, .int 0, .ref q50, .int 0, .int 0, .int 0, .int 0, .ref q51, .int 0, .int 0]))]) hD hS hA [5] rfl
  have hkc : 220 + 0 ≤ 600002 := (Nat.le_of_ble_eq_true rfl)
  refine va_calli (va_runV (As := [.int v1]) (rest := []) hfx (c_Mo_size l dC dI q27 q29 q30 q31 q32 q33 q34 q35 q36 q37 q38 q39 q40 q41 q42 q43 q44 q45 q46 q47 q48 q49 q50 q51 v1 H.size) ⟨(ux_cb 1 hT tw_1960 tw_1957 tw_13 rfl rfl (by decide +kernel) ⟨(Nat.le_of_ble_eq_true rfl), (Nat.le_of_ble_eq_true rfl)⟩), (ux_T_at hT tw_1958 rfl), (ux_T_at hT tw_1959 rfl)⟩ (ux_preV (r := (R_Mo, F_Mo, 39)) (ci := 12) (q0 := 0) [.int v1] hT hPc hKc hDc rfl rfl) rfl rfl hl.1 rfl (lv_room (Nat.le_of_ble_eq_true rfl)) d_La_law_512 ⟨(Nat.le_of_ble_eq_true rfl), (Nat.le_of_ble_eq_true rfl)⟩) hS (fun q _ h => hFc q h) hFc (fun r1006 u t H1 locs ht hvm hw hB hz1 hk1 hS => ?_)
  obtain ⟨hP1, hK1, hD1⟩ := hB
  rw [ht] at hP1
  have hK1 := va_K.moved hvm.symm hK1
  obtain ⟨hP, hD⟩ := va_join (wr := [(q3, .inl (cA25, 2000, .inl (fun _ => 0))), (q4, .inr (1, [.ref q12, .ref q13, .ref q14, .int 0, .int 0])), (q6, .inr (3, [.ref q17, .int 0])), (q8, .inr (6, [.ref q18, .ref q19, .ref q5, .int 0, .int 0])), (q9, .inr (10, [.ref q20, .ref q21, .ref q22, .ref q23, .ref q24, .int 0])), (q29, .inl (cA52, 2000, .inl (fun _ => 0))), (q30, .inl (cA53, 5718, .inl (fun _ => 0))), (q54, .inl (cA55, 1, .inr (.inl (fun _ => 0))))]) (w1 := [(q27, .inr (12, [.ref q29, .ref q30, .ref q31, .int 0, .int 1, .int 0, .int 0, .int 0, .ref q32, .ref q33, .ref q34, .ref q35, .ref q36, .int 0, .int 0, .ref q37, .ref q38, .ref q39, .ref q40, .ref q41, .ref q42, .ref q43, .ref q44, .int 0, .int 0, .ref q45, .ref q46, .ref q47, .ref q48, .ref q49, .int 0, .ref q50, .int 0, .int 0, .int 0, .int 0, .ref q51, .int 0, .int 0]))]) hP hD [5] [0, 1, 2, 3, 4, 6, 7, 8] rfl rfl (by decide) (by decide) hk1 hFc hP1 hD1
  have hK := (hK.sub (tys' := [(cA25, .byte), (cA52, .byte), (cA53, .byte), (cA55, .long), (cA55, .long)]) [0, 1, 2, 3, 4] rfl).app hK1
  generalize H1 = H at hP hS ⊢
  have hP : va_P (dC, dI) cls [(q3, .inl (cA25, 2000, .inl (fun _ => 0))), (q4, .inr (1, [.ref q12, .ref q13, .ref q14, .int 0, .int 0])), (q6, .inr (3, [.ref q17, .int 0])), (q8, .inr (6, [.ref q18, .ref q19, .ref q5, .int 0, .int 0])), (q9, .inr (10, [.ref q20, .ref q21, .ref q22, .ref q23, .ref q24, .int 0])), (q29, .inl (cA52, 2000, .inl (fun _ => 0))), (q30, .inl (cA53, 5718, .inl (fun _ => 0))), (q54, .inl (cA55, 1, .inr (.inl (fun _ => 0)))), (q27, .inr (12, [.ref q29, .ref q30, .ref q31, .int 0, .int 1, .int 0, .int 0, .int 0, .ref q32, .ref q33, .ref q34, .ref q35, .ref q36, .int 0, .int 0, .ref q37, .ref q38, .ref q39, .ref q40, .ref q41, .ref q42, .ref q43, .ref q44, .int 0, .int 0, .ref q45, .ref q46, .ref q47, .ref q48, .ref q49, .int 0, .ref q50, .int 0, .int 0, .int 0, .int 0, .ref q51, .int 0, .int 0]))] H := hP
  have hD : va_D A [(q3, .inl (cA25, 2000, .inl (fun _ => 0))), (q4, .inr (1, [.ref q12, .ref q13, .ref q14, .int 0, .int 0])), (q6, .inr (3, [.ref q17, .int 0])), (q8, .inr (6, [.ref q18, .ref q19, .ref q5, .int 0, .int 0])), (q9, .inr (10, [.ref q20, .ref q21, .ref q22, .ref q23, .ref q24, .int 0])), (q29, .inl (cA52, 2000, .inl (fun _ => 0))), (q30, .inl (cA53, 5718, .inl (fun _ => 0))), (q54, .inl (cA55, 1, .inr (.inl (fun _ => 0)))), (q27, .inr (12, [.ref q29, .ref q30, .ref q31, .int 0, .int 1, .int 0, .int 0, .int 0, .ref q32, .ref q33, .ref q34, .ref q35, .ref q36, .int 0, .int 0, .ref q37, .ref q38, .ref q39, .ref q40, .ref q41, .ref q42, .ref q43, .ref q44, .int 0, .int 0, .ref q45, .ref q46, .ref q47, .ref q48, .ref q49, .int 0, .ref q50, .int 0, .int 0, .int 0, .int 0, .ref q51, .int 0, .int 0]))] := hD
  have hK : va_K (dC, dI) cls [(cA25, .byte), (cA52, .byte), (cA53, .byte), (cA55, .long), (cA55, .long)] s := hK
  obtain rfl : r1006 = 0 := hw
  refine lv_istore hx hb d_La_law_515 hl (by decide) rfl (fun ls hl => ?_)
  have hl : lv_has ls 8 [(6, .int 0), (5, .int 1), (4, .int 0), (3, .ref q54), (2, .ref q27), (1, .ref q1), (0, .ref b)] := hl
  refine lv_aload_n hx hb d_La_law_517 rfl (lv_at hl 4 rfl) ?_
  have hhp : ∀ q, q < s.heap.size → H[q]? = s.heap[q]? := fun q hq => hS.2.1 q hq (fun h => absurd (hA2 q h) (by omega))
  have hPc := hP.sub (ws' := [(q27, .inr (12, [.ref q29, .ref q30, .ref q31, .int 0, .int 1, .int 0, .int 0, .int 0, .ref q32, .ref q33, .ref q34, .ref q35, .ref q36, .int 0, .int 0, .ref q37, .ref q38, .ref q39, .ref q40, .ref q41, .ref q42, .ref q43, .ref q44, .int 0, .int 0, .ref q45, .ref q46, .ref q47, .ref q48, .ref q49, .int 0, .ref q50, .int 0, .int 0, .int 0, .int 0, .ref q51, .int 0, .int 0]))]) [8] rfl
  have hDc := hD.sub (ws' := [(q27, .inr (12, [.ref q29, .ref q30, .ref q31, .int 0, .int 1, .int 0, .int 0, .int 0, .ref q32, .ref q33, .ref q34, .ref q35, .ref q36, .int 0, .int 0, .ref q37, .ref q38, .ref q39, .ref q40, .ref q41, .ref q42, .ref q43, .ref q44, .int 0, .int 0, .ref q45, .ref q46, .ref q47, .ref q48, .ref q49, .int 0, .ref q50, .int 0, .int 0, .int 0, .int 0, .ref q51, .int 0, .int 0]))]) [8] (by decide) rfl
  have hKc := hK.sub (tys' := []) [] rfl
  have hFc := va_free (wc := [(q27, .inr (12, [.ref q29, .ref q30, .ref q31, .int 0, .int 1, .int 0, .int 0, .int 0, .ref q32, .ref q33, .ref q34, .ref q35, .ref q36, .int 0, .int 0, .ref q37, .ref q38, .ref q39, .ref q40, .ref q41, .ref q42, .ref q43, .ref q44, .int 0, .int 0, .ref q45, .ref q46, .ref q47, .ref q48, .ref q49, .int 0, .ref q50, .int 0, .int 0, .int 0, .int 0, .ref q51, .int 0, .int 0]))]) hD hS hA [8] rfl
  have hkc : 220 + 0 ≤ 600002 := (Nat.le_of_ble_eq_true rfl)
  refine va_calli (va_runV (As := []) (rest := []) hfx (c_Mo_thrown_1 l dC dI q27 q29 q30 q31 q32 q33 q34 q35 q36 q37 q38 q39 q40 q41 q42 q43 q44 q45 q46 q47 q48 q49 q50 q51 0 0 H.size) ⟨(ux_cb 0 hT tw_1714 tw_1711 tw_13 rfl rfl (by decide +kernel) ⟨(Nat.le_of_ble_eq_true rfl), (Nat.le_of_ble_eq_true rfl)⟩), (ux_T_at hT tw_1712 rfl), (ux_T_at hT tw_1713 rfl)⟩ (ux_preV (r := (R_Mo, F_Mo, 39)) (ci := 12) (q0 := 0) [] hT hPc hKc hDc rfl rfl) rfl rfl hl.1 rfl (lv_room (Nat.le_of_ble_eq_true rfl)) d_La_law_518 ⟨(Nat.le_of_ble_eq_true rfl), (Nat.le_of_ble_eq_true rfl)⟩) hS (fun q _ h => hFc q h) hFc (fun r1007 u t H1 locs ht hvm hw hB hz1 hk1 hS => ?_)
  obtain ⟨hP1, hK1, hD1⟩ := hB
  rw [ht] at hP1
  have hK1 := va_K.moved hvm.symm hK1
  obtain ⟨hP, hD⟩ := va_join (wr := [(q3, .inl (cA25, 2000, .inl (fun _ => 0))), (q4, .inr (1, [.ref q12, .ref q13, .ref q14, .int 0, .int 0])), (q6, .inr (3, [.ref q17, .int 0])), (q8, .inr (6, [.ref q18, .ref q19, .ref q5, .int 0, .int 0])), (q9, .inr (10, [.ref q20, .ref q21, .ref q22, .ref q23, .ref q24, .int 0])), (q29, .inl (cA52, 2000, .inl (fun _ => 0))), (q30, .inl (cA53, 5718, .inl (fun _ => 0))), (q54, .inl (cA55, 1, .inr (.inl (fun _ => 0))))]) (w1 := [(q27, .inr (12, [.ref q29, .ref q30, .ref q31, .int 0, .int 1, .int 0, .int 0, .int 0, .ref q32, .ref q33, .ref q34, .ref q35, .ref q36, .int 0, .int 0, .ref q37, .ref q38, .ref q39, .ref q40, .ref q41, .ref q42, .ref q43, .ref q44, .int 0, .int 0, .ref q45, .ref q46, .ref q47, .ref q48, .ref q49, .int 0, .ref q50, .int 0, .int 0, .int 0, .int 0, .ref q51, .int 0, .int 0]))]) hP hD [8] [0, 1, 2, 3, 4, 5, 6, 7] rfl rfl (by decide) (by decide) hk1 hFc hP1 hD1
  have hK := (hK.sub (tys' := [(cA25, .byte), (cA52, .byte), (cA53, .byte), (cA55, .long), (cA55, .long)]) [0, 1, 2, 3, 4] rfl).app hK1
  generalize H1 = H at hP hS ⊢
  have hP : va_P (dC, dI) cls [(q3, .inl (cA25, 2000, .inl (fun _ => 0))), (q4, .inr (1, [.ref q12, .ref q13, .ref q14, .int 0, .int 0])), (q6, .inr (3, [.ref q17, .int 0])), (q8, .inr (6, [.ref q18, .ref q19, .ref q5, .int 0, .int 0])), (q9, .inr (10, [.ref q20, .ref q21, .ref q22, .ref q23, .ref q24, .int 0])), (q29, .inl (cA52, 2000, .inl (fun _ => 0))), (q30, .inl (cA53, 5718, .inl (fun _ => 0))), (q54, .inl (cA55, 1, .inr (.inl (fun _ => 0)))), (q27, .inr (12, [.ref q29, .ref q30, .ref q31, .int 0, .int 1, .int 0, .int 0, .int 0, .ref q32, .ref q33, .ref q34, .ref q35, .ref q36, .int 0, .int 0, .ref q37, .ref q38, .ref q39, .ref q40, .ref q41, .ref q42, .ref q43, .ref q44, .int 0, .int 0, .ref q45, .ref q46, .ref q47, .ref q48, .ref q49, .int 0, .ref q50, .int 0, .int 0, .int 0, .int 0, .ref q51, .int 0, .int 0]))] H := hP
  have hD : va_D A [(q3, .inl (cA25, 2000, .inl (fun _ => 0))), (q4, .inr (1, [.ref q12, .ref q13, .ref q14, .int 0, .int 0])), (q6, .inr (3, [.ref q17, .int 0])), (q8, .inr (6, [.ref q18, .ref q19, .ref q5, .int 0, .int 0])), (q9, .inr (10, [.ref q20, .ref q21, .ref q22, .ref q23, .ref q24, .int 0])), (q29, .inl (cA52, 2000, .inl (fun _ => 0))), (q30, .inl (cA53, 5718, .inl (fun _ => 0))), (q54, .inl (cA55, 1, .inr (.inl (fun _ => 0)))), (q27, .inr (12, [.ref q29, .ref q30, .ref q31, .int 0, .int 1, .int 0, .int 0, .int 0, .ref q32, .ref q33, .ref q34, .ref q35, .ref q36, .int 0, .int 0, .ref q37, .ref q38, .ref q39, .ref q40, .ref q41, .ref q42, .ref q43, .ref q44, .int 0, .int 0, .ref q45, .ref q46, .ref q47, .ref q48, .ref q49, .int 0, .ref q50, .int 0, .int 0, .int 0, .int 0, .ref q51, .int 0, .int 0]))] := hD
  have hK : va_K (dC, dI) cls [(cA25, .byte), (cA52, .byte), (cA53, .byte), (cA55, .long), (cA55, .long)] s := hK
  obtain rfl : r1007 = 1 := hw
  refine lv_iload hx hb d_La_law_521 (lv_at hl 1 rfl) ?_
  refine lv_icmp_eq (tgt := 528) hx hb d_La_law_523 (by decide) (fun _ => ?_) (fun hc => absurd (by decide) hc)
  refine lv_iload hx hb d_La_law_528 (lv_at hl 1 rfl) ?_
  refine lv_if_ne (tgt := 545) hx hb d_La_law_530 (by decide) (fun _ => ?_) (fun hc => absurd hc (by decide))
  refine lv_goto hx hb d_La_law_545 (tgt := 751) (by decide) ?_
  exact law_end l hA2 ⟨hx, hb, hr, hml, hown, hts, hX, hbl, hlocks, hgv⟩ (Nat.le_of_ble_eq_true rfl) (Nat.le_of_ble_eq_true rfl) hS (lv_sub hl [6, 2] rfl)
set_option maxHeartbeats 4000000 in
set_option maxRecDepth 100000 in
theorem law_7 {p : Program} {e : Env} {s : State} {m : MethodId} {below : List Frame} {meth : Method} {c : Code} (l : Launch) (hfl : l.flags = flags0) {b : Nat} {xs : Nat → Int32} {A : Nat → Prop} (hA : ∀ q, s.heap.size ≤ q → A q) (hA2 : ∀ q, A q → s.heap.size ≤ q) (C0 : lw_At p s m meth c b 6 xs) (hT : ux_T s) (hH : ux_H s) (dC : Nat → ClassId) (dI : Nat → Nat → Nat) (q1 : Nat) (q3 : Nat) (q4 : Nat) (q5 : Nat) (q6 : Nat) (q7 : Nat) (q8 : Nat) (q9 : Nat) (q10 : Nat) (q11 : Nat) (q12 : Nat) (q13 : Nat) (q14 : Nat) (q15 : Nat) (q16 : Nat) (q17 : Nat) (q18 : Nat) (q19 : Nat) (q20 : Nat) (q21 : Nat) (q22 : Nat) (q23 : Nat) (q24 : Nat) (q27 : Nat) (q29 : Nat) (q30 : Nat) (q31 : Nat) (q32 : Nat) (q33 : Nat) (q34 : Nat) (q35 : Nat) (q36 : Nat) (q37 : Nat) (q38 : Nat) (q39 : Nat) (q40 : Nat) (q41 : Nat) (q42 : Nat) (q43 : Nat) (q44 : Nat) (q45 : Nat) (q46 : Nat) (q47 : Nat) (q48 : Nat) (q49 : Nat) (q50 : Nat) (q51 : Nat) (q54 : Nat) (cA25 : ClassId) (cA52 : ClassId) (cA53 : ClassId) (cA55 : ClassId) {H : Heap} {locs : List Loc} {ls : Array Slot} (hK : va_K (dC, dI) cls [(cA25, .byte), (cA52, .byte), (cA53, .byte), (cA55, .long)] s) (hP : va_P (dC, dI) cls [(q1, .inr (0, [.ref q3, .int 0, .int 0, .ref q4, .ref q5, .ref q6, .ref q7, .ref q8, .ref q9, .ref q10, .ref q11, .ref q3, .int 0, .int 0])), (q3, .inl (cA25, 2000, .inl (fun _ => 0))), (q4, .inr (1, [.ref q12, .ref q13, .ref q14, .int 0, .int 0])), (q5, .inr (2, [.ref q4, .ref q15, .ref q16, .int 0, .int 0])), (q6, .inr (3, [.ref q17, .int 0])), (q8, .inr (6, [.ref q18, .ref q19, .ref q5, .int 0, .int 0])), (q9, .inr (10, [.ref q20, .ref q21, .ref q22, .ref q23, .ref q24, .int 0])), (q27, .inr (12, [.ref q29, .ref q30, .ref q31, .int 0, .int 0, .int 0, .int 0, .int 0, .ref q32, .ref q33, .ref q34, .ref q35, .ref q36, .int 0, .int 0, .ref q37, .ref q38, .ref q39, .ref q40, .ref q41, .ref q42, .ref q43, .ref q44, .int 0, .int 0, .ref q45, .ref q46, .ref q47, .ref q48, .ref q49, .int 0, .ref q50, .int 0, .int 0, .int 0, .int 0, .ref q51, .int 0, .int 0])), (q29, .inl (cA52, 2000, .inl (fun _ => 0))), (q30, .inl (cA53, 5718, .inl (fun _ => 0))), (q54, .inl (cA55, 1, .inr (.inl (fun _ => 0))))] H) (hD : va_D A [(q1, .inr (0, [.ref q3, .int 0, .int 0, .ref q4, .ref q5, .ref q6, .ref q7, .ref q8, .ref q9, .ref q10, .ref q11, .ref q3, .int 0, .int 0])), (q3, .inl (cA25, 2000, .inl (fun _ => 0))), (q4, .inr (1, [.ref q12, .ref q13, .ref q14, .int 0, .int 0])), (q5, .inr (2, [.ref q4, .ref q15, .ref q16, .int 0, .int 0])), (q6, .inr (3, [.ref q17, .int 0])), (q8, .inr (6, [.ref q18, .ref q19, .ref q5, .int 0, .int 0])), (q9, .inr (10, [.ref q20, .ref q21, .ref q22, .ref q23, .ref q24, .int 0])), (q27, .inr (12, [.ref q29, .ref q30, .ref q31, .int 0, .int 0, .int 0, .int 0, .int 0, .ref q32, .ref q33, .ref q34, .ref q35, .ref q36, .int 0, .int 0, .ref q37, .ref q38, .ref q39, .ref q40, .ref q41, .ref q42, .ref q43, .ref q44, .int 0, .int 0, .ref q45, .ref q46, .ref q47, .ref q48, .ref q49, .int 0, .ref q50, .int 0, .int 0, .int 0, .int 0, .ref q51, .int 0, .int 0])), (q29, .inl (cA52, 2000, .inl (fun _ => 0))), (q30, .inl (cA53, 5718, .inl (fun _ => 0))), (q54, .inl (cA55, 1, .inr (.inl (fun _ => 0))))]) (hS : va_S A s.heap H locs) (hl : lv_has ls 8 [(4, .int 0), (3, .ref q54), (2, .ref q27), (1, .ref q1), (0, .ref b)]) : W p l e room_1 s m #[Value.ref b] below meth c H locs 219 543617 (lw_Z below #[Value.ref b] s) (F0 m 548 ls []) := by
  obtain ⟨hx, hb, hr, hml, hown, hts, hX, hbl, hlocks, hgv⟩ := C0
  have hown : s.vm.findClass "UnikernelHttpLaw" = some m.cls := hown
  have hbA : ¬ A b := fun h => absurd (hA2 b h) (by omega)
  have hfx : CallFix p m c b_La_law 8 s #[Value.ref b] [] "UnikernelHttpLaw" := ⟨hx, hb, hml, hown, fun _ h => by cases h⟩
  obtain ⟨v1, hv1⟩ : ∃ v, xs (1 : Int32).toNatClampNeg = v := ⟨_, rfl⟩
  obtain ⟨v2, hv2⟩ : ∃ v, xs (2 : Int32).toNatClampNeg = v := ⟨_, rfl⟩
  obtain ⟨v3, hv3⟩ : ∃ v, xs (3 : Int32).toNatClampNeg = v := ⟨_, rfl⟩
  obtain ⟨v4, hv4⟩ : ∃ v, xs (4 : Int32).toNatClampNeg = v := ⟨_, rfl⟩
  obtain ⟨v5, hv5⟩ : ∃ v, xs (5 : Int32).toNatClampNeg = v := ⟨_, rfl⟩
  refine lv_aload_n hx hb d_La_law_548 rfl (lv_at hl 3 rfl) ?_
  refine lv_aload_n hx hb d_La_law_549 rfl (lv_at hl 4 rfl) ?_
  refine lv_iload hx hb d_La_law_550 (lv_at hl 0 rfl) ?_
  refine lv_iconst (v := 1) hx hb d_La_law_552 (by decide) ?_
  refine lv_iadd hx hb d_La_law_553 ?_
  refine lv_topi (fun x1001 ex1001 => ?_)
  obtain rfl : x1001 = 1 := ex1001.trans (by decide)
  refine va_sld hx hb hX hbl hbA hS (i := 1) (show ¬ ((1 : Int32) < 0 ∨ 6 ≤ (1 : Int32).toNatClampNeg) by decide) d_La_law_554 ?_
  refine lv_topi (fun x1002 ex1002 => ?_)
  obtain rfl : v1 = x1002 := (ex1002.trans hv1).symm
  refine lv_aload_n hx hb d_La_law_555 rfl (lv_at hl 4 rfl) ?_
  refine lv_iload hx hb d_La_law_556 (lv_at hl 0 rfl) ?_
  refine lv_iconst (v := 2) hx hb d_La_law_558 (by decide) ?_
  refine lv_iadd hx hb d_La_law_559 ?_
  refine lv_topi (fun x1003 ex1003 => ?_)
  obtain rfl : x1003 = 2 := ex1003.trans (by decide)
  refine va_sld hx hb hX hbl hbA hS (i := 2) (show ¬ ((2 : Int32) < 0 ∨ 6 ≤ (2 : Int32).toNatClampNeg) by decide) d_La_law_560 ?_
  refine lv_topi (fun x1004 ex1004 => ?_)
  obtain rfl : v2 = x1004 := (ex1004.trans hv2).symm
  refine lv_aload_n hx hb d_La_law_561 rfl (lv_at hl 1 rfl) ?_
  have hhp : ∀ q, q < s.heap.size → H[q]? = s.heap[q]? := fun q hq => hS.2.1 q hq (fun h => absurd (hA2 q h) (by omega))
  have hPc := hP.sub (ws' := [(q1, .inr (0, [.ref q3, .int 0, .int 0, .ref q4, .ref q5, .ref q6, .ref q7, .ref q8, .ref q9, .ref q10, .ref q11, .ref q3, .int 0, .int 0])), (q5, .inr (2, [.ref q4, .ref q15, .ref q16, .int 0, .int 0])), (q54, .inl (cA55, 1, .inr (.inl (fun _ => 0))))]) [0, 3, 10] rfl
  have hDc := hD.sub (ws' := [(q1, .inr (0, [.ref q3, .int 0, .int 0, .ref q4, .ref q5, .ref q6, .ref q7, .ref q8, .ref q9, .ref q10, .ref q11, .ref q3, .int 0, .int 0])), (q5, .inr (2, [.ref q4, .ref q15, .ref q16, .int 0, .int 0])), (q54, .inl (cA55, 1, .inr (.inl (fun _ => 0))))]) [0, 3, 10] (by decide) rfl
  have hKc := hK.sub (tys' := [(cA55, .long)]) [3] rfl
  have hFc := va_free (wc := [(q1, .inr (0, [.ref q3, .int 0, .int 0, .ref q4, .ref q5, .ref q6, .ref q7, .ref q8, .ref q9, .ref q10, .ref q11, .ref q3, .int 0, .int 0])), (q5, .inr (2, [.ref q4, .ref q15, .ref q16, .int 0, .int 0])), (q54, .inl (cA55, 1, .inr (.inl (fun _ => 0))))]) hD hS hA [0, 3, 10] rfl
  have hkc : 219 + 1 ≤ 600002 := (Nat.le_of_ble_eq_true rfl)
  refine va_calli (ux_runSW (n := 4) (As := [.ref q1, .int v1, .int v2, .ref q54]) (rest := []) hfx (c_La_bytes l hfl dC dI q1 q54 q3 q4 q5 q6 q7 q8 q9 q10 q11 q15 q16 cA55 v1 v2 H.size) hT tw_1438 tw_1436 tw_0 tw_1437 rfl rfl (by decide +kernel) ⟨(Nat.le_of_ble_eq_true rfl), (Nat.le_of_ble_eq_true rfl)⟩ (ux_preH [.ref q1, .int v1, .int v2, .ref q54] hT hH hhp hPc hKc hDc) rfl rfl hl.1 rfl (lv_room (Nat.le_of_ble_eq_true rfl)) d_La_law_562 ⟨(Nat.le_of_ble_eq_true rfl), (Nat.le_of_ble_eq_true rfl)⟩) hS (fun q _ h => hFc q h) hFc (fun r1005 u t H1 locs ht hvm hw hB hz1 hk1 hS => ?_)
  obtain ⟨hP1, hK1, hD1⟩ := hB
  rw [ht] at hP1
  have hK1 := va_K.moved hvm.symm hK1
  obtain ⟨hP, hD⟩ := va_join (wr := [(q3, .inl (cA25, 2000, .inl (fun _ => 0))), (q4, .inr (1, [.ref q12, .ref q13, .ref q14, .int 0, .int 0])), (q6, .inr (3, [.ref q17, .int 0])), (q8, .inr (6, [.ref q18, .ref q19, .ref q5, .int 0, .int 0])), (q9, .inr (10, [.ref q20, .ref q21, .ref q22, .ref q23, .ref q24, .int 0])), (q27, .inr (12, [.ref q29, .ref q30, .ref q31, .int 0, .int 0, .int 0, .int 0, .int 0, .ref q32, .ref q33, .ref q34, .ref q35, .ref q36, .int 0, .int 0, .ref q37, .ref q38, .ref q39, .ref q40, .ref q41, .ref q42, .ref q43, .ref q44, .int 0, .int 0, .ref q45, .ref q46, .ref q47, .ref q48, .ref q49, .int 0, .ref q50, .int 0, .int 0, .int 0, .int 0, .ref q51, .int 0, .int 0])), (q29, .inl (cA52, 2000, .inl (fun _ => 0))), (q30, .inl (cA53, 5718, .inl (fun _ => 0)))]) (w1 := [(q54, .inl (cA55, 1, .inr (.inl (fun _ => 0))))]) hP hD [0, 3, 10] [1, 2, 4, 5, 6, 7, 8, 9] rfl rfl (by decide) (by decide) hk1 hFc hP1 hD1
  have hK := (hK.sub (tys' := [(cA25, .byte), (cA52, .byte), (cA53, .byte), (cA55, .long)]) [0, 1, 2, 3] rfl).app hK1
  generalize H1 = H at hP hS ⊢
  have hP : va_P (dC, dI) cls [(q3, .inl (cA25, 2000, .inl (fun _ => 0))), (q4, .inr (1, [.ref q12, .ref q13, .ref q14, .int 0, .int 0])), (q6, .inr (3, [.ref q17, .int 0])), (q8, .inr (6, [.ref q18, .ref q19, .ref q5, .int 0, .int 0])), (q9, .inr (10, [.ref q20, .ref q21, .ref q22, .ref q23, .ref q24, .int 0])), (q27, .inr (12, [.ref q29, .ref q30, .ref q31, .int 0, .int 0, .int 0, .int 0, .int 0, .ref q32, .ref q33, .ref q34, .ref q35, .ref q36, .int 0, .int 0, .ref q37, .ref q38, .ref q39, .ref q40, .ref q41, .ref q42, .ref q43, .ref q44, .int 0, .int 0, .ref q45, .ref q46, .ref q47, .ref q48, .ref q49, .int 0, .ref q50, .int 0, .int 0, .int 0, .int 0, .ref q51, .int 0, .int 0])), (q29, .inl (cA52, 2000, .inl (fun _ => 0))), (q30, .inl (cA53, 5718, .inl (fun _ => 0))), (q54, .inl (cA55, 1, .inr (.inl (fun _ => 0))))] H := hP
  have hD : va_D A [(q3, .inl (cA25, 2000, .inl (fun _ => 0))), (q4, .inr (1, [.ref q12, .ref q13, .ref q14, .int 0, .int 0])), (q6, .inr (3, [.ref q17, .int 0])), (q8, .inr (6, [.ref q18, .ref q19, .ref q5, .int 0, .int 0])), (q9, .inr (10, [.ref q20, .ref q21, .ref q22, .ref q23, .ref q24, .int 0])), (q27, .inr (12, [.ref q29, .ref q30, .ref q31, .int 0, .int 0, .int 0, .int 0, .int 0, .ref q32, .ref q33, .ref q34, .ref q35, .ref q36, .int 0, .int 0, .ref q37, .ref q38, .ref q39, .ref q40, .ref q41, .ref q42, .ref q43, .ref q44, .int 0, .int 0, .ref q45, .ref q46, .ref q47, .ref q48, .ref q49, .int 0, .ref q50, .int 0, .int 0, .int 0, .int 0, .ref q51, .int 0, .int 0])), (q29, .inl (cA52, 2000, .inl (fun _ => 0))), (q30, .inl (cA53, 5718, .inl (fun _ => 0))), (q54, .inl (cA55, 1, .inr (.inl (fun _ => 0))))] := hD
  have hK : va_K (dC, dI) cls [(cA25, .byte), (cA52, .byte), (cA53, .byte), (cA55, .long), (cA55, .long)] s := hK
  obtain rfl : r1005 = 1 := hw
  refine lv_istore hx hb d_La_law_565 hl (by decide) rfl (fun ls hl => ?_)
  have hl : lv_has ls 8 [(5, .int 1), (4, .int 0), (3, .ref q54), (2, .ref q27), (1, .ref q1), (0, .ref b)] := hl
  refine lv_aload_n hx hb d_La_law_567 rfl (lv_at hl 3 rfl) ?_
  refine lv_aload_n hx hb d_La_law_568 rfl (lv_at hl 5 rfl) ?_
  refine lv_iload hx hb d_La_law_569 (lv_at hl 1 rfl) ?_
  refine lv_iconst (v := 1) hx hb d_La_law_571 (by decide) ?_
  refine lv_iadd hx hb d_La_law_572 ?_
  refine lv_topi (fun x1006 ex1006 => ?_)
  obtain rfl : x1006 = 1 := ex1006.trans (by decide)
  refine va_sld hx hb hX hbl hbA hS (i := 1) (show ¬ ((1 : Int32) < 0 ∨ 6 ≤ (1 : Int32).toNatClampNeg) by decide) d_La_law_573 ?_
  refine lv_topi (fun x1007 ex1007 => ?_)
  obtain rfl : v1 = x1007 := (ex1007.trans hv1).symm
  refine lv_aload_n hx hb d_La_law_574 rfl (lv_at hl 5 rfl) ?_
  refine lv_iload hx hb d_La_law_575 (lv_at hl 1 rfl) ?_
  refine lv_iconst (v := 2) hx hb d_La_law_577 (by decide) ?_
  refine lv_iadd hx hb d_La_law_578 ?_
  refine lv_topi (fun x1008 ex1008 => ?_)
  obtain rfl : x1008 = 2 := ex1008.trans (by decide)
  refine va_sld hx hb hX hbl hbA hS (i := 2) (show ¬ ((2 : Int32) < 0 ∨ 6 ≤ (2 : Int32).toNatClampNeg) by decide) d_La_law_579 ?_
  refine lv_topi (fun x1009 ex1009 => ?_)
  obtain rfl : v2 = x1009 := (ex1009.trans hv2).symm
  have hhp : ∀ q, q < s.heap.size → H[q]? = s.heap[q]? := fun q hq => hS.2.1 q hq (fun h => absurd (hA2 q h) (by omega))
  have hPc := hP.sub (ws' := [(q27, .inr (12, [.ref q29, .ref q30, .ref q31, .int 0, .int 0, .int 0, .int 0, .int 0, .ref q32, .ref q33, .ref q34, .ref q35, .ref q36, .int 0, .int 0, .ref q37, .ref q38, .ref q39, .ref q40, .ref q41, .ref q42, .ref q43, .ref q44, .int 0, .int 0, .ref q45, .ref q46, .ref q47, .ref q48, .ref q49, .int 0, .ref q50, .int 0, .int 0, .int 0, .int 0, .ref q51, .int 0, .int 0]))]) [5] rfl
  have hDc := hD.sub (ws' := [(q27, .inr (12, [.ref q29, .ref q30, .ref q31, .int 0, .int 0, .int 0, .int 0, .int 0, .ref q32, .ref q33, .ref q34, .ref q35, .ref q36, .int 0, .int 0, .ref q37, .ref q38, .ref q39, .ref q40, .ref q41, .ref q42, .ref q43, .ref q44, .int 0, .int 0, .ref q45, .ref q46, .ref q47, .ref q48, .ref q49, .int 0, .ref q50, .int 0, .int 0, .int 0, .int 0, .ref q51, .int 0, .int 0]))]) [5] (by decide) rfl
  have hKc := hK.sub (tys' := []) [] rfl
  have hFc := va_free (wc := [(q27, .inr (12, [.ref q29, .ref q30, .ref q31, .int 0, .int 0, .int 0, .int 0, .int 0, .ref q32, .ref q33, .ref q34, .ref q35, .ref q36, .int 0, .int 0, .ref q37, .ref q38, .ref q39, .ref q40, .ref q41, .ref q42, .ref q43, .ref q44, .int 0, .int 0, .ref q45, .ref q46, .ref q47, .ref q48, .ref q49, .int 0, .ref q50, .int 0, .int 0, .int 0, .int 0, .ref q51, .int 0, .int 0]))]) hD hS hA [5] rfl
  have hkc : 220 + 0 ≤ 600002 := (Nat.le_of_ble_eq_true rfl)
  refine va_calll (va_runV (As := [.int v1, .int v2]) (rest := []) hfx (c_Mo_bytes l dC dI q27 q29 q30 q31 q32 q33 q34 q35 q36 q37 q38 q39 q40 q41 q42 q43 q44 q45 q46 q47 q48 q49 q50 q51 v1 v2 H.size) ⟨(ux_cb 2 hT tw_1968 tw_1965 tw_13 rfl rfl (by decide +kernel) ⟨(Nat.le_of_ble_eq_true rfl), (Nat.le_of_ble_eq_true rfl)⟩), (ux_T_at hT tw_1966 rfl), (ux_T_at hT tw_1967 rfl)⟩ (ux_preV (r := (R_Mo, F_Mo, 39)) (ci := 12) (q0 := 0) [.int v1, .int v2] hT hPc hKc hDc rfl rfl) rfl rfl hl.1 rfl (lv_room (Nat.le_of_ble_eq_true rfl)) d_La_law_580 ⟨(Nat.le_of_ble_eq_true rfl), (Nat.le_of_ble_eq_true rfl)⟩) hS (fun q _ h => hFc q h) hFc (fun r1010 u t H1 locs ht hvm hw hB hz1 hk1 hS => ?_)
  obtain ⟨hP1, hK1, hD1⟩ := hB
  rw [ht] at hP1
  have hK1 := va_K.moved hvm.symm hK1
  obtain ⟨hP, hD⟩ := va_join (wr := [(q3, .inl (cA25, 2000, .inl (fun _ => 0))), (q4, .inr (1, [.ref q12, .ref q13, .ref q14, .int 0, .int 0])), (q6, .inr (3, [.ref q17, .int 0])), (q8, .inr (6, [.ref q18, .ref q19, .ref q5, .int 0, .int 0])), (q9, .inr (10, [.ref q20, .ref q21, .ref q22, .ref q23, .ref q24, .int 0])), (q29, .inl (cA52, 2000, .inl (fun _ => 0))), (q30, .inl (cA53, 5718, .inl (fun _ => 0))), (q54, .inl (cA55, 1, .inr (.inl (fun _ => 0))))]) (w1 := [(q27, .inr (12, [.ref q29, .ref q30, .ref q31, .int 0, .int 1, .int 0, .int 0, .int 0, .ref q32, .ref q33, .ref q34, .ref q35, .ref q36, .int 0, .int 0, .ref q37, .ref q38, .ref q39, .ref q40, .ref q41, .ref q42, .ref q43, .ref q44, .int 0, .int 0, .ref q45, .ref q46, .ref q47, .ref q48, .ref q49, .int 0, .ref q50, .int 0, .int 0, .int 0, .int 0, .ref q51, .int 0, .int 0]))]) hP hD [5] [0, 1, 2, 3, 4, 6, 7, 8] rfl rfl (by decide) (by decide) hk1 hFc hP1 hD1
  have hK := (hK.sub (tys' := [(cA25, .byte), (cA52, .byte), (cA53, .byte), (cA55, .long), (cA55, .long)]) [0, 1, 2, 3, 4] rfl).app hK1
  generalize H1 = H at hP hS ⊢
  have hP : va_P (dC, dI) cls [(q3, .inl (cA25, 2000, .inl (fun _ => 0))), (q4, .inr (1, [.ref q12, .ref q13, .ref q14, .int 0, .int 0])), (q6, .inr (3, [.ref q17, .int 0])), (q8, .inr (6, [.ref q18, .ref q19, .ref q5, .int 0, .int 0])), (q9, .inr (10, [.ref q20, .ref q21, .ref q22, .ref q23, .ref q24, .int 0])), (q29, .inl (cA52, 2000, .inl (fun _ => 0))), (q30, .inl (cA53, 5718, .inl (fun _ => 0))), (q54, .inl (cA55, 1, .inr (.inl (fun _ => 0)))), (q27, .inr (12, [.ref q29, .ref q30, .ref q31, .int 0, .int 1, .int 0, .int 0, .int 0, .ref q32, .ref q33, .ref q34, .ref q35, .ref q36, .int 0, .int 0, .ref q37, .ref q38, .ref q39, .ref q40, .ref q41, .ref q42, .ref q43, .ref q44, .int 0, .int 0, .ref q45, .ref q46, .ref q47, .ref q48, .ref q49, .int 0, .ref q50, .int 0, .int 0, .int 0, .int 0, .ref q51, .int 0, .int 0]))] H := hP
  have hD : va_D A [(q3, .inl (cA25, 2000, .inl (fun _ => 0))), (q4, .inr (1, [.ref q12, .ref q13, .ref q14, .int 0, .int 0])), (q6, .inr (3, [.ref q17, .int 0])), (q8, .inr (6, [.ref q18, .ref q19, .ref q5, .int 0, .int 0])), (q9, .inr (10, [.ref q20, .ref q21, .ref q22, .ref q23, .ref q24, .int 0])), (q29, .inl (cA52, 2000, .inl (fun _ => 0))), (q30, .inl (cA53, 5718, .inl (fun _ => 0))), (q54, .inl (cA55, 1, .inr (.inl (fun _ => 0)))), (q27, .inr (12, [.ref q29, .ref q30, .ref q31, .int 0, .int 1, .int 0, .int 0, .int 0, .ref q32, .ref q33, .ref q34, .ref q35, .ref q36, .int 0, .int 0, .ref q37, .ref q38, .ref q39, .ref q40, .ref q41, .ref q42, .ref q43, .ref q44, .int 0, .int 0, .ref q45, .ref q46, .ref q47, .ref q48, .ref q49, .int 0, .ref q50, .int 0, .int 0, .int 0, .int 0, .ref q51, .int 0, .int 0]))] := hD
  have hK : va_K (dC, dI) cls [(cA25, .byte), (cA52, .byte), (cA53, .byte), (cA55, .long), (cA55, .long)] s := hK
  obtain rfl : r1010 = 0 := hw
  refine lv_lstore hx hb d_La_law_583 hl (by decide) rfl (fun ls hl => ?_)
  have hl : lv_has ls 8 [(6, .long 0), (5, .int 1), (4, .int 0), (3, .ref q54), (2, .ref q27), (1, .ref q1), (0, .ref b)] := hl
  refine lv_aload_n hx hb d_La_law_585 rfl (lv_at hl 4 rfl) ?_
  have hhp : ∀ q, q < s.heap.size → H[q]? = s.heap[q]? := fun q hq => hS.2.1 q hq (fun h => absurd (hA2 q h) (by omega))
  have hPc := hP.sub (ws' := [(q27, .inr (12, [.ref q29, .ref q30, .ref q31, .int 0, .int 1, .int 0, .int 0, .int 0, .ref q32, .ref q33, .ref q34, .ref q35, .ref q36, .int 0, .int 0, .ref q37, .ref q38, .ref q39, .ref q40, .ref q41, .ref q42, .ref q43, .ref q44, .int 0, .int 0, .ref q45, .ref q46, .ref q47, .ref q48, .ref q49, .int 0, .ref q50, .int 0, .int 0, .int 0, .int 0, .ref q51, .int 0, .int 0]))]) [8] rfl
  have hDc := hD.sub (ws' := [(q27, .inr (12, [.ref q29, .ref q30, .ref q31, .int 0, .int 1, .int 0, .int 0, .int 0, .ref q32, .ref q33, .ref q34, .ref q35, .ref q36, .int 0, .int 0, .ref q37, .ref q38, .ref q39, .ref q40, .ref q41, .ref q42, .ref q43, .ref q44, .int 0, .int 0, .ref q45, .ref q46, .ref q47, .ref q48, .ref q49, .int 0, .ref q50, .int 0, .int 0, .int 0, .int 0, .ref q51, .int 0, .int 0]))]) [8] (by decide) rfl
  have hKc := hK.sub (tys' := []) [] rfl
  have hFc := va_free (wc := [(q27, .inr (12, [.ref q29, .ref q30, .ref q31, .int 0, .int 1, .int 0, .int 0, .int 0, .ref q32, .ref q33, .ref q34, .ref q35, .ref q36, .int 0, .int 0, .ref q37, .ref q38, .ref q39, .ref q40, .ref q41, .ref q42, .ref q43, .ref q44, .int 0, .int 0, .ref q45, .ref q46, .ref q47, .ref q48, .ref q49, .int 0, .ref q50, .int 0, .int 0, .int 0, .int 0, .ref q51, .int 0, .int 0]))]) hD hS hA [8] rfl
  have hkc : 220 + 0 ≤ 600002 := (Nat.le_of_ble_eq_true rfl)
  refine va_calli (va_runV (As := []) (rest := []) hfx (c_Mo_thrown_1 l dC dI q27 q29 q30 q31 q32 q33 q34 q35 q36 q37 q38 q39 q40 q41 q42 q43 q44 q45 q46 q47 q48 q49 q50 q51 0 0 H.size) ⟨(ux_cb 0 hT tw_1714 tw_1711 tw_13 rfl rfl (by decide +kernel) ⟨(Nat.le_of_ble_eq_true rfl), (Nat.le_of_ble_eq_true rfl)⟩), (ux_T_at hT tw_1712 rfl), (ux_T_at hT tw_1713 rfl)⟩ (ux_preV (r := (R_Mo, F_Mo, 39)) (ci := 12) (q0 := 0) [] hT hPc hKc hDc rfl rfl) rfl rfl hl.1 rfl (lv_room (Nat.le_of_ble_eq_true rfl)) d_La_law_586 ⟨(Nat.le_of_ble_eq_true rfl), (Nat.le_of_ble_eq_true rfl)⟩) hS (fun q _ h => hFc q h) hFc (fun r1011 u t H1 locs ht hvm hw hB hz1 hk1 hS => ?_)
  obtain ⟨hP1, hK1, hD1⟩ := hB
  rw [ht] at hP1
  have hK1 := va_K.moved hvm.symm hK1
  obtain ⟨hP, hD⟩ := va_join (wr := [(q3, .inl (cA25, 2000, .inl (fun _ => 0))), (q4, .inr (1, [.ref q12, .ref q13, .ref q14, .int 0, .int 0])), (q6, .inr (3, [.ref q17, .int 0])), (q8, .inr (6, [.ref q18, .ref q19, .ref q5, .int 0, .int 0])), (q9, .inr (10, [.ref q20, .ref q21, .ref q22, .ref q23, .ref q24, .int 0])), (q29, .inl (cA52, 2000, .inl (fun _ => 0))), (q30, .inl (cA53, 5718, .inl (fun _ => 0))), (q54, .inl (cA55, 1, .inr (.inl (fun _ => 0))))]) (w1 := [(q27, .inr (12, [.ref q29, .ref q30, .ref q31, .int 0, .int 1, .int 0, .int 0, .int 0, .ref q32, .ref q33, .ref q34, .ref q35, .ref q36, .int 0, .int 0, .ref q37, .ref q38, .ref q39, .ref q40, .ref q41, .ref q42, .ref q43, .ref q44, .int 0, .int 0, .ref q45, .ref q46, .ref q47, .ref q48, .ref q49, .int 0, .ref q50, .int 0, .int 0, .int 0, .int 0, .ref q51, .int 0, .int 0]))]) hP hD [8] [0, 1, 2, 3, 4, 5, 6, 7] rfl rfl (by decide) (by decide) hk1 hFc hP1 hD1
  have hK := (hK.sub (tys' := [(cA25, .byte), (cA52, .byte), (cA53, .byte), (cA55, .long), (cA55, .long)]) [0, 1, 2, 3, 4] rfl).app hK1
  generalize H1 = H at hP hS ⊢
  have hP : va_P (dC, dI) cls [(q3, .inl (cA25, 2000, .inl (fun _ => 0))), (q4, .inr (1, [.ref q12, .ref q13, .ref q14, .int 0, .int 0])), (q6, .inr (3, [.ref q17, .int 0])), (q8, .inr (6, [.ref q18, .ref q19, .ref q5, .int 0, .int 0])), (q9, .inr (10, [.ref q20, .ref q21, .ref q22, .ref q23, .ref q24, .int 0])), (q29, .inl (cA52, 2000, .inl (fun _ => 0))), (q30, .inl (cA53, 5718, .inl (fun _ => 0))), (q54, .inl (cA55, 1, .inr (.inl (fun _ => 0)))), (q27, .inr (12, [.ref q29, .ref q30, .ref q31, .int 0, .int 1, .int 0, .int 0, .int 0, .ref q32, .ref q33, .ref q34, .ref q35, .ref q36, .int 0, .int 0, .ref q37, .ref q38, .ref q39, .ref q40, .ref q41, .ref q42, .ref q43, .ref q44, .int 0, .int 0, .ref q45, .ref q46, .ref q47, .ref q48, .ref q49, .int 0, .ref q50, .int 0, .int 0, .int 0, .int 0, .ref q51, .int 0, .int 0]))] H := hP
  have hD : va_D A [(q3, .inl (cA25, 2000, .inl (fun _ => 0))), (q4, .inr (1, [.ref q12, .ref q13, .ref q14, .int 0, .int 0])), (q6, .inr (3, [.ref q17, .int 0])), (q8, .inr (6, [.ref q18, .ref q19, .ref q5, .int 0, .int 0])), (q9, .inr (10, [.ref q20, .ref q21, .ref q22, .ref q23, .ref q24, .int 0])), (q29, .inl (cA52, 2000, .inl (fun _ => 0))), (q30, .inl (cA53, 5718, .inl (fun _ => 0))), (q54, .inl (cA55, 1, .inr (.inl (fun _ => 0)))), (q27, .inr (12, [.ref q29, .ref q30, .ref q31, .int 0, .int 1, .int 0, .int 0, .int 0, .ref q32, .ref q33, .ref q34, .ref q35, .ref q36, .int 0, .int 0, .ref q37, .ref q38, .ref q39, .ref q40, .ref q41, .ref q42, .ref q43, .ref q44, .int 0, .int 0, .ref q45, .ref q46, .ref q47, .ref q48, .ref q49, .int 0, .ref q50, .int 0, .int 0, .int 0, .int 0, .ref q51, .int 0, .int 0]))] := hD
  have hK : va_K (dC, dI) cls [(cA25, .byte), (cA52, .byte), (cA53, .byte), (cA55, .long), (cA55, .long)] s := hK
  obtain rfl : r1011 = 1 := hw
  refine lv_iload hx hb d_La_law_589 (lv_at hl 1 rfl) ?_
  refine lv_icmp_eq (tgt := 596) hx hb d_La_law_591 (by decide) (fun _ => ?_) (fun hc => absurd (by decide) hc)
  refine lv_iload hx hb d_La_law_596 (lv_at hl 1 rfl) ?_
  refine lv_if_ne (tgt := 612) hx hb d_La_law_598 (by decide) (fun _ => ?_) (fun hc => absurd hc (by decide))
  refine lv_goto hx hb d_La_law_612 (tgt := 751) (by decide) ?_
  exact law_end l hA2 ⟨hx, hb, hr, hml, hown, hts, hX, hbl, hlocks, hgv⟩ (Nat.le_of_ble_eq_true rfl) (Nat.le_of_ble_eq_true rfl) hS (lv_sub hl [6, 2] rfl)
set_option maxHeartbeats 4000000 in
set_option maxRecDepth 100000 in
theorem law_8 {p : Program} {e : Env} {s : State} {m : MethodId} {below : List Frame} {meth : Method} {c : Code} (l : Launch) (hfl : l.flags = flags0) {b : Nat} {xs : Nat → Int32} {A : Nat → Prop} (hA : ∀ q, s.heap.size ≤ q → A q) (hA2 : ∀ q, A q → s.heap.size ≤ q) (C0 : lw_At p s m meth c b 6 xs) (hT : ux_T s) (hH : ux_H s) (dC : Nat → ClassId) (dI : Nat → Nat → Nat) (q1 : Nat) (q3 : Nat) (q4 : Nat) (q5 : Nat) (q6 : Nat) (q7 : Nat) (q8 : Nat) (q9 : Nat) (q10 : Nat) (q11 : Nat) (q12 : Nat) (q13 : Nat) (q14 : Nat) (q15 : Nat) (q16 : Nat) (q17 : Nat) (q18 : Nat) (q19 : Nat) (q20 : Nat) (q21 : Nat) (q22 : Nat) (q23 : Nat) (q24 : Nat) (q27 : Nat) (q29 : Nat) (q30 : Nat) (q31 : Nat) (q32 : Nat) (q33 : Nat) (q34 : Nat) (q35 : Nat) (q36 : Nat) (q37 : Nat) (q38 : Nat) (q39 : Nat) (q40 : Nat) (q41 : Nat) (q42 : Nat) (q43 : Nat) (q44 : Nat) (q45 : Nat) (q46 : Nat) (q47 : Nat) (q48 : Nat) (q49 : Nat) (q50 : Nat) (q51 : Nat) (q54 : Nat) (cA25 : ClassId) (cA52 : ClassId) (cA53 : ClassId) (cA55 : ClassId) {H : Heap} {locs : List Loc} {ls : Array Slot} (hK : va_K (dC, dI) cls [(cA25, .byte), (cA52, .byte), (cA53, .byte), (cA55, .long)] s) (hP : va_P (dC, dI) cls [(q1, .inr (0, [.ref q3, .int 0, .int 0, .ref q4, .ref q5, .ref q6, .ref q7, .ref q8, .ref q9, .ref q10, .ref q11, .ref q3, .int 0, .int 0])), (q3, .inl (cA25, 2000, .inl (fun _ => 0))), (q4, .inr (1, [.ref q12, .ref q13, .ref q14, .int 0, .int 0])), (q5, .inr (2, [.ref q4, .ref q15, .ref q16, .int 0, .int 0])), (q6, .inr (3, [.ref q17, .int 0])), (q8, .inr (6, [.ref q18, .ref q19, .ref q5, .int 0, .int 0])), (q9, .inr (10, [.ref q20, .ref q21, .ref q22, .ref q23, .ref q24, .int 0])), (q27, .inr (12, [.ref q29, .ref q30, .ref q31, .int 0, .int 0, .int 0, .int 0, .int 0, .ref q32, .ref q33, .ref q34, .ref q35, .ref q36, .int 0, .int 0, .ref q37, .ref q38, .ref q39, .ref q40, .ref q41, .ref q42, .ref q43, .ref q44, .int 0, .int 0, .ref q45, .ref q46, .ref q47, .ref q48, .ref q49, .int 0, .ref q50, .int 0, .int 0, .int 0, .int 0, .ref q51, .int 0, .int 0])), (q29, .inl (cA52, 2000, .inl (fun _ => 0))), (q30, .inl (cA53, 5718, .inl (fun _ => 0))), (q54, .inl (cA55, 1, .inr (.inl (fun _ => 0))))] H) (hD : va_D A [(q1, .inr (0, [.ref q3, .int 0, .int 0, .ref q4, .ref q5, .ref q6, .ref q7, .ref q8, .ref q9, .ref q10, .ref q11, .ref q3, .int 0, .int 0])), (q3, .inl (cA25, 2000, .inl (fun _ => 0))), (q4, .inr (1, [.ref q12, .ref q13, .ref q14, .int 0, .int 0])), (q5, .inr (2, [.ref q4, .ref q15, .ref q16, .int 0, .int 0])), (q6, .inr (3, [.ref q17, .int 0])), (q8, .inr (6, [.ref q18, .ref q19, .ref q5, .int 0, .int 0])), (q9, .inr (10, [.ref q20, .ref q21, .ref q22, .ref q23, .ref q24, .int 0])), (q27, .inr (12, [.ref q29, .ref q30, .ref q31, .int 0, .int 0, .int 0, .int 0, .int 0, .ref q32, .ref q33, .ref q34, .ref q35, .ref q36, .int 0, .int 0, .ref q37, .ref q38, .ref q39, .ref q40, .ref q41, .ref q42, .ref q43, .ref q44, .int 0, .int 0, .ref q45, .ref q46, .ref q47, .ref q48, .ref q49, .int 0, .ref q50, .int 0, .int 0, .int 0, .int 0, .ref q51, .int 0, .int 0])), (q29, .inl (cA52, 2000, .inl (fun _ => 0))), (q30, .inl (cA53, 5718, .inl (fun _ => 0))), (q54, .inl (cA55, 1, .inr (.inl (fun _ => 0))))]) (hS : va_S A s.heap H locs) (hl : lv_has ls 8 [(4, .int 0), (3, .ref q54), (2, .ref q27), (1, .ref q1), (0, .ref b)]) : W p l e room_1 s m #[Value.ref b] below meth c H locs 219 543617 (lw_Z below #[Value.ref b] s) (F0 m 615 ls []) := by
  obtain ⟨hx, hb, hr, hml, hown, hts, hX, hbl, hlocks, hgv⟩ := C0
  have hown : s.vm.findClass "UnikernelHttpLaw" = some m.cls := hown
  have hbA : ¬ A b := fun h => absurd (hA2 b h) (by omega)
  have hfx : CallFix p m c b_La_law 8 s #[Value.ref b] [] "UnikernelHttpLaw" := ⟨hx, hb, hml, hown, fun _ h => by cases h⟩
  obtain ⟨v1, hv1⟩ : ∃ v, xs (1 : Int32).toNatClampNeg = v := ⟨_, rfl⟩
  obtain ⟨v2, hv2⟩ : ∃ v, xs (2 : Int32).toNatClampNeg = v := ⟨_, rfl⟩
  obtain ⟨v3, hv3⟩ : ∃ v, xs (3 : Int32).toNatClampNeg = v := ⟨_, rfl⟩
  obtain ⟨v4, hv4⟩ : ∃ v, xs (4 : Int32).toNatClampNeg = v := ⟨_, rfl⟩
  obtain ⟨v5, hv5⟩ : ∃ v, xs (5 : Int32).toNatClampNeg = v := ⟨_, rfl⟩
  refine lv_aload_n hx hb d_La_law_615 rfl (lv_at hl 3 rfl) ?_
  refine lv_aload_n hx hb d_La_law_616 rfl (lv_at hl 4 rfl) ?_
  refine lv_iload hx hb d_La_law_617 (lv_at hl 0 rfl) ?_
  refine lv_iconst (v := 1) hx hb d_La_law_619 (by decide) ?_
  refine lv_iadd hx hb d_La_law_620 ?_
  refine lv_topi (fun x1001 ex1001 => ?_)
  obtain rfl : x1001 = 1 := ex1001.trans (by decide)
  refine va_sld hx hb hX hbl hbA hS (i := 1) (show ¬ ((1 : Int32) < 0 ∨ 6 ≤ (1 : Int32).toNatClampNeg) by decide) d_La_law_621 ?_
  refine lv_topi (fun x1002 ex1002 => ?_)
  obtain rfl : v1 = x1002 := (ex1002.trans hv1).symm
  refine lv_aload_n hx hb d_La_law_622 rfl (lv_at hl 1 rfl) ?_
  rcases ux_s7 v1 with hv | hv | hv | hv | hv | hv | hv | hv | hn
  · obtain rfl : v1 = 0 := hv
    have hhp : ∀ q, q < s.heap.size → H[q]? = s.heap[q]? := fun q hq => hS.2.1 q hq (fun h => absurd (hA2 q h) (by omega))
    have hPc := hP.sub (ws' := [(q1, .inr (0, [.ref q3, .int 0, .int 0, .ref q4, .ref q5, .ref q6, .ref q7, .ref q8, .ref q9, .ref q10, .ref q11, .ref q3, .int 0, .int 0])), (q5, .inr (2, [.ref q4, .ref q15, .ref q16, .int 0, .int 0])), (q8, .inr (6, [.ref q18, .ref q19, .ref q5, .int 0, .int 0])), (q4, .inr (1, [.ref q12, .ref q13, .ref q14, .int 0, .int 0])), (q6, .inr (3, [.ref q17, .int 0])), (q9, .inr (10, [.ref q20, .ref q21, .ref q22, .ref q23, .ref q24, .int 0])), (q54, .inl (cA55, 1, .inr (.inl (fun _ => 0))))]) [0, 3, 5, 2, 4, 6, 10] rfl
    have hDc := hD.sub (ws' := [(q1, .inr (0, [.ref q3, .int 0, .int 0, .ref q4, .ref q5, .ref q6, .ref q7, .ref q8, .ref q9, .ref q10, .ref q11, .ref q3, .int 0, .int 0])), (q5, .inr (2, [.ref q4, .ref q15, .ref q16, .int 0, .int 0])), (q8, .inr (6, [.ref q18, .ref q19, .ref q5, .int 0, .int 0])), (q4, .inr (1, [.ref q12, .ref q13, .ref q14, .int 0, .int 0])), (q6, .inr (3, [.ref q17, .int 0])), (q9, .inr (10, [.ref q20, .ref q21, .ref q22, .ref q23, .ref q24, .int 0])), (q54, .inl (cA55, 1, .inr (.inl (fun _ => 0))))]) [0, 3, 5, 2, 4, 6, 10] (by decide) rfl
    have hKc := hK.sub (tys' := [(cA55, .long)]) [3] rfl
    have hFc := va_free (wc := [(q1, .inr (0, [.ref q3, .int 0, .int 0, .ref q4, .ref q5, .ref q6, .ref q7, .ref q8, .ref q9, .ref q10, .ref q11, .ref q3, .int 0, .int 0])), (q5, .inr (2, [.ref q4, .ref q15, .ref q16, .int 0, .int 0])), (q8, .inr (6, [.ref q18, .ref q19, .ref q5, .int 0, .int 0])), (q4, .inr (1, [.ref q12, .ref q13, .ref q14, .int 0, .int 0])), (q6, .inr (3, [.ref q17, .int 0])), (q9, .inr (10, [.ref q20, .ref q21, .ref q22, .ref q23, .ref q24, .int 0])), (q54, .inl (cA55, 1, .inr (.inl (fun _ => 0))))]) hD hS hA [0, 3, 5, 2, 4, 6, 10] rfl
    have hkc : 219 + 0 ≤ 600002 := (Nat.le_of_ble_eq_true rfl)
    refine va_calli (ux_runSW (n := 3) (As := [.ref q1, .int 0, .ref q54]) (rest := []) hfx (c_La_count_0 l dC dI q1 q54 q3 q4 q5 q6 q7 q8 q9 q10 q11 q15 q16 q18 q19 q12 q13 q14 q17 q20 q21 q22 q23 q24 cA55 H.size) hT tw_1450 tw_1448 tw_0 tw_1449 rfl rfl (by decide +kernel) ⟨(Nat.le_of_ble_eq_true rfl), (Nat.le_of_ble_eq_true rfl)⟩ (ux_pre [.ref q1, .int 0, .ref q54] hT hPc hKc hDc) rfl rfl hl.1 rfl (lv_room (Nat.le_of_ble_eq_true rfl)) d_La_law_623 ⟨(Nat.le_of_ble_eq_true rfl), (Nat.le_of_ble_eq_true rfl)⟩) hS (fun q _ h => hFc q h) hFc (fun r1003 u t H1 locs ht hvm hw hB hz1 hk1 hS => ?_)
    obtain ⟨hP1, hK1, hD1⟩ := hB
    rw [ht] at hP1
    have hK1 := va_K.moved hvm.symm hK1
    obtain ⟨hP, hD⟩ := va_join (wr := [(q3, .inl (cA25, 2000, .inl (fun _ => 0))), (q27, .inr (12, [.ref q29, .ref q30, .ref q31, .int 0, .int 0, .int 0, .int 0, .int 0, .ref q32, .ref q33, .ref q34, .ref q35, .ref q36, .int 0, .int 0, .ref q37, .ref q38, .ref q39, .ref q40, .ref q41, .ref q42, .ref q43, .ref q44, .int 0, .int 0, .ref q45, .ref q46, .ref q47, .ref q48, .ref q49, .int 0, .ref q50, .int 0, .int 0, .int 0, .int 0, .ref q51, .int 0, .int 0])), (q29, .inl (cA52, 2000, .inl (fun _ => 0))), (q30, .inl (cA53, 5718, .inl (fun _ => 0)))]) (w1 := [(q54, .inl (cA55, 1, .inr (.inl (vp_updL (fun _ => 0) (0 : Int32).toNatClampNeg 0))))]) hP hD [0, 3, 5, 2, 4, 6, 10] [1, 7, 8, 9] rfl rfl (by decide) (by decide) hk1 hFc hP1 hD1
    have hK := (hK.sub (tys' := [(cA25, .byte), (cA52, .byte), (cA53, .byte), (cA55, .long)]) [0, 1, 2, 3] rfl).app hK1
    generalize H1 = H at hP hS ⊢
    have hP : va_P (dC, dI) cls [(q3, .inl (cA25, 2000, .inl (fun _ => 0))), (q27, .inr (12, [.ref q29, .ref q30, .ref q31, .int 0, .int 0, .int 0, .int 0, .int 0, .ref q32, .ref q33, .ref q34, .ref q35, .ref q36, .int 0, .int 0, .ref q37, .ref q38, .ref q39, .ref q40, .ref q41, .ref q42, .ref q43, .ref q44, .int 0, .int 0, .ref q45, .ref q46, .ref q47, .ref q48, .ref q49, .int 0, .ref q50, .int 0, .int 0, .int 0, .int 0, .ref q51, .int 0, .int 0])), (q29, .inl (cA52, 2000, .inl (fun _ => 0))), (q30, .inl (cA53, 5718, .inl (fun _ => 0))), (q54, .inl (cA55, 1, .inr (.inl (vp_updL (fun _ => 0) (0 : Int32).toNatClampNeg 0))))] H := hP
    have hD : va_D A [(q3, .inl (cA25, 2000, .inl (fun _ => 0))), (q27, .inr (12, [.ref q29, .ref q30, .ref q31, .int 0, .int 0, .int 0, .int 0, .int 0, .ref q32, .ref q33, .ref q34, .ref q35, .ref q36, .int 0, .int 0, .ref q37, .ref q38, .ref q39, .ref q40, .ref q41, .ref q42, .ref q43, .ref q44, .int 0, .int 0, .ref q45, .ref q46, .ref q47, .ref q48, .ref q49, .int 0, .ref q50, .int 0, .int 0, .int 0, .int 0, .ref q51, .int 0, .int 0])), (q29, .inl (cA52, 2000, .inl (fun _ => 0))), (q30, .inl (cA53, 5718, .inl (fun _ => 0))), (q54, .inl (cA55, 1, .inr (.inl (vp_updL (fun _ => 0) (0 : Int32).toNatClampNeg 0))))] := hD
    have hK : va_K (dC, dI) cls [(cA25, .byte), (cA52, .byte), (cA53, .byte), (cA55, .long), (cA55, .long)] s := hK
    obtain rfl : r1003 = 0 := hw
    refine lv_istore hx hb d_La_law_626 hl (by decide) rfl (fun ls hl => ?_)
    have hl : lv_has ls 8 [(5, .int 0), (4, .int 0), (3, .ref q54), (2, .ref q27), (1, .ref q1), (0, .ref b)] := hl
    refine lv_aload_n hx hb d_La_law_628 rfl (lv_at hl 3 rfl) ?_
    refine lv_aload_n hx hb d_La_law_629 rfl (lv_at hl 5 rfl) ?_
    refine lv_iload hx hb d_La_law_630 (lv_at hl 1 rfl) ?_
    refine lv_iconst (v := 1) hx hb d_La_law_632 (by decide) ?_
    refine lv_iadd hx hb d_La_law_633 ?_
    refine lv_topi (fun x1004 ex1004 => ?_)
    obtain rfl : x1004 = 1 := ex1004.trans (by decide)
    refine va_sld hx hb hX hbl hbA hS (i := 1) (show ¬ ((1 : Int32) < 0 ∨ 6 ≤ (1 : Int32).toNatClampNeg) by decide) d_La_law_634 ?_
    refine lv_topi (fun x1005 ex1005 => ?_)
    obtain rfl : x1005 = 0 := ex1005.trans hv1
    have hhp : ∀ q, q < s.heap.size → H[q]? = s.heap[q]? := fun q hq => hS.2.1 q hq (fun h => absurd (hA2 q h) (by omega))
    have hPc := hP.sub (ws' := [(q27, .inr (12, [.ref q29, .ref q30, .ref q31, .int 0, .int 0, .int 0, .int 0, .int 0, .ref q32, .ref q33, .ref q34, .ref q35, .ref q36, .int 0, .int 0, .ref q37, .ref q38, .ref q39, .ref q40, .ref q41, .ref q42, .ref q43, .ref q44, .int 0, .int 0, .ref q45, .ref q46, .ref q47, .ref q48, .ref q49, .int 0, .ref q50, .int 0, .int 0, .int 0, .int 0, .ref q51, .int 0, .int 0]))]) [1] rfl
    have hDc := hD.sub (ws' := [(q27, .inr (12, [.ref q29, .ref q30, .ref q31, .int 0, .int 0, .int 0, .int 0, .int 0, .ref q32, .ref q33, .ref q34, .ref q35, .ref q36, .int 0, .int 0, .ref q37, .ref q38, .ref q39, .ref q40, .ref q41, .ref q42, .ref q43, .ref q44, .int 0, .int 0, .ref q45, .ref q46, .ref q47, .ref q48, .ref q49, .int 0, .ref q50, .int 0, .int 0, .int 0, .int 0, .ref q51, .int 0, .int 0]))]) [1] (by decide) rfl
    have hKc := hK.sub (tys' := []) [] rfl
    have hFc := va_free (wc := [(q27, .inr (12, [.ref q29, .ref q30, .ref q31, .int 0, .int 0, .int 0, .int 0, .int 0, .ref q32, .ref q33, .ref q34, .ref q35, .ref q36, .int 0, .int 0, .ref q37, .ref q38, .ref q39, .ref q40, .ref q41, .ref q42, .ref q43, .ref q44, .int 0, .int 0, .ref q45, .ref q46, .ref q47, .ref q48, .ref q49, .int 0, .ref q50, .int 0, .int 0, .int 0, .int 0, .ref q51, .int 0, .int 0]))]) hD hS hA [1] rfl
    have hkc : 219 + 0 ≤ 600002 := (Nat.le_of_ble_eq_true rfl)
    refine va_calli (va_runV (As := [.int 0]) (rest := []) hfx (c_Mo_count_0 l dC dI q27 q29 q30 q31 q32 q33 q34 q35 q36 q37 q38 q39 q40 q41 q42 q43 q44 q45 q46 q47 q48 q49 q50 q51 H.size) ⟨(ux_cb 1 hT tw_1972 tw_1969 tw_13 rfl rfl (by decide +kernel) ⟨(Nat.le_of_ble_eq_true rfl), (Nat.le_of_ble_eq_true rfl)⟩), (ux_T_at hT tw_1970 rfl), (ux_T_at hT tw_1971 rfl)⟩ (ux_preV (r := (R_Mo, F_Mo, 39)) (ci := 12) (q0 := 0) [.int 0] hT hPc hKc hDc rfl rfl) rfl rfl hl.1 rfl (lv_room (Nat.le_of_ble_eq_true rfl)) d_La_law_635 ⟨(Nat.le_of_ble_eq_true rfl), (Nat.le_of_ble_eq_true rfl)⟩) hS (fun q _ h => hFc q h) hFc (fun r1006 u t H1 locs ht hvm hw hB hz1 hk1 hS => ?_)
    obtain ⟨hP1, hK1, hD1⟩ := hB
    rw [ht] at hP1
    have hK1 := va_K.moved hvm.symm hK1
    obtain ⟨hP, hD⟩ := va_join (wr := [(q3, .inl (cA25, 2000, .inl (fun _ => 0))), (q29, .inl (cA52, 2000, .inl (fun _ => 0))), (q30, .inl (cA53, 5718, .inl (fun _ => 0))), (q54, .inl (cA55, 1, .inr (.inl (vp_updL (fun _ => 0) (0 : Int32).toNatClampNeg 0))))]) (w1 := [(q27, .inr (12, [.ref q29, .ref q30, .ref q31, .int 0, .int 0, .int 0, .int 0, .int 0, .ref q32, .ref q33, .ref q34, .ref q35, .ref q36, .int 0, .int 0, .ref q37, .ref q38, .ref q39, .ref q40, .ref q41, .ref q42, .ref q43, .ref q44, .int 0, .int 0, .ref q45, .ref q46, .ref q47, .ref q48, .ref q49, .int 0, .ref q50, .int 0, .int 0, .int 0, .int 0, .ref q51, .int 0, .int 0]))]) hP hD [1] [0, 2, 3, 4] rfl rfl (by decide) (by decide) hk1 hFc hP1 hD1
    have hK := (hK.sub (tys' := [(cA25, .byte), (cA52, .byte), (cA53, .byte), (cA55, .long), (cA55, .long)]) [0, 1, 2, 3, 4] rfl).app hK1
    generalize H1 = H at hP hS ⊢
    have hP : va_P (dC, dI) cls [(q3, .inl (cA25, 2000, .inl (fun _ => 0))), (q29, .inl (cA52, 2000, .inl (fun _ => 0))), (q30, .inl (cA53, 5718, .inl (fun _ => 0))), (q54, .inl (cA55, 1, .inr (.inl (vp_updL (fun _ => 0) (0 : Int32).toNatClampNeg 0)))), (q27, .inr (12, [.ref q29, .ref q30, .ref q31, .int 0, .int 0, .int 0, .int 0, .int 0, .ref q32, .ref q33, .ref q34, .ref q35, .ref q36, .int 0, .int 0, .ref q37, .ref q38, .ref q39, .ref q40, .ref q41, .ref q42, .ref q43, .ref q44, .int 0, .int 0, .ref q45, .ref q46, .ref q47, .ref q48, .ref q49, .int 0, .ref q50, .int 0, .int 0, .int 0, .int 0, .ref q51, .int 0, .int 0]))] H := hP
    have hD : va_D A [(q3, .inl (cA25, 2000, .inl (fun _ => 0))), (q29, .inl (cA52, 2000, .inl (fun _ => 0))), (q30, .inl (cA53, 5718, .inl (fun _ => 0))), (q54, .inl (cA55, 1, .inr (.inl (vp_updL (fun _ => 0) (0 : Int32).toNatClampNeg 0)))), (q27, .inr (12, [.ref q29, .ref q30, .ref q31, .int 0, .int 0, .int 0, .int 0, .int 0, .ref q32, .ref q33, .ref q34, .ref q35, .ref q36, .int 0, .int 0, .ref q37, .ref q38, .ref q39, .ref q40, .ref q41, .ref q42, .ref q43, .ref q44, .int 0, .int 0, .ref q45, .ref q46, .ref q47, .ref q48, .ref q49, .int 0, .ref q50, .int 0, .int 0, .int 0, .int 0, .ref q51, .int 0, .int 0]))] := hD
    have hK : va_K (dC, dI) cls [(cA25, .byte), (cA52, .byte), (cA53, .byte), (cA55, .long), (cA55, .long)] s := hK
    obtain rfl : r1006 = 0 := hw
    refine lv_istore hx hb d_La_law_638 hl (by decide) rfl (fun ls hl => ?_)
    have hl : lv_has ls 8 [(6, .int 0), (5, .int 0), (4, .int 0), (3, .ref q54), (2, .ref q27), (1, .ref q1), (0, .ref b)] := hl
    refine lv_aload_n hx hb d_La_law_640 rfl (lv_at hl 4 rfl) ?_
    have hhp : ∀ q, q < s.heap.size → H[q]? = s.heap[q]? := fun q hq => hS.2.1 q hq (fun h => absurd (hA2 q h) (by omega))
    have hPc := hP.sub (ws' := [(q27, .inr (12, [.ref q29, .ref q30, .ref q31, .int 0, .int 0, .int 0, .int 0, .int 0, .ref q32, .ref q33, .ref q34, .ref q35, .ref q36, .int 0, .int 0, .ref q37, .ref q38, .ref q39, .ref q40, .ref q41, .ref q42, .ref q43, .ref q44, .int 0, .int 0, .ref q45, .ref q46, .ref q47, .ref q48, .ref q49, .int 0, .ref q50, .int 0, .int 0, .int 0, .int 0, .ref q51, .int 0, .int 0]))]) [4] rfl
    have hDc := hD.sub (ws' := [(q27, .inr (12, [.ref q29, .ref q30, .ref q31, .int 0, .int 0, .int 0, .int 0, .int 0, .ref q32, .ref q33, .ref q34, .ref q35, .ref q36, .int 0, .int 0, .ref q37, .ref q38, .ref q39, .ref q40, .ref q41, .ref q42, .ref q43, .ref q44, .int 0, .int 0, .ref q45, .ref q46, .ref q47, .ref q48, .ref q49, .int 0, .ref q50, .int 0, .int 0, .int 0, .int 0, .ref q51, .int 0, .int 0]))]) [4] (by decide) rfl
    have hKc := hK.sub (tys' := []) [] rfl
    have hFc := va_free (wc := [(q27, .inr (12, [.ref q29, .ref q30, .ref q31, .int 0, .int 0, .int 0, .int 0, .int 0, .ref q32, .ref q33, .ref q34, .ref q35, .ref q36, .int 0, .int 0, .ref q37, .ref q38, .ref q39, .ref q40, .ref q41, .ref q42, .ref q43, .ref q44, .int 0, .int 0, .ref q45, .ref q46, .ref q47, .ref q48, .ref q49, .int 0, .ref q50, .int 0, .int 0, .int 0, .int 0, .ref q51, .int 0, .int 0]))]) hD hS hA [4] rfl
    have hkc : 219 + 0 ≤ 600002 := (Nat.le_of_ble_eq_true rfl)
    refine va_calli (va_runV (As := []) (rest := []) hfx (c_Mo_thrown_0 l dC dI q27 q29 q30 q31 q32 q33 q34 q35 q36 q37 q38 q39 q40 q41 q42 q43 q44 q45 q46 q47 q48 q49 q50 q51 0 0 H.size) ⟨(ux_cb 0 hT tw_1714 tw_1711 tw_13 rfl rfl (by decide +kernel) ⟨(Nat.le_of_ble_eq_true rfl), (Nat.le_of_ble_eq_true rfl)⟩), (ux_T_at hT tw_1712 rfl), (ux_T_at hT tw_1713 rfl)⟩ (ux_preV (r := (R_Mo, F_Mo, 39)) (ci := 12) (q0 := 0) [] hT hPc hKc hDc rfl rfl) rfl rfl hl.1 rfl (lv_room (Nat.le_of_ble_eq_true rfl)) d_La_law_641 ⟨(Nat.le_of_ble_eq_true rfl), (Nat.le_of_ble_eq_true rfl)⟩) hS (fun q _ h => hFc q h) hFc (fun r1007 u t H1 locs ht hvm hw hB hz1 hk1 hS => ?_)
    obtain ⟨hP1, hK1, hD1⟩ := hB
    rw [ht] at hP1
    have hK1 := va_K.moved hvm.symm hK1
    obtain ⟨hP, hD⟩ := va_join (wr := [(q3, .inl (cA25, 2000, .inl (fun _ => 0))), (q29, .inl (cA52, 2000, .inl (fun _ => 0))), (q30, .inl (cA53, 5718, .inl (fun _ => 0))), (q54, .inl (cA55, 1, .inr (.inl (vp_updL (fun _ => 0) (0 : Int32).toNatClampNeg 0))))]) (w1 := [(q27, .inr (12, [.ref q29, .ref q30, .ref q31, .int 0, .int 0, .int 0, .int 0, .int 0, .ref q32, .ref q33, .ref q34, .ref q35, .ref q36, .int 0, .int 0, .ref q37, .ref q38, .ref q39, .ref q40, .ref q41, .ref q42, .ref q43, .ref q44, .int 0, .int 0, .ref q45, .ref q46, .ref q47, .ref q48, .ref q49, .int 0, .ref q50, .int 0, .int 0, .int 0, .int 0, .ref q51, .int 0, .int 0]))]) hP hD [4] [0, 1, 2, 3] rfl rfl (by decide) (by decide) hk1 hFc hP1 hD1
    have hK := (hK.sub (tys' := [(cA25, .byte), (cA52, .byte), (cA53, .byte), (cA55, .long), (cA55, .long)]) [0, 1, 2, 3, 4] rfl).app hK1
    generalize H1 = H at hP hS ⊢
    have hP : va_P (dC, dI) cls [(q3, .inl (cA25, 2000, .inl (fun _ => 0))), (q29, .inl (cA52, 2000, .inl (fun _ => 0))), (q30, .inl (cA53, 5718, .inl (fun _ => 0))), (q54, .inl (cA55, 1, .inr (.inl (vp_updL (fun _ => 0) (0 : Int32).toNatClampNeg 0)))), (q27, .inr (12, [.ref q29, .ref q30, .ref q31, .int 0, .int 0, .int 0, .int 0, .int 0, .ref q32, .ref q33, .ref q34, .ref q35, .ref q36, .int 0, .int 0, .ref q37, .ref q38, .ref q39, .ref q40, .ref q41, .ref q42, .ref q43, .ref q44, .int 0, .int 0, .ref q45, .ref q46, .ref q47, .ref q48, .ref q49, .int 0, .ref q50, .int 0, .int 0, .int 0, .int 0, .ref q51, .int 0, .int 0]))] H := hP
    have hD : va_D A [(q3, .inl (cA25, 2000, .inl (fun _ => 0))), (q29, .inl (cA52, 2000, .inl (fun _ => 0))), (q30, .inl (cA53, 5718, .inl (fun _ => 0))), (q54, .inl (cA55, 1, .inr (.inl (vp_updL (fun _ => 0) (0 : Int32).toNatClampNeg 0)))), (q27, .inr (12, [.ref q29, .ref q30, .ref q31, .int 0, .int 0, .int 0, .int 0, .int 0, .ref q32, .ref q33, .ref q34, .ref q35, .ref q36, .int 0, .int 0, .ref q37, .ref q38, .ref q39, .ref q40, .ref q41, .ref q42, .ref q43, .ref q44, .int 0, .int 0, .ref q45, .ref q46, .ref q47, .ref q48, .ref q49, .int 0, .ref q50, .int 0, .int 0, .int 0, .int 0, .ref q51, .int 0, .int 0]))] := hD
    have hK : va_K (dC, dI) cls [(cA25, .byte), (cA52, .byte), (cA53, .byte), (cA55, .long), (cA55, .long)] s := hK
    obtain rfl : r1007 = 0 := hw
    refine lv_iload hx hb d_La_law_644 (lv_at hl 1 rfl) ?_
    refine lv_icmp_eq (tgt := 651) hx hb d_La_law_646 (by decide) (fun _ => ?_) (fun hc => absurd (by decide) hc)
    refine lv_iload hx hb d_La_law_651 (lv_at hl 1 rfl) ?_
    refine lv_if_ne (tgt := 668) hx hb d_La_law_653 (by decide) (fun hc => absurd (by decide) hc) (fun _ => ?_)
    refine lv_aload_n hx hb d_La_law_656 rfl (lv_at hl 3 rfl) ?_
    refine lv_iconst (v := 0) hx hb d_La_law_657 (by decide) ?_
    refine va_lald hx hb hK hP 3 3 rfl rfl (i := 0) (show ¬ ((0 : Int32) < 0 ∨ 1 ≤ (0 : Int32).toNatClampNeg) by decide) d_La_law_658 ?_
    refine lv_topl (fun x1008 ex1008 => ?_)
    obtain rfl : x1008 = 0 := ex1008.trans (by decide)
    refine lv_iload hx hb d_La_law_659 (lv_at hl 0 rfl) ?_
    refine lv_i2l (v := 0) hx hb d_La_law_661 (by decide) ?_
    refine W.lcmp hx hb d_La_law_662 ?_
    refine lv_topi (fun x1009 ex1009 => ?_)
    obtain rfl : x1009 = 0 := ex1009.trans (by decide)
    refine lv_if_eq (tgt := 668) hx hb d_La_law_663 (by decide) (fun _ => ?_) (fun hc => absurd (by decide) hc)
    refine lv_goto hx hb d_La_law_668 (tgt := 751) (by decide) ?_
    exact law_end l hA2 ⟨hx, hb, hr, hml, hown, hts, hX, hbl, hlocks, hgv⟩ (Nat.le_of_ble_eq_true rfl) (Nat.le_of_ble_eq_true rfl) hS (lv_sub hl [6, 2] rfl)
  · obtain rfl : v1 = 1 := hv
    have hhp : ∀ q, q < s.heap.size → H[q]? = s.heap[q]? := fun q hq => hS.2.1 q hq (fun h => absurd (hA2 q h) (by omega))
    have hPc := hP.sub (ws' := [(q1, .inr (0, [.ref q3, .int 0, .int 0, .ref q4, .ref q5, .ref q6, .ref q7, .ref q8, .ref q9, .ref q10, .ref q11, .ref q3, .int 0, .int 0])), (q5, .inr (2, [.ref q4, .ref q15, .ref q16, .int 0, .int 0])), (q8, .inr (6, [.ref q18, .ref q19, .ref q5, .int 0, .int 0])), (q4, .inr (1, [.ref q12, .ref q13, .ref q14, .int 0, .int 0])), (q6, .inr (3, [.ref q17, .int 0])), (q9, .inr (10, [.ref q20, .ref q21, .ref q22, .ref q23, .ref q24, .int 0])), (q54, .inl (cA55, 1, .inr (.inl (fun _ => 0))))]) [0, 3, 5, 2, 4, 6, 10] rfl
    have hDc := hD.sub (ws' := [(q1, .inr (0, [.ref q3, .int 0, .int 0, .ref q4, .ref q5, .ref q6, .ref q7, .ref q8, .ref q9, .ref q10, .ref q11, .ref q3, .int 0, .int 0])), (q5, .inr (2, [.ref q4, .ref q15, .ref q16, .int 0, .int 0])), (q8, .inr (6, [.ref q18, .ref q19, .ref q5, .int 0, .int 0])), (q4, .inr (1, [.ref q12, .ref q13, .ref q14, .int 0, .int 0])), (q6, .inr (3, [.ref q17, .int 0])), (q9, .inr (10, [.ref q20, .ref q21, .ref q22, .ref q23, .ref q24, .int 0])), (q54, .inl (cA55, 1, .inr (.inl (fun _ => 0))))]) [0, 3, 5, 2, 4, 6, 10] (by decide) rfl
    have hKc := hK.sub (tys' := [(cA55, .long)]) [3] rfl
    have hFc := va_free (wc := [(q1, .inr (0, [.ref q3, .int 0, .int 0, .ref q4, .ref q5, .ref q6, .ref q7, .ref q8, .ref q9, .ref q10, .ref q11, .ref q3, .int 0, .int 0])), (q5, .inr (2, [.ref q4, .ref q15, .ref q16, .int 0, .int 0])), (q8, .inr (6, [.ref q18, .ref q19, .ref q5, .int 0, .int 0])), (q4, .inr (1, [.ref q12, .ref q13, .ref q14, .int 0, .int 0])), (q6, .inr (3, [.ref q17, .int 0])), (q9, .inr (10, [.ref q20, .ref q21, .ref q22, .ref q23, .ref q24, .int 0])), (q54, .inl (cA55, 1, .inr (.inl (fun _ => 0))))]) hD hS hA [0, 3, 5, 2, 4, 6, 10] rfl
    have hkc : 219 + 0 ≤ 600002 := (Nat.le_of_ble_eq_true rfl)
    refine va_calli (ux_runSW (n := 3) (As := [.ref q1, .int 1, .ref q54]) (rest := []) hfx (c_La_count_1 l dC dI q1 q54 q3 q4 q5 q6 q7 q8 q9 q10 q11 q15 q16 q18 q19 q12 q13 q14 q17 q20 q21 q22 q23 q24 cA55 H.size) hT tw_1450 tw_1448 tw_0 tw_1449 rfl rfl (by decide +kernel) ⟨(Nat.le_of_ble_eq_true rfl), (Nat.le_of_ble_eq_true rfl)⟩ (ux_pre [.ref q1, .int 1, .ref q54] hT hPc hKc hDc) rfl rfl hl.1 rfl (lv_room (Nat.le_of_ble_eq_true rfl)) d_La_law_623 ⟨(Nat.le_of_ble_eq_true rfl), (Nat.le_of_ble_eq_true rfl)⟩) hS (fun q _ h => hFc q h) hFc (fun r1010 u t H1 locs ht hvm hw hB hz1 hk1 hS => ?_)
    obtain ⟨hP1, hK1, hD1⟩ := hB
    rw [ht] at hP1
    have hK1 := va_K.moved hvm.symm hK1
    obtain ⟨hP, hD⟩ := va_join (wr := [(q3, .inl (cA25, 2000, .inl (fun _ => 0))), (q27, .inr (12, [.ref q29, .ref q30, .ref q31, .int 0, .int 0, .int 0, .int 0, .int 0, .ref q32, .ref q33, .ref q34, .ref q35, .ref q36, .int 0, .int 0, .ref q37, .ref q38, .ref q39, .ref q40, .ref q41, .ref q42, .ref q43, .ref q44, .int 0, .int 0, .ref q45, .ref q46, .ref q47, .ref q48, .ref q49, .int 0, .ref q50, .int 0, .int 0, .int 0, .int 0, .ref q51, .int 0, .int 0])), (q29, .inl (cA52, 2000, .inl (fun _ => 0))), (q30, .inl (cA53, 5718, .inl (fun _ => 0)))]) (w1 := [(q54, .inl (cA55, 1, .inr (.inl (vp_updL (fun _ => 0) (0 : Int32).toNatClampNeg 0))))]) hP hD [0, 3, 5, 2, 4, 6, 10] [1, 7, 8, 9] rfl rfl (by decide) (by decide) hk1 hFc hP1 hD1
    have hK := (hK.sub (tys' := [(cA25, .byte), (cA52, .byte), (cA53, .byte), (cA55, .long)]) [0, 1, 2, 3] rfl).app hK1
    generalize H1 = H at hP hS ⊢
    have hP : va_P (dC, dI) cls [(q3, .inl (cA25, 2000, .inl (fun _ => 0))), (q27, .inr (12, [.ref q29, .ref q30, .ref q31, .int 0, .int 0, .int 0, .int 0, .int 0, .ref q32, .ref q33, .ref q34, .ref q35, .ref q36, .int 0, .int 0, .ref q37, .ref q38, .ref q39, .ref q40, .ref q41, .ref q42, .ref q43, .ref q44, .int 0, .int 0, .ref q45, .ref q46, .ref q47, .ref q48, .ref q49, .int 0, .ref q50, .int 0, .int 0, .int 0, .int 0, .ref q51, .int 0, .int 0])), (q29, .inl (cA52, 2000, .inl (fun _ => 0))), (q30, .inl (cA53, 5718, .inl (fun _ => 0))), (q54, .inl (cA55, 1, .inr (.inl (vp_updL (fun _ => 0) (0 : Int32).toNatClampNeg 0))))] H := hP
    have hD : va_D A [(q3, .inl (cA25, 2000, .inl (fun _ => 0))), (q27, .inr (12, [.ref q29, .ref q30, .ref q31, .int 0, .int 0, .int 0, .int 0, .int 0, .ref q32, .ref q33, .ref q34, .ref q35, .ref q36, .int 0, .int 0, .ref q37, .ref q38, .ref q39, .ref q40, .ref q41, .ref q42, .ref q43, .ref q44, .int 0, .int 0, .ref q45, .ref q46, .ref q47, .ref q48, .ref q49, .int 0, .ref q50, .int 0, .int 0, .int 0, .int 0, .ref q51, .int 0, .int 0])), (q29, .inl (cA52, 2000, .inl (fun _ => 0))), (q30, .inl (cA53, 5718, .inl (fun _ => 0))), (q54, .inl (cA55, 1, .inr (.inl (vp_updL (fun _ => 0) (0 : Int32).toNatClampNeg 0))))] := hD
    have hK : va_K (dC, dI) cls [(cA25, .byte), (cA52, .byte), (cA53, .byte), (cA55, .long), (cA55, .long)] s := hK
    obtain rfl : r1010 = 0 := hw
    refine lv_istore hx hb d_La_law_626 hl (by decide) rfl (fun ls hl => ?_)
    have hl : lv_has ls 8 [(5, .int 0), (4, .int 0), (3, .ref q54), (2, .ref q27), (1, .ref q1), (0, .ref b)] := hl
    refine lv_aload_n hx hb d_La_law_628 rfl (lv_at hl 3 rfl) ?_
    refine lv_aload_n hx hb d_La_law_629 rfl (lv_at hl 5 rfl) ?_
    refine lv_iload hx hb d_La_law_630 (lv_at hl 1 rfl) ?_
    refine lv_iconst (v := 1) hx hb d_La_law_632 (by decide) ?_
    refine lv_iadd hx hb d_La_law_633 ?_
    refine lv_topi (fun x1011 ex1011 => ?_)
    obtain rfl : x1011 = 1 := ex1011.trans (by decide)
    refine va_sld hx hb hX hbl hbA hS (i := 1) (show ¬ ((1 : Int32) < 0 ∨ 6 ≤ (1 : Int32).toNatClampNeg) by decide) d_La_law_634 ?_
    refine lv_topi (fun x1012 ex1012 => ?_)
    obtain rfl : x1012 = 1 := ex1012.trans hv1
    have hhp : ∀ q, q < s.heap.size → H[q]? = s.heap[q]? := fun q hq => hS.2.1 q hq (fun h => absurd (hA2 q h) (by omega))
    have hPc := hP.sub (ws' := [(q27, .inr (12, [.ref q29, .ref q30, .ref q31, .int 0, .int 0, .int 0, .int 0, .int 0, .ref q32, .ref q33, .ref q34, .ref q35, .ref q36, .int 0, .int 0, .ref q37, .ref q38, .ref q39, .ref q40, .ref q41, .ref q42, .ref q43, .ref q44, .int 0, .int 0, .ref q45, .ref q46, .ref q47, .ref q48, .ref q49, .int 0, .ref q50, .int 0, .int 0, .int 0, .int 0, .ref q51, .int 0, .int 0]))]) [1] rfl
    have hDc := hD.sub (ws' := [(q27, .inr (12, [.ref q29, .ref q30, .ref q31, .int 0, .int 0, .int 0, .int 0, .int 0, .ref q32, .ref q33, .ref q34, .ref q35, .ref q36, .int 0, .int 0, .ref q37, .ref q38, .ref q39, .ref q40, .ref q41, .ref q42, .ref q43, .ref q44, .int 0, .int 0, .ref q45, .ref q46, .ref q47, .ref q48, .ref q49, .int 0, .ref q50, .int 0, .int 0, .int 0, .int 0, .ref q51, .int 0, .int 0]))]) [1] (by decide) rfl
    have hKc := hK.sub (tys' := []) [] rfl
    have hFc := va_free (wc := [(q27, .inr (12, [.ref q29, .ref q30, .ref q31, .int 0, .int 0, .int 0, .int 0, .int 0, .ref q32, .ref q33, .ref q34, .ref q35, .ref q36, .int 0, .int 0, .ref q37, .ref q38, .ref q39, .ref q40, .ref q41, .ref q42, .ref q43, .ref q44, .int 0, .int 0, .ref q45, .ref q46, .ref q47, .ref q48, .ref q49, .int 0, .ref q50, .int 0, .int 0, .int 0, .int 0, .ref q51, .int 0, .int 0]))]) hD hS hA [1] rfl
    have hkc : 219 + 0 ≤ 600002 := (Nat.le_of_ble_eq_true rfl)
    refine va_calli (va_runV (As := [.int 1]) (rest := []) hfx (c_Mo_count_1 l dC dI q27 q29 q30 q31 q32 q33 q34 q35 q36 q37 q38 q39 q40 q41 q42 q43 q44 q45 q46 q47 q48 q49 q50 q51 H.size) ⟨(ux_cb 1 hT tw_1972 tw_1969 tw_13 rfl rfl (by decide +kernel) ⟨(Nat.le_of_ble_eq_true rfl), (Nat.le_of_ble_eq_true rfl)⟩), (ux_T_at hT tw_1970 rfl), (ux_T_at hT tw_1971 rfl)⟩ (ux_preV (r := (R_Mo, F_Mo, 39)) (ci := 12) (q0 := 0) [.int 1] hT hPc hKc hDc rfl rfl) rfl rfl hl.1 rfl (lv_room (Nat.le_of_ble_eq_true rfl)) d_La_law_635 ⟨(Nat.le_of_ble_eq_true rfl), (Nat.le_of_ble_eq_true rfl)⟩) hS (fun q _ h => hFc q h) hFc (fun r1013 u t H1 locs ht hvm hw hB hz1 hk1 hS => ?_)
    obtain ⟨hP1, hK1, hD1⟩ := hB
    rw [ht] at hP1
    have hK1 := va_K.moved hvm.symm hK1
    obtain ⟨hP, hD⟩ := va_join (wr := [(q3, .inl (cA25, 2000, .inl (fun _ => 0))), (q29, .inl (cA52, 2000, .inl (fun _ => 0))), (q30, .inl (cA53, 5718, .inl (fun _ => 0))), (q54, .inl (cA55, 1, .inr (.inl (vp_updL (fun _ => 0) (0 : Int32).toNatClampNeg 0))))]) (w1 := [(q27, .inr (12, [.ref q29, .ref q30, .ref q31, .int 0, .int 0, .int 0, .int 0, .int 0, .ref q32, .ref q33, .ref q34, .ref q35, .ref q36, .int 0, .int 0, .ref q37, .ref q38, .ref q39, .ref q40, .ref q41, .ref q42, .ref q43, .ref q44, .int 0, .int 0, .ref q45, .ref q46, .ref q47, .ref q48, .ref q49, .int 0, .ref q50, .int 0, .int 0, .int 0, .int 0, .ref q51, .int 0, .int 0]))]) hP hD [1] [0, 2, 3, 4] rfl rfl (by decide) (by decide) hk1 hFc hP1 hD1
    have hK := (hK.sub (tys' := [(cA25, .byte), (cA52, .byte), (cA53, .byte), (cA55, .long), (cA55, .long)]) [0, 1, 2, 3, 4] rfl).app hK1
    generalize H1 = H at hP hS ⊢
    have hP : va_P (dC, dI) cls [(q3, .inl (cA25, 2000, .inl (fun _ => 0))), (q29, .inl (cA52, 2000, .inl (fun _ => 0))), (q30, .inl (cA53, 5718, .inl (fun _ => 0))), (q54, .inl (cA55, 1, .inr (.inl (vp_updL (fun _ => 0) (0 : Int32).toNatClampNeg 0)))), (q27, .inr (12, [.ref q29, .ref q30, .ref q31, .int 0, .int 0, .int 0, .int 0, .int 0, .ref q32, .ref q33, .ref q34, .ref q35, .ref q36, .int 0, .int 0, .ref q37, .ref q38, .ref q39, .ref q40, .ref q41, .ref q42, .ref q43, .ref q44, .int 0, .int 0, .ref q45, .ref q46, .ref q47, .ref q48, .ref q49, .int 0, .ref q50, .int 0, .int 0, .int 0, .int 0, .ref q51, .int 0, .int 0]))] H := hP
    have hD : va_D A [(q3, .inl (cA25, 2000, .inl (fun _ => 0))), (q29, .inl (cA52, 2000, .inl (fun _ => 0))), (q30, .inl (cA53, 5718, .inl (fun _ => 0))), (q54, .inl (cA55, 1, .inr (.inl (vp_updL (fun _ => 0) (0 : Int32).toNatClampNeg 0)))), (q27, .inr (12, [.ref q29, .ref q30, .ref q31, .int 0, .int 0, .int 0, .int 0, .int 0, .ref q32, .ref q33, .ref q34, .ref q35, .ref q36, .int 0, .int 0, .ref q37, .ref q38, .ref q39, .ref q40, .ref q41, .ref q42, .ref q43, .ref q44, .int 0, .int 0, .ref q45, .ref q46, .ref q47, .ref q48, .ref q49, .int 0, .ref q50, .int 0, .int 0, .int 0, .int 0, .ref q51, .int 0, .int 0]))] := hD
    have hK : va_K (dC, dI) cls [(cA25, .byte), (cA52, .byte), (cA53, .byte), (cA55, .long), (cA55, .long)] s := hK
    obtain rfl : r1013 = 0 := hw
    refine lv_istore hx hb d_La_law_638 hl (by decide) rfl (fun ls hl => ?_)
    have hl : lv_has ls 8 [(6, .int 0), (5, .int 0), (4, .int 0), (3, .ref q54), (2, .ref q27), (1, .ref q1), (0, .ref b)] := hl
    refine lv_aload_n hx hb d_La_law_640 rfl (lv_at hl 4 rfl) ?_
    have hhp : ∀ q, q < s.heap.size → H[q]? = s.heap[q]? := fun q hq => hS.2.1 q hq (fun h => absurd (hA2 q h) (by omega))
    have hPc := hP.sub (ws' := [(q27, .inr (12, [.ref q29, .ref q30, .ref q31, .int 0, .int 0, .int 0, .int 0, .int 0, .ref q32, .ref q33, .ref q34, .ref q35, .ref q36, .int 0, .int 0, .ref q37, .ref q38, .ref q39, .ref q40, .ref q41, .ref q42, .ref q43, .ref q44, .int 0, .int 0, .ref q45, .ref q46, .ref q47, .ref q48, .ref q49, .int 0, .ref q50, .int 0, .int 0, .int 0, .int 0, .ref q51, .int 0, .int 0]))]) [4] rfl
    have hDc := hD.sub (ws' := [(q27, .inr (12, [.ref q29, .ref q30, .ref q31, .int 0, .int 0, .int 0, .int 0, .int 0, .ref q32, .ref q33, .ref q34, .ref q35, .ref q36, .int 0, .int 0, .ref q37, .ref q38, .ref q39, .ref q40, .ref q41, .ref q42, .ref q43, .ref q44, .int 0, .int 0, .ref q45, .ref q46, .ref q47, .ref q48, .ref q49, .int 0, .ref q50, .int 0, .int 0, .int 0, .int 0, .ref q51, .int 0, .int 0]))]) [4] (by decide) rfl
    have hKc := hK.sub (tys' := []) [] rfl
    have hFc := va_free (wc := [(q27, .inr (12, [.ref q29, .ref q30, .ref q31, .int 0, .int 0, .int 0, .int 0, .int 0, .ref q32, .ref q33, .ref q34, .ref q35, .ref q36, .int 0, .int 0, .ref q37, .ref q38, .ref q39, .ref q40, .ref q41, .ref q42, .ref q43, .ref q44, .int 0, .int 0, .ref q45, .ref q46, .ref q47, .ref q48, .ref q49, .int 0, .ref q50, .int 0, .int 0, .int 0, .int 0, .ref q51, .int 0, .int 0]))]) hD hS hA [4] rfl
    have hkc : 219 + 0 ≤ 600002 := (Nat.le_of_ble_eq_true rfl)
    refine va_calli (va_runV (As := []) (rest := []) hfx (c_Mo_thrown_0 l dC dI q27 q29 q30 q31 q32 q33 q34 q35 q36 q37 q38 q39 q40 q41 q42 q43 q44 q45 q46 q47 q48 q49 q50 q51 0 0 H.size) ⟨(ux_cb 0 hT tw_1714 tw_1711 tw_13 rfl rfl (by decide +kernel) ⟨(Nat.le_of_ble_eq_true rfl), (Nat.le_of_ble_eq_true rfl)⟩), (ux_T_at hT tw_1712 rfl), (ux_T_at hT tw_1713 rfl)⟩ (ux_preV (r := (R_Mo, F_Mo, 39)) (ci := 12) (q0 := 0) [] hT hPc hKc hDc rfl rfl) rfl rfl hl.1 rfl (lv_room (Nat.le_of_ble_eq_true rfl)) d_La_law_641 ⟨(Nat.le_of_ble_eq_true rfl), (Nat.le_of_ble_eq_true rfl)⟩) hS (fun q _ h => hFc q h) hFc (fun r1014 u t H1 locs ht hvm hw hB hz1 hk1 hS => ?_)
    obtain ⟨hP1, hK1, hD1⟩ := hB
    rw [ht] at hP1
    have hK1 := va_K.moved hvm.symm hK1
    obtain ⟨hP, hD⟩ := va_join (wr := [(q3, .inl (cA25, 2000, .inl (fun _ => 0))), (q29, .inl (cA52, 2000, .inl (fun _ => 0))), (q30, .inl (cA53, 5718, .inl (fun _ => 0))), (q54, .inl (cA55, 1, .inr (.inl (vp_updL (fun _ => 0) (0 : Int32).toNatClampNeg 0))))]) (w1 := [(q27, .inr (12, [.ref q29, .ref q30, .ref q31, .int 0, .int 0, .int 0, .int 0, .int 0, .ref q32, .ref q33, .ref q34, .ref q35, .ref q36, .int 0, .int 0, .ref q37, .ref q38, .ref q39, .ref q40, .ref q41, .ref q42, .ref q43, .ref q44, .int 0, .int 0, .ref q45, .ref q46, .ref q47, .ref q48, .ref q49, .int 0, .ref q50, .int 0, .int 0, .int 0, .int 0, .ref q51, .int 0, .int 0]))]) hP hD [4] [0, 1, 2, 3] rfl rfl (by decide) (by decide) hk1 hFc hP1 hD1
    have hK := (hK.sub (tys' := [(cA25, .byte), (cA52, .byte), (cA53, .byte), (cA55, .long), (cA55, .long)]) [0, 1, 2, 3, 4] rfl).app hK1
    generalize H1 = H at hP hS ⊢
    have hP : va_P (dC, dI) cls [(q3, .inl (cA25, 2000, .inl (fun _ => 0))), (q29, .inl (cA52, 2000, .inl (fun _ => 0))), (q30, .inl (cA53, 5718, .inl (fun _ => 0))), (q54, .inl (cA55, 1, .inr (.inl (vp_updL (fun _ => 0) (0 : Int32).toNatClampNeg 0)))), (q27, .inr (12, [.ref q29, .ref q30, .ref q31, .int 0, .int 0, .int 0, .int 0, .int 0, .ref q32, .ref q33, .ref q34, .ref q35, .ref q36, .int 0, .int 0, .ref q37, .ref q38, .ref q39, .ref q40, .ref q41, .ref q42, .ref q43, .ref q44, .int 0, .int 0, .ref q45, .ref q46, .ref q47, .ref q48, .ref q49, .int 0, .ref q50, .int 0, .int 0, .int 0, .int 0, .ref q51, .int 0, .int 0]))] H := hP
    have hD : va_D A [(q3, .inl (cA25, 2000, .inl (fun _ => 0))), (q29, .inl (cA52, 2000, .inl (fun _ => 0))), (q30, .inl (cA53, 5718, .inl (fun _ => 0))), (q54, .inl (cA55, 1, .inr (.inl (vp_updL (fun _ => 0) (0 : Int32).toNatClampNeg 0)))), (q27, .inr (12, [.ref q29, .ref q30, .ref q31, .int 0, .int 0, .int 0, .int 0, .int 0, .ref q32, .ref q33, .ref q34, .ref q35, .ref q36, .int 0, .int 0, .ref q37, .ref q38, .ref q39, .ref q40, .ref q41, .ref q42, .ref q43, .ref q44, .int 0, .int 0, .ref q45, .ref q46, .ref q47, .ref q48, .ref q49, .int 0, .ref q50, .int 0, .int 0, .int 0, .int 0, .ref q51, .int 0, .int 0]))] := hD
    have hK : va_K (dC, dI) cls [(cA25, .byte), (cA52, .byte), (cA53, .byte), (cA55, .long), (cA55, .long)] s := hK
    obtain rfl : r1014 = 0 := hw
    refine lv_iload hx hb d_La_law_644 (lv_at hl 1 rfl) ?_
    refine lv_icmp_eq (tgt := 651) hx hb d_La_law_646 (by decide) (fun _ => ?_) (fun hc => absurd (by decide) hc)
    refine lv_iload hx hb d_La_law_651 (lv_at hl 1 rfl) ?_
    refine lv_if_ne (tgt := 668) hx hb d_La_law_653 (by decide) (fun hc => absurd (by decide) hc) (fun _ => ?_)
    refine lv_aload_n hx hb d_La_law_656 rfl (lv_at hl 3 rfl) ?_
    refine lv_iconst (v := 0) hx hb d_La_law_657 (by decide) ?_
    refine va_lald hx hb hK hP 3 3 rfl rfl (i := 0) (show ¬ ((0 : Int32) < 0 ∨ 1 ≤ (0 : Int32).toNatClampNeg) by decide) d_La_law_658 ?_
    refine lv_topl (fun x1015 ex1015 => ?_)
    obtain rfl : x1015 = 0 := ex1015.trans (by decide)
    refine lv_iload hx hb d_La_law_659 (lv_at hl 0 rfl) ?_
    refine lv_i2l (v := 0) hx hb d_La_law_661 (by decide) ?_
    refine W.lcmp hx hb d_La_law_662 ?_
    refine lv_topi (fun x1016 ex1016 => ?_)
    obtain rfl : x1016 = 0 := ex1016.trans (by decide)
    refine lv_if_eq (tgt := 668) hx hb d_La_law_663 (by decide) (fun _ => ?_) (fun hc => absurd (by decide) hc)
    refine lv_goto hx hb d_La_law_668 (tgt := 751) (by decide) ?_
    exact law_end l hA2 ⟨hx, hb, hr, hml, hown, hts, hX, hbl, hlocks, hgv⟩ (Nat.le_of_ble_eq_true rfl) (Nat.le_of_ble_eq_true rfl) hS (lv_sub hl [6, 2] rfl)
  · obtain rfl : v1 = 2 := hv
    have hhp : ∀ q, q < s.heap.size → H[q]? = s.heap[q]? := fun q hq => hS.2.1 q hq (fun h => absurd (hA2 q h) (by omega))
    have hPc := hP.sub (ws' := [(q1, .inr (0, [.ref q3, .int 0, .int 0, .ref q4, .ref q5, .ref q6, .ref q7, .ref q8, .ref q9, .ref q10, .ref q11, .ref q3, .int 0, .int 0])), (q5, .inr (2, [.ref q4, .ref q15, .ref q16, .int 0, .int 0])), (q8, .inr (6, [.ref q18, .ref q19, .ref q5, .int 0, .int 0])), (q4, .inr (1, [.ref q12, .ref q13, .ref q14, .int 0, .int 0])), (q6, .inr (3, [.ref q17, .int 0])), (q9, .inr (10, [.ref q20, .ref q21, .ref q22, .ref q23, .ref q24, .int 0])), (q54, .inl (cA55, 1, .inr (.inl (fun _ => 0))))]) [0, 3, 5, 2, 4, 6, 10] rfl
    have hDc := hD.sub (ws' := [(q1, .inr (0, [.ref q3, .int 0, .int 0, .ref q4, .ref q5, .ref q6, .ref q7, .ref q8, .ref q9, .ref q10, .ref q11, .ref q3, .int 0, .int 0])), (q5, .inr (2, [.ref q4, .ref q15, .ref q16, .int 0, .int 0])), (q8, .inr (6, [.ref q18, .ref q19, .ref q5, .int 0, .int 0])), (q4, .inr (1, [.ref q12, .ref q13, .ref q14, .int 0, .int 0])), (q6, .inr (3, [.ref q17, .int 0])), (q9, .inr (10, [.ref q20, .ref q21, .ref q22, .ref q23, .ref q24, .int 0])), (q54, .inl (cA55, 1, .inr (.inl (fun _ => 0))))]) [0, 3, 5, 2, 4, 6, 10] (by decide) rfl
    have hKc := hK.sub (tys' := [(cA55, .long)]) [3] rfl
    have hFc := va_free (wc := [(q1, .inr (0, [.ref q3, .int 0, .int 0, .ref q4, .ref q5, .ref q6, .ref q7, .ref q8, .ref q9, .ref q10, .ref q11, .ref q3, .int 0, .int 0])), (q5, .inr (2, [.ref q4, .ref q15, .ref q16, .int 0, .int 0])), (q8, .inr (6, [.ref q18, .ref q19, .ref q5, .int 0, .int 0])), (q4, .inr (1, [.ref q12, .ref q13, .ref q14, .int 0, .int 0])), (q6, .inr (3, [.ref q17, .int 0])), (q9, .inr (10, [.ref q20, .ref q21, .ref q22, .ref q23, .ref q24, .int 0])), (q54, .inl (cA55, 1, .inr (.inl (fun _ => 0))))]) hD hS hA [0, 3, 5, 2, 4, 6, 10] rfl
    have hkc : 219 + 0 ≤ 600002 := (Nat.le_of_ble_eq_true rfl)
    refine va_calli (ux_runSW (n := 3) (As := [.ref q1, .int 2, .ref q54]) (rest := []) hfx (c_La_count_2 l dC dI q1 q54 q3 q4 q5 q6 q7 q8 q9 q10 q11 q15 q16 q18 q19 q12 q13 q14 q17 q20 q21 q22 q23 q24 cA55 H.size) hT tw_1450 tw_1448 tw_0 tw_1449 rfl rfl (by decide +kernel) ⟨(Nat.le_of_ble_eq_true rfl), (Nat.le_of_ble_eq_true rfl)⟩ (ux_pre [.ref q1, .int 2, .ref q54] hT hPc hKc hDc) rfl rfl hl.1 rfl (lv_room (Nat.le_of_ble_eq_true rfl)) d_La_law_623 ⟨(Nat.le_of_ble_eq_true rfl), (Nat.le_of_ble_eq_true rfl)⟩) hS (fun q _ h => hFc q h) hFc (fun r1017 u t H1 locs ht hvm hw hB hz1 hk1 hS => ?_)
    obtain ⟨hP1, hK1, hD1⟩ := hB
    rw [ht] at hP1
    have hK1 := va_K.moved hvm.symm hK1
    obtain ⟨hP, hD⟩ := va_join (wr := [(q3, .inl (cA25, 2000, .inl (fun _ => 0))), (q27, .inr (12, [.ref q29, .ref q30, .ref q31, .int 0, .int 0, .int 0, .int 0, .int 0, .ref q32, .ref q33, .ref q34, .ref q35, .ref q36, .int 0, .int 0, .ref q37, .ref q38, .ref q39, .ref q40, .ref q41, .ref q42, .ref q43, .ref q44, .int 0, .int 0, .ref q45, .ref q46, .ref q47, .ref q48, .ref q49, .int 0, .ref q50, .int 0, .int 0, .int 0, .int 0, .ref q51, .int 0, .int 0])), (q29, .inl (cA52, 2000, .inl (fun _ => 0))), (q30, .inl (cA53, 5718, .inl (fun _ => 0)))]) (w1 := [(q54, .inl (cA55, 1, .inr (.inl (vp_updL (fun _ => 0) (0 : Int32).toNatClampNeg 0))))]) hP hD [0, 3, 5, 2, 4, 6, 10] [1, 7, 8, 9] rfl rfl (by decide) (by decide) hk1 hFc hP1 hD1
    have hK := (hK.sub (tys' := [(cA25, .byte), (cA52, .byte), (cA53, .byte), (cA55, .long)]) [0, 1, 2, 3] rfl).app hK1
    generalize H1 = H at hP hS ⊢
    have hP : va_P (dC, dI) cls [(q3, .inl (cA25, 2000, .inl (fun _ => 0))), (q27, .inr (12, [.ref q29, .ref q30, .ref q31, .int 0, .int 0, .int 0, .int 0, .int 0, .ref q32, .ref q33, .ref q34, .ref q35, .ref q36, .int 0, .int 0, .ref q37, .ref q38, .ref q39, .ref q40, .ref q41, .ref q42, .ref q43, .ref q44, .int 0, .int 0, .ref q45, .ref q46, .ref q47, .ref q48, .ref q49, .int 0, .ref q50, .int 0, .int 0, .int 0, .int 0, .ref q51, .int 0, .int 0])), (q29, .inl (cA52, 2000, .inl (fun _ => 0))), (q30, .inl (cA53, 5718, .inl (fun _ => 0))), (q54, .inl (cA55, 1, .inr (.inl (vp_updL (fun _ => 0) (0 : Int32).toNatClampNeg 0))))] H := hP
    have hD : va_D A [(q3, .inl (cA25, 2000, .inl (fun _ => 0))), (q27, .inr (12, [.ref q29, .ref q30, .ref q31, .int 0, .int 0, .int 0, .int 0, .int 0, .ref q32, .ref q33, .ref q34, .ref q35, .ref q36, .int 0, .int 0, .ref q37, .ref q38, .ref q39, .ref q40, .ref q41, .ref q42, .ref q43, .ref q44, .int 0, .int 0, .ref q45, .ref q46, .ref q47, .ref q48, .ref q49, .int 0, .ref q50, .int 0, .int 0, .int 0, .int 0, .ref q51, .int 0, .int 0])), (q29, .inl (cA52, 2000, .inl (fun _ => 0))), (q30, .inl (cA53, 5718, .inl (fun _ => 0))), (q54, .inl (cA55, 1, .inr (.inl (vp_updL (fun _ => 0) (0 : Int32).toNatClampNeg 0))))] := hD
    have hK : va_K (dC, dI) cls [(cA25, .byte), (cA52, .byte), (cA53, .byte), (cA55, .long), (cA55, .long)] s := hK
    obtain rfl : r1017 = 0 := hw
    refine lv_istore hx hb d_La_law_626 hl (by decide) rfl (fun ls hl => ?_)
    have hl : lv_has ls 8 [(5, .int 0), (4, .int 0), (3, .ref q54), (2, .ref q27), (1, .ref q1), (0, .ref b)] := hl
    refine lv_aload_n hx hb d_La_law_628 rfl (lv_at hl 3 rfl) ?_
    refine lv_aload_n hx hb d_La_law_629 rfl (lv_at hl 5 rfl) ?_
    refine lv_iload hx hb d_La_law_630 (lv_at hl 1 rfl) ?_
    refine lv_iconst (v := 1) hx hb d_La_law_632 (by decide) ?_
    refine lv_iadd hx hb d_La_law_633 ?_
    refine lv_topi (fun x1018 ex1018 => ?_)
    obtain rfl : x1018 = 1 := ex1018.trans (by decide)
    refine va_sld hx hb hX hbl hbA hS (i := 1) (show ¬ ((1 : Int32) < 0 ∨ 6 ≤ (1 : Int32).toNatClampNeg) by decide) d_La_law_634 ?_
    refine lv_topi (fun x1019 ex1019 => ?_)
    obtain rfl : x1019 = 2 := ex1019.trans hv1
    have hhp : ∀ q, q < s.heap.size → H[q]? = s.heap[q]? := fun q hq => hS.2.1 q hq (fun h => absurd (hA2 q h) (by omega))
    have hPc := hP.sub (ws' := [(q27, .inr (12, [.ref q29, .ref q30, .ref q31, .int 0, .int 0, .int 0, .int 0, .int 0, .ref q32, .ref q33, .ref q34, .ref q35, .ref q36, .int 0, .int 0, .ref q37, .ref q38, .ref q39, .ref q40, .ref q41, .ref q42, .ref q43, .ref q44, .int 0, .int 0, .ref q45, .ref q46, .ref q47, .ref q48, .ref q49, .int 0, .ref q50, .int 0, .int 0, .int 0, .int 0, .ref q51, .int 0, .int 0]))]) [1] rfl
    have hDc := hD.sub (ws' := [(q27, .inr (12, [.ref q29, .ref q30, .ref q31, .int 0, .int 0, .int 0, .int 0, .int 0, .ref q32, .ref q33, .ref q34, .ref q35, .ref q36, .int 0, .int 0, .ref q37, .ref q38, .ref q39, .ref q40, .ref q41, .ref q42, .ref q43, .ref q44, .int 0, .int 0, .ref q45, .ref q46, .ref q47, .ref q48, .ref q49, .int 0, .ref q50, .int 0, .int 0, .int 0, .int 0, .ref q51, .int 0, .int 0]))]) [1] (by decide) rfl
    have hKc := hK.sub (tys' := []) [] rfl
    have hFc := va_free (wc := [(q27, .inr (12, [.ref q29, .ref q30, .ref q31, .int 0, .int 0, .int 0, .int 0, .int 0, .ref q32, .ref q33, .ref q34, .ref q35, .ref q36, .int 0, .int 0, .ref q37, .ref q38, .ref q39, .ref q40, .ref q41, .ref q42, .ref q43, .ref q44, .int 0, .int 0, .ref q45, .ref q46, .ref q47, .ref q48, .ref q49, .int 0, .ref q50, .int 0, .int 0, .int 0, .int 0, .ref q51, .int 0, .int 0]))]) hD hS hA [1] rfl
    have hkc : 219 + 0 ≤ 600002 := (Nat.le_of_ble_eq_true rfl)
    refine va_calli (va_runV (As := [.int 2]) (rest := []) hfx (c_Mo_count_2 l dC dI q27 q29 q30 q31 q32 q33 q34 q35 q36 q37 q38 q39 q40 q41 q42 q43 q44 q45 q46 q47 q48 q49 q50 q51 H.size) ⟨(ux_cb 1 hT tw_1972 tw_1969 tw_13 rfl rfl (by decide +kernel) ⟨(Nat.le_of_ble_eq_true rfl), (Nat.le_of_ble_eq_true rfl)⟩), (ux_T_at hT tw_1970 rfl), (ux_T_at hT tw_1971 rfl)⟩ (ux_preV (r := (R_Mo, F_Mo, 39)) (ci := 12) (q0 := 0) [.int 2] hT hPc hKc hDc rfl rfl) rfl rfl hl.1 rfl (lv_room (Nat.le_of_ble_eq_true rfl)) d_La_law_635 ⟨(Nat.le_of_ble_eq_true rfl), (Nat.le_of_ble_eq_true rfl)⟩) hS (fun q _ h => hFc q h) hFc (fun r1020 u t H1 locs ht hvm hw hB hz1 hk1 hS => ?_)
    obtain ⟨hP1, hK1, hD1⟩ := hB
    rw [ht] at hP1
    have hK1 := va_K.moved hvm.symm hK1
    obtain ⟨hP, hD⟩ := va_join (wr := [(q3, .inl (cA25, 2000, .inl (fun _ => 0))), (q29, .inl (cA52, 2000, .inl (fun _ => 0))), (q30, .inl (cA53, 5718, .inl (fun _ => 0))), (q54, .inl (cA55, 1, .inr (.inl (vp_updL (fun _ => 0) (0 : Int32).toNatClampNeg 0))))]) (w1 := [(q27, .inr (12, [.ref q29, .ref q30, .ref q31, .int 0, .int 0, .int 0, .int 0, .int 0, .ref q32, .ref q33, .ref q34, .ref q35, .ref q36, .int 0, .int 0, .ref q37, .ref q38, .ref q39, .ref q40, .ref q41, .ref q42, .ref q43, .ref q44, .int 0, .int 0, .ref q45, .ref q46, .ref q47, .ref q48, .ref q49, .int 0, .ref q50, .int 0, .int 0, .int 0, .int 0, .ref q51, .int 0, .int 0]))]) hP hD [1] [0, 2, 3, 4] rfl rfl (by decide) (by decide) hk1 hFc hP1 hD1
    have hK := (hK.sub (tys' := [(cA25, .byte), (cA52, .byte), (cA53, .byte), (cA55, .long), (cA55, .long)]) [0, 1, 2, 3, 4] rfl).app hK1
    generalize H1 = H at hP hS ⊢
    have hP : va_P (dC, dI) cls [(q3, .inl (cA25, 2000, .inl (fun _ => 0))), (q29, .inl (cA52, 2000, .inl (fun _ => 0))), (q30, .inl (cA53, 5718, .inl (fun _ => 0))), (q54, .inl (cA55, 1, .inr (.inl (vp_updL (fun _ => 0) (0 : Int32).toNatClampNeg 0)))), (q27, .inr (12, [.ref q29, .ref q30, .ref q31, .int 0, .int 0, .int 0, .int 0, .int 0, .ref q32, .ref q33, .ref q34, .ref q35, .ref q36, .int 0, .int 0, .ref q37, .ref q38, .ref q39, .ref q40, .ref q41, .ref q42, .ref q43, .ref q44, .int 0, .int 0, .ref q45, .ref q46, .ref q47, .ref q48, .ref q49, .int 0, .ref q50, .int 0, .int 0, .int 0, .int 0, .ref q51, .int 0, .int 0]))] H := hP
    have hD : va_D A [(q3, .inl (cA25, 2000, .inl (fun _ => 0))), (q29, .inl (cA52, 2000, .inl (fun _ => 0))), (q30, .inl (cA53, 5718, .inl (fun _ => 0))), (q54, .inl (cA55, 1, .inr (.inl (vp_updL (fun _ => 0) (0 : Int32).toNatClampNeg 0)))), (q27, .inr (12, [.ref q29, .ref q30, .ref q31, .int 0, .int 0, .int 0, .int 0, .int 0, .ref q32, .ref q33, .ref q34, .ref q35, .ref q36, .int 0, .int 0, .ref q37, .ref q38, .ref q39, .ref q40, .ref q41, .ref q42, .ref q43, .ref q44, .int 0, .int 0, .ref q45, .ref q46, .ref q47, .ref q48, .ref q49, .int 0, .ref q50, .int 0, .int 0, .int 0, .int 0, .ref q51, .int 0, .int 0]))] := hD
    have hK : va_K (dC, dI) cls [(cA25, .byte), (cA52, .byte), (cA53, .byte), (cA55, .long), (cA55, .long)] s := hK
    obtain rfl : r1020 = 0 := hw
    refine lv_istore hx hb d_La_law_638 hl (by decide) rfl (fun ls hl => ?_)
    have hl : lv_has ls 8 [(6, .int 0), (5, .int 0), (4, .int 0), (3, .ref q54), (2, .ref q27), (1, .ref q1), (0, .ref b)] := hl
    refine lv_aload_n hx hb d_La_law_640 rfl (lv_at hl 4 rfl) ?_
    have hhp : ∀ q, q < s.heap.size → H[q]? = s.heap[q]? := fun q hq => hS.2.1 q hq (fun h => absurd (hA2 q h) (by omega))
    have hPc := hP.sub (ws' := [(q27, .inr (12, [.ref q29, .ref q30, .ref q31, .int 0, .int 0, .int 0, .int 0, .int 0, .ref q32, .ref q33, .ref q34, .ref q35, .ref q36, .int 0, .int 0, .ref q37, .ref q38, .ref q39, .ref q40, .ref q41, .ref q42, .ref q43, .ref q44, .int 0, .int 0, .ref q45, .ref q46, .ref q47, .ref q48, .ref q49, .int 0, .ref q50, .int 0, .int 0, .int 0, .int 0, .ref q51, .int 0, .int 0]))]) [4] rfl
    have hDc := hD.sub (ws' := [(q27, .inr (12, [.ref q29, .ref q30, .ref q31, .int 0, .int 0, .int 0, .int 0, .int 0, .ref q32, .ref q33, .ref q34, .ref q35, .ref q36, .int 0, .int 0, .ref q37, .ref q38, .ref q39, .ref q40, .ref q41, .ref q42, .ref q43, .ref q44, .int 0, .int 0, .ref q45, .ref q46, .ref q47, .ref q48, .ref q49, .int 0, .ref q50, .int 0, .int 0, .int 0, .int 0, .ref q51, .int 0, .int 0]))]) [4] (by decide) rfl
    have hKc := hK.sub (tys' := []) [] rfl
    have hFc := va_free (wc := [(q27, .inr (12, [.ref q29, .ref q30, .ref q31, .int 0, .int 0, .int 0, .int 0, .int 0, .ref q32, .ref q33, .ref q34, .ref q35, .ref q36, .int 0, .int 0, .ref q37, .ref q38, .ref q39, .ref q40, .ref q41, .ref q42, .ref q43, .ref q44, .int 0, .int 0, .ref q45, .ref q46, .ref q47, .ref q48, .ref q49, .int 0, .ref q50, .int 0, .int 0, .int 0, .int 0, .ref q51, .int 0, .int 0]))]) hD hS hA [4] rfl
    have hkc : 219 + 0 ≤ 600002 := (Nat.le_of_ble_eq_true rfl)
    refine va_calli (va_runV (As := []) (rest := []) hfx (c_Mo_thrown_0 l dC dI q27 q29 q30 q31 q32 q33 q34 q35 q36 q37 q38 q39 q40 q41 q42 q43 q44 q45 q46 q47 q48 q49 q50 q51 0 0 H.size) ⟨(ux_cb 0 hT tw_1714 tw_1711 tw_13 rfl rfl (by decide +kernel) ⟨(Nat.le_of_ble_eq_true rfl), (Nat.le_of_ble_eq_true rfl)⟩), (ux_T_at hT tw_1712 rfl), (ux_T_at hT tw_1713 rfl)⟩ (ux_preV (r := (R_Mo, F_Mo, 39)) (ci := 12) (q0 := 0) [] hT hPc hKc hDc rfl rfl) rfl rfl hl.1 rfl (lv_room (Nat.le_of_ble_eq_true rfl)) d_La_law_641 ⟨(Nat.le_of_ble_eq_true rfl), (Nat.le_of_ble_eq_true rfl)⟩) hS (fun q _ h => hFc q h) hFc (fun r1021 u t H1 locs ht hvm hw hB hz1 hk1 hS => ?_)
    obtain ⟨hP1, hK1, hD1⟩ := hB
    rw [ht] at hP1
    have hK1 := va_K.moved hvm.symm hK1
    obtain ⟨hP, hD⟩ := va_join (wr := [(q3, .inl (cA25, 2000, .inl (fun _ => 0))), (q29, .inl (cA52, 2000, .inl (fun _ => 0))), (q30, .inl (cA53, 5718, .inl (fun _ => 0))), (q54, .inl (cA55, 1, .inr (.inl (vp_updL (fun _ => 0) (0 : Int32).toNatClampNeg 0))))]) (w1 := [(q27, .inr (12, [.ref q29, .ref q30, .ref q31, .int 0, .int 0, .int 0, .int 0, .int 0, .ref q32, .ref q33, .ref q34, .ref q35, .ref q36, .int 0, .int 0, .ref q37, .ref q38, .ref q39, .ref q40, .ref q41, .ref q42, .ref q43, .ref q44, .int 0, .int 0, .ref q45, .ref q46, .ref q47, .ref q48, .ref q49, .int 0, .ref q50, .int 0, .int 0, .int 0, .int 0, .ref q51, .int 0, .int 0]))]) hP hD [4] [0, 1, 2, 3] rfl rfl (by decide) (by decide) hk1 hFc hP1 hD1
    have hK := (hK.sub (tys' := [(cA25, .byte), (cA52, .byte), (cA53, .byte), (cA55, .long), (cA55, .long)]) [0, 1, 2, 3, 4] rfl).app hK1
    generalize H1 = H at hP hS ⊢
    have hP : va_P (dC, dI) cls [(q3, .inl (cA25, 2000, .inl (fun _ => 0))), (q29, .inl (cA52, 2000, .inl (fun _ => 0))), (q30, .inl (cA53, 5718, .inl (fun _ => 0))), (q54, .inl (cA55, 1, .inr (.inl (vp_updL (fun _ => 0) (0 : Int32).toNatClampNeg 0)))), (q27, .inr (12, [.ref q29, .ref q30, .ref q31, .int 0, .int 0, .int 0, .int 0, .int 0, .ref q32, .ref q33, .ref q34, .ref q35, .ref q36, .int 0, .int 0, .ref q37, .ref q38, .ref q39, .ref q40, .ref q41, .ref q42, .ref q43, .ref q44, .int 0, .int 0, .ref q45, .ref q46, .ref q47, .ref q48, .ref q49, .int 0, .ref q50, .int 0, .int 0, .int 0, .int 0, .ref q51, .int 0, .int 0]))] H := hP
    have hD : va_D A [(q3, .inl (cA25, 2000, .inl (fun _ => 0))), (q29, .inl (cA52, 2000, .inl (fun _ => 0))), (q30, .inl (cA53, 5718, .inl (fun _ => 0))), (q54, .inl (cA55, 1, .inr (.inl (vp_updL (fun _ => 0) (0 : Int32).toNatClampNeg 0)))), (q27, .inr (12, [.ref q29, .ref q30, .ref q31, .int 0, .int 0, .int 0, .int 0, .int 0, .ref q32, .ref q33, .ref q34, .ref q35, .ref q36, .int 0, .int 0, .ref q37, .ref q38, .ref q39, .ref q40, .ref q41, .ref q42, .ref q43, .ref q44, .int 0, .int 0, .ref q45, .ref q46, .ref q47, .ref q48, .ref q49, .int 0, .ref q50, .int 0, .int 0, .int 0, .int 0, .ref q51, .int 0, .int 0]))] := hD
    have hK : va_K (dC, dI) cls [(cA25, .byte), (cA52, .byte), (cA53, .byte), (cA55, .long), (cA55, .long)] s := hK
    obtain rfl : r1021 = 0 := hw
    refine lv_iload hx hb d_La_law_644 (lv_at hl 1 rfl) ?_
    refine lv_icmp_eq (tgt := 651) hx hb d_La_law_646 (by decide) (fun _ => ?_) (fun hc => absurd (by decide) hc)
    refine lv_iload hx hb d_La_law_651 (lv_at hl 1 rfl) ?_
    refine lv_if_ne (tgt := 668) hx hb d_La_law_653 (by decide) (fun hc => absurd (by decide) hc) (fun _ => ?_)
    refine lv_aload_n hx hb d_La_law_656 rfl (lv_at hl 3 rfl) ?_
    refine lv_iconst (v := 0) hx hb d_La_law_657 (by decide) ?_
    refine va_lald hx hb hK hP 3 3 rfl rfl (i := 0) (show ¬ ((0 : Int32) < 0 ∨ 1 ≤ (0 : Int32).toNatClampNeg) by decide) d_La_law_658 ?_
    refine lv_topl (fun x1022 ex1022 => ?_)
    obtain rfl : x1022 = 0 := ex1022.trans (by decide)
    refine lv_iload hx hb d_La_law_659 (lv_at hl 0 rfl) ?_
    refine lv_i2l (v := 0) hx hb d_La_law_661 (by decide) ?_
    refine W.lcmp hx hb d_La_law_662 ?_
    refine lv_topi (fun x1023 ex1023 => ?_)
    obtain rfl : x1023 = 0 := ex1023.trans (by decide)
    refine lv_if_eq (tgt := 668) hx hb d_La_law_663 (by decide) (fun _ => ?_) (fun hc => absurd (by decide) hc)
    refine lv_goto hx hb d_La_law_668 (tgt := 751) (by decide) ?_
    exact law_end l hA2 ⟨hx, hb, hr, hml, hown, hts, hX, hbl, hlocks, hgv⟩ (Nat.le_of_ble_eq_true rfl) (Nat.le_of_ble_eq_true rfl) hS (lv_sub hl [6, 2] rfl)
  · obtain rfl : v1 = 3 := hv
    have hhp : ∀ q, q < s.heap.size → H[q]? = s.heap[q]? := fun q hq => hS.2.1 q hq (fun h => absurd (hA2 q h) (by omega))
    have hPc := hP.sub (ws' := [(q1, .inr (0, [.ref q3, .int 0, .int 0, .ref q4, .ref q5, .ref q6, .ref q7, .ref q8, .ref q9, .ref q10, .ref q11, .ref q3, .int 0, .int 0])), (q5, .inr (2, [.ref q4, .ref q15, .ref q16, .int 0, .int 0])), (q8, .inr (6, [.ref q18, .ref q19, .ref q5, .int 0, .int 0])), (q4, .inr (1, [.ref q12, .ref q13, .ref q14, .int 0, .int 0])), (q6, .inr (3, [.ref q17, .int 0])), (q9, .inr (10, [.ref q20, .ref q21, .ref q22, .ref q23, .ref q24, .int 0])), (q54, .inl (cA55, 1, .inr (.inl (fun _ => 0))))]) [0, 3, 5, 2, 4, 6, 10] rfl
    have hDc := hD.sub (ws' := [(q1, .inr (0, [.ref q3, .int 0, .int 0, .ref q4, .ref q5, .ref q6, .ref q7, .ref q8, .ref q9, .ref q10, .ref q11, .ref q3, .int 0, .int 0])), (q5, .inr (2, [.ref q4, .ref q15, .ref q16, .int 0, .int 0])), (q8, .inr (6, [.ref q18, .ref q19, .ref q5, .int 0, .int 0])), (q4, .inr (1, [.ref q12, .ref q13, .ref q14, .int 0, .int 0])), (q6, .inr (3, [.ref q17, .int 0])), (q9, .inr (10, [.ref q20, .ref q21, .ref q22, .ref q23, .ref q24, .int 0])), (q54, .inl (cA55, 1, .inr (.inl (fun _ => 0))))]) [0, 3, 5, 2, 4, 6, 10] (by decide) rfl
    have hKc := hK.sub (tys' := [(cA55, .long)]) [3] rfl
    have hFc := va_free (wc := [(q1, .inr (0, [.ref q3, .int 0, .int 0, .ref q4, .ref q5, .ref q6, .ref q7, .ref q8, .ref q9, .ref q10, .ref q11, .ref q3, .int 0, .int 0])), (q5, .inr (2, [.ref q4, .ref q15, .ref q16, .int 0, .int 0])), (q8, .inr (6, [.ref q18, .ref q19, .ref q5, .int 0, .int 0])), (q4, .inr (1, [.ref q12, .ref q13, .ref q14, .int 0, .int 0])), (q6, .inr (3, [.ref q17, .int 0])), (q9, .inr (10, [.ref q20, .ref q21, .ref q22, .ref q23, .ref q24, .int 0])), (q54, .inl (cA55, 1, .inr (.inl (fun _ => 0))))]) hD hS hA [0, 3, 5, 2, 4, 6, 10] rfl
    have hkc : 219 + 0 ≤ 600002 := (Nat.le_of_ble_eq_true rfl)
    refine va_calli (ux_runSW (n := 3) (As := [.ref q1, .int 3, .ref q54]) (rest := []) hfx (c_La_count_3 l dC dI q1 q54 q3 q4 q5 q6 q7 q8 q9 q10 q11 q15 q16 q18 q19 q12 q13 q14 q17 q20 q21 q22 q23 q24 cA55 H.size) hT tw_1450 tw_1448 tw_0 tw_1449 rfl rfl (by decide +kernel) ⟨(Nat.le_of_ble_eq_true rfl), (Nat.le_of_ble_eq_true rfl)⟩ (ux_pre [.ref q1, .int 3, .ref q54] hT hPc hKc hDc) rfl rfl hl.1 rfl (lv_room (Nat.le_of_ble_eq_true rfl)) d_La_law_623 ⟨(Nat.le_of_ble_eq_true rfl), (Nat.le_of_ble_eq_true rfl)⟩) hS (fun q _ h => hFc q h) hFc (fun r1024 u t H1 locs ht hvm hw hB hz1 hk1 hS => ?_)
    obtain ⟨hP1, hK1, hD1⟩ := hB
    rw [ht] at hP1
    have hK1 := va_K.moved hvm.symm hK1
    obtain ⟨hP, hD⟩ := va_join (wr := [(q3, .inl (cA25, 2000, .inl (fun _ => 0))), (q27, .inr (12, [.ref q29, .ref q30, .ref q31, .int 0, .int 0, .int 0, .int 0, .int 0, .ref q32, .ref q33, .ref q34, .ref q35, .ref q36, .int 0, .int 0, .ref q37, .ref q38, .ref q39, .ref q40, .ref q41, .ref q42, .ref q43, .ref q44, .int 0, .int 0, .ref q45, .ref q46, .ref q47, .ref q48, .ref q49, .int 0, .ref q50, .int 0, .int 0, .int 0, .int 0, .ref q51, .int 0, .int 0])), (q29, .inl (cA52, 2000, .inl (fun _ => 0))), (q30, .inl (cA53, 5718, .inl (fun _ => 0)))]) (w1 := [(q54, .inl (cA55, 1, .inr (.inl (vp_updL (fun _ => 0) (0 : Int32).toNatClampNeg 0))))]) hP hD [0, 3, 5, 2, 4, 6, 10] [1, 7, 8, 9] rfl rfl (by decide) (by decide) hk1 hFc hP1 hD1
    have hK := (hK.sub (tys' := [(cA25, .byte), (cA52, .byte), (cA53, .byte), (cA55, .long)]) [0, 1, 2, 3] rfl).app hK1
    generalize H1 = H at hP hS ⊢
    have hP : va_P (dC, dI) cls [(q3, .inl (cA25, 2000, .inl (fun _ => 0))), (q27, .inr (12, [.ref q29, .ref q30, .ref q31, .int 0, .int 0, .int 0, .int 0, .int 0, .ref q32, .ref q33, .ref q34, .ref q35, .ref q36, .int 0, .int 0, .ref q37, .ref q38, .ref q39, .ref q40, .ref q41, .ref q42, .ref q43, .ref q44, .int 0, .int 0, .ref q45, .ref q46, .ref q47, .ref q48, .ref q49, .int 0, .ref q50, .int 0, .int 0, .int 0, .int 0, .ref q51, .int 0, .int 0])), (q29, .inl (cA52, 2000, .inl (fun _ => 0))), (q30, .inl (cA53, 5718, .inl (fun _ => 0))), (q54, .inl (cA55, 1, .inr (.inl (vp_updL (fun _ => 0) (0 : Int32).toNatClampNeg 0))))] H := hP
    have hD : va_D A [(q3, .inl (cA25, 2000, .inl (fun _ => 0))), (q27, .inr (12, [.ref q29, .ref q30, .ref q31, .int 0, .int 0, .int 0, .int 0, .int 0, .ref q32, .ref q33, .ref q34, .ref q35, .ref q36, .int 0, .int 0, .ref q37, .ref q38, .ref q39, .ref q40, .ref q41, .ref q42, .ref q43, .ref q44, .int 0, .int 0, .ref q45, .ref q46, .ref q47, .ref q48, .ref q49, .int 0, .ref q50, .int 0, .int 0, .int 0, .int 0, .ref q51, .int 0, .int 0])), (q29, .inl (cA52, 2000, .inl (fun _ => 0))), (q30, .inl (cA53, 5718, .inl (fun _ => 0))), (q54, .inl (cA55, 1, .inr (.inl (vp_updL (fun _ => 0) (0 : Int32).toNatClampNeg 0))))] := hD
    have hK : va_K (dC, dI) cls [(cA25, .byte), (cA52, .byte), (cA53, .byte), (cA55, .long), (cA55, .long)] s := hK
    obtain rfl : r1024 = 0 := hw
    refine lv_istore hx hb d_La_law_626 hl (by decide) rfl (fun ls hl => ?_)
    have hl : lv_has ls 8 [(5, .int 0), (4, .int 0), (3, .ref q54), (2, .ref q27), (1, .ref q1), (0, .ref b)] := hl
    refine lv_aload_n hx hb d_La_law_628 rfl (lv_at hl 3 rfl) ?_
    refine lv_aload_n hx hb d_La_law_629 rfl (lv_at hl 5 rfl) ?_
    refine lv_iload hx hb d_La_law_630 (lv_at hl 1 rfl) ?_
    refine lv_iconst (v := 1) hx hb d_La_law_632 (by decide) ?_
    refine lv_iadd hx hb d_La_law_633 ?_
    refine lv_topi (fun x1025 ex1025 => ?_)
    obtain rfl : x1025 = 1 := ex1025.trans (by decide)
    refine va_sld hx hb hX hbl hbA hS (i := 1) (show ¬ ((1 : Int32) < 0 ∨ 6 ≤ (1 : Int32).toNatClampNeg) by decide) d_La_law_634 ?_
    refine lv_topi (fun x1026 ex1026 => ?_)
    obtain rfl : x1026 = 3 := ex1026.trans hv1
    have hhp : ∀ q, q < s.heap.size → H[q]? = s.heap[q]? := fun q hq => hS.2.1 q hq (fun h => absurd (hA2 q h) (by omega))
    have hPc := hP.sub (ws' := [(q27, .inr (12, [.ref q29, .ref q30, .ref q31, .int 0, .int 0, .int 0, .int 0, .int 0, .ref q32, .ref q33, .ref q34, .ref q35, .ref q36, .int 0, .int 0, .ref q37, .ref q38, .ref q39, .ref q40, .ref q41, .ref q42, .ref q43, .ref q44, .int 0, .int 0, .ref q45, .ref q46, .ref q47, .ref q48, .ref q49, .int 0, .ref q50, .int 0, .int 0, .int 0, .int 0, .ref q51, .int 0, .int 0]))]) [1] rfl
    have hDc := hD.sub (ws' := [(q27, .inr (12, [.ref q29, .ref q30, .ref q31, .int 0, .int 0, .int 0, .int 0, .int 0, .ref q32, .ref q33, .ref q34, .ref q35, .ref q36, .int 0, .int 0, .ref q37, .ref q38, .ref q39, .ref q40, .ref q41, .ref q42, .ref q43, .ref q44, .int 0, .int 0, .ref q45, .ref q46, .ref q47, .ref q48, .ref q49, .int 0, .ref q50, .int 0, .int 0, .int 0, .int 0, .ref q51, .int 0, .int 0]))]) [1] (by decide) rfl
    have hKc := hK.sub (tys' := []) [] rfl
    have hFc := va_free (wc := [(q27, .inr (12, [.ref q29, .ref q30, .ref q31, .int 0, .int 0, .int 0, .int 0, .int 0, .ref q32, .ref q33, .ref q34, .ref q35, .ref q36, .int 0, .int 0, .ref q37, .ref q38, .ref q39, .ref q40, .ref q41, .ref q42, .ref q43, .ref q44, .int 0, .int 0, .ref q45, .ref q46, .ref q47, .ref q48, .ref q49, .int 0, .ref q50, .int 0, .int 0, .int 0, .int 0, .ref q51, .int 0, .int 0]))]) hD hS hA [1] rfl
    have hkc : 219 + 0 ≤ 600002 := (Nat.le_of_ble_eq_true rfl)
    refine va_calli (va_runV (As := [.int 3]) (rest := []) hfx (c_Mo_count_3 l dC dI q27 q29 q30 q31 q32 q33 q34 q35 q36 q37 q38 q39 q40 q41 q42 q43 q44 q45 q46 q47 q48 q49 q50 q51 H.size) ⟨(ux_cb 1 hT tw_1972 tw_1969 tw_13 rfl rfl (by decide +kernel) ⟨(Nat.le_of_ble_eq_true rfl), (Nat.le_of_ble_eq_true rfl)⟩), (ux_T_at hT tw_1970 rfl), (ux_T_at hT tw_1971 rfl)⟩ (ux_preV (r := (R_Mo, F_Mo, 39)) (ci := 12) (q0 := 0) [.int 3] hT hPc hKc hDc rfl rfl) rfl rfl hl.1 rfl (lv_room (Nat.le_of_ble_eq_true rfl)) d_La_law_635 ⟨(Nat.le_of_ble_eq_true rfl), (Nat.le_of_ble_eq_true rfl)⟩) hS (fun q _ h => hFc q h) hFc (fun r1027 u t H1 locs ht hvm hw hB hz1 hk1 hS => ?_)
    obtain ⟨hP1, hK1, hD1⟩ := hB
    rw [ht] at hP1
    have hK1 := va_K.moved hvm.symm hK1
    obtain ⟨hP, hD⟩ := va_join (wr := [(q3, .inl (cA25, 2000, .inl (fun _ => 0))), (q29, .inl (cA52, 2000, .inl (fun _ => 0))), (q30, .inl (cA53, 5718, .inl (fun _ => 0))), (q54, .inl (cA55, 1, .inr (.inl (vp_updL (fun _ => 0) (0 : Int32).toNatClampNeg 0))))]) (w1 := [(q27, .inr (12, [.ref q29, .ref q30, .ref q31, .int 0, .int 0, .int 0, .int 0, .int 0, .ref q32, .ref q33, .ref q34, .ref q35, .ref q36, .int 0, .int 0, .ref q37, .ref q38, .ref q39, .ref q40, .ref q41, .ref q42, .ref q43, .ref q44, .int 0, .int 0, .ref q45, .ref q46, .ref q47, .ref q48, .ref q49, .int 0, .ref q50, .int 0, .int 0, .int 0, .int 0, .ref q51, .int 0, .int 0]))]) hP hD [1] [0, 2, 3, 4] rfl rfl (by decide) (by decide) hk1 hFc hP1 hD1
    have hK := (hK.sub (tys' := [(cA25, .byte), (cA52, .byte), (cA53, .byte), (cA55, .long), (cA55, .long)]) [0, 1, 2, 3, 4] rfl).app hK1
    generalize H1 = H at hP hS ⊢
    have hP : va_P (dC, dI) cls [(q3, .inl (cA25, 2000, .inl (fun _ => 0))), (q29, .inl (cA52, 2000, .inl (fun _ => 0))), (q30, .inl (cA53, 5718, .inl (fun _ => 0))), (q54, .inl (cA55, 1, .inr (.inl (vp_updL (fun _ => 0) (0 : Int32).toNatClampNeg 0)))), (q27, .inr (12, [.ref q29, .ref q30, .ref q31, .int 0, .int 0, .int 0, .int 0, .int 0, .ref q32, .ref q33, .ref q34, .ref q35, .ref q36, .int 0, .int 0, .ref q37, .ref q38, .ref q39, .ref q40, .ref q41, .ref q42, .ref q43, .ref q44, .int 0, .int 0, .ref q45, .ref q46, .ref q47, .ref q48, .ref q49, .int 0, .ref q50, .int 0, .int 0, .int 0, .int 0, .ref q51, .int 0, .int 0]))] H := hP
    have hD : va_D A [(q3, .inl (cA25, 2000, .inl (fun _ => 0))), (q29, .inl (cA52, 2000, .inl (fun _ => 0))), (q30, .inl (cA53, 5718, .inl (fun _ => 0))), (q54, .inl (cA55, 1, .inr (.inl (vp_updL (fun _ => 0) (0 : Int32).toNatClampNeg 0)))), (q27, .inr (12, [.ref q29, .ref q30, .ref q31, .int 0, .int 0, .int 0, .int 0, .int 0, .ref q32, .ref q33, .ref q34, .ref q35, .ref q36, .int 0, .int 0, .ref q37, .ref q38, .ref q39, .ref q40, .ref q41, .ref q42, .ref q43, .ref q44, .int 0, .int 0, .ref q45, .ref q46, .ref q47, .ref q48, .ref q49, .int 0, .ref q50, .int 0, .int 0, .int 0, .int 0, .ref q51, .int 0, .int 0]))] := hD
    have hK : va_K (dC, dI) cls [(cA25, .byte), (cA52, .byte), (cA53, .byte), (cA55, .long), (cA55, .long)] s := hK
    obtain rfl : r1027 = 0 := hw
    refine lv_istore hx hb d_La_law_638 hl (by decide) rfl (fun ls hl => ?_)
    have hl : lv_has ls 8 [(6, .int 0), (5, .int 0), (4, .int 0), (3, .ref q54), (2, .ref q27), (1, .ref q1), (0, .ref b)] := hl
    refine lv_aload_n hx hb d_La_law_640 rfl (lv_at hl 4 rfl) ?_
    have hhp : ∀ q, q < s.heap.size → H[q]? = s.heap[q]? := fun q hq => hS.2.1 q hq (fun h => absurd (hA2 q h) (by omega))
    have hPc := hP.sub (ws' := [(q27, .inr (12, [.ref q29, .ref q30, .ref q31, .int 0, .int 0, .int 0, .int 0, .int 0, .ref q32, .ref q33, .ref q34, .ref q35, .ref q36, .int 0, .int 0, .ref q37, .ref q38, .ref q39, .ref q40, .ref q41, .ref q42, .ref q43, .ref q44, .int 0, .int 0, .ref q45, .ref q46, .ref q47, .ref q48, .ref q49, .int 0, .ref q50, .int 0, .int 0, .int 0, .int 0, .ref q51, .int 0, .int 0]))]) [4] rfl
    have hDc := hD.sub (ws' := [(q27, .inr (12, [.ref q29, .ref q30, .ref q31, .int 0, .int 0, .int 0, .int 0, .int 0, .ref q32, .ref q33, .ref q34, .ref q35, .ref q36, .int 0, .int 0, .ref q37, .ref q38, .ref q39, .ref q40, .ref q41, .ref q42, .ref q43, .ref q44, .int 0, .int 0, .ref q45, .ref q46, .ref q47, .ref q48, .ref q49, .int 0, .ref q50, .int 0, .int 0, .int 0, .int 0, .ref q51, .int 0, .int 0]))]) [4] (by decide) rfl
    have hKc := hK.sub (tys' := []) [] rfl
    have hFc := va_free (wc := [(q27, .inr (12, [.ref q29, .ref q30, .ref q31, .int 0, .int 0, .int 0, .int 0, .int 0, .ref q32, .ref q33, .ref q34, .ref q35, .ref q36, .int 0, .int 0, .ref q37, .ref q38, .ref q39, .ref q40, .ref q41, .ref q42, .ref q43, .ref q44, .int 0, .int 0, .ref q45, .ref q46, .ref q47, .ref q48, .ref q49, .int 0, .ref q50, .int 0, .int 0, .int 0, .int 0, .ref q51, .int 0, .int 0]))]) hD hS hA [4] rfl
    have hkc : 219 + 0 ≤ 600002 := (Nat.le_of_ble_eq_true rfl)
    refine va_calli (va_runV (As := []) (rest := []) hfx (c_Mo_thrown_0 l dC dI q27 q29 q30 q31 q32 q33 q34 q35 q36 q37 q38 q39 q40 q41 q42 q43 q44 q45 q46 q47 q48 q49 q50 q51 0 0 H.size) ⟨(ux_cb 0 hT tw_1714 tw_1711 tw_13 rfl rfl (by decide +kernel) ⟨(Nat.le_of_ble_eq_true rfl), (Nat.le_of_ble_eq_true rfl)⟩), (ux_T_at hT tw_1712 rfl), (ux_T_at hT tw_1713 rfl)⟩ (ux_preV (r := (R_Mo, F_Mo, 39)) (ci := 12) (q0 := 0) [] hT hPc hKc hDc rfl rfl) rfl rfl hl.1 rfl (lv_room (Nat.le_of_ble_eq_true rfl)) d_La_law_641 ⟨(Nat.le_of_ble_eq_true rfl), (Nat.le_of_ble_eq_true rfl)⟩) hS (fun q _ h => hFc q h) hFc (fun r1028 u t H1 locs ht hvm hw hB hz1 hk1 hS => ?_)
    obtain ⟨hP1, hK1, hD1⟩ := hB
    rw [ht] at hP1
    have hK1 := va_K.moved hvm.symm hK1
    obtain ⟨hP, hD⟩ := va_join (wr := [(q3, .inl (cA25, 2000, .inl (fun _ => 0))), (q29, .inl (cA52, 2000, .inl (fun _ => 0))), (q30, .inl (cA53, 5718, .inl (fun _ => 0))), (q54, .inl (cA55, 1, .inr (.inl (vp_updL (fun _ => 0) (0 : Int32).toNatClampNeg 0))))]) (w1 := [(q27, .inr (12, [.ref q29, .ref q30, .ref q31, .int 0, .int 0, .int 0, .int 0, .int 0, .ref q32, .ref q33, .ref q34, .ref q35, .ref q36, .int 0, .int 0, .ref q37, .ref q38, .ref q39, .ref q40, .ref q41, .ref q42, .ref q43, .ref q44, .int 0, .int 0, .ref q45, .ref q46, .ref q47, .ref q48, .ref q49, .int 0, .ref q50, .int 0, .int 0, .int 0, .int 0, .ref q51, .int 0, .int 0]))]) hP hD [4] [0, 1, 2, 3] rfl rfl (by decide) (by decide) hk1 hFc hP1 hD1
    have hK := (hK.sub (tys' := [(cA25, .byte), (cA52, .byte), (cA53, .byte), (cA55, .long), (cA55, .long)]) [0, 1, 2, 3, 4] rfl).app hK1
    generalize H1 = H at hP hS ⊢
    have hP : va_P (dC, dI) cls [(q3, .inl (cA25, 2000, .inl (fun _ => 0))), (q29, .inl (cA52, 2000, .inl (fun _ => 0))), (q30, .inl (cA53, 5718, .inl (fun _ => 0))), (q54, .inl (cA55, 1, .inr (.inl (vp_updL (fun _ => 0) (0 : Int32).toNatClampNeg 0)))), (q27, .inr (12, [.ref q29, .ref q30, .ref q31, .int 0, .int 0, .int 0, .int 0, .int 0, .ref q32, .ref q33, .ref q34, .ref q35, .ref q36, .int 0, .int 0, .ref q37, .ref q38, .ref q39, .ref q40, .ref q41, .ref q42, .ref q43, .ref q44, .int 0, .int 0, .ref q45, .ref q46, .ref q47, .ref q48, .ref q49, .int 0, .ref q50, .int 0, .int 0, .int 0, .int 0, .ref q51, .int 0, .int 0]))] H := hP
    have hD : va_D A [(q3, .inl (cA25, 2000, .inl (fun _ => 0))), (q29, .inl (cA52, 2000, .inl (fun _ => 0))), (q30, .inl (cA53, 5718, .inl (fun _ => 0))), (q54, .inl (cA55, 1, .inr (.inl (vp_updL (fun _ => 0) (0 : Int32).toNatClampNeg 0)))), (q27, .inr (12, [.ref q29, .ref q30, .ref q31, .int 0, .int 0, .int 0, .int 0, .int 0, .ref q32, .ref q33, .ref q34, .ref q35, .ref q36, .int 0, .int 0, .ref q37, .ref q38, .ref q39, .ref q40, .ref q41, .ref q42, .ref q43, .ref q44, .int 0, .int 0, .ref q45, .ref q46, .ref q47, .ref q48, .ref q49, .int 0, .ref q50, .int 0, .int 0, .int 0, .int 0, .ref q51, .int 0, .int 0]))] := hD
    have hK : va_K (dC, dI) cls [(cA25, .byte), (cA52, .byte), (cA53, .byte), (cA55, .long), (cA55, .long)] s := hK
    obtain rfl : r1028 = 0 := hw
    refine lv_iload hx hb d_La_law_644 (lv_at hl 1 rfl) ?_
    refine lv_icmp_eq (tgt := 651) hx hb d_La_law_646 (by decide) (fun _ => ?_) (fun hc => absurd (by decide) hc)
    refine lv_iload hx hb d_La_law_651 (lv_at hl 1 rfl) ?_
    refine lv_if_ne (tgt := 668) hx hb d_La_law_653 (by decide) (fun hc => absurd (by decide) hc) (fun _ => ?_)
    refine lv_aload_n hx hb d_La_law_656 rfl (lv_at hl 3 rfl) ?_
    refine lv_iconst (v := 0) hx hb d_La_law_657 (by decide) ?_
    refine va_lald hx hb hK hP 3 3 rfl rfl (i := 0) (show ¬ ((0 : Int32) < 0 ∨ 1 ≤ (0 : Int32).toNatClampNeg) by decide) d_La_law_658 ?_
    refine lv_topl (fun x1029 ex1029 => ?_)
    obtain rfl : x1029 = 0 := ex1029.trans (by decide)
    refine lv_iload hx hb d_La_law_659 (lv_at hl 0 rfl) ?_
    refine lv_i2l (v := 0) hx hb d_La_law_661 (by decide) ?_
    refine W.lcmp hx hb d_La_law_662 ?_
    refine lv_topi (fun x1030 ex1030 => ?_)
    obtain rfl : x1030 = 0 := ex1030.trans (by decide)
    refine lv_if_eq (tgt := 668) hx hb d_La_law_663 (by decide) (fun _ => ?_) (fun hc => absurd (by decide) hc)
    refine lv_goto hx hb d_La_law_668 (tgt := 751) (by decide) ?_
    exact law_end l hA2 ⟨hx, hb, hr, hml, hown, hts, hX, hbl, hlocks, hgv⟩ (Nat.le_of_ble_eq_true rfl) (Nat.le_of_ble_eq_true rfl) hS (lv_sub hl [6, 2] rfl)
  · obtain rfl : v1 = 4 := hv
    have hhp : ∀ q, q < s.heap.size → H[q]? = s.heap[q]? := fun q hq => hS.2.1 q hq (fun h => absurd (hA2 q h) (by omega))
    have hPc := hP.sub (ws' := [(q1, .inr (0, [.ref q3, .int 0, .int 0, .ref q4, .ref q5, .ref q6, .ref q7, .ref q8, .ref q9, .ref q10, .ref q11, .ref q3, .int 0, .int 0])), (q5, .inr (2, [.ref q4, .ref q15, .ref q16, .int 0, .int 0])), (q8, .inr (6, [.ref q18, .ref q19, .ref q5, .int 0, .int 0])), (q4, .inr (1, [.ref q12, .ref q13, .ref q14, .int 0, .int 0])), (q6, .inr (3, [.ref q17, .int 0])), (q9, .inr (10, [.ref q20, .ref q21, .ref q22, .ref q23, .ref q24, .int 0])), (q54, .inl (cA55, 1, .inr (.inl (fun _ => 0))))]) [0, 3, 5, 2, 4, 6, 10] rfl
    have hDc := hD.sub (ws' := [(q1, .inr (0, [.ref q3, .int 0, .int 0, .ref q4, .ref q5, .ref q6, .ref q7, .ref q8, .ref q9, .ref q10, .ref q11, .ref q3, .int 0, .int 0])), (q5, .inr (2, [.ref q4, .ref q15, .ref q16, .int 0, .int 0])), (q8, .inr (6, [.ref q18, .ref q19, .ref q5, .int 0, .int 0])), (q4, .inr (1, [.ref q12, .ref q13, .ref q14, .int 0, .int 0])), (q6, .inr (3, [.ref q17, .int 0])), (q9, .inr (10, [.ref q20, .ref q21, .ref q22, .ref q23, .ref q24, .int 0])), (q54, .inl (cA55, 1, .inr (.inl (fun _ => 0))))]) [0, 3, 5, 2, 4, 6, 10] (by decide) rfl
    have hKc := hK.sub (tys' := [(cA55, .long)]) [3] rfl
    have hFc := va_free (wc := [(q1, .inr (0, [.ref q3, .int 0, .int 0, .ref q4, .ref q5, .ref q6, .ref q7, .ref q8, .ref q9, .ref q10, .ref q11, .ref q3, .int 0, .int 0])), (q5, .inr (2, [.ref q4, .ref q15, .ref q16, .int 0, .int 0])), (q8, .inr (6, [.ref q18, .ref q19, .ref q5, .int 0, .int 0])), (q4, .inr (1, [.ref q12, .ref q13, .ref q14, .int 0, .int 0])), (q6, .inr (3, [.ref q17, .int 0])), (q9, .inr (10, [.ref q20, .ref q21, .ref q22, .ref q23, .ref q24, .int 0])), (q54, .inl (cA55, 1, .inr (.inl (fun _ => 0))))]) hD hS hA [0, 3, 5, 2, 4, 6, 10] rfl
    have hkc : 219 + 0 ≤ 600002 := (Nat.le_of_ble_eq_true rfl)
    refine va_calli (ux_runSW (n := 3) (As := [.ref q1, .int 4, .ref q54]) (rest := []) hfx (c_La_count_4 l dC dI q1 q54 q3 q4 q5 q6 q7 q8 q9 q10 q11 q15 q16 q18 q19 q12 q13 q14 q17 q20 q21 q22 q23 q24 cA55 H.size) hT tw_1450 tw_1448 tw_0 tw_1449 rfl rfl (by decide +kernel) ⟨(Nat.le_of_ble_eq_true rfl), (Nat.le_of_ble_eq_true rfl)⟩ (ux_pre [.ref q1, .int 4, .ref q54] hT hPc hKc hDc) rfl rfl hl.1 rfl (lv_room (Nat.le_of_ble_eq_true rfl)) d_La_law_623 ⟨(Nat.le_of_ble_eq_true rfl), (Nat.le_of_ble_eq_true rfl)⟩) hS (fun q _ h => hFc q h) hFc (fun r1031 u t H1 locs ht hvm hw hB hz1 hk1 hS => ?_)
    obtain ⟨hP1, hK1, hD1⟩ := hB
    rw [ht] at hP1
    have hK1 := va_K.moved hvm.symm hK1
    obtain ⟨hP, hD⟩ := va_join (wr := [(q3, .inl (cA25, 2000, .inl (fun _ => 0))), (q27, .inr (12, [.ref q29, .ref q30, .ref q31, .int 0, .int 0, .int 0, .int 0, .int 0, .ref q32, .ref q33, .ref q34, .ref q35, .ref q36, .int 0, .int 0, .ref q37, .ref q38, .ref q39, .ref q40, .ref q41, .ref q42, .ref q43, .ref q44, .int 0, .int 0, .ref q45, .ref q46, .ref q47, .ref q48, .ref q49, .int 0, .ref q50, .int 0, .int 0, .int 0, .int 0, .ref q51, .int 0, .int 0])), (q29, .inl (cA52, 2000, .inl (fun _ => 0))), (q30, .inl (cA53, 5718, .inl (fun _ => 0)))]) (w1 := [(q54, .inl (cA55, 1, .inr (.inl (vp_updL (fun _ => 0) (0 : Int32).toNatClampNeg 0))))]) hP hD [0, 3, 5, 2, 4, 6, 10] [1, 7, 8, 9] rfl rfl (by decide) (by decide) hk1 hFc hP1 hD1
    have hK := (hK.sub (tys' := [(cA25, .byte), (cA52, .byte), (cA53, .byte), (cA55, .long)]) [0, 1, 2, 3] rfl).app hK1
    generalize H1 = H at hP hS ⊢
    have hP : va_P (dC, dI) cls [(q3, .inl (cA25, 2000, .inl (fun _ => 0))), (q27, .inr (12, [.ref q29, .ref q30, .ref q31, .int 0, .int 0, .int 0, .int 0, .int 0, .ref q32, .ref q33, .ref q34, .ref q35, .ref q36, .int 0, .int 0, .ref q37, .ref q38, .ref q39, .ref q40, .ref q41, .ref q42, .ref q43, .ref q44, .int 0, .int 0, .ref q45, .ref q46, .ref q47, .ref q48, .ref q49, .int 0, .ref q50, .int 0, .int 0, .int 0, .int 0, .ref q51, .int 0, .int 0])), (q29, .inl (cA52, 2000, .inl (fun _ => 0))), (q30, .inl (cA53, 5718, .inl (fun _ => 0))), (q54, .inl (cA55, 1, .inr (.inl (vp_updL (fun _ => 0) (0 : Int32).toNatClampNeg 0))))] H := hP
    have hD : va_D A [(q3, .inl (cA25, 2000, .inl (fun _ => 0))), (q27, .inr (12, [.ref q29, .ref q30, .ref q31, .int 0, .int 0, .int 0, .int 0, .int 0, .ref q32, .ref q33, .ref q34, .ref q35, .ref q36, .int 0, .int 0, .ref q37, .ref q38, .ref q39, .ref q40, .ref q41, .ref q42, .ref q43, .ref q44, .int 0, .int 0, .ref q45, .ref q46, .ref q47, .ref q48, .ref q49, .int 0, .ref q50, .int 0, .int 0, .int 0, .int 0, .ref q51, .int 0, .int 0])), (q29, .inl (cA52, 2000, .inl (fun _ => 0))), (q30, .inl (cA53, 5718, .inl (fun _ => 0))), (q54, .inl (cA55, 1, .inr (.inl (vp_updL (fun _ => 0) (0 : Int32).toNatClampNeg 0))))] := hD
    have hK : va_K (dC, dI) cls [(cA25, .byte), (cA52, .byte), (cA53, .byte), (cA55, .long), (cA55, .long)] s := hK
    obtain rfl : r1031 = 0 := hw
    refine lv_istore hx hb d_La_law_626 hl (by decide) rfl (fun ls hl => ?_)
    have hl : lv_has ls 8 [(5, .int 0), (4, .int 0), (3, .ref q54), (2, .ref q27), (1, .ref q1), (0, .ref b)] := hl
    refine lv_aload_n hx hb d_La_law_628 rfl (lv_at hl 3 rfl) ?_
    refine lv_aload_n hx hb d_La_law_629 rfl (lv_at hl 5 rfl) ?_
    refine lv_iload hx hb d_La_law_630 (lv_at hl 1 rfl) ?_
    refine lv_iconst (v := 1) hx hb d_La_law_632 (by decide) ?_
    refine lv_iadd hx hb d_La_law_633 ?_
    refine lv_topi (fun x1032 ex1032 => ?_)
    obtain rfl : x1032 = 1 := ex1032.trans (by decide)
    refine va_sld hx hb hX hbl hbA hS (i := 1) (show ¬ ((1 : Int32) < 0 ∨ 6 ≤ (1 : Int32).toNatClampNeg) by decide) d_La_law_634 ?_
    refine lv_topi (fun x1033 ex1033 => ?_)
    obtain rfl : x1033 = 4 := ex1033.trans hv1
    have hhp : ∀ q, q < s.heap.size → H[q]? = s.heap[q]? := fun q hq => hS.2.1 q hq (fun h => absurd (hA2 q h) (by omega))
    have hPc := hP.sub (ws' := [(q27, .inr (12, [.ref q29, .ref q30, .ref q31, .int 0, .int 0, .int 0, .int 0, .int 0, .ref q32, .ref q33, .ref q34, .ref q35, .ref q36, .int 0, .int 0, .ref q37, .ref q38, .ref q39, .ref q40, .ref q41, .ref q42, .ref q43, .ref q44, .int 0, .int 0, .ref q45, .ref q46, .ref q47, .ref q48, .ref q49, .int 0, .ref q50, .int 0, .int 0, .int 0, .int 0, .ref q51, .int 0, .int 0]))]) [1] rfl
    have hDc := hD.sub (ws' := [(q27, .inr (12, [.ref q29, .ref q30, .ref q31, .int 0, .int 0, .int 0, .int 0, .int 0, .ref q32, .ref q33, .ref q34, .ref q35, .ref q36, .int 0, .int 0, .ref q37, .ref q38, .ref q39, .ref q40, .ref q41, .ref q42, .ref q43, .ref q44, .int 0, .int 0, .ref q45, .ref q46, .ref q47, .ref q48, .ref q49, .int 0, .ref q50, .int 0, .int 0, .int 0, .int 0, .ref q51, .int 0, .int 0]))]) [1] (by decide) rfl
    have hKc := hK.sub (tys' := []) [] rfl
    have hFc := va_free (wc := [(q27, .inr (12, [.ref q29, .ref q30, .ref q31, .int 0, .int 0, .int 0, .int 0, .int 0, .ref q32, .ref q33, .ref q34, .ref q35, .ref q36, .int 0, .int 0, .ref q37, .ref q38, .ref q39, .ref q40, .ref q41, .ref q42, .ref q43, .ref q44, .int 0, .int 0, .ref q45, .ref q46, .ref q47, .ref q48, .ref q49, .int 0, .ref q50, .int 0, .int 0, .int 0, .int 0, .ref q51, .int 0, .int 0]))]) hD hS hA [1] rfl
    have hkc : 219 + 0 ≤ 600002 := (Nat.le_of_ble_eq_true rfl)
    refine va_calli (va_runV (As := [.int 4]) (rest := []) hfx (c_Mo_count_4 l dC dI q27 q29 q30 q31 q32 q33 q34 q35 q36 q37 q38 q39 q40 q41 q42 q43 q44 q45 q46 q47 q48 q49 q50 q51 H.size) ⟨(ux_cb 1 hT tw_1972 tw_1969 tw_13 rfl rfl (by decide +kernel) ⟨(Nat.le_of_ble_eq_true rfl), (Nat.le_of_ble_eq_true rfl)⟩), (ux_T_at hT tw_1970 rfl), (ux_T_at hT tw_1971 rfl)⟩ (ux_preV (r := (R_Mo, F_Mo, 39)) (ci := 12) (q0 := 0) [.int 4] hT hPc hKc hDc rfl rfl) rfl rfl hl.1 rfl (lv_room (Nat.le_of_ble_eq_true rfl)) d_La_law_635 ⟨(Nat.le_of_ble_eq_true rfl), (Nat.le_of_ble_eq_true rfl)⟩) hS (fun q _ h => hFc q h) hFc (fun r1034 u t H1 locs ht hvm hw hB hz1 hk1 hS => ?_)
    obtain ⟨hP1, hK1, hD1⟩ := hB
    rw [ht] at hP1
    have hK1 := va_K.moved hvm.symm hK1
    obtain ⟨hP, hD⟩ := va_join (wr := [(q3, .inl (cA25, 2000, .inl (fun _ => 0))), (q29, .inl (cA52, 2000, .inl (fun _ => 0))), (q30, .inl (cA53, 5718, .inl (fun _ => 0))), (q54, .inl (cA55, 1, .inr (.inl (vp_updL (fun _ => 0) (0 : Int32).toNatClampNeg 0))))]) (w1 := [(q27, .inr (12, [.ref q29, .ref q30, .ref q31, .int 0, .int 0, .int 0, .int 0, .int 0, .ref q32, .ref q33, .ref q34, .ref q35, .ref q36, .int 0, .int 0, .ref q37, .ref q38, .ref q39, .ref q40, .ref q41, .ref q42, .ref q43, .ref q44, .int 0, .int 0, .ref q45, .ref q46, .ref q47, .ref q48, .ref q49, .int 0, .ref q50, .int 0, .int 0, .int 0, .int 0, .ref q51, .int 0, .int 0]))]) hP hD [1] [0, 2, 3, 4] rfl rfl (by decide) (by decide) hk1 hFc hP1 hD1
    have hK := (hK.sub (tys' := [(cA25, .byte), (cA52, .byte), (cA53, .byte), (cA55, .long), (cA55, .long)]) [0, 1, 2, 3, 4] rfl).app hK1
    generalize H1 = H at hP hS ⊢
    have hP : va_P (dC, dI) cls [(q3, .inl (cA25, 2000, .inl (fun _ => 0))), (q29, .inl (cA52, 2000, .inl (fun _ => 0))), (q30, .inl (cA53, 5718, .inl (fun _ => 0))), (q54, .inl (cA55, 1, .inr (.inl (vp_updL (fun _ => 0) (0 : Int32).toNatClampNeg 0)))), (q27, .inr (12, [.ref q29, .ref q30, .ref q31, .int 0, .int 0, .int 0, .int 0, .int 0, .ref q32, .ref q33, .ref q34, .ref q35, .ref q36, .int 0, .int 0, .ref q37, .ref q38, .ref q39, .ref q40, .ref q41, .ref q42, .ref q43, .ref q44, .int 0, .int 0, .ref q45, .ref q46, .ref q47, .ref q48, .ref q49, .int 0, .ref q50, .int 0, .int 0, .int 0, .int 0, .ref q51, .int 0, .int 0]))] H := hP
    have hD : va_D A [(q3, .inl (cA25, 2000, .inl (fun _ => 0))), (q29, .inl (cA52, 2000, .inl (fun _ => 0))), (q30, .inl (cA53, 5718, .inl (fun _ => 0))), (q54, .inl (cA55, 1, .inr (.inl (vp_updL (fun _ => 0) (0 : Int32).toNatClampNeg 0)))), (q27, .inr (12, [.ref q29, .ref q30, .ref q31, .int 0, .int 0, .int 0, .int 0, .int 0, .ref q32, .ref q33, .ref q34, .ref q35, .ref q36, .int 0, .int 0, .ref q37, .ref q38, .ref q39, .ref q40, .ref q41, .ref q42, .ref q43, .ref q44, .int 0, .int 0, .ref q45, .ref q46, .ref q47, .ref q48, .ref q49, .int 0, .ref q50, .int 0, .int 0, .int 0, .int 0, .ref q51, .int 0, .int 0]))] := hD
    have hK : va_K (dC, dI) cls [(cA25, .byte), (cA52, .byte), (cA53, .byte), (cA55, .long), (cA55, .long)] s := hK
    obtain rfl : r1034 = 0 := hw
    refine lv_istore hx hb d_La_law_638 hl (by decide) rfl (fun ls hl => ?_)
    have hl : lv_has ls 8 [(6, .int 0), (5, .int 0), (4, .int 0), (3, .ref q54), (2, .ref q27), (1, .ref q1), (0, .ref b)] := hl
    refine lv_aload_n hx hb d_La_law_640 rfl (lv_at hl 4 rfl) ?_
    have hhp : ∀ q, q < s.heap.size → H[q]? = s.heap[q]? := fun q hq => hS.2.1 q hq (fun h => absurd (hA2 q h) (by omega))
    have hPc := hP.sub (ws' := [(q27, .inr (12, [.ref q29, .ref q30, .ref q31, .int 0, .int 0, .int 0, .int 0, .int 0, .ref q32, .ref q33, .ref q34, .ref q35, .ref q36, .int 0, .int 0, .ref q37, .ref q38, .ref q39, .ref q40, .ref q41, .ref q42, .ref q43, .ref q44, .int 0, .int 0, .ref q45, .ref q46, .ref q47, .ref q48, .ref q49, .int 0, .ref q50, .int 0, .int 0, .int 0, .int 0, .ref q51, .int 0, .int 0]))]) [4] rfl
    have hDc := hD.sub (ws' := [(q27, .inr (12, [.ref q29, .ref q30, .ref q31, .int 0, .int 0, .int 0, .int 0, .int 0, .ref q32, .ref q33, .ref q34, .ref q35, .ref q36, .int 0, .int 0, .ref q37, .ref q38, .ref q39, .ref q40, .ref q41, .ref q42, .ref q43, .ref q44, .int 0, .int 0, .ref q45, .ref q46, .ref q47, .ref q48, .ref q49, .int 0, .ref q50, .int 0, .int 0, .int 0, .int 0, .ref q51, .int 0, .int 0]))]) [4] (by decide) rfl
    have hKc := hK.sub (tys' := []) [] rfl
    have hFc := va_free (wc := [(q27, .inr (12, [.ref q29, .ref q30, .ref q31, .int 0, .int 0, .int 0, .int 0, .int 0, .ref q32, .ref q33, .ref q34, .ref q35, .ref q36, .int 0, .int 0, .ref q37, .ref q38, .ref q39, .ref q40, .ref q41, .ref q42, .ref q43, .ref q44, .int 0, .int 0, .ref q45, .ref q46, .ref q47, .ref q48, .ref q49, .int 0, .ref q50, .int 0, .int 0, .int 0, .int 0, .ref q51, .int 0, .int 0]))]) hD hS hA [4] rfl
    have hkc : 219 + 0 ≤ 600002 := (Nat.le_of_ble_eq_true rfl)
    refine va_calli (va_runV (As := []) (rest := []) hfx (c_Mo_thrown_0 l dC dI q27 q29 q30 q31 q32 q33 q34 q35 q36 q37 q38 q39 q40 q41 q42 q43 q44 q45 q46 q47 q48 q49 q50 q51 0 0 H.size) ⟨(ux_cb 0 hT tw_1714 tw_1711 tw_13 rfl rfl (by decide +kernel) ⟨(Nat.le_of_ble_eq_true rfl), (Nat.le_of_ble_eq_true rfl)⟩), (ux_T_at hT tw_1712 rfl), (ux_T_at hT tw_1713 rfl)⟩ (ux_preV (r := (R_Mo, F_Mo, 39)) (ci := 12) (q0 := 0) [] hT hPc hKc hDc rfl rfl) rfl rfl hl.1 rfl (lv_room (Nat.le_of_ble_eq_true rfl)) d_La_law_641 ⟨(Nat.le_of_ble_eq_true rfl), (Nat.le_of_ble_eq_true rfl)⟩) hS (fun q _ h => hFc q h) hFc (fun r1035 u t H1 locs ht hvm hw hB hz1 hk1 hS => ?_)
    obtain ⟨hP1, hK1, hD1⟩ := hB
    rw [ht] at hP1
    have hK1 := va_K.moved hvm.symm hK1
    obtain ⟨hP, hD⟩ := va_join (wr := [(q3, .inl (cA25, 2000, .inl (fun _ => 0))), (q29, .inl (cA52, 2000, .inl (fun _ => 0))), (q30, .inl (cA53, 5718, .inl (fun _ => 0))), (q54, .inl (cA55, 1, .inr (.inl (vp_updL (fun _ => 0) (0 : Int32).toNatClampNeg 0))))]) (w1 := [(q27, .inr (12, [.ref q29, .ref q30, .ref q31, .int 0, .int 0, .int 0, .int 0, .int 0, .ref q32, .ref q33, .ref q34, .ref q35, .ref q36, .int 0, .int 0, .ref q37, .ref q38, .ref q39, .ref q40, .ref q41, .ref q42, .ref q43, .ref q44, .int 0, .int 0, .ref q45, .ref q46, .ref q47, .ref q48, .ref q49, .int 0, .ref q50, .int 0, .int 0, .int 0, .int 0, .ref q51, .int 0, .int 0]))]) hP hD [4] [0, 1, 2, 3] rfl rfl (by decide) (by decide) hk1 hFc hP1 hD1
    have hK := (hK.sub (tys' := [(cA25, .byte), (cA52, .byte), (cA53, .byte), (cA55, .long), (cA55, .long)]) [0, 1, 2, 3, 4] rfl).app hK1
    generalize H1 = H at hP hS ⊢
    have hP : va_P (dC, dI) cls [(q3, .inl (cA25, 2000, .inl (fun _ => 0))), (q29, .inl (cA52, 2000, .inl (fun _ => 0))), (q30, .inl (cA53, 5718, .inl (fun _ => 0))), (q54, .inl (cA55, 1, .inr (.inl (vp_updL (fun _ => 0) (0 : Int32).toNatClampNeg 0)))), (q27, .inr (12, [.ref q29, .ref q30, .ref q31, .int 0, .int 0, .int 0, .int 0, .int 0, .ref q32, .ref q33, .ref q34, .ref q35, .ref q36, .int 0, .int 0, .ref q37, .ref q38, .ref q39, .ref q40, .ref q41, .ref q42, .ref q43, .ref q44, .int 0, .int 0, .ref q45, .ref q46, .ref q47, .ref q48, .ref q49, .int 0, .ref q50, .int 0, .int 0, .int 0, .int 0, .ref q51, .int 0, .int 0]))] H := hP
    have hD : va_D A [(q3, .inl (cA25, 2000, .inl (fun _ => 0))), (q29, .inl (cA52, 2000, .inl (fun _ => 0))), (q30, .inl (cA53, 5718, .inl (fun _ => 0))), (q54, .inl (cA55, 1, .inr (.inl (vp_updL (fun _ => 0) (0 : Int32).toNatClampNeg 0)))), (q27, .inr (12, [.ref q29, .ref q30, .ref q31, .int 0, .int 0, .int 0, .int 0, .int 0, .ref q32, .ref q33, .ref q34, .ref q35, .ref q36, .int 0, .int 0, .ref q37, .ref q38, .ref q39, .ref q40, .ref q41, .ref q42, .ref q43, .ref q44, .int 0, .int 0, .ref q45, .ref q46, .ref q47, .ref q48, .ref q49, .int 0, .ref q50, .int 0, .int 0, .int 0, .int 0, .ref q51, .int 0, .int 0]))] := hD
    have hK : va_K (dC, dI) cls [(cA25, .byte), (cA52, .byte), (cA53, .byte), (cA55, .long), (cA55, .long)] s := hK
    obtain rfl : r1035 = 0 := hw
    refine lv_iload hx hb d_La_law_644 (lv_at hl 1 rfl) ?_
    refine lv_icmp_eq (tgt := 651) hx hb d_La_law_646 (by decide) (fun _ => ?_) (fun hc => absurd (by decide) hc)
    refine lv_iload hx hb d_La_law_651 (lv_at hl 1 rfl) ?_
    refine lv_if_ne (tgt := 668) hx hb d_La_law_653 (by decide) (fun hc => absurd (by decide) hc) (fun _ => ?_)
    refine lv_aload_n hx hb d_La_law_656 rfl (lv_at hl 3 rfl) ?_
    refine lv_iconst (v := 0) hx hb d_La_law_657 (by decide) ?_
    refine va_lald hx hb hK hP 3 3 rfl rfl (i := 0) (show ¬ ((0 : Int32) < 0 ∨ 1 ≤ (0 : Int32).toNatClampNeg) by decide) d_La_law_658 ?_
    refine lv_topl (fun x1036 ex1036 => ?_)
    obtain rfl : x1036 = 0 := ex1036.trans (by decide)
    refine lv_iload hx hb d_La_law_659 (lv_at hl 0 rfl) ?_
    refine lv_i2l (v := 0) hx hb d_La_law_661 (by decide) ?_
    refine W.lcmp hx hb d_La_law_662 ?_
    refine lv_topi (fun x1037 ex1037 => ?_)
    obtain rfl : x1037 = 0 := ex1037.trans (by decide)
    refine lv_if_eq (tgt := 668) hx hb d_La_law_663 (by decide) (fun _ => ?_) (fun hc => absurd (by decide) hc)
    refine lv_goto hx hb d_La_law_668 (tgt := 751) (by decide) ?_
    exact law_end l hA2 ⟨hx, hb, hr, hml, hown, hts, hX, hbl, hlocks, hgv⟩ (Nat.le_of_ble_eq_true rfl) (Nat.le_of_ble_eq_true rfl) hS (lv_sub hl [6, 2] rfl)
  · obtain rfl : v1 = 5 := hv
    have hhp : ∀ q, q < s.heap.size → H[q]? = s.heap[q]? := fun q hq => hS.2.1 q hq (fun h => absurd (hA2 q h) (by omega))
    have hPc := hP.sub (ws' := [(q1, .inr (0, [.ref q3, .int 0, .int 0, .ref q4, .ref q5, .ref q6, .ref q7, .ref q8, .ref q9, .ref q10, .ref q11, .ref q3, .int 0, .int 0])), (q5, .inr (2, [.ref q4, .ref q15, .ref q16, .int 0, .int 0])), (q8, .inr (6, [.ref q18, .ref q19, .ref q5, .int 0, .int 0])), (q4, .inr (1, [.ref q12, .ref q13, .ref q14, .int 0, .int 0])), (q6, .inr (3, [.ref q17, .int 0])), (q9, .inr (10, [.ref q20, .ref q21, .ref q22, .ref q23, .ref q24, .int 0])), (q54, .inl (cA55, 1, .inr (.inl (fun _ => 0))))]) [0, 3, 5, 2, 4, 6, 10] rfl
    have hDc := hD.sub (ws' := [(q1, .inr (0, [.ref q3, .int 0, .int 0, .ref q4, .ref q5, .ref q6, .ref q7, .ref q8, .ref q9, .ref q10, .ref q11, .ref q3, .int 0, .int 0])), (q5, .inr (2, [.ref q4, .ref q15, .ref q16, .int 0, .int 0])), (q8, .inr (6, [.ref q18, .ref q19, .ref q5, .int 0, .int 0])), (q4, .inr (1, [.ref q12, .ref q13, .ref q14, .int 0, .int 0])), (q6, .inr (3, [.ref q17, .int 0])), (q9, .inr (10, [.ref q20, .ref q21, .ref q22, .ref q23, .ref q24, .int 0])), (q54, .inl (cA55, 1, .inr (.inl (fun _ => 0))))]) [0, 3, 5, 2, 4, 6, 10] (by decide) rfl
    have hKc := hK.sub (tys' := [(cA55, .long)]) [3] rfl
    have hFc := va_free (wc := [(q1, .inr (0, [.ref q3, .int 0, .int 0, .ref q4, .ref q5, .ref q6, .ref q7, .ref q8, .ref q9, .ref q10, .ref q11, .ref q3, .int 0, .int 0])), (q5, .inr (2, [.ref q4, .ref q15, .ref q16, .int 0, .int 0])), (q8, .inr (6, [.ref q18, .ref q19, .ref q5, .int 0, .int 0])), (q4, .inr (1, [.ref q12, .ref q13, .ref q14, .int 0, .int 0])), (q6, .inr (3, [.ref q17, .int 0])), (q9, .inr (10, [.ref q20, .ref q21, .ref q22, .ref q23, .ref q24, .int 0])), (q54, .inl (cA55, 1, .inr (.inl (fun _ => 0))))]) hD hS hA [0, 3, 5, 2, 4, 6, 10] rfl
    have hkc : 219 + 0 ≤ 600002 := (Nat.le_of_ble_eq_true rfl)
    refine va_calli (ux_runSW (n := 3) (As := [.ref q1, .int 5, .ref q54]) (rest := []) hfx (c_La_count_5 l dC dI q1 q54 q3 q4 q5 q6 q7 q8 q9 q10 q11 q15 q16 q18 q19 q12 q13 q14 q17 q20 q21 q22 q23 q24 cA55 H.size) hT tw_1450 tw_1448 tw_0 tw_1449 rfl rfl (by decide +kernel) ⟨(Nat.le_of_ble_eq_true rfl), (Nat.le_of_ble_eq_true rfl)⟩ (ux_pre [.ref q1, .int 5, .ref q54] hT hPc hKc hDc) rfl rfl hl.1 rfl (lv_room (Nat.le_of_ble_eq_true rfl)) d_La_law_623 ⟨(Nat.le_of_ble_eq_true rfl), (Nat.le_of_ble_eq_true rfl)⟩) hS (fun q _ h => hFc q h) hFc (fun r1038 u t H1 locs ht hvm hw hB hz1 hk1 hS => ?_)
    obtain ⟨hP1, hK1, hD1⟩ := hB
    rw [ht] at hP1
    have hK1 := va_K.moved hvm.symm hK1
    obtain ⟨hP, hD⟩ := va_join (wr := [(q3, .inl (cA25, 2000, .inl (fun _ => 0))), (q27, .inr (12, [.ref q29, .ref q30, .ref q31, .int 0, .int 0, .int 0, .int 0, .int 0, .ref q32, .ref q33, .ref q34, .ref q35, .ref q36, .int 0, .int 0, .ref q37, .ref q38, .ref q39, .ref q40, .ref q41, .ref q42, .ref q43, .ref q44, .int 0, .int 0, .ref q45, .ref q46, .ref q47, .ref q48, .ref q49, .int 0, .ref q50, .int 0, .int 0, .int 0, .int 0, .ref q51, .int 0, .int 0])), (q29, .inl (cA52, 2000, .inl (fun _ => 0))), (q30, .inl (cA53, 5718, .inl (fun _ => 0)))]) (w1 := [(q54, .inl (cA55, 1, .inr (.inl (vp_updL (fun _ => 0) (0 : Int32).toNatClampNeg 0))))]) hP hD [0, 3, 5, 2, 4, 6, 10] [1, 7, 8, 9] rfl rfl (by decide) (by decide) hk1 hFc hP1 hD1
    have hK := (hK.sub (tys' := [(cA25, .byte), (cA52, .byte), (cA53, .byte), (cA55, .long)]) [0, 1, 2, 3] rfl).app hK1
    generalize H1 = H at hP hS ⊢
    have hP : va_P (dC, dI) cls [(q3, .inl (cA25, 2000, .inl (fun _ => 0))), (q27, .inr (12, [.ref q29, .ref q30, .ref q31, .int 0, .int 0, .int 0, .int 0, .int 0, .ref q32, .ref q33, .ref q34, .ref q35, .ref q36, .int 0, .int 0, .ref q37, .ref q38, .ref q39, .ref q40, .ref q41, .ref q42, .ref q43, .ref q44, .int 0, .int 0, .ref q45, .ref q46, .ref q47, .ref q48, .ref q49, .int 0, .ref q50, .int 0, .int 0, .int 0, .int 0, .ref q51, .int 0, .int 0])), (q29, .inl (cA52, 2000, .inl (fun _ => 0))), (q30, .inl (cA53, 5718, .inl (fun _ => 0))), (q54, .inl (cA55, 1, .inr (.inl (vp_updL (fun _ => 0) (0 : Int32).toNatClampNeg 0))))] H := hP
    have hD : va_D A [(q3, .inl (cA25, 2000, .inl (fun _ => 0))), (q27, .inr (12, [.ref q29, .ref q30, .ref q31, .int 0, .int 0, .int 0, .int 0, .int 0, .ref q32, .ref q33, .ref q34, .ref q35, .ref q36, .int 0, .int 0, .ref q37, .ref q38, .ref q39, .ref q40, .ref q41, .ref q42, .ref q43, .ref q44, .int 0, .int 0, .ref q45, .ref q46, .ref q47, .ref q48, .ref q49, .int 0, .ref q50, .int 0, .int 0, .int 0, .int 0, .ref q51, .int 0, .int 0])), (q29, .inl (cA52, 2000, .inl (fun _ => 0))), (q30, .inl (cA53, 5718, .inl (fun _ => 0))), (q54, .inl (cA55, 1, .inr (.inl (vp_updL (fun _ => 0) (0 : Int32).toNatClampNeg 0))))] := hD
    have hK : va_K (dC, dI) cls [(cA25, .byte), (cA52, .byte), (cA53, .byte), (cA55, .long), (cA55, .long)] s := hK
    obtain rfl : r1038 = 0 := hw
    refine lv_istore hx hb d_La_law_626 hl (by decide) rfl (fun ls hl => ?_)
    have hl : lv_has ls 8 [(5, .int 0), (4, .int 0), (3, .ref q54), (2, .ref q27), (1, .ref q1), (0, .ref b)] := hl
    refine lv_aload_n hx hb d_La_law_628 rfl (lv_at hl 3 rfl) ?_
    refine lv_aload_n hx hb d_La_law_629 rfl (lv_at hl 5 rfl) ?_
    refine lv_iload hx hb d_La_law_630 (lv_at hl 1 rfl) ?_
    refine lv_iconst (v := 1) hx hb d_La_law_632 (by decide) ?_
    refine lv_iadd hx hb d_La_law_633 ?_
    refine lv_topi (fun x1039 ex1039 => ?_)
    obtain rfl : x1039 = 1 := ex1039.trans (by decide)
    refine va_sld hx hb hX hbl hbA hS (i := 1) (show ¬ ((1 : Int32) < 0 ∨ 6 ≤ (1 : Int32).toNatClampNeg) by decide) d_La_law_634 ?_
    refine lv_topi (fun x1040 ex1040 => ?_)
    obtain rfl : x1040 = 5 := ex1040.trans hv1
    have hhp : ∀ q, q < s.heap.size → H[q]? = s.heap[q]? := fun q hq => hS.2.1 q hq (fun h => absurd (hA2 q h) (by omega))
    have hPc := hP.sub (ws' := [(q27, .inr (12, [.ref q29, .ref q30, .ref q31, .int 0, .int 0, .int 0, .int 0, .int 0, .ref q32, .ref q33, .ref q34, .ref q35, .ref q36, .int 0, .int 0, .ref q37, .ref q38, .ref q39, .ref q40, .ref q41, .ref q42, .ref q43, .ref q44, .int 0, .int 0, .ref q45, .ref q46, .ref q47, .ref q48, .ref q49, .int 0, .ref q50, .int 0, .int 0, .int 0, .int 0, .ref q51, .int 0, .int 0]))]) [1] rfl
    have hDc := hD.sub (ws' := [(q27, .inr (12, [.ref q29, .ref q30, .ref q31, .int 0, .int 0, .int 0, .int 0, .int 0, .ref q32, .ref q33, .ref q34, .ref q35, .ref q36, .int 0, .int 0, .ref q37, .ref q38, .ref q39, .ref q40, .ref q41, .ref q42, .ref q43, .ref q44, .int 0, .int 0, .ref q45, .ref q46, .ref q47, .ref q48, .ref q49, .int 0, .ref q50, .int 0, .int 0, .int 0, .int 0, .ref q51, .int 0, .int 0]))]) [1] (by decide) rfl
    have hKc := hK.sub (tys' := []) [] rfl
    have hFc := va_free (wc := [(q27, .inr (12, [.ref q29, .ref q30, .ref q31, .int 0, .int 0, .int 0, .int 0, .int 0, .ref q32, .ref q33, .ref q34, .ref q35, .ref q36, .int 0, .int 0, .ref q37, .ref q38, .ref q39, .ref q40, .ref q41, .ref q42, .ref q43, .ref q44, .int 0, .int 0, .ref q45, .ref q46, .ref q47, .ref q48, .ref q49, .int 0, .ref q50, .int 0, .int 0, .int 0, .int 0, .ref q51, .int 0, .int 0]))]) hD hS hA [1] rfl
    have hkc : 219 + 0 ≤ 600002 := (Nat.le_of_ble_eq_true rfl)
    refine va_calli (va_runV (As := [.int 5]) (rest := []) hfx (c_Mo_count_5 l dC dI q27 q29 q30 q31 q32 q33 q34 q35 q36 q37 q38 q39 q40 q41 q42 q43 q44 q45 q46 q47 q48 q49 q50 q51 H.size) ⟨(ux_cb 1 hT tw_1972 tw_1969 tw_13 rfl rfl (by decide +kernel) ⟨(Nat.le_of_ble_eq_true rfl), (Nat.le_of_ble_eq_true rfl)⟩), (ux_T_at hT tw_1970 rfl), (ux_T_at hT tw_1971 rfl)⟩ (ux_preV (r := (R_Mo, F_Mo, 39)) (ci := 12) (q0 := 0) [.int 5] hT hPc hKc hDc rfl rfl) rfl rfl hl.1 rfl (lv_room (Nat.le_of_ble_eq_true rfl)) d_La_law_635 ⟨(Nat.le_of_ble_eq_true rfl), (Nat.le_of_ble_eq_true rfl)⟩) hS (fun q _ h => hFc q h) hFc (fun r1041 u t H1 locs ht hvm hw hB hz1 hk1 hS => ?_)
    obtain ⟨hP1, hK1, hD1⟩ := hB
    rw [ht] at hP1
    have hK1 := va_K.moved hvm.symm hK1
    obtain ⟨hP, hD⟩ := va_join (wr := [(q3, .inl (cA25, 2000, .inl (fun _ => 0))), (q29, .inl (cA52, 2000, .inl (fun _ => 0))), (q30, .inl (cA53, 5718, .inl (fun _ => 0))), (q54, .inl (cA55, 1, .inr (.inl (vp_updL (fun _ => 0) (0 : Int32).toNatClampNeg 0))))]) (w1 := [(q27, .inr (12, [.ref q29, .ref q30, .ref q31, .int 0, .int 0, .int 0, .int 0, .int 0, .ref q32, .ref q33, .ref q34, .ref q35, .ref q36, .int 0, .int 0, .ref q37, .ref q38, .ref q39, .ref q40, .ref q41, .ref q42, .ref q43, .ref q44, .int 0, .int 0, .ref q45, .ref q46, .ref q47, .ref q48, .ref q49, .int 0, .ref q50, .int 0, .int 0, .int 0, .int 0, .ref q51, .int 0, .int 0]))]) hP hD [1] [0, 2, 3, 4] rfl rfl (by decide) (by decide) hk1 hFc hP1 hD1
    have hK := (hK.sub (tys' := [(cA25, .byte), (cA52, .byte), (cA53, .byte), (cA55, .long), (cA55, .long)]) [0, 1, 2, 3, 4] rfl).app hK1
    generalize H1 = H at hP hS ⊢
    have hP : va_P (dC, dI) cls [(q3, .inl (cA25, 2000, .inl (fun _ => 0))), (q29, .inl (cA52, 2000, .inl (fun _ => 0))), (q30, .inl (cA53, 5718, .inl (fun _ => 0))), (q54, .inl (cA55, 1, .inr (.inl (vp_updL (fun _ => 0) (0 : Int32).toNatClampNeg 0)))), (q27, .inr (12, [.ref q29, .ref q30, .ref q31, .int 0, .int 0, .int 0, .int 0, .int 0, .ref q32, .ref q33, .ref q34, .ref q35, .ref q36, .int 0, .int 0, .ref q37, .ref q38, .ref q39, .ref q40, .ref q41, .ref q42, .ref q43, .ref q44, .int 0, .int 0, .ref q45, .ref q46, .ref q47, .ref q48, .ref q49, .int 0, .ref q50, .int 0, .int 0, .int 0, .int 0, .ref q51, .int 0, .int 0]))] H := hP
    have hD : va_D A [(q3, .inl (cA25, 2000, .inl (fun _ => 0))), (q29, .inl (cA52, 2000, .inl (fun _ => 0))), (q30, .inl (cA53, 5718, .inl (fun _ => 0))), (q54, .inl (cA55, 1, .inr (.inl (vp_updL (fun _ => 0) (0 : Int32).toNatClampNeg 0)))), (q27, .inr (12, [.ref q29, .ref q30, .ref q31, .int 0, .int 0, .int 0, .int 0, .int 0, .ref q32, .ref q33, .ref q34, .ref q35, .ref q36, .int 0, .int 0, .ref q37, .ref q38, .ref q39, .ref q40, .ref q41, .ref q42, .ref q43, .ref q44, .int 0, .int 0, .ref q45, .ref q46, .ref q47, .ref q48, .ref q49, .int 0, .ref q50, .int 0, .int 0, .int 0, .int 0, .ref q51, .int 0, .int 0]))] := hD
    have hK : va_K (dC, dI) cls [(cA25, .byte), (cA52, .byte), (cA53, .byte), (cA55, .long), (cA55, .long)] s := hK
    obtain rfl : r1041 = 0 := hw
    refine lv_istore hx hb d_La_law_638 hl (by decide) rfl (fun ls hl => ?_)
    have hl : lv_has ls 8 [(6, .int 0), (5, .int 0), (4, .int 0), (3, .ref q54), (2, .ref q27), (1, .ref q1), (0, .ref b)] := hl
    refine lv_aload_n hx hb d_La_law_640 rfl (lv_at hl 4 rfl) ?_
    have hhp : ∀ q, q < s.heap.size → H[q]? = s.heap[q]? := fun q hq => hS.2.1 q hq (fun h => absurd (hA2 q h) (by omega))
    have hPc := hP.sub (ws' := [(q27, .inr (12, [.ref q29, .ref q30, .ref q31, .int 0, .int 0, .int 0, .int 0, .int 0, .ref q32, .ref q33, .ref q34, .ref q35, .ref q36, .int 0, .int 0, .ref q37, .ref q38, .ref q39, .ref q40, .ref q41, .ref q42, .ref q43, .ref q44, .int 0, .int 0, .ref q45, .ref q46, .ref q47, .ref q48, .ref q49, .int 0, .ref q50, .int 0, .int 0, .int 0, .int 0, .ref q51, .int 0, .int 0]))]) [4] rfl
    have hDc := hD.sub (ws' := [(q27, .inr (12, [.ref q29, .ref q30, .ref q31, .int 0, .int 0, .int 0, .int 0, .int 0, .ref q32, .ref q33, .ref q34, .ref q35, .ref q36, .int 0, .int 0, .ref q37, .ref q38, .ref q39, .ref q40, .ref q41, .ref q42, .ref q43, .ref q44, .int 0, .int 0, .ref q45, .ref q46, .ref q47, .ref q48, .ref q49, .int 0, .ref q50, .int 0, .int 0, .int 0, .int 0, .ref q51, .int 0, .int 0]))]) [4] (by decide) rfl
    have hKc := hK.sub (tys' := []) [] rfl
    have hFc := va_free (wc := [(q27, .inr (12, [.ref q29, .ref q30, .ref q31, .int 0, .int 0, .int 0, .int 0, .int 0, .ref q32, .ref q33, .ref q34, .ref q35, .ref q36, .int 0, .int 0, .ref q37, .ref q38, .ref q39, .ref q40, .ref q41, .ref q42, .ref q43, .ref q44, .int 0, .int 0, .ref q45, .ref q46, .ref q47, .ref q48, .ref q49, .int 0, .ref q50, .int 0, .int 0, .int 0, .int 0, .ref q51, .int 0, .int 0]))]) hD hS hA [4] rfl
    have hkc : 219 + 0 ≤ 600002 := (Nat.le_of_ble_eq_true rfl)
    refine va_calli (va_runV (As := []) (rest := []) hfx (c_Mo_thrown_0 l dC dI q27 q29 q30 q31 q32 q33 q34 q35 q36 q37 q38 q39 q40 q41 q42 q43 q44 q45 q46 q47 q48 q49 q50 q51 0 0 H.size) ⟨(ux_cb 0 hT tw_1714 tw_1711 tw_13 rfl rfl (by decide +kernel) ⟨(Nat.le_of_ble_eq_true rfl), (Nat.le_of_ble_eq_true rfl)⟩), (ux_T_at hT tw_1712 rfl), (ux_T_at hT tw_1713 rfl)⟩ (ux_preV (r := (R_Mo, F_Mo, 39)) (ci := 12) (q0 := 0) [] hT hPc hKc hDc rfl rfl) rfl rfl hl.1 rfl (lv_room (Nat.le_of_ble_eq_true rfl)) d_La_law_641 ⟨(Nat.le_of_ble_eq_true rfl), (Nat.le_of_ble_eq_true rfl)⟩) hS (fun q _ h => hFc q h) hFc (fun r1042 u t H1 locs ht hvm hw hB hz1 hk1 hS => ?_)
    obtain ⟨hP1, hK1, hD1⟩ := hB
    rw [ht] at hP1
    have hK1 := va_K.moved hvm.symm hK1
    obtain ⟨hP, hD⟩ := va_join (wr := [(q3, .inl (cA25, 2000, .inl (fun _ => 0))), (q29, .inl (cA52, 2000, .inl (fun _ => 0))), (q30, .inl (cA53, 5718, .inl (fun _ => 0))), (q54, .inl (cA55, 1, .inr (.inl (vp_updL (fun _ => 0) (0 : Int32).toNatClampNeg 0))))]) (w1 := [(q27, .inr (12, [.ref q29, .ref q30, .ref q31, .int 0, .int 0, .int 0, .int 0, .int 0, .ref q32, .ref q33, .ref q34, .ref q35, .ref q36, .int 0, .int 0, .ref q37, .ref q38, .ref q39, .ref q40, .ref q41, .ref q42, .ref q43, .ref q44, .int 0, .int 0, .ref q45, .ref q46, .ref q47, .ref q48, .ref q49, .int 0, .ref q50, .int 0, .int 0, .int 0, .int 0, .ref q51, .int 0, .int 0]))]) hP hD [4] [0, 1, 2, 3] rfl rfl (by decide) (by decide) hk1 hFc hP1 hD1
    have hK := (hK.sub (tys' := [(cA25, .byte), (cA52, .byte), (cA53, .byte), (cA55, .long), (cA55, .long)]) [0, 1, 2, 3, 4] rfl).app hK1
    generalize H1 = H at hP hS ⊢
    have hP : va_P (dC, dI) cls [(q3, .inl (cA25, 2000, .inl (fun _ => 0))), (q29, .inl (cA52, 2000, .inl (fun _ => 0))), (q30, .inl (cA53, 5718, .inl (fun _ => 0))), (q54, .inl (cA55, 1, .inr (.inl (vp_updL (fun _ => 0) (0 : Int32).toNatClampNeg 0)))), (q27, .inr (12, [.ref q29, .ref q30, .ref q31, .int 0, .int 0, .int 0, .int 0, .int 0, .ref q32, .ref q33, .ref q34, .ref q35, .ref q36, .int 0, .int 0, .ref q37, .ref q38, .ref q39, .ref q40, .ref q41, .ref q42, .ref q43, .ref q44, .int 0, .int 0, .ref q45, .ref q46, .ref q47, .ref q48, .ref q49, .int 0, .ref q50, .int 0, .int 0, .int 0, .int 0, .ref q51, .int 0, .int 0]))] H := hP
    have hD : va_D A [(q3, .inl (cA25, 2000, .inl (fun _ => 0))), (q29, .inl (cA52, 2000, .inl (fun _ => 0))), (q30, .inl (cA53, 5718, .inl (fun _ => 0))), (q54, .inl (cA55, 1, .inr (.inl (vp_updL (fun _ => 0) (0 : Int32).toNatClampNeg 0)))), (q27, .inr (12, [.ref q29, .ref q30, .ref q31, .int 0, .int 0, .int 0, .int 0, .int 0, .ref q32, .ref q33, .ref q34, .ref q35, .ref q36, .int 0, .int 0, .ref q37, .ref q38, .ref q39, .ref q40, .ref q41, .ref q42, .ref q43, .ref q44, .int 0, .int 0, .ref q45, .ref q46, .ref q47, .ref q48, .ref q49, .int 0, .ref q50, .int 0, .int 0, .int 0, .int 0, .ref q51, .int 0, .int 0]))] := hD
    have hK : va_K (dC, dI) cls [(cA25, .byte), (cA52, .byte), (cA53, .byte), (cA55, .long), (cA55, .long)] s := hK
    obtain rfl : r1042 = 0 := hw
    refine lv_iload hx hb d_La_law_644 (lv_at hl 1 rfl) ?_
    refine lv_icmp_eq (tgt := 651) hx hb d_La_law_646 (by decide) (fun _ => ?_) (fun hc => absurd (by decide) hc)
    refine lv_iload hx hb d_La_law_651 (lv_at hl 1 rfl) ?_
    refine lv_if_ne (tgt := 668) hx hb d_La_law_653 (by decide) (fun hc => absurd (by decide) hc) (fun _ => ?_)
    refine lv_aload_n hx hb d_La_law_656 rfl (lv_at hl 3 rfl) ?_
    refine lv_iconst (v := 0) hx hb d_La_law_657 (by decide) ?_
    refine va_lald hx hb hK hP 3 3 rfl rfl (i := 0) (show ¬ ((0 : Int32) < 0 ∨ 1 ≤ (0 : Int32).toNatClampNeg) by decide) d_La_law_658 ?_
    refine lv_topl (fun x1043 ex1043 => ?_)
    obtain rfl : x1043 = 0 := ex1043.trans (by decide)
    refine lv_iload hx hb d_La_law_659 (lv_at hl 0 rfl) ?_
    refine lv_i2l (v := 0) hx hb d_La_law_661 (by decide) ?_
    refine W.lcmp hx hb d_La_law_662 ?_
    refine lv_topi (fun x1044 ex1044 => ?_)
    obtain rfl : x1044 = 0 := ex1044.trans (by decide)
    refine lv_if_eq (tgt := 668) hx hb d_La_law_663 (by decide) (fun _ => ?_) (fun hc => absurd (by decide) hc)
    refine lv_goto hx hb d_La_law_668 (tgt := 751) (by decide) ?_
    exact law_end l hA2 ⟨hx, hb, hr, hml, hown, hts, hX, hbl, hlocks, hgv⟩ (Nat.le_of_ble_eq_true rfl) (Nat.le_of_ble_eq_true rfl) hS (lv_sub hl [6, 2] rfl)
  · obtain rfl : v1 = 6 := hv
    have hhp : ∀ q, q < s.heap.size → H[q]? = s.heap[q]? := fun q hq => hS.2.1 q hq (fun h => absurd (hA2 q h) (by omega))
    have hPc := hP.sub (ws' := [(q1, .inr (0, [.ref q3, .int 0, .int 0, .ref q4, .ref q5, .ref q6, .ref q7, .ref q8, .ref q9, .ref q10, .ref q11, .ref q3, .int 0, .int 0])), (q5, .inr (2, [.ref q4, .ref q15, .ref q16, .int 0, .int 0])), (q8, .inr (6, [.ref q18, .ref q19, .ref q5, .int 0, .int 0])), (q4, .inr (1, [.ref q12, .ref q13, .ref q14, .int 0, .int 0])), (q6, .inr (3, [.ref q17, .int 0])), (q9, .inr (10, [.ref q20, .ref q21, .ref q22, .ref q23, .ref q24, .int 0])), (q54, .inl (cA55, 1, .inr (.inl (fun _ => 0))))]) [0, 3, 5, 2, 4, 6, 10] rfl
    have hDc := hD.sub (ws' := [(q1, .inr (0, [.ref q3, .int 0, .int 0, .ref q4, .ref q5, .ref q6, .ref q7, .ref q8, .ref q9, .ref q10, .ref q11, .ref q3, .int 0, .int 0])), (q5, .inr (2, [.ref q4, .ref q15, .ref q16, .int 0, .int 0])), (q8, .inr (6, [.ref q18, .ref q19, .ref q5, .int 0, .int 0])), (q4, .inr (1, [.ref q12, .ref q13, .ref q14, .int 0, .int 0])), (q6, .inr (3, [.ref q17, .int 0])), (q9, .inr (10, [.ref q20, .ref q21, .ref q22, .ref q23, .ref q24, .int 0])), (q54, .inl (cA55, 1, .inr (.inl (fun _ => 0))))]) [0, 3, 5, 2, 4, 6, 10] (by decide) rfl
    have hKc := hK.sub (tys' := [(cA55, .long)]) [3] rfl
    have hFc := va_free (wc := [(q1, .inr (0, [.ref q3, .int 0, .int 0, .ref q4, .ref q5, .ref q6, .ref q7, .ref q8, .ref q9, .ref q10, .ref q11, .ref q3, .int 0, .int 0])), (q5, .inr (2, [.ref q4, .ref q15, .ref q16, .int 0, .int 0])), (q8, .inr (6, [.ref q18, .ref q19, .ref q5, .int 0, .int 0])), (q4, .inr (1, [.ref q12, .ref q13, .ref q14, .int 0, .int 0])), (q6, .inr (3, [.ref q17, .int 0])), (q9, .inr (10, [.ref q20, .ref q21, .ref q22, .ref q23, .ref q24, .int 0])), (q54, .inl (cA55, 1, .inr (.inl (fun _ => 0))))]) hD hS hA [0, 3, 5, 2, 4, 6, 10] rfl
    have hkc : 219 + 0 ≤ 600002 := (Nat.le_of_ble_eq_true rfl)
    refine va_calli (ux_runSW (n := 3) (As := [.ref q1, .int 6, .ref q54]) (rest := []) hfx (c_La_count_6 l dC dI q1 q54 q3 q4 q5 q6 q7 q8 q9 q10 q11 q15 q16 q18 q19 q12 q13 q14 q17 q20 q21 q22 q23 q24 cA55 H.size) hT tw_1450 tw_1448 tw_0 tw_1449 rfl rfl (by decide +kernel) ⟨(Nat.le_of_ble_eq_true rfl), (Nat.le_of_ble_eq_true rfl)⟩ (ux_pre [.ref q1, .int 6, .ref q54] hT hPc hKc hDc) rfl rfl hl.1 rfl (lv_room (Nat.le_of_ble_eq_true rfl)) d_La_law_623 ⟨(Nat.le_of_ble_eq_true rfl), (Nat.le_of_ble_eq_true rfl)⟩) hS (fun q _ h => hFc q h) hFc (fun r1045 u t H1 locs ht hvm hw hB hz1 hk1 hS => ?_)
    obtain ⟨hP1, hK1, hD1⟩ := hB
    rw [ht] at hP1
    have hK1 := va_K.moved hvm.symm hK1
    obtain ⟨hP, hD⟩ := va_join (wr := [(q3, .inl (cA25, 2000, .inl (fun _ => 0))), (q27, .inr (12, [.ref q29, .ref q30, .ref q31, .int 0, .int 0, .int 0, .int 0, .int 0, .ref q32, .ref q33, .ref q34, .ref q35, .ref q36, .int 0, .int 0, .ref q37, .ref q38, .ref q39, .ref q40, .ref q41, .ref q42, .ref q43, .ref q44, .int 0, .int 0, .ref q45, .ref q46, .ref q47, .ref q48, .ref q49, .int 0, .ref q50, .int 0, .int 0, .int 0, .int 0, .ref q51, .int 0, .int 0])), (q29, .inl (cA52, 2000, .inl (fun _ => 0))), (q30, .inl (cA53, 5718, .inl (fun _ => 0)))]) (w1 := [(q54, .inl (cA55, 1, .inr (.inl (vp_updL (fun _ => 0) (0 : Int32).toNatClampNeg 0))))]) hP hD [0, 3, 5, 2, 4, 6, 10] [1, 7, 8, 9] rfl rfl (by decide) (by decide) hk1 hFc hP1 hD1
    have hK := (hK.sub (tys' := [(cA25, .byte), (cA52, .byte), (cA53, .byte), (cA55, .long)]) [0, 1, 2, 3] rfl).app hK1
    generalize H1 = H at hP hS ⊢
    have hP : va_P (dC, dI) cls [(q3, .inl (cA25, 2000, .inl (fun _ => 0))), (q27, .inr (12, [.ref q29, .ref q30, .ref q31, .int 0, .int 0, .int 0, .int 0, .int 0, .ref q32, .ref q33, .ref q34, .ref q35, .ref q36, .int 0, .int 0, .ref q37, .ref q38, .ref q39, .ref q40, .ref q41, .ref q42, .ref q43, .ref q44, .int 0, .int 0, .ref q45, .ref q46, .ref q47, .ref q48, .ref q49, .int 0, .ref q50, .int 0, .int 0, .int 0, .int 0, .ref q51, .int 0, .int 0])), (q29, .inl (cA52, 2000, .inl (fun _ => 0))), (q30, .inl (cA53, 5718, .inl (fun _ => 0))), (q54, .inl (cA55, 1, .inr (.inl (vp_updL (fun _ => 0) (0 : Int32).toNatClampNeg 0))))] H := hP
    have hD : va_D A [(q3, .inl (cA25, 2000, .inl (fun _ => 0))), (q27, .inr (12, [.ref q29, .ref q30, .ref q31, .int 0, .int 0, .int 0, .int 0, .int 0, .ref q32, .ref q33, .ref q34, .ref q35, .ref q36, .int 0, .int 0, .ref q37, .ref q38, .ref q39, .ref q40, .ref q41, .ref q42, .ref q43, .ref q44, .int 0, .int 0, .ref q45, .ref q46, .ref q47, .ref q48, .ref q49, .int 0, .ref q50, .int 0, .int 0, .int 0, .int 0, .ref q51, .int 0, .int 0])), (q29, .inl (cA52, 2000, .inl (fun _ => 0))), (q30, .inl (cA53, 5718, .inl (fun _ => 0))), (q54, .inl (cA55, 1, .inr (.inl (vp_updL (fun _ => 0) (0 : Int32).toNatClampNeg 0))))] := hD
    have hK : va_K (dC, dI) cls [(cA25, .byte), (cA52, .byte), (cA53, .byte), (cA55, .long), (cA55, .long)] s := hK
    obtain rfl : r1045 = 0 := hw
    refine lv_istore hx hb d_La_law_626 hl (by decide) rfl (fun ls hl => ?_)
    have hl : lv_has ls 8 [(5, .int 0), (4, .int 0), (3, .ref q54), (2, .ref q27), (1, .ref q1), (0, .ref b)] := hl
    refine lv_aload_n hx hb d_La_law_628 rfl (lv_at hl 3 rfl) ?_
    refine lv_aload_n hx hb d_La_law_629 rfl (lv_at hl 5 rfl) ?_
    refine lv_iload hx hb d_La_law_630 (lv_at hl 1 rfl) ?_
    refine lv_iconst (v := 1) hx hb d_La_law_632 (by decide) ?_
    refine lv_iadd hx hb d_La_law_633 ?_
    refine lv_topi (fun x1046 ex1046 => ?_)
    obtain rfl : x1046 = 1 := ex1046.trans (by decide)
    refine va_sld hx hb hX hbl hbA hS (i := 1) (show ¬ ((1 : Int32) < 0 ∨ 6 ≤ (1 : Int32).toNatClampNeg) by decide) d_La_law_634 ?_
    refine lv_topi (fun x1047 ex1047 => ?_)
    obtain rfl : x1047 = 6 := ex1047.trans hv1
    have hhp : ∀ q, q < s.heap.size → H[q]? = s.heap[q]? := fun q hq => hS.2.1 q hq (fun h => absurd (hA2 q h) (by omega))
    have hPc := hP.sub (ws' := [(q27, .inr (12, [.ref q29, .ref q30, .ref q31, .int 0, .int 0, .int 0, .int 0, .int 0, .ref q32, .ref q33, .ref q34, .ref q35, .ref q36, .int 0, .int 0, .ref q37, .ref q38, .ref q39, .ref q40, .ref q41, .ref q42, .ref q43, .ref q44, .int 0, .int 0, .ref q45, .ref q46, .ref q47, .ref q48, .ref q49, .int 0, .ref q50, .int 0, .int 0, .int 0, .int 0, .ref q51, .int 0, .int 0]))]) [1] rfl
    have hDc := hD.sub (ws' := [(q27, .inr (12, [.ref q29, .ref q30, .ref q31, .int 0, .int 0, .int 0, .int 0, .int 0, .ref q32, .ref q33, .ref q34, .ref q35, .ref q36, .int 0, .int 0, .ref q37, .ref q38, .ref q39, .ref q40, .ref q41, .ref q42, .ref q43, .ref q44, .int 0, .int 0, .ref q45, .ref q46, .ref q47, .ref q48, .ref q49, .int 0, .ref q50, .int 0, .int 0, .int 0, .int 0, .ref q51, .int 0, .int 0]))]) [1] (by decide) rfl
    have hKc := hK.sub (tys' := []) [] rfl
    have hFc := va_free (wc := [(q27, .inr (12, [.ref q29, .ref q30, .ref q31, .int 0, .int 0, .int 0, .int 0, .int 0, .ref q32, .ref q33, .ref q34, .ref q35, .ref q36, .int 0, .int 0, .ref q37, .ref q38, .ref q39, .ref q40, .ref q41, .ref q42, .ref q43, .ref q44, .int 0, .int 0, .ref q45, .ref q46, .ref q47, .ref q48, .ref q49, .int 0, .ref q50, .int 0, .int 0, .int 0, .int 0, .ref q51, .int 0, .int 0]))]) hD hS hA [1] rfl
    have hkc : 219 + 0 ≤ 600002 := (Nat.le_of_ble_eq_true rfl)
    refine va_calli (va_runV (As := [.int 6]) (rest := []) hfx (c_Mo_count_6 l dC dI q27 q29 q30 q31 q32 q33 q34 q35 q36 q37 q38 q39 q40 q41 q42 q43 q44 q45 q46 q47 q48 q49 q50 q51 H.size) ⟨(ux_cb 1 hT tw_1972 tw_1969 tw_13 rfl rfl (by decide +kernel) ⟨(Nat.le_of_ble_eq_true rfl), (Nat.le_of_ble_eq_true rfl)⟩), (ux_T_at hT tw_1970 rfl), (ux_T_at hT tw_1971 rfl)⟩ (ux_preV (r := (R_Mo, F_Mo, 39)) (ci := 12) (q0 := 0) [.int 6] hT hPc hKc hDc rfl rfl) rfl rfl hl.1 rfl (lv_room (Nat.le_of_ble_eq_true rfl)) d_La_law_635 ⟨(Nat.le_of_ble_eq_true rfl), (Nat.le_of_ble_eq_true rfl)⟩) hS (fun q _ h => hFc q h) hFc (fun r1048 u t H1 locs ht hvm hw hB hz1 hk1 hS => ?_)
    obtain ⟨hP1, hK1, hD1⟩ := hB
    rw [ht] at hP1
    have hK1 := va_K.moved hvm.symm hK1
    obtain ⟨hP, hD⟩ := va_join (wr := [(q3, .inl (cA25, 2000, .inl (fun _ => 0))), (q29, .inl (cA52, 2000, .inl (fun _ => 0))), (q30, .inl (cA53, 5718, .inl (fun _ => 0))), (q54, .inl (cA55, 1, .inr (.inl (vp_updL (fun _ => 0) (0 : Int32).toNatClampNeg 0))))]) (w1 := [(q27, .inr (12, [.ref q29, .ref q30, .ref q31, .int 0, .int 0, .int 0, .int 0, .int 0, .ref q32, .ref q33, .ref q34, .ref q35, .ref q36, .int 0, .int 0, .ref q37, .ref q38, .ref q39, .ref q40, .ref q41, .ref q42, .ref q43, .ref q44, .int 0, .int 0, .ref q45, .ref q46, .ref q47, .ref q48, .ref q49, .int 0, .ref q50, .int 0, .int 0, .int 0, .int 0, .ref q51, .int 0, .int 0]))]) hP hD [1] [0, 2, 3, 4] rfl rfl (by decide) (by decide) hk1 hFc hP1 hD1
    have hK := (hK.sub (tys' := [(cA25, .byte), (cA52, .byte), (cA53, .byte), (cA55, .long), (cA55, .long)]) [0, 1, 2, 3, 4] rfl).app hK1
    generalize H1 = H at hP hS ⊢
    have hP : va_P (dC, dI) cls [(q3, .inl (cA25, 2000, .inl (fun _ => 0))), (q29, .inl (cA52, 2000, .inl (fun _ => 0))), (q30, .inl (cA53, 5718, .inl (fun _ => 0))), (q54, .inl (cA55, 1, .inr (.inl (vp_updL (fun _ => 0) (0 : Int32).toNatClampNeg 0)))), (q27, .inr (12, [.ref q29, .ref q30, .ref q31, .int 0, .int 0, .int 0, .int 0, .int 0, .ref q32, .ref q33, .ref q34, .ref q35, .ref q36, .int 0, .int 0, .ref q37, .ref q38, .ref q39, .ref q40, .ref q41, .ref q42, .ref q43, .ref q44, .int 0, .int 0, .ref q45, .ref q46, .ref q47, .ref q48, .ref q49, .int 0, .ref q50, .int 0, .int 0, .int 0, .int 0, .ref q51, .int 0, .int 0]))] H := hP
    have hD : va_D A [(q3, .inl (cA25, 2000, .inl (fun _ => 0))), (q29, .inl (cA52, 2000, .inl (fun _ => 0))), (q30, .inl (cA53, 5718, .inl (fun _ => 0))), (q54, .inl (cA55, 1, .inr (.inl (vp_updL (fun _ => 0) (0 : Int32).toNatClampNeg 0)))), (q27, .inr (12, [.ref q29, .ref q30, .ref q31, .int 0, .int 0, .int 0, .int 0, .int 0, .ref q32, .ref q33, .ref q34, .ref q35, .ref q36, .int 0, .int 0, .ref q37, .ref q38, .ref q39, .ref q40, .ref q41, .ref q42, .ref q43, .ref q44, .int 0, .int 0, .ref q45, .ref q46, .ref q47, .ref q48, .ref q49, .int 0, .ref q50, .int 0, .int 0, .int 0, .int 0, .ref q51, .int 0, .int 0]))] := hD
    have hK : va_K (dC, dI) cls [(cA25, .byte), (cA52, .byte), (cA53, .byte), (cA55, .long), (cA55, .long)] s := hK
    obtain rfl : r1048 = 0 := hw
    refine lv_istore hx hb d_La_law_638 hl (by decide) rfl (fun ls hl => ?_)
    have hl : lv_has ls 8 [(6, .int 0), (5, .int 0), (4, .int 0), (3, .ref q54), (2, .ref q27), (1, .ref q1), (0, .ref b)] := hl
    refine lv_aload_n hx hb d_La_law_640 rfl (lv_at hl 4 rfl) ?_
    have hhp : ∀ q, q < s.heap.size → H[q]? = s.heap[q]? := fun q hq => hS.2.1 q hq (fun h => absurd (hA2 q h) (by omega))
    have hPc := hP.sub (ws' := [(q27, .inr (12, [.ref q29, .ref q30, .ref q31, .int 0, .int 0, .int 0, .int 0, .int 0, .ref q32, .ref q33, .ref q34, .ref q35, .ref q36, .int 0, .int 0, .ref q37, .ref q38, .ref q39, .ref q40, .ref q41, .ref q42, .ref q43, .ref q44, .int 0, .int 0, .ref q45, .ref q46, .ref q47, .ref q48, .ref q49, .int 0, .ref q50, .int 0, .int 0, .int 0, .int 0, .ref q51, .int 0, .int 0]))]) [4] rfl
    have hDc := hD.sub (ws' := [(q27, .inr (12, [.ref q29, .ref q30, .ref q31, .int 0, .int 0, .int 0, .int 0, .int 0, .ref q32, .ref q33, .ref q34, .ref q35, .ref q36, .int 0, .int 0, .ref q37, .ref q38, .ref q39, .ref q40, .ref q41, .ref q42, .ref q43, .ref q44, .int 0, .int 0, .ref q45, .ref q46, .ref q47, .ref q48, .ref q49, .int 0, .ref q50, .int 0, .int 0, .int 0, .int 0, .ref q51, .int 0, .int 0]))]) [4] (by decide) rfl
    have hKc := hK.sub (tys' := []) [] rfl
    have hFc := va_free (wc := [(q27, .inr (12, [.ref q29, .ref q30, .ref q31, .int 0, .int 0, .int 0, .int 0, .int 0, .ref q32, .ref q33, .ref q34, .ref q35, .ref q36, .int 0, .int 0, .ref q37, .ref q38, .ref q39, .ref q40, .ref q41, .ref q42, .ref q43, .ref q44, .int 0, .int 0, .ref q45, .ref q46, .ref q47, .ref q48, .ref q49, .int 0, .ref q50, .int 0, .int 0, .int 0, .int 0, .ref q51, .int 0, .int 0]))]) hD hS hA [4] rfl
    have hkc : 219 + 0 ≤ 600002 := (Nat.le_of_ble_eq_true rfl)
    refine va_calli (va_runV (As := []) (rest := []) hfx (c_Mo_thrown_0 l dC dI q27 q29 q30 q31 q32 q33 q34 q35 q36 q37 q38 q39 q40 q41 q42 q43 q44 q45 q46 q47 q48 q49 q50 q51 0 0 H.size) ⟨(ux_cb 0 hT tw_1714 tw_1711 tw_13 rfl rfl (by decide +kernel) ⟨(Nat.le_of_ble_eq_true rfl), (Nat.le_of_ble_eq_true rfl)⟩), (ux_T_at hT tw_1712 rfl), (ux_T_at hT tw_1713 rfl)⟩ (ux_preV (r := (R_Mo, F_Mo, 39)) (ci := 12) (q0 := 0) [] hT hPc hKc hDc rfl rfl) rfl rfl hl.1 rfl (lv_room (Nat.le_of_ble_eq_true rfl)) d_La_law_641 ⟨(Nat.le_of_ble_eq_true rfl), (Nat.le_of_ble_eq_true rfl)⟩) hS (fun q _ h => hFc q h) hFc (fun r1049 u t H1 locs ht hvm hw hB hz1 hk1 hS => ?_)
    obtain ⟨hP1, hK1, hD1⟩ := hB
    rw [ht] at hP1
    have hK1 := va_K.moved hvm.symm hK1
    obtain ⟨hP, hD⟩ := va_join (wr := [(q3, .inl (cA25, 2000, .inl (fun _ => 0))), (q29, .inl (cA52, 2000, .inl (fun _ => 0))), (q30, .inl (cA53, 5718, .inl (fun _ => 0))), (q54, .inl (cA55, 1, .inr (.inl (vp_updL (fun _ => 0) (0 : Int32).toNatClampNeg 0))))]) (w1 := [(q27, .inr (12, [.ref q29, .ref q30, .ref q31, .int 0, .int 0, .int 0, .int 0, .int 0, .ref q32, .ref q33, .ref q34, .ref q35, .ref q36, .int 0, .int 0, .ref q37, .ref q38, .ref q39, .ref q40, .ref q41, .ref q42, .ref q43, .ref q44, .int 0, .int 0, .ref q45, .ref q46, .ref q47, .ref q48, .ref q49, .int 0, .ref q50, .int 0, .int 0, .int 0, .int 0, .ref q51, .int 0, .int 0]))]) hP hD [4] [0, 1, 2, 3] rfl rfl (by decide) (by decide) hk1 hFc hP1 hD1
    have hK := (hK.sub (tys' := [(cA25, .byte), (cA52, .byte), (cA53, .byte), (cA55, .long), (cA55, .long)]) [0, 1, 2, 3, 4] rfl).app hK1
    generalize H1 = H at hP hS ⊢
    have hP : va_P (dC, dI) cls [(q3, .inl (cA25, 2000, .inl (fun _ => 0))), (q29, .inl (cA52, 2000, .inl (fun _ => 0))), (q30, .inl (cA53, 5718, .inl (fun _ => 0))), (q54, .inl (cA55, 1, .inr (.inl (vp_updL (fun _ => 0) (0 : Int32).toNatClampNeg 0)))), (q27, .inr (12, [.ref q29, .ref q30, .ref q31, .int 0, .int 0, .int 0, .int 0, .int 0, .ref q32, .ref q33, .ref q34, .ref q35, .ref q36, .int 0, .int 0, .ref q37, .ref q38, .ref q39, .ref q40, .ref q41, .ref q42, .ref q43, .ref q44, .int 0, .int 0, .ref q45, .ref q46, .ref q47, .ref q48, .ref q49, .int 0, .ref q50, .int 0, .int 0, .int 0, .int 0, .ref q51, .int 0, .int 0]))] H := hP
    have hD : va_D A [(q3, .inl (cA25, 2000, .inl (fun _ => 0))), (q29, .inl (cA52, 2000, .inl (fun _ => 0))), (q30, .inl (cA53, 5718, .inl (fun _ => 0))), (q54, .inl (cA55, 1, .inr (.inl (vp_updL (fun _ => 0) (0 : Int32).toNatClampNeg 0)))), (q27, .inr (12, [.ref q29, .ref q30, .ref q31, .int 0, .int 0, .int 0, .int 0, .int 0, .ref q32, .ref q33, .ref q34, .ref q35, .ref q36, .int 0, .int 0, .ref q37, .ref q38, .ref q39, .ref q40, .ref q41, .ref q42, .ref q43, .ref q44, .int 0, .int 0, .ref q45, .ref q46, .ref q47, .ref q48, .ref q49, .int 0, .ref q50, .int 0, .int 0, .int 0, .int 0, .ref q51, .int 0, .int 0]))] := hD
    have hK : va_K (dC, dI) cls [(cA25, .byte), (cA52, .byte), (cA53, .byte), (cA55, .long), (cA55, .long)] s := hK
    obtain rfl : r1049 = 0 := hw
    refine lv_iload hx hb d_La_law_644 (lv_at hl 1 rfl) ?_
    refine lv_icmp_eq (tgt := 651) hx hb d_La_law_646 (by decide) (fun _ => ?_) (fun hc => absurd (by decide) hc)
    refine lv_iload hx hb d_La_law_651 (lv_at hl 1 rfl) ?_
    refine lv_if_ne (tgt := 668) hx hb d_La_law_653 (by decide) (fun hc => absurd (by decide) hc) (fun _ => ?_)
    refine lv_aload_n hx hb d_La_law_656 rfl (lv_at hl 3 rfl) ?_
    refine lv_iconst (v := 0) hx hb d_La_law_657 (by decide) ?_
    refine va_lald hx hb hK hP 3 3 rfl rfl (i := 0) (show ¬ ((0 : Int32) < 0 ∨ 1 ≤ (0 : Int32).toNatClampNeg) by decide) d_La_law_658 ?_
    refine lv_topl (fun x1050 ex1050 => ?_)
    obtain rfl : x1050 = 0 := ex1050.trans (by decide)
    refine lv_iload hx hb d_La_law_659 (lv_at hl 0 rfl) ?_
    refine lv_i2l (v := 0) hx hb d_La_law_661 (by decide) ?_
    refine W.lcmp hx hb d_La_law_662 ?_
    refine lv_topi (fun x1051 ex1051 => ?_)
    obtain rfl : x1051 = 0 := ex1051.trans (by decide)
    refine lv_if_eq (tgt := 668) hx hb d_La_law_663 (by decide) (fun _ => ?_) (fun hc => absurd (by decide) hc)
    refine lv_goto hx hb d_La_law_668 (tgt := 751) (by decide) ?_
    exact law_end l hA2 ⟨hx, hb, hr, hml, hown, hts, hX, hbl, hlocks, hgv⟩ (Nat.le_of_ble_eq_true rfl) (Nat.le_of_ble_eq_true rfl) hS (lv_sub hl [6, 2] rfl)
  · obtain rfl : v1 = 7 := hv
    have hhp : ∀ q, q < s.heap.size → H[q]? = s.heap[q]? := fun q hq => hS.2.1 q hq (fun h => absurd (hA2 q h) (by omega))
    have hPc := hP.sub (ws' := [(q1, .inr (0, [.ref q3, .int 0, .int 0, .ref q4, .ref q5, .ref q6, .ref q7, .ref q8, .ref q9, .ref q10, .ref q11, .ref q3, .int 0, .int 0])), (q5, .inr (2, [.ref q4, .ref q15, .ref q16, .int 0, .int 0])), (q8, .inr (6, [.ref q18, .ref q19, .ref q5, .int 0, .int 0])), (q4, .inr (1, [.ref q12, .ref q13, .ref q14, .int 0, .int 0])), (q6, .inr (3, [.ref q17, .int 0])), (q9, .inr (10, [.ref q20, .ref q21, .ref q22, .ref q23, .ref q24, .int 0])), (q54, .inl (cA55, 1, .inr (.inl (fun _ => 0))))]) [0, 3, 5, 2, 4, 6, 10] rfl
    have hDc := hD.sub (ws' := [(q1, .inr (0, [.ref q3, .int 0, .int 0, .ref q4, .ref q5, .ref q6, .ref q7, .ref q8, .ref q9, .ref q10, .ref q11, .ref q3, .int 0, .int 0])), (q5, .inr (2, [.ref q4, .ref q15, .ref q16, .int 0, .int 0])), (q8, .inr (6, [.ref q18, .ref q19, .ref q5, .int 0, .int 0])), (q4, .inr (1, [.ref q12, .ref q13, .ref q14, .int 0, .int 0])), (q6, .inr (3, [.ref q17, .int 0])), (q9, .inr (10, [.ref q20, .ref q21, .ref q22, .ref q23, .ref q24, .int 0])), (q54, .inl (cA55, 1, .inr (.inl (fun _ => 0))))]) [0, 3, 5, 2, 4, 6, 10] (by decide) rfl
    have hKc := hK.sub (tys' := [(cA55, .long)]) [3] rfl
    have hFc := va_free (wc := [(q1, .inr (0, [.ref q3, .int 0, .int 0, .ref q4, .ref q5, .ref q6, .ref q7, .ref q8, .ref q9, .ref q10, .ref q11, .ref q3, .int 0, .int 0])), (q5, .inr (2, [.ref q4, .ref q15, .ref q16, .int 0, .int 0])), (q8, .inr (6, [.ref q18, .ref q19, .ref q5, .int 0, .int 0])), (q4, .inr (1, [.ref q12, .ref q13, .ref q14, .int 0, .int 0])), (q6, .inr (3, [.ref q17, .int 0])), (q9, .inr (10, [.ref q20, .ref q21, .ref q22, .ref q23, .ref q24, .int 0])), (q54, .inl (cA55, 1, .inr (.inl (fun _ => 0))))]) hD hS hA [0, 3, 5, 2, 4, 6, 10] rfl
    have hkc : 219 + 0 ≤ 600002 := (Nat.le_of_ble_eq_true rfl)
    refine va_calli (ux_runSW (n := 3) (As := [.ref q1, .int 7, .ref q54]) (rest := []) hfx (c_La_count_7 l dC dI q1 q54 q3 q4 q5 q6 q7 q8 q9 q10 q11 q15 q16 q18 q19 q12 q13 q14 q17 q20 q21 q22 q23 q24 cA55 H.size) hT tw_1450 tw_1448 tw_0 tw_1449 rfl rfl (by decide +kernel) ⟨(Nat.le_of_ble_eq_true rfl), (Nat.le_of_ble_eq_true rfl)⟩ (ux_pre [.ref q1, .int 7, .ref q54] hT hPc hKc hDc) rfl rfl hl.1 rfl (lv_room (Nat.le_of_ble_eq_true rfl)) d_La_law_623 ⟨(Nat.le_of_ble_eq_true rfl), (Nat.le_of_ble_eq_true rfl)⟩) hS (fun q _ h => hFc q h) hFc (fun r1052 u t H1 locs ht hvm hw hB hz1 hk1 hS => ?_)
    obtain ⟨hP1, hK1, hD1⟩ := hB
    rw [ht] at hP1
    have hK1 := va_K.moved hvm.symm hK1
    obtain ⟨hP, hD⟩ := va_join (wr := [(q3, .inl (cA25, 2000, .inl (fun _ => 0))), (q27, .inr (12, [.ref q29, .ref q30, .ref q31, .int 0, .int 0, .int 0, .int 0, .int 0, .ref q32, .ref q33, .ref q34, .ref q35, .ref q36, .int 0, .int 0, .ref q37, .ref q38, .ref q39, .ref q40, .ref q41, .ref q42, .ref q43, .ref q44, .int 0, .int 0, .ref q45, .ref q46, .ref q47, .ref q48, .ref q49, .int 0, .ref q50, .int 0, .int 0, .int 0, .int 0, .ref q51, .int 0, .int 0])), (q29, .inl (cA52, 2000, .inl (fun _ => 0))), (q30, .inl (cA53, 5718, .inl (fun _ => 0)))]) (w1 := [(q54, .inl (cA55, 1, .inr (.inl (vp_updL (fun _ => 0) (0 : Int32).toNatClampNeg 0))))]) hP hD [0, 3, 5, 2, 4, 6, 10] [1, 7, 8, 9] rfl rfl (by decide) (by decide) hk1 hFc hP1 hD1
    have hK := (hK.sub (tys' := [(cA25, .byte), (cA52, .byte), (cA53, .byte), (cA55, .long)]) [0, 1, 2, 3] rfl).app hK1
    generalize H1 = H at hP hS ⊢
    have hP : va_P (dC, dI) cls [(q3, .inl (cA25, 2000, .inl (fun _ => 0))), (q27, .inr (12, [.ref q29, .ref q30, .ref q31, .int 0, .int 0, .int 0, .int 0, .int 0, .ref q32, .ref q33, .ref q34, .ref q35, .ref q36, .int 0, .int 0, .ref q37, .ref q38, .ref q39, .ref q40, .ref q41, .ref q42, .ref q43, .ref q44, .int 0, .int 0, .ref q45, .ref q46, .ref q47, .ref q48, .ref q49, .int 0, .ref q50, .int 0, .int 0, .int 0, .int 0, .ref q51, .int 0, .int 0])), (q29, .inl (cA52, 2000, .inl (fun _ => 0))), (q30, .inl (cA53, 5718, .inl (fun _ => 0))), (q54, .inl (cA55, 1, .inr (.inl (vp_updL (fun _ => 0) (0 : Int32).toNatClampNeg 0))))] H := hP
    have hD : va_D A [(q3, .inl (cA25, 2000, .inl (fun _ => 0))), (q27, .inr (12, [.ref q29, .ref q30, .ref q31, .int 0, .int 0, .int 0, .int 0, .int 0, .ref q32, .ref q33, .ref q34, .ref q35, .ref q36, .int 0, .int 0, .ref q37, .ref q38, .ref q39, .ref q40, .ref q41, .ref q42, .ref q43, .ref q44, .int 0, .int 0, .ref q45, .ref q46, .ref q47, .ref q48, .ref q49, .int 0, .ref q50, .int 0, .int 0, .int 0, .int 0, .ref q51, .int 0, .int 0])), (q29, .inl (cA52, 2000, .inl (fun _ => 0))), (q30, .inl (cA53, 5718, .inl (fun _ => 0))), (q54, .inl (cA55, 1, .inr (.inl (vp_updL (fun _ => 0) (0 : Int32).toNatClampNeg 0))))] := hD
    have hK : va_K (dC, dI) cls [(cA25, .byte), (cA52, .byte), (cA53, .byte), (cA55, .long), (cA55, .long)] s := hK
    obtain rfl : r1052 = 0 := hw
    refine lv_istore hx hb d_La_law_626 hl (by decide) rfl (fun ls hl => ?_)
    have hl : lv_has ls 8 [(5, .int 0), (4, .int 0), (3, .ref q54), (2, .ref q27), (1, .ref q1), (0, .ref b)] := hl
    refine lv_aload_n hx hb d_La_law_628 rfl (lv_at hl 3 rfl) ?_
    refine lv_aload_n hx hb d_La_law_629 rfl (lv_at hl 5 rfl) ?_
    refine lv_iload hx hb d_La_law_630 (lv_at hl 1 rfl) ?_
    refine lv_iconst (v := 1) hx hb d_La_law_632 (by decide) ?_
    refine lv_iadd hx hb d_La_law_633 ?_
    refine lv_topi (fun x1053 ex1053 => ?_)
    obtain rfl : x1053 = 1 := ex1053.trans (by decide)
    refine va_sld hx hb hX hbl hbA hS (i := 1) (show ¬ ((1 : Int32) < 0 ∨ 6 ≤ (1 : Int32).toNatClampNeg) by decide) d_La_law_634 ?_
    refine lv_topi (fun x1054 ex1054 => ?_)
    obtain rfl : x1054 = 7 := ex1054.trans hv1
    have hhp : ∀ q, q < s.heap.size → H[q]? = s.heap[q]? := fun q hq => hS.2.1 q hq (fun h => absurd (hA2 q h) (by omega))
    have hPc := hP.sub (ws' := [(q27, .inr (12, [.ref q29, .ref q30, .ref q31, .int 0, .int 0, .int 0, .int 0, .int 0, .ref q32, .ref q33, .ref q34, .ref q35, .ref q36, .int 0, .int 0, .ref q37, .ref q38, .ref q39, .ref q40, .ref q41, .ref q42, .ref q43, .ref q44, .int 0, .int 0, .ref q45, .ref q46, .ref q47, .ref q48, .ref q49, .int 0, .ref q50, .int 0, .int 0, .int 0, .int 0, .ref q51, .int 0, .int 0]))]) [1] rfl
    have hDc := hD.sub (ws' := [(q27, .inr (12, [.ref q29, .ref q30, .ref q31, .int 0, .int 0, .int 0, .int 0, .int 0, .ref q32, .ref q33, .ref q34, .ref q35, .ref q36, .int 0, .int 0, .ref q37, .ref q38, .ref q39, .ref q40, .ref q41, .ref q42, .ref q43, .ref q44, .int 0, .int 0, .ref q45, .ref q46, .ref q47, .ref q48, .ref q49, .int 0, .ref q50, .int 0, .int 0, .int 0, .int 0, .ref q51, .int 0, .int 0]))]) [1] (by decide) rfl
    have hKc := hK.sub (tys' := []) [] rfl
    have hFc := va_free (wc := [(q27, .inr (12, [.ref q29, .ref q30, .ref q31, .int 0, .int 0, .int 0, .int 0, .int 0, .ref q32, .ref q33, .ref q34, .ref q35, .ref q36, .int 0, .int 0, .ref q37, .ref q38, .ref q39, .ref q40, .ref q41, .ref q42, .ref q43, .ref q44, .int 0, .int 0, .ref q45, .ref q46, .ref q47, .ref q48, .ref q49, .int 0, .ref q50, .int 0, .int 0, .int 0, .int 0, .ref q51, .int 0, .int 0]))]) hD hS hA [1] rfl
    have hkc : 219 + 0 ≤ 600002 := (Nat.le_of_ble_eq_true rfl)
    refine va_calli (va_runV (As := [.int 7]) (rest := []) hfx (c_Mo_count_7 l dC dI q27 q29 q30 q31 q32 q33 q34 q35 q36 q37 q38 q39 q40 q41 q42 q43 q44 q45 q46 q47 q48 q49 q50 q51 H.size) ⟨(ux_cb 1 hT tw_1972 tw_1969 tw_13 rfl rfl (by decide +kernel) ⟨(Nat.le_of_ble_eq_true rfl), (Nat.le_of_ble_eq_true rfl)⟩), (ux_T_at hT tw_1970 rfl), (ux_T_at hT tw_1971 rfl)⟩ (ux_preV (r := (R_Mo, F_Mo, 39)) (ci := 12) (q0 := 0) [.int 7] hT hPc hKc hDc rfl rfl) rfl rfl hl.1 rfl (lv_room (Nat.le_of_ble_eq_true rfl)) d_La_law_635 ⟨(Nat.le_of_ble_eq_true rfl), (Nat.le_of_ble_eq_true rfl)⟩) hS (fun q _ h => hFc q h) hFc (fun r1055 u t H1 locs ht hvm hw hB hz1 hk1 hS => ?_)
    obtain ⟨hP1, hK1, hD1⟩ := hB
    rw [ht] at hP1
    have hK1 := va_K.moved hvm.symm hK1
    obtain ⟨hP, hD⟩ := va_join (wr := [(q3, .inl (cA25, 2000, .inl (fun _ => 0))), (q29, .inl (cA52, 2000, .inl (fun _ => 0))), (q30, .inl (cA53, 5718, .inl (fun _ => 0))), (q54, .inl (cA55, 1, .inr (.inl (vp_updL (fun _ => 0) (0 : Int32).toNatClampNeg 0))))]) (w1 := [(q27, .inr (12, [.ref q29, .ref q30, .ref q31, .int 0, .int 0, .int 0, .int 0, .int 0, .ref q32, .ref q33, .ref q34, .ref q35, .ref q36, .int 0, .int 0, .ref q37, .ref q38, .ref q39, .ref q40, .ref q41, .ref q42, .ref q43, .ref q44, .int 0, .int 0, .ref q45, .ref q46, .ref q47, .ref q48, .ref q49, .int 0, .ref q50, .int 0, .int 0, .int 0, .int 0, .ref q51, .int 0, .int 0]))]) hP hD [1] [0, 2, 3, 4] rfl rfl (by decide) (by decide) hk1 hFc hP1 hD1
    have hK := (hK.sub (tys' := [(cA25, .byte), (cA52, .byte), (cA53, .byte), (cA55, .long), (cA55, .long)]) [0, 1, 2, 3, 4] rfl).app hK1
    generalize H1 = H at hP hS ⊢
    have hP : va_P (dC, dI) cls [(q3, .inl (cA25, 2000, .inl (fun _ => 0))), (q29, .inl (cA52, 2000, .inl (fun _ => 0))), (q30, .inl (cA53, 5718, .inl (fun _ => 0))), (q54, .inl (cA55, 1, .inr (.inl (vp_updL (fun _ => 0) (0 : Int32).toNatClampNeg 0)))), (q27, .inr (12, [.ref q29, .ref q30, .ref q31, .int 0, .int 0, .int 0, .int 0, .int 0, .ref q32, .ref q33, .ref q34, .ref q35, .ref q36, .int 0, .int 0, .ref q37, .ref q38, .ref q39, .ref q40, .ref q41, .ref q42, .ref q43, .ref q44, .int 0, .int 0, .ref q45, .ref q46, .ref q47, .ref q48, .ref q49, .int 0, .ref q50, .int 0, .int 0, .int 0, .int 0, .ref q51, .int 0, .int 0]))] H := hP
    have hD : va_D A [(q3, .inl (cA25, 2000, .inl (fun _ => 0))), (q29, .inl (cA52, 2000, .inl (fun _ => 0))), (q30, .inl (cA53, 5718, .inl (fun _ => 0))), (q54, .inl (cA55, 1, .inr (.inl (vp_updL (fun _ => 0) (0 : Int32).toNatClampNeg 0)))), (q27, .inr (12, [.ref q29, .ref q30, .ref q31, .int 0, .int 0, .int 0, .int 0, .int 0, .ref q32, .ref q33, .ref q34, .ref q35, .ref q36, .int 0, .int 0, .ref q37, .ref q38, .ref q39, .ref q40, .ref q41, .ref q42, .ref q43, .ref q44, .int 0, .int 0, .ref q45, .ref q46, .ref q47, .ref q48, .ref q49, .int 0, .ref q50, .int 0, .int 0, .int 0, .int 0, .ref q51, .int 0, .int 0]))] := hD
    have hK : va_K (dC, dI) cls [(cA25, .byte), (cA52, .byte), (cA53, .byte), (cA55, .long), (cA55, .long)] s := hK
    obtain rfl : r1055 = 0 := hw
    refine lv_istore hx hb d_La_law_638 hl (by decide) rfl (fun ls hl => ?_)
    have hl : lv_has ls 8 [(6, .int 0), (5, .int 0), (4, .int 0), (3, .ref q54), (2, .ref q27), (1, .ref q1), (0, .ref b)] := hl
    refine lv_aload_n hx hb d_La_law_640 rfl (lv_at hl 4 rfl) ?_
    have hhp : ∀ q, q < s.heap.size → H[q]? = s.heap[q]? := fun q hq => hS.2.1 q hq (fun h => absurd (hA2 q h) (by omega))
    have hPc := hP.sub (ws' := [(q27, .inr (12, [.ref q29, .ref q30, .ref q31, .int 0, .int 0, .int 0, .int 0, .int 0, .ref q32, .ref q33, .ref q34, .ref q35, .ref q36, .int 0, .int 0, .ref q37, .ref q38, .ref q39, .ref q40, .ref q41, .ref q42, .ref q43, .ref q44, .int 0, .int 0, .ref q45, .ref q46, .ref q47, .ref q48, .ref q49, .int 0, .ref q50, .int 0, .int 0, .int 0, .int 0, .ref q51, .int 0, .int 0]))]) [4] rfl
    have hDc := hD.sub (ws' := [(q27, .inr (12, [.ref q29, .ref q30, .ref q31, .int 0, .int 0, .int 0, .int 0, .int 0, .ref q32, .ref q33, .ref q34, .ref q35, .ref q36, .int 0, .int 0, .ref q37, .ref q38, .ref q39, .ref q40, .ref q41, .ref q42, .ref q43, .ref q44, .int 0, .int 0, .ref q45, .ref q46, .ref q47, .ref q48, .ref q49, .int 0, .ref q50, .int 0, .int 0, .int 0, .int 0, .ref q51, .int 0, .int 0]))]) [4] (by decide) rfl
    have hKc := hK.sub (tys' := []) [] rfl
    have hFc := va_free (wc := [(q27, .inr (12, [.ref q29, .ref q30, .ref q31, .int 0, .int 0, .int 0, .int 0, .int 0, .ref q32, .ref q33, .ref q34, .ref q35, .ref q36, .int 0, .int 0, .ref q37, .ref q38, .ref q39, .ref q40, .ref q41, .ref q42, .ref q43, .ref q44, .int 0, .int 0, .ref q45, .ref q46, .ref q47, .ref q48, .ref q49, .int 0, .ref q50, .int 0, .int 0, .int 0, .int 0, .ref q51, .int 0, .int 0]))]) hD hS hA [4] rfl
    have hkc : 219 + 0 ≤ 600002 := (Nat.le_of_ble_eq_true rfl)
    refine va_calli (va_runV (As := []) (rest := []) hfx (c_Mo_thrown_0 l dC dI q27 q29 q30 q31 q32 q33 q34 q35 q36 q37 q38 q39 q40 q41 q42 q43 q44 q45 q46 q47 q48 q49 q50 q51 0 0 H.size) ⟨(ux_cb 0 hT tw_1714 tw_1711 tw_13 rfl rfl (by decide +kernel) ⟨(Nat.le_of_ble_eq_true rfl), (Nat.le_of_ble_eq_true rfl)⟩), (ux_T_at hT tw_1712 rfl), (ux_T_at hT tw_1713 rfl)⟩ (ux_preV (r := (R_Mo, F_Mo, 39)) (ci := 12) (q0 := 0) [] hT hPc hKc hDc rfl rfl) rfl rfl hl.1 rfl (lv_room (Nat.le_of_ble_eq_true rfl)) d_La_law_641 ⟨(Nat.le_of_ble_eq_true rfl), (Nat.le_of_ble_eq_true rfl)⟩) hS (fun q _ h => hFc q h) hFc (fun r1056 u t H1 locs ht hvm hw hB hz1 hk1 hS => ?_)
    obtain ⟨hP1, hK1, hD1⟩ := hB
    rw [ht] at hP1
    have hK1 := va_K.moved hvm.symm hK1
    obtain ⟨hP, hD⟩ := va_join (wr := [(q3, .inl (cA25, 2000, .inl (fun _ => 0))), (q29, .inl (cA52, 2000, .inl (fun _ => 0))), (q30, .inl (cA53, 5718, .inl (fun _ => 0))), (q54, .inl (cA55, 1, .inr (.inl (vp_updL (fun _ => 0) (0 : Int32).toNatClampNeg 0))))]) (w1 := [(q27, .inr (12, [.ref q29, .ref q30, .ref q31, .int 0, .int 0, .int 0, .int 0, .int 0, .ref q32, .ref q33, .ref q34, .ref q35, .ref q36, .int 0, .int 0, .ref q37, .ref q38, .ref q39, .ref q40, .ref q41, .ref q42, .ref q43, .ref q44, .int 0, .int 0, .ref q45, .ref q46, .ref q47, .ref q48, .ref q49, .int 0, .ref q50, .int 0, .int 0, .int 0, .int 0, .ref q51, .int 0, .int 0]))]) hP hD [4] [0, 1, 2, 3] rfl rfl (by decide) (by decide) hk1 hFc hP1 hD1
    have hK := (hK.sub (tys' := [(cA25, .byte), (cA52, .byte), (cA53, .byte), (cA55, .long), (cA55, .long)]) [0, 1, 2, 3, 4] rfl).app hK1
    generalize H1 = H at hP hS ⊢
    have hP : va_P (dC, dI) cls [(q3, .inl (cA25, 2000, .inl (fun _ => 0))), (q29, .inl (cA52, 2000, .inl (fun _ => 0))), (q30, .inl (cA53, 5718, .inl (fun _ => 0))), (q54, .inl (cA55, 1, .inr (.inl (vp_updL (fun _ => 0) (0 : Int32).toNatClampNeg 0)))), (q27, .inr (12, [.ref q29, .ref q30, .ref q31, .int 0, .int 0, .int 0, .int 0, .int 0, .ref q32, .ref q33, .ref q34, .ref q35, .ref q36, .int 0, .int 0, .ref q37, .ref q38, .ref q39, .ref q40, .ref q41, .ref q42, .ref q43, .ref q44, .int 0, .int 0, .ref q45, .ref q46, .ref q47, .ref q48, .ref q49, .int 0, .ref q50, .int 0, .int 0, .int 0, .int 0, .ref q51, .int 0, .int 0]))] H := hP
    have hD : va_D A [(q3, .inl (cA25, 2000, .inl (fun _ => 0))), (q29, .inl (cA52, 2000, .inl (fun _ => 0))), (q30, .inl (cA53, 5718, .inl (fun _ => 0))), (q54, .inl (cA55, 1, .inr (.inl (vp_updL (fun _ => 0) (0 : Int32).toNatClampNeg 0)))), (q27, .inr (12, [.ref q29, .ref q30, .ref q31, .int 0, .int 0, .int 0, .int 0, .int 0, .ref q32, .ref q33, .ref q34, .ref q35, .ref q36, .int 0, .int 0, .ref q37, .ref q38, .ref q39, .ref q40, .ref q41, .ref q42, .ref q43, .ref q44, .int 0, .int 0, .ref q45, .ref q46, .ref q47, .ref q48, .ref q49, .int 0, .ref q50, .int 0, .int 0, .int 0, .int 0, .ref q51, .int 0, .int 0]))] := hD
    have hK : va_K (dC, dI) cls [(cA25, .byte), (cA52, .byte), (cA53, .byte), (cA55, .long), (cA55, .long)] s := hK
    obtain rfl : r1056 = 0 := hw
    refine lv_iload hx hb d_La_law_644 (lv_at hl 1 rfl) ?_
    refine lv_icmp_eq (tgt := 651) hx hb d_La_law_646 (by decide) (fun _ => ?_) (fun hc => absurd (by decide) hc)
    refine lv_iload hx hb d_La_law_651 (lv_at hl 1 rfl) ?_
    refine lv_if_ne (tgt := 668) hx hb d_La_law_653 (by decide) (fun hc => absurd (by decide) hc) (fun _ => ?_)
    refine lv_aload_n hx hb d_La_law_656 rfl (lv_at hl 3 rfl) ?_
    refine lv_iconst (v := 0) hx hb d_La_law_657 (by decide) ?_
    refine va_lald hx hb hK hP 3 3 rfl rfl (i := 0) (show ¬ ((0 : Int32) < 0 ∨ 1 ≤ (0 : Int32).toNatClampNeg) by decide) d_La_law_658 ?_
    refine lv_topl (fun x1057 ex1057 => ?_)
    obtain rfl : x1057 = 0 := ex1057.trans (by decide)
    refine lv_iload hx hb d_La_law_659 (lv_at hl 0 rfl) ?_
    refine lv_i2l (v := 0) hx hb d_La_law_661 (by decide) ?_
    refine W.lcmp hx hb d_La_law_662 ?_
    refine lv_topi (fun x1058 ex1058 => ?_)
    obtain rfl : x1058 = 0 := ex1058.trans (by decide)
    refine lv_if_eq (tgt := 668) hx hb d_La_law_663 (by decide) (fun _ => ?_) (fun hc => absurd (by decide) hc)
    refine lv_goto hx hb d_La_law_668 (tgt := 751) (by decide) ?_
    exact law_end l hA2 ⟨hx, hb, hr, hml, hown, hts, hX, hbl, hlocks, hgv⟩ (Nat.le_of_ble_eq_true rfl) (Nat.le_of_ble_eq_true rfl) hS (lv_sub hl [6, 2] rfl)
  · have hhp : ∀ q, q < s.heap.size → H[q]? = s.heap[q]? := fun q hq => hS.2.1 q hq (fun h => absurd (hA2 q h) (by omega))
    have hPc := hP.sub (ws' := [(q1, .inr (0, [.ref q3, .int 0, .int 0, .ref q4, .ref q5, .ref q6, .ref q7, .ref q8, .ref q9, .ref q10, .ref q11, .ref q3, .int 0, .int 0])), (q54, .inl (cA55, 1, .inr (.inl (fun _ => 0))))]) [0, 10] rfl
    have hDc := hD.sub (ws' := [(q1, .inr (0, [.ref q3, .int 0, .int 0, .ref q4, .ref q5, .ref q6, .ref q7, .ref q8, .ref q9, .ref q10, .ref q11, .ref q3, .int 0, .int 0])), (q54, .inl (cA55, 1, .inr (.inl (fun _ => 0))))]) [0, 10] (by decide) rfl
    have hKc := hK.sub (tys' := [(cA55, .long)]) [3] rfl
    have hFc := va_free (wc := [(q1, .inr (0, [.ref q3, .int 0, .int 0, .ref q4, .ref q5, .ref q6, .ref q7, .ref q8, .ref q9, .ref q10, .ref q11, .ref q3, .int 0, .int 0])), (q54, .inl (cA55, 1, .inr (.inl (fun _ => 0))))]) hD hS hA [0, 10] rfl
    have hkc : 219 + 1 ≤ 600002 := (Nat.le_of_ble_eq_true rfl)
    refine va_calli (ux_runSW (n := 3) (As := [.ref q1, .int v1, .ref q54]) (rest := []) hfx (c_La_count_no l hfl dC dI q1 q54 q3 q4 q5 q6 q7 q8 q9 q10 q11 cA55 v1 hn H.size) hT tw_1450 tw_1448 tw_0 tw_1449 rfl rfl (by decide +kernel) ⟨(Nat.le_of_ble_eq_true rfl), (Nat.le_of_ble_eq_true rfl)⟩ (ux_preH [.ref q1, .int v1, .ref q54] hT hH hhp hPc hKc hDc) rfl rfl hl.1 rfl (lv_room (Nat.le_of_ble_eq_true rfl)) d_La_law_623 ⟨(Nat.le_of_ble_eq_true rfl), (Nat.le_of_ble_eq_true rfl)⟩) hS (fun q _ h => hFc q h) hFc (fun r1059 u t H1 locs ht hvm hw hB hz1 hk1 hS => ?_)
    obtain ⟨hP1, hK1, hD1⟩ := hB
    rw [ht] at hP1
    have hK1 := va_K.moved hvm.symm hK1
    obtain ⟨hP, hD⟩ := va_join (wr := [(q3, .inl (cA25, 2000, .inl (fun _ => 0))), (q4, .inr (1, [.ref q12, .ref q13, .ref q14, .int 0, .int 0])), (q5, .inr (2, [.ref q4, .ref q15, .ref q16, .int 0, .int 0])), (q6, .inr (3, [.ref q17, .int 0])), (q8, .inr (6, [.ref q18, .ref q19, .ref q5, .int 0, .int 0])), (q9, .inr (10, [.ref q20, .ref q21, .ref q22, .ref q23, .ref q24, .int 0])), (q27, .inr (12, [.ref q29, .ref q30, .ref q31, .int 0, .int 0, .int 0, .int 0, .int 0, .ref q32, .ref q33, .ref q34, .ref q35, .ref q36, .int 0, .int 0, .ref q37, .ref q38, .ref q39, .ref q40, .ref q41, .ref q42, .ref q43, .ref q44, .int 0, .int 0, .ref q45, .ref q46, .ref q47, .ref q48, .ref q49, .int 0, .ref q50, .int 0, .int 0, .int 0, .int 0, .ref q51, .int 0, .int 0])), (q29, .inl (cA52, 2000, .inl (fun _ => 0))), (q30, .inl (cA53, 5718, .inl (fun _ => 0)))]) (w1 := [(q54, .inl (cA55, 1, .inr (.inl (fun _ => 0))))]) hP hD [0, 10] [1, 2, 3, 4, 5, 6, 7, 8, 9] rfl rfl (by decide) (by decide) hk1 hFc hP1 hD1
    have hK := (hK.sub (tys' := [(cA25, .byte), (cA52, .byte), (cA53, .byte), (cA55, .long)]) [0, 1, 2, 3] rfl).app hK1
    generalize H1 = H at hP hS ⊢
    have hP : va_P (dC, dI) cls [(q3, .inl (cA25, 2000, .inl (fun _ => 0))), (q4, .inr (1, [.ref q12, .ref q13, .ref q14, .int 0, .int 0])), (q5, .inr (2, [.ref q4, .ref q15, .ref q16, .int 0, .int 0])), (q6, .inr (3, [.ref q17, .int 0])), (q8, .inr (6, [.ref q18, .ref q19, .ref q5, .int 0, .int 0])), (q9, .inr (10, [.ref q20, .ref q21, .ref q22, .ref q23, .ref q24, .int 0])), (q27, .inr (12, [.ref q29, .ref q30, .ref q31, .int 0, .int 0, .int 0, .int 0, .int 0, .ref q32, .ref q33, .ref q34, .ref q35, .ref q36, .int 0, .int 0, .ref q37, .ref q38, .ref q39, .ref q40, .ref q41, .ref q42, .ref q43, .ref q44, .int 0, .int 0, .ref q45, .ref q46, .ref q47, .ref q48, .ref q49, .int 0, .ref q50, .int 0, .int 0, .int 0, .int 0, .ref q51, .int 0, .int 0])), (q29, .inl (cA52, 2000, .inl (fun _ => 0))), (q30, .inl (cA53, 5718, .inl (fun _ => 0))), (q54, .inl (cA55, 1, .inr (.inl (fun _ => 0))))] H := hP
    have hD : va_D A [(q3, .inl (cA25, 2000, .inl (fun _ => 0))), (q4, .inr (1, [.ref q12, .ref q13, .ref q14, .int 0, .int 0])), (q5, .inr (2, [.ref q4, .ref q15, .ref q16, .int 0, .int 0])), (q6, .inr (3, [.ref q17, .int 0])), (q8, .inr (6, [.ref q18, .ref q19, .ref q5, .int 0, .int 0])), (q9, .inr (10, [.ref q20, .ref q21, .ref q22, .ref q23, .ref q24, .int 0])), (q27, .inr (12, [.ref q29, .ref q30, .ref q31, .int 0, .int 0, .int 0, .int 0, .int 0, .ref q32, .ref q33, .ref q34, .ref q35, .ref q36, .int 0, .int 0, .ref q37, .ref q38, .ref q39, .ref q40, .ref q41, .ref q42, .ref q43, .ref q44, .int 0, .int 0, .ref q45, .ref q46, .ref q47, .ref q48, .ref q49, .int 0, .ref q50, .int 0, .int 0, .int 0, .int 0, .ref q51, .int 0, .int 0])), (q29, .inl (cA52, 2000, .inl (fun _ => 0))), (q30, .inl (cA53, 5718, .inl (fun _ => 0))), (q54, .inl (cA55, 1, .inr (.inl (fun _ => 0))))] := hD
    have hK : va_K (dC, dI) cls [(cA25, .byte), (cA52, .byte), (cA53, .byte), (cA55, .long), (cA55, .long)] s := hK
    obtain rfl : r1059 = 1 := hw
    refine lv_istore hx hb d_La_law_626 hl (by decide) rfl (fun ls hl => ?_)
    have hl : lv_has ls 8 [(5, .int 1), (4, .int 0), (3, .ref q54), (2, .ref q27), (1, .ref q1), (0, .ref b)] := hl
    refine lv_aload_n hx hb d_La_law_628 rfl (lv_at hl 3 rfl) ?_
    refine lv_aload_n hx hb d_La_law_629 rfl (lv_at hl 5 rfl) ?_
    refine lv_iload hx hb d_La_law_630 (lv_at hl 1 rfl) ?_
    refine lv_iconst (v := 1) hx hb d_La_law_632 (by decide) ?_
    refine lv_iadd hx hb d_La_law_633 ?_
    refine lv_topi (fun x1060 ex1060 => ?_)
    obtain rfl : x1060 = 1 := ex1060.trans (by decide)
    refine va_sld hx hb hX hbl hbA hS (i := 1) (show ¬ ((1 : Int32) < 0 ∨ 6 ≤ (1 : Int32).toNatClampNeg) by decide) d_La_law_634 ?_
    refine lv_topi (fun x1061 ex1061 => ?_)
    obtain rfl : v1 = x1061 := (ex1061.trans hv1).symm
    have hhp : ∀ q, q < s.heap.size → H[q]? = s.heap[q]? := fun q hq => hS.2.1 q hq (fun h => absurd (hA2 q h) (by omega))
    have hPc := hP.sub (ws' := [(q27, .inr (12, [.ref q29, .ref q30, .ref q31, .int 0, .int 0, .int 0, .int 0, .int 0, .ref q32, .ref q33, .ref q34, .ref q35, .ref q36, .int 0, .int 0, .ref q37, .ref q38, .ref q39, .ref q40, .ref q41, .ref q42, .ref q43, .ref q44, .int 0, .int 0, .ref q45, .ref q46, .ref q47, .ref q48, .ref q49, .int 0, .ref q50, .int 0, .int 0, .int 0, .int 0, .ref q51, .int 0, .int 0]))]) [6] rfl
    have hDc := hD.sub (ws' := [(q27, .inr (12, [.ref q29, .ref q30, .ref q31, .int 0, .int 0, .int 0, .int 0, .int 0, .ref q32, .ref q33, .ref q34, .ref q35, .ref q36, .int 0, .int 0, .ref q37, .ref q38, .ref q39, .ref q40, .ref q41, .ref q42, .ref q43, .ref q44, .int 0, .int 0, .ref q45, .ref q46, .ref q47, .ref q48, .ref q49, .int 0, .ref q50, .int 0, .int 0, .int 0, .int 0, .ref q51, .int 0, .int 0]))]) [6] (by decide) rfl
    have hKc := hK.sub (tys' := []) [] rfl
    have hFc := va_free (wc := [(q27, .inr (12, [.ref q29, .ref q30, .ref q31, .int 0, .int 0, .int 0, .int 0, .int 0, .ref q32, .ref q33, .ref q34, .ref q35, .ref q36, .int 0, .int 0, .ref q37, .ref q38, .ref q39, .ref q40, .ref q41, .ref q42, .ref q43, .ref q44, .int 0, .int 0, .ref q45, .ref q46, .ref q47, .ref q48, .ref q49, .int 0, .ref q50, .int 0, .int 0, .int 0, .int 0, .ref q51, .int 0, .int 0]))]) hD hS hA [6] rfl
    have hkc : 220 + 0 ≤ 600002 := (Nat.le_of_ble_eq_true rfl)
    refine va_calli (va_runV (As := [.int v1]) (rest := []) hfx (c_Mo_count_no l dC dI q27 q29 q30 q31 q32 q33 q34 q35 q36 q37 q38 q39 q40 q41 q42 q43 q44 q45 q46 q47 q48 q49 q50 q51 v1 hn H.size) ⟨(ux_cb 1 hT tw_1972 tw_1969 tw_13 rfl rfl (by decide +kernel) ⟨(Nat.le_of_ble_eq_true rfl), (Nat.le_of_ble_eq_true rfl)⟩), (ux_T_at hT tw_1970 rfl), (ux_T_at hT tw_1971 rfl)⟩ (ux_preV (r := (R_Mo, F_Mo, 39)) (ci := 12) (q0 := 0) [.int v1] hT hPc hKc hDc rfl rfl) rfl rfl hl.1 rfl (lv_room (Nat.le_of_ble_eq_true rfl)) d_La_law_635 ⟨(Nat.le_of_ble_eq_true rfl), (Nat.le_of_ble_eq_true rfl)⟩) hS (fun q _ h => hFc q h) hFc (fun r1062 u t H1 locs ht hvm hw hB hz1 hk1 hS => ?_)
    obtain ⟨hP1, hK1, hD1⟩ := hB
    rw [ht] at hP1
    have hK1 := va_K.moved hvm.symm hK1
    obtain ⟨hP, hD⟩ := va_join (wr := [(q3, .inl (cA25, 2000, .inl (fun _ => 0))), (q4, .inr (1, [.ref q12, .ref q13, .ref q14, .int 0, .int 0])), (q5, .inr (2, [.ref q4, .ref q15, .ref q16, .int 0, .int 0])), (q6, .inr (3, [.ref q17, .int 0])), (q8, .inr (6, [.ref q18, .ref q19, .ref q5, .int 0, .int 0])), (q9, .inr (10, [.ref q20, .ref q21, .ref q22, .ref q23, .ref q24, .int 0])), (q29, .inl (cA52, 2000, .inl (fun _ => 0))), (q30, .inl (cA53, 5718, .inl (fun _ => 0))), (q54, .inl (cA55, 1, .inr (.inl (fun _ => 0))))]) (w1 := [(q27, .inr (12, [.ref q29, .ref q30, .ref q31, .int 0, .int 1, .int 0, .int 0, .int 0, .ref q32, .ref q33, .ref q34, .ref q35, .ref q36, .int 0, .int 0, .ref q37, .ref q38, .ref q39, .ref q40, .ref q41, .ref q42, .ref q43, .ref q44, .int 0, .int 0, .ref q45, .ref q46, .ref q47, .ref q48, .ref q49, .int 0, .ref q50, .int 0, .int 0, .int 0, .int 0, .ref q51, .int 0, .int 0]))]) hP hD [6] [0, 1, 2, 3, 4, 5, 7, 8, 9] rfl rfl (by decide) (by decide) hk1 hFc hP1 hD1
    have hK := (hK.sub (tys' := [(cA25, .byte), (cA52, .byte), (cA53, .byte), (cA55, .long), (cA55, .long)]) [0, 1, 2, 3, 4] rfl).app hK1
    generalize H1 = H at hP hS ⊢
    have hP : va_P (dC, dI) cls [(q3, .inl (cA25, 2000, .inl (fun _ => 0))), (q4, .inr (1, [.ref q12, .ref q13, .ref q14, .int 0, .int 0])), (q5, .inr (2, [.ref q4, .ref q15, .ref q16, .int 0, .int 0])), (q6, .inr (3, [.ref q17, .int 0])), (q8, .inr (6, [.ref q18, .ref q19, .ref q5, .int 0, .int 0])), (q9, .inr (10, [.ref q20, .ref q21, .ref q22, .ref q23, .ref q24, .int 0])), (q29, .inl (cA52, 2000, .inl (fun _ => 0))), (q30, .inl (cA53, 5718, .inl (fun _ => 0))), (q54, .inl (cA55, 1, .inr (.inl (fun _ => 0)))), (q27, .inr (12, [.ref q29, .ref q30, .ref q31, .int 0, .int 1, .int 0, .int 0, .int 0, .ref q32, .ref q33, .ref q34, .ref q35, .ref q36, .int 0, .int 0, .ref q37, .ref q38, .ref q39, .ref q40, .ref q41, .ref q42, .ref q43, .ref q44, .int 0, .int 0, .ref q45, .ref q46, .ref q47, .ref q48, .ref q49, .int 0, .ref q50, .int 0, .int 0, .int 0, .int 0, .ref q51, .int 0, .int 0]))] H := hP
    have hD : va_D A [(q3, .inl (cA25, 2000, .inl (fun _ => 0))), (q4, .inr (1, [.ref q12, .ref q13, .ref q14, .int 0, .int 0])), (q5, .inr (2, [.ref q4, .ref q15, .ref q16, .int 0, .int 0])), (q6, .inr (3, [.ref q17, .int 0])), (q8, .inr (6, [.ref q18, .ref q19, .ref q5, .int 0, .int 0])), (q9, .inr (10, [.ref q20, .ref q21, .ref q22, .ref q23, .ref q24, .int 0])), (q29, .inl (cA52, 2000, .inl (fun _ => 0))), (q30, .inl (cA53, 5718, .inl (fun _ => 0))), (q54, .inl (cA55, 1, .inr (.inl (fun _ => 0)))), (q27, .inr (12, [.ref q29, .ref q30, .ref q31, .int 0, .int 1, .int 0, .int 0, .int 0, .ref q32, .ref q33, .ref q34, .ref q35, .ref q36, .int 0, .int 0, .ref q37, .ref q38, .ref q39, .ref q40, .ref q41, .ref q42, .ref q43, .ref q44, .int 0, .int 0, .ref q45, .ref q46, .ref q47, .ref q48, .ref q49, .int 0, .ref q50, .int 0, .int 0, .int 0, .int 0, .ref q51, .int 0, .int 0]))] := hD
    have hK : va_K (dC, dI) cls [(cA25, .byte), (cA52, .byte), (cA53, .byte), (cA55, .long), (cA55, .long)] s := hK
    obtain rfl : r1062 = 0 := hw
    refine lv_istore hx hb d_La_law_638 hl (by decide) rfl (fun ls hl => ?_)
    have hl : lv_has ls 8 [(6, .int 0), (5, .int 1), (4, .int 0), (3, .ref q54), (2, .ref q27), (1, .ref q1), (0, .ref b)] := hl
    refine lv_aload_n hx hb d_La_law_640 rfl (lv_at hl 4 rfl) ?_
    have hhp : ∀ q, q < s.heap.size → H[q]? = s.heap[q]? := fun q hq => hS.2.1 q hq (fun h => absurd (hA2 q h) (by omega))
    have hPc := hP.sub (ws' := [(q27, .inr (12, [.ref q29, .ref q30, .ref q31, .int 0, .int 1, .int 0, .int 0, .int 0, .ref q32, .ref q33, .ref q34, .ref q35, .ref q36, .int 0, .int 0, .ref q37, .ref q38, .ref q39, .ref q40, .ref q41, .ref q42, .ref q43, .ref q44, .int 0, .int 0, .ref q45, .ref q46, .ref q47, .ref q48, .ref q49, .int 0, .ref q50, .int 0, .int 0, .int 0, .int 0, .ref q51, .int 0, .int 0]))]) [9] rfl
    have hDc := hD.sub (ws' := [(q27, .inr (12, [.ref q29, .ref q30, .ref q31, .int 0, .int 1, .int 0, .int 0, .int 0, .ref q32, .ref q33, .ref q34, .ref q35, .ref q36, .int 0, .int 0, .ref q37, .ref q38, .ref q39, .ref q40, .ref q41, .ref q42, .ref q43, .ref q44, .int 0, .int 0, .ref q45, .ref q46, .ref q47, .ref q48, .ref q49, .int 0, .ref q50, .int 0, .int 0, .int 0, .int 0, .ref q51, .int 0, .int 0]))]) [9] (by decide) rfl
    have hKc := hK.sub (tys' := []) [] rfl
    have hFc := va_free (wc := [(q27, .inr (12, [.ref q29, .ref q30, .ref q31, .int 0, .int 1, .int 0, .int 0, .int 0, .ref q32, .ref q33, .ref q34, .ref q35, .ref q36, .int 0, .int 0, .ref q37, .ref q38, .ref q39, .ref q40, .ref q41, .ref q42, .ref q43, .ref q44, .int 0, .int 0, .ref q45, .ref q46, .ref q47, .ref q48, .ref q49, .int 0, .ref q50, .int 0, .int 0, .int 0, .int 0, .ref q51, .int 0, .int 0]))]) hD hS hA [9] rfl
    have hkc : 220 + 0 ≤ 600002 := (Nat.le_of_ble_eq_true rfl)
    refine va_calli (va_runV (As := []) (rest := []) hfx (c_Mo_thrown_1 l dC dI q27 q29 q30 q31 q32 q33 q34 q35 q36 q37 q38 q39 q40 q41 q42 q43 q44 q45 q46 q47 q48 q49 q50 q51 0 0 H.size) ⟨(ux_cb 0 hT tw_1714 tw_1711 tw_13 rfl rfl (by decide +kernel) ⟨(Nat.le_of_ble_eq_true rfl), (Nat.le_of_ble_eq_true rfl)⟩), (ux_T_at hT tw_1712 rfl), (ux_T_at hT tw_1713 rfl)⟩ (ux_preV (r := (R_Mo, F_Mo, 39)) (ci := 12) (q0 := 0) [] hT hPc hKc hDc rfl rfl) rfl rfl hl.1 rfl (lv_room (Nat.le_of_ble_eq_true rfl)) d_La_law_641 ⟨(Nat.le_of_ble_eq_true rfl), (Nat.le_of_ble_eq_true rfl)⟩) hS (fun q _ h => hFc q h) hFc (fun r1063 u t H1 locs ht hvm hw hB hz1 hk1 hS => ?_)
    obtain ⟨hP1, hK1, hD1⟩ := hB
    rw [ht] at hP1
    have hK1 := va_K.moved hvm.symm hK1
    obtain ⟨hP, hD⟩ := va_join (wr := [(q3, .inl (cA25, 2000, .inl (fun _ => 0))), (q4, .inr (1, [.ref q12, .ref q13, .ref q14, .int 0, .int 0])), (q5, .inr (2, [.ref q4, .ref q15, .ref q16, .int 0, .int 0])), (q6, .inr (3, [.ref q17, .int 0])), (q8, .inr (6, [.ref q18, .ref q19, .ref q5, .int 0, .int 0])), (q9, .inr (10, [.ref q20, .ref q21, .ref q22, .ref q23, .ref q24, .int 0])), (q29, .inl (cA52, 2000, .inl (fun _ => 0))), (q30, .inl (cA53, 5718, .inl (fun _ => 0))), (q54, .inl (cA55, 1, .inr (.inl (fun _ => 0))))]) (w1 := [(q27, .inr (12, [.ref q29, .ref q30, .ref q31, .int 0, .int 1, .int 0, .int 0, .int 0, .ref q32, .ref q33, .ref q34, .ref q35, .ref q36, .int 0, .int 0, .ref q37, .ref q38, .ref q39, .ref q40, .ref q41, .ref q42, .ref q43, .ref q44, .int 0, .int 0, .ref q45, .ref q46, .ref q47, .ref q48, .ref q49, .int 0, .ref q50, .int 0, .int 0, .int 0, .int 0, .ref q51, .int 0, .int 0]))]) hP hD [9] [0, 1, 2, 3, 4, 5, 6, 7, 8] rfl rfl (by decide) (by decide) hk1 hFc hP1 hD1
    have hK := (hK.sub (tys' := [(cA25, .byte), (cA52, .byte), (cA53, .byte), (cA55, .long), (cA55, .long)]) [0, 1, 2, 3, 4] rfl).app hK1
    generalize H1 = H at hP hS ⊢
    have hP : va_P (dC, dI) cls [(q3, .inl (cA25, 2000, .inl (fun _ => 0))), (q4, .inr (1, [.ref q12, .ref q13, .ref q14, .int 0, .int 0])), (q5, .inr (2, [.ref q4, .ref q15, .ref q16, .int 0, .int 0])), (q6, .inr (3, [.ref q17, .int 0])), (q8, .inr (6, [.ref q18, .ref q19, .ref q5, .int 0, .int 0])), (q9, .inr (10, [.ref q20, .ref q21, .ref q22, .ref q23, .ref q24, .int 0])), (q29, .inl (cA52, 2000, .inl (fun _ => 0))), (q30, .inl (cA53, 5718, .inl (fun _ => 0))), (q54, .inl (cA55, 1, .inr (.inl (fun _ => 0)))), (q27, .inr (12, [.ref q29, .ref q30, .ref q31, .int 0, .int 1, .int 0, .int 0, .int 0, .ref q32, .ref q33, .ref q34, .ref q35, .ref q36, .int 0, .int 0, .ref q37, .ref q38, .ref q39, .ref q40, .ref q41, .ref q42, .ref q43, .ref q44, .int 0, .int 0, .ref q45, .ref q46, .ref q47, .ref q48, .ref q49, .int 0, .ref q50, .int 0, .int 0, .int 0, .int 0, .ref q51, .int 0, .int 0]))] H := hP
    have hD : va_D A [(q3, .inl (cA25, 2000, .inl (fun _ => 0))), (q4, .inr (1, [.ref q12, .ref q13, .ref q14, .int 0, .int 0])), (q5, .inr (2, [.ref q4, .ref q15, .ref q16, .int 0, .int 0])), (q6, .inr (3, [.ref q17, .int 0])), (q8, .inr (6, [.ref q18, .ref q19, .ref q5, .int 0, .int 0])), (q9, .inr (10, [.ref q20, .ref q21, .ref q22, .ref q23, .ref q24, .int 0])), (q29, .inl (cA52, 2000, .inl (fun _ => 0))), (q30, .inl (cA53, 5718, .inl (fun _ => 0))), (q54, .inl (cA55, 1, .inr (.inl (fun _ => 0)))), (q27, .inr (12, [.ref q29, .ref q30, .ref q31, .int 0, .int 1, .int 0, .int 0, .int 0, .ref q32, .ref q33, .ref q34, .ref q35, .ref q36, .int 0, .int 0, .ref q37, .ref q38, .ref q39, .ref q40, .ref q41, .ref q42, .ref q43, .ref q44, .int 0, .int 0, .ref q45, .ref q46, .ref q47, .ref q48, .ref q49, .int 0, .ref q50, .int 0, .int 0, .int 0, .int 0, .ref q51, .int 0, .int 0]))] := hD
    have hK : va_K (dC, dI) cls [(cA25, .byte), (cA52, .byte), (cA53, .byte), (cA55, .long), (cA55, .long)] s := hK
    obtain rfl : r1063 = 1 := hw
    refine lv_iload hx hb d_La_law_644 (lv_at hl 1 rfl) ?_
    refine lv_icmp_eq (tgt := 651) hx hb d_La_law_646 (by decide) (fun _ => ?_) (fun hc => absurd (by decide) hc)
    refine lv_iload hx hb d_La_law_651 (lv_at hl 1 rfl) ?_
    refine lv_if_ne (tgt := 668) hx hb d_La_law_653 (by decide) (fun _ => ?_) (fun hc => absurd hc (by decide))
    refine lv_goto hx hb d_La_law_668 (tgt := 751) (by decide) ?_
    exact law_end l hA2 ⟨hx, hb, hr, hml, hown, hts, hX, hbl, hlocks, hgv⟩ (Nat.le_of_ble_eq_true rfl) (Nat.le_of_ble_eq_true rfl) hS (lv_sub hl [6, 2] rfl)
set_option maxHeartbeats 4000000 in
set_option maxRecDepth 100000 in
theorem law_9 {p : Program} {e : Env} {s : State} {m : MethodId} {below : List Frame} {meth : Method} {c : Code} (l : Launch) (hfl : l.flags = flags0) {b : Nat} {xs : Nat → Int32} {A : Nat → Prop} (hA : ∀ q, s.heap.size ≤ q → A q) (hA2 : ∀ q, A q → s.heap.size ≤ q) (C0 : lw_At p s m meth c b 6 xs) (hT : ux_T s) (hH : ux_H s) (dC : Nat → ClassId) (dI : Nat → Nat → Nat) (q1 : Nat) (q3 : Nat) (q4 : Nat) (q5 : Nat) (q6 : Nat) (q7 : Nat) (q8 : Nat) (q9 : Nat) (q10 : Nat) (q11 : Nat) (q12 : Nat) (q13 : Nat) (q14 : Nat) (q15 : Nat) (q16 : Nat) (q17 : Nat) (q18 : Nat) (q19 : Nat) (q20 : Nat) (q21 : Nat) (q22 : Nat) (q23 : Nat) (q24 : Nat) (q27 : Nat) (q29 : Nat) (q30 : Nat) (q31 : Nat) (q32 : Nat) (q33 : Nat) (q34 : Nat) (q35 : Nat) (q36 : Nat) (q37 : Nat) (q38 : Nat) (q39 : Nat) (q40 : Nat) (q41 : Nat) (q42 : Nat) (q43 : Nat) (q44 : Nat) (q45 : Nat) (q46 : Nat) (q47 : Nat) (q48 : Nat) (q49 : Nat) (q50 : Nat) (q51 : Nat) (q54 : Nat) (cA25 : ClassId) (cA52 : ClassId) (cA53 : ClassId) (cA55 : ClassId) {H : Heap} {locs : List Loc} {ls : Array Slot} (hK : va_K (dC, dI) cls [(cA25, .byte), (cA52, .byte), (cA53, .byte), (cA55, .long)] s) (hP : va_P (dC, dI) cls [(q1, .inr (0, [.ref q3, .int 0, .int 0, .ref q4, .ref q5, .ref q6, .ref q7, .ref q8, .ref q9, .ref q10, .ref q11, .ref q3, .int 0, .int 0])), (q3, .inl (cA25, 2000, .inl (fun _ => 0))), (q4, .inr (1, [.ref q12, .ref q13, .ref q14, .int 0, .int 0])), (q5, .inr (2, [.ref q4, .ref q15, .ref q16, .int 0, .int 0])), (q6, .inr (3, [.ref q17, .int 0])), (q8, .inr (6, [.ref q18, .ref q19, .ref q5, .int 0, .int 0])), (q9, .inr (10, [.ref q20, .ref q21, .ref q22, .ref q23, .ref q24, .int 0])), (q27, .inr (12, [.ref q29, .ref q30, .ref q31, .int 0, .int 0, .int 0, .int 0, .int 0, .ref q32, .ref q33, .ref q34, .ref q35, .ref q36, .int 0, .int 0, .ref q37, .ref q38, .ref q39, .ref q40, .ref q41, .ref q42, .ref q43, .ref q44, .int 0, .int 0, .ref q45, .ref q46, .ref q47, .ref q48, .ref q49, .int 0, .ref q50, .int 0, .int 0, .int 0, .int 0, .ref q51, .int 0, .int 0])), (q29, .inl (cA52, 2000, .inl (fun _ => 0))), (q30, .inl (cA53, 5718, .inl (fun _ => 0))), (q54, .inl (cA55, 1, .inr (.inl (fun _ => 0))))] H) (hD : va_D A [(q1, .inr (0, [.ref q3, .int 0, .int 0, .ref q4, .ref q5, .ref q6, .ref q7, .ref q8, .ref q9, .ref q10, .ref q11, .ref q3, .int 0, .int 0])), (q3, .inl (cA25, 2000, .inl (fun _ => 0))), (q4, .inr (1, [.ref q12, .ref q13, .ref q14, .int 0, .int 0])), (q5, .inr (2, [.ref q4, .ref q15, .ref q16, .int 0, .int 0])), (q6, .inr (3, [.ref q17, .int 0])), (q8, .inr (6, [.ref q18, .ref q19, .ref q5, .int 0, .int 0])), (q9, .inr (10, [.ref q20, .ref q21, .ref q22, .ref q23, .ref q24, .int 0])), (q27, .inr (12, [.ref q29, .ref q30, .ref q31, .int 0, .int 0, .int 0, .int 0, .int 0, .ref q32, .ref q33, .ref q34, .ref q35, .ref q36, .int 0, .int 0, .ref q37, .ref q38, .ref q39, .ref q40, .ref q41, .ref q42, .ref q43, .ref q44, .int 0, .int 0, .ref q45, .ref q46, .ref q47, .ref q48, .ref q49, .int 0, .ref q50, .int 0, .int 0, .int 0, .int 0, .ref q51, .int 0, .int 0])), (q29, .inl (cA52, 2000, .inl (fun _ => 0))), (q30, .inl (cA53, 5718, .inl (fun _ => 0))), (q54, .inl (cA55, 1, .inr (.inl (fun _ => 0))))]) (hS : va_S A s.heap H locs) (hl : lv_has ls 8 [(4, .int 0), (3, .ref q54), (2, .ref q27), (1, .ref q1), (0, .ref b)]) : W p l e room_1 s m #[Value.ref b] below meth c H locs 219 543617 (lw_Z below #[Value.ref b] s) (F0 m 671 ls []) := by
  obtain ⟨hx, hb, hr, hml, hown, hts, hX, hbl, hlocks, hgv⟩ := C0
  have hown : s.vm.findClass "UnikernelHttpLaw" = some m.cls := hown
  have hbA : ¬ A b := fun h => absurd (hA2 b h) (by omega)
  have hfx : CallFix p m c b_La_law 8 s #[Value.ref b] [] "UnikernelHttpLaw" := ⟨hx, hb, hml, hown, fun _ h => by cases h⟩
  obtain ⟨v1, hv1⟩ : ∃ v, xs (1 : Int32).toNatClampNeg = v := ⟨_, rfl⟩
  obtain ⟨v2, hv2⟩ : ∃ v, xs (2 : Int32).toNatClampNeg = v := ⟨_, rfl⟩
  obtain ⟨v3, hv3⟩ : ∃ v, xs (3 : Int32).toNatClampNeg = v := ⟨_, rfl⟩
  obtain ⟨v4, hv4⟩ : ∃ v, xs (4 : Int32).toNatClampNeg = v := ⟨_, rfl⟩
  obtain ⟨v5, hv5⟩ : ∃ v, xs (5 : Int32).toNatClampNeg = v := ⟨_, rfl⟩
  refine lv_aload_n hx hb d_La_law_671 rfl (lv_at hl 3 rfl) ?_
  refine lv_aload_n hx hb d_La_law_672 rfl (lv_at hl 4 rfl) ?_
  refine lv_iload hx hb d_La_law_673 (lv_at hl 0 rfl) ?_
  refine lv_iconst (v := 1) hx hb d_La_law_675 (by decide) ?_
  refine lv_iadd hx hb d_La_law_676 ?_
  refine lv_topi (fun x1001 ex1001 => ?_)
  obtain rfl : x1001 = 1 := ex1001.trans (by decide)
  refine va_sld hx hb hX hbl hbA hS (i := 1) (show ¬ ((1 : Int32) < 0 ∨ 6 ≤ (1 : Int32).toNatClampNeg) by decide) d_La_law_677 ?_
  refine lv_topi (fun x1002 ex1002 => ?_)
  obtain rfl : v1 = x1002 := (ex1002.trans hv1).symm
  refine lv_aload_n hx hb d_La_law_678 rfl (lv_at hl 4 rfl) ?_
  refine lv_iload hx hb d_La_law_679 (lv_at hl 0 rfl) ?_
  refine lv_iconst (v := 2) hx hb d_La_law_681 (by decide) ?_
  refine lv_iadd hx hb d_La_law_682 ?_
  refine lv_topi (fun x1003 ex1003 => ?_)
  obtain rfl : x1003 = 2 := ex1003.trans (by decide)
  refine va_sld hx hb hX hbl hbA hS (i := 2) (show ¬ ((2 : Int32) < 0 ∨ 6 ≤ (2 : Int32).toNatClampNeg) by decide) d_La_law_683 ?_
  refine lv_topi (fun x1004 ex1004 => ?_)
  obtain rfl : v2 = x1004 := (ex1004.trans hv2).symm
  refine lv_aload_n hx hb d_La_law_684 rfl (lv_at hl 4 rfl) ?_
  refine lv_iload hx hb d_La_law_685 (lv_at hl 0 rfl) ?_
  refine lv_iconst (v := 3) hx hb d_La_law_687 (by decide) ?_
  refine lv_iadd hx hb d_La_law_688 ?_
  refine lv_topi (fun x1005 ex1005 => ?_)
  obtain rfl : x1005 = 3 := ex1005.trans (by decide)
  refine va_sld hx hb hX hbl hbA hS (i := 3) (show ¬ ((3 : Int32) < 0 ∨ 6 ≤ (3 : Int32).toNatClampNeg) by decide) d_La_law_689 ?_
  refine lv_topi (fun x1006 ex1006 => ?_)
  obtain rfl : v3 = x1006 := (ex1006.trans hv3).symm
  refine lv_aload_n hx hb d_La_law_690 rfl (lv_at hl 1 rfl) ?_
  have hhp : ∀ q, q < s.heap.size → H[q]? = s.heap[q]? := fun q hq => hS.2.1 q hq (fun h => absurd (hA2 q h) (by omega))
  have hPc := hP.sub (ws' := [(q1, .inr (0, [.ref q3, .int 0, .int 0, .ref q4, .ref q5, .ref q6, .ref q7, .ref q8, .ref q9, .ref q10, .ref q11, .ref q3, .int 0, .int 0])), (q8, .inr (6, [.ref q18, .ref q19, .ref q5, .int 0, .int 0])), (q54, .inl (cA55, 1, .inr (.inl (fun _ => 0))))]) [0, 5, 10] rfl
  have hDc := hD.sub (ws' := [(q1, .inr (0, [.ref q3, .int 0, .int 0, .ref q4, .ref q5, .ref q6, .ref q7, .ref q8, .ref q9, .ref q10, .ref q11, .ref q3, .int 0, .int 0])), (q8, .inr (6, [.ref q18, .ref q19, .ref q5, .int 0, .int 0])), (q54, .inl (cA55, 1, .inr (.inl (fun _ => 0))))]) [0, 5, 10] (by decide) rfl
  have hKc := hK.sub (tys' := [(cA55, .long)]) [3] rfl
  have hFc := va_free (wc := [(q1, .inr (0, [.ref q3, .int 0, .int 0, .ref q4, .ref q5, .ref q6, .ref q7, .ref q8, .ref q9, .ref q10, .ref q11, .ref q3, .int 0, .int 0])), (q8, .inr (6, [.ref q18, .ref q19, .ref q5, .int 0, .int 0])), (q54, .inl (cA55, 1, .inr (.inl (fun _ => 0))))]) hD hS hA [0, 5, 10] rfl
  have hkc : 219 + 1 ≤ 600002 := (Nat.le_of_ble_eq_true rfl)
  refine va_calli (ux_runSW (n := 5) (As := [.ref q1, .int v1, .int v2, .int v3, .ref q54]) (rest := []) hfx (c_La_connection l hfl dC dI q1 q54 q3 q4 q5 q6 q7 q8 q9 q10 q11 q18 q19 cA55 v1 v2 v3 H.size) hT tw_1457 tw_1455 tw_0 tw_1456 rfl rfl (by decide +kernel) ⟨(Nat.le_of_ble_eq_true rfl), (Nat.le_of_ble_eq_true rfl)⟩ (ux_preH [.ref q1, .int v1, .int v2, .int v3, .ref q54] hT hH hhp hPc hKc hDc) rfl rfl hl.1 rfl (lv_room (Nat.le_of_ble_eq_true rfl)) d_La_law_691 ⟨(Nat.le_of_ble_eq_true rfl), (Nat.le_of_ble_eq_true rfl)⟩) hS (fun q _ h => hFc q h) hFc (fun r1007 u t H1 locs ht hvm hw hB hz1 hk1 hS => ?_)
  obtain ⟨hP1, hK1, hD1⟩ := hB
  rw [ht] at hP1
  have hK1 := va_K.moved hvm.symm hK1
  obtain ⟨hP, hD⟩ := va_join (wr := [(q3, .inl (cA25, 2000, .inl (fun _ => 0))), (q4, .inr (1, [.ref q12, .ref q13, .ref q14, .int 0, .int 0])), (q5, .inr (2, [.ref q4, .ref q15, .ref q16, .int 0, .int 0])), (q6, .inr (3, [.ref q17, .int 0])), (q9, .inr (10, [.ref q20, .ref q21, .ref q22, .ref q23, .ref q24, .int 0])), (q27, .inr (12, [.ref q29, .ref q30, .ref q31, .int 0, .int 0, .int 0, .int 0, .int 0, .ref q32, .ref q33, .ref q34, .ref q35, .ref q36, .int 0, .int 0, .ref q37, .ref q38, .ref q39, .ref q40, .ref q41, .ref q42, .ref q43, .ref q44, .int 0, .int 0, .ref q45, .ref q46, .ref q47, .ref q48, .ref q49, .int 0, .ref q50, .int 0, .int 0, .int 0, .int 0, .ref q51, .int 0, .int 0])), (q29, .inl (cA52, 2000, .inl (fun _ => 0))), (q30, .inl (cA53, 5718, .inl (fun _ => 0)))]) (w1 := [(q54, .inl (cA55, 1, .inr (.inl (fun _ => 0))))]) hP hD [0, 5, 10] [1, 2, 3, 4, 6, 7, 8, 9] rfl rfl (by decide) (by decide) hk1 hFc hP1 hD1
  have hK := (hK.sub (tys' := [(cA25, .byte), (cA52, .byte), (cA53, .byte), (cA55, .long)]) [0, 1, 2, 3] rfl).app hK1
  generalize H1 = H at hP hS ⊢
  have hP : va_P (dC, dI) cls [(q3, .inl (cA25, 2000, .inl (fun _ => 0))), (q4, .inr (1, [.ref q12, .ref q13, .ref q14, .int 0, .int 0])), (q5, .inr (2, [.ref q4, .ref q15, .ref q16, .int 0, .int 0])), (q6, .inr (3, [.ref q17, .int 0])), (q9, .inr (10, [.ref q20, .ref q21, .ref q22, .ref q23, .ref q24, .int 0])), (q27, .inr (12, [.ref q29, .ref q30, .ref q31, .int 0, .int 0, .int 0, .int 0, .int 0, .ref q32, .ref q33, .ref q34, .ref q35, .ref q36, .int 0, .int 0, .ref q37, .ref q38, .ref q39, .ref q40, .ref q41, .ref q42, .ref q43, .ref q44, .int 0, .int 0, .ref q45, .ref q46, .ref q47, .ref q48, .ref q49, .int 0, .ref q50, .int 0, .int 0, .int 0, .int 0, .ref q51, .int 0, .int 0])), (q29, .inl (cA52, 2000, .inl (fun _ => 0))), (q30, .inl (cA53, 5718, .inl (fun _ => 0))), (q54, .inl (cA55, 1, .inr (.inl (fun _ => 0))))] H := hP
  have hD : va_D A [(q3, .inl (cA25, 2000, .inl (fun _ => 0))), (q4, .inr (1, [.ref q12, .ref q13, .ref q14, .int 0, .int 0])), (q5, .inr (2, [.ref q4, .ref q15, .ref q16, .int 0, .int 0])), (q6, .inr (3, [.ref q17, .int 0])), (q9, .inr (10, [.ref q20, .ref q21, .ref q22, .ref q23, .ref q24, .int 0])), (q27, .inr (12, [.ref q29, .ref q30, .ref q31, .int 0, .int 0, .int 0, .int 0, .int 0, .ref q32, .ref q33, .ref q34, .ref q35, .ref q36, .int 0, .int 0, .ref q37, .ref q38, .ref q39, .ref q40, .ref q41, .ref q42, .ref q43, .ref q44, .int 0, .int 0, .ref q45, .ref q46, .ref q47, .ref q48, .ref q49, .int 0, .ref q50, .int 0, .int 0, .int 0, .int 0, .ref q51, .int 0, .int 0])), (q29, .inl (cA52, 2000, .inl (fun _ => 0))), (q30, .inl (cA53, 5718, .inl (fun _ => 0))), (q54, .inl (cA55, 1, .inr (.inl (fun _ => 0))))] := hD
  have hK : va_K (dC, dI) cls [(cA25, .byte), (cA52, .byte), (cA53, .byte), (cA55, .long), (cA55, .long)] s := hK
  obtain rfl : r1007 = 1 := hw
  refine lv_istore hx hb d_La_law_694 hl (by decide) rfl (fun ls hl => ?_)
  have hl : lv_has ls 8 [(5, .int 1), (4, .int 0), (3, .ref q54), (2, .ref q27), (1, .ref q1), (0, .ref b)] := hl
  refine lv_aload_n hx hb d_La_law_696 rfl (lv_at hl 3 rfl) ?_
  refine lv_aload_n hx hb d_La_law_697 rfl (lv_at hl 5 rfl) ?_
  refine lv_iload hx hb d_La_law_698 (lv_at hl 1 rfl) ?_
  refine lv_iconst (v := 1) hx hb d_La_law_700 (by decide) ?_
  refine lv_iadd hx hb d_La_law_701 ?_
  refine lv_topi (fun x1008 ex1008 => ?_)
  obtain rfl : x1008 = 1 := ex1008.trans (by decide)
  refine va_sld hx hb hX hbl hbA hS (i := 1) (show ¬ ((1 : Int32) < 0 ∨ 6 ≤ (1 : Int32).toNatClampNeg) by decide) d_La_law_702 ?_
  refine lv_topi (fun x1009 ex1009 => ?_)
  obtain rfl : v1 = x1009 := (ex1009.trans hv1).symm
  refine lv_aload_n hx hb d_La_law_703 rfl (lv_at hl 5 rfl) ?_
  refine lv_iload hx hb d_La_law_704 (lv_at hl 1 rfl) ?_
  refine lv_iconst (v := 2) hx hb d_La_law_706 (by decide) ?_
  refine lv_iadd hx hb d_La_law_707 ?_
  refine lv_topi (fun x1010 ex1010 => ?_)
  obtain rfl : x1010 = 2 := ex1010.trans (by decide)
  refine va_sld hx hb hX hbl hbA hS (i := 2) (show ¬ ((2 : Int32) < 0 ∨ 6 ≤ (2 : Int32).toNatClampNeg) by decide) d_La_law_708 ?_
  refine lv_topi (fun x1011 ex1011 => ?_)
  obtain rfl : v2 = x1011 := (ex1011.trans hv2).symm
  refine lv_aload_n hx hb d_La_law_709 rfl (lv_at hl 5 rfl) ?_
  refine lv_iload hx hb d_La_law_710 (lv_at hl 1 rfl) ?_
  refine lv_iconst (v := 3) hx hb d_La_law_712 (by decide) ?_
  refine lv_iadd hx hb d_La_law_713 ?_
  refine lv_topi (fun x1012 ex1012 => ?_)
  obtain rfl : x1012 = 3 := ex1012.trans (by decide)
  refine va_sld hx hb hX hbl hbA hS (i := 3) (show ¬ ((3 : Int32) < 0 ∨ 6 ≤ (3 : Int32).toNatClampNeg) by decide) d_La_law_714 ?_
  refine lv_topi (fun x1013 ex1013 => ?_)
  obtain rfl : v3 = x1013 := (ex1013.trans hv3).symm
  have hhp : ∀ q, q < s.heap.size → H[q]? = s.heap[q]? := fun q hq => hS.2.1 q hq (fun h => absurd (hA2 q h) (by omega))
  have hPc := hP.sub (ws' := [(q27, .inr (12, [.ref q29, .ref q30, .ref q31, .int 0, .int 0, .int 0, .int 0, .int 0, .ref q32, .ref q33, .ref q34, .ref q35, .ref q36, .int 0, .int 0, .ref q37, .ref q38, .ref q39, .ref q40, .ref q41, .ref q42, .ref q43, .ref q44, .int 0, .int 0, .ref q45, .ref q46, .ref q47, .ref q48, .ref q49, .int 0, .ref q50, .int 0, .int 0, .int 0, .int 0, .ref q51, .int 0, .int 0]))]) [5] rfl
  have hDc := hD.sub (ws' := [(q27, .inr (12, [.ref q29, .ref q30, .ref q31, .int 0, .int 0, .int 0, .int 0, .int 0, .ref q32, .ref q33, .ref q34, .ref q35, .ref q36, .int 0, .int 0, .ref q37, .ref q38, .ref q39, .ref q40, .ref q41, .ref q42, .ref q43, .ref q44, .int 0, .int 0, .ref q45, .ref q46, .ref q47, .ref q48, .ref q49, .int 0, .ref q50, .int 0, .int 0, .int 0, .int 0, .ref q51, .int 0, .int 0]))]) [5] (by decide) rfl
  have hKc := hK.sub (tys' := []) [] rfl
  have hFc := va_free (wc := [(q27, .inr (12, [.ref q29, .ref q30, .ref q31, .int 0, .int 0, .int 0, .int 0, .int 0, .ref q32, .ref q33, .ref q34, .ref q35, .ref q36, .int 0, .int 0, .ref q37, .ref q38, .ref q39, .ref q40, .ref q41, .ref q42, .ref q43, .ref q44, .int 0, .int 0, .ref q45, .ref q46, .ref q47, .ref q48, .ref q49, .int 0, .ref q50, .int 0, .int 0, .int 0, .int 0, .ref q51, .int 0, .int 0]))]) hD hS hA [5] rfl
  have hkc : 220 + 0 ≤ 600002 := (Nat.le_of_ble_eq_true rfl)
  refine va_calli (va_runV (As := [.int v1, .int v2, .int v3]) (rest := []) hfx (c_Mo_connection l dC dI q27 q29 q30 q31 q32 q33 q34 q35 q36 q37 q38 q39 q40 q41 q42 q43 q44 q45 q46 q47 q48 q49 q50 q51 v1 v2 v3 H.size) ⟨(ux_cb 3 hT tw_1976 tw_1973 tw_13 rfl rfl (by decide +kernel) ⟨(Nat.le_of_ble_eq_true rfl), (Nat.le_of_ble_eq_true rfl)⟩), (ux_T_at hT tw_1974 rfl), (ux_T_at hT tw_1975 rfl)⟩ (ux_preV (r := (R_Mo, F_Mo, 39)) (ci := 12) (q0 := 0) [.int v1, .int v2, .int v3] hT hPc hKc hDc rfl rfl) rfl rfl hl.1 rfl (lv_room (Nat.le_of_ble_eq_true rfl)) d_La_law_715 ⟨(Nat.le_of_ble_eq_true rfl), (Nat.le_of_ble_eq_true rfl)⟩) hS (fun q _ h => hFc q h) hFc (fun r1014 u t H1 locs ht hvm hw hB hz1 hk1 hS => ?_)
  obtain ⟨hP1, hK1, hD1⟩ := hB
  rw [ht] at hP1
  have hK1 := va_K.moved hvm.symm hK1
  obtain ⟨hP, hD⟩ := va_join (wr := [(q3, .inl (cA25, 2000, .inl (fun _ => 0))), (q4, .inr (1, [.ref q12, .ref q13, .ref q14, .int 0, .int 0])), (q5, .inr (2, [.ref q4, .ref q15, .ref q16, .int 0, .int 0])), (q6, .inr (3, [.ref q17, .int 0])), (q9, .inr (10, [.ref q20, .ref q21, .ref q22, .ref q23, .ref q24, .int 0])), (q29, .inl (cA52, 2000, .inl (fun _ => 0))), (q30, .inl (cA53, 5718, .inl (fun _ => 0))), (q54, .inl (cA55, 1, .inr (.inl (fun _ => 0))))]) (w1 := [(q27, .inr (12, [.ref q29, .ref q30, .ref q31, .int 0, .int 1, .int 0, .int 0, .int 0, .ref q32, .ref q33, .ref q34, .ref q35, .ref q36, .int 0, .int 0, .ref q37, .ref q38, .ref q39, .ref q40, .ref q41, .ref q42, .ref q43, .ref q44, .int 0, .int 0, .ref q45, .ref q46, .ref q47, .ref q48, .ref q49, .int 0, .ref q50, .int 0, .int 0, .int 0, .int 0, .ref q51, .int 0, .int 0]))]) hP hD [5] [0, 1, 2, 3, 4, 6, 7, 8] rfl rfl (by decide) (by decide) hk1 hFc hP1 hD1
  have hK := (hK.sub (tys' := [(cA25, .byte), (cA52, .byte), (cA53, .byte), (cA55, .long), (cA55, .long)]) [0, 1, 2, 3, 4] rfl).app hK1
  generalize H1 = H at hP hS ⊢
  have hP : va_P (dC, dI) cls [(q3, .inl (cA25, 2000, .inl (fun _ => 0))), (q4, .inr (1, [.ref q12, .ref q13, .ref q14, .int 0, .int 0])), (q5, .inr (2, [.ref q4, .ref q15, .ref q16, .int 0, .int 0])), (q6, .inr (3, [.ref q17, .int 0])), (q9, .inr (10, [.ref q20, .ref q21, .ref q22, .ref q23, .ref q24, .int 0])), (q29, .inl (cA52, 2000, .inl (fun _ => 0))), (q30, .inl (cA53, 5718, .inl (fun _ => 0))), (q54, .inl (cA55, 1, .inr (.inl (fun _ => 0)))), (q27, .inr (12, [.ref q29, .ref q30, .ref q31, .int 0, .int 1, .int 0, .int 0, .int 0, .ref q32, .ref q33, .ref q34, .ref q35, .ref q36, .int 0, .int 0, .ref q37, .ref q38, .ref q39, .ref q40, .ref q41, .ref q42, .ref q43, .ref q44, .int 0, .int 0, .ref q45, .ref q46, .ref q47, .ref q48, .ref q49, .int 0, .ref q50, .int 0, .int 0, .int 0, .int 0, .ref q51, .int 0, .int 0]))] H := hP
  have hD : va_D A [(q3, .inl (cA25, 2000, .inl (fun _ => 0))), (q4, .inr (1, [.ref q12, .ref q13, .ref q14, .int 0, .int 0])), (q5, .inr (2, [.ref q4, .ref q15, .ref q16, .int 0, .int 0])), (q6, .inr (3, [.ref q17, .int 0])), (q9, .inr (10, [.ref q20, .ref q21, .ref q22, .ref q23, .ref q24, .int 0])), (q29, .inl (cA52, 2000, .inl (fun _ => 0))), (q30, .inl (cA53, 5718, .inl (fun _ => 0))), (q54, .inl (cA55, 1, .inr (.inl (fun _ => 0)))), (q27, .inr (12, [.ref q29, .ref q30, .ref q31, .int 0, .int 1, .int 0, .int 0, .int 0, .ref q32, .ref q33, .ref q34, .ref q35, .ref q36, .int 0, .int 0, .ref q37, .ref q38, .ref q39, .ref q40, .ref q41, .ref q42, .ref q43, .ref q44, .int 0, .int 0, .ref q45, .ref q46, .ref q47, .ref q48, .ref q49, .int 0, .ref q50, .int 0, .int 0, .int 0, .int 0, .ref q51, .int 0, .int 0]))] := hD
  have hK : va_K (dC, dI) cls [(cA25, .byte), (cA52, .byte), (cA53, .byte), (cA55, .long), (cA55, .long)] s := hK
  obtain rfl : r1014 = 0 := hw
  refine lv_istore hx hb d_La_law_718 hl (by decide) rfl (fun ls hl => ?_)
  have hl : lv_has ls 8 [(6, .int 0), (5, .int 1), (4, .int 0), (3, .ref q54), (2, .ref q27), (1, .ref q1), (0, .ref b)] := hl
  refine lv_aload_n hx hb d_La_law_720 rfl (lv_at hl 4 rfl) ?_
  have hhp : ∀ q, q < s.heap.size → H[q]? = s.heap[q]? := fun q hq => hS.2.1 q hq (fun h => absurd (hA2 q h) (by omega))
  have hPc := hP.sub (ws' := [(q27, .inr (12, [.ref q29, .ref q30, .ref q31, .int 0, .int 1, .int 0, .int 0, .int 0, .ref q32, .ref q33, .ref q34, .ref q35, .ref q36, .int 0, .int 0, .ref q37, .ref q38, .ref q39, .ref q40, .ref q41, .ref q42, .ref q43, .ref q44, .int 0, .int 0, .ref q45, .ref q46, .ref q47, .ref q48, .ref q49, .int 0, .ref q50, .int 0, .int 0, .int 0, .int 0, .ref q51, .int 0, .int 0]))]) [8] rfl
  have hDc := hD.sub (ws' := [(q27, .inr (12, [.ref q29, .ref q30, .ref q31, .int 0, .int 1, .int 0, .int 0, .int 0, .ref q32, .ref q33, .ref q34, .ref q35, .ref q36, .int 0, .int 0, .ref q37, .ref q38, .ref q39, .ref q40, .ref q41, .ref q42, .ref q43, .ref q44, .int 0, .int 0, .ref q45, .ref q46, .ref q47, .ref q48, .ref q49, .int 0, .ref q50, .int 0, .int 0, .int 0, .int 0, .ref q51, .int 0, .int 0]))]) [8] (by decide) rfl
  have hKc := hK.sub (tys' := []) [] rfl
  have hFc := va_free (wc := [(q27, .inr (12, [.ref q29, .ref q30, .ref q31, .int 0, .int 1, .int 0, .int 0, .int 0, .ref q32, .ref q33, .ref q34, .ref q35, .ref q36, .int 0, .int 0, .ref q37, .ref q38, .ref q39, .ref q40, .ref q41, .ref q42, .ref q43, .ref q44, .int 0, .int 0, .ref q45, .ref q46, .ref q47, .ref q48, .ref q49, .int 0, .ref q50, .int 0, .int 0, .int 0, .int 0, .ref q51, .int 0, .int 0]))]) hD hS hA [8] rfl
  have hkc : 220 + 0 ≤ 600002 := (Nat.le_of_ble_eq_true rfl)
  refine va_calli (va_runV (As := []) (rest := []) hfx (c_Mo_thrown_1 l dC dI q27 q29 q30 q31 q32 q33 q34 q35 q36 q37 q38 q39 q40 q41 q42 q43 q44 q45 q46 q47 q48 q49 q50 q51 0 0 H.size) ⟨(ux_cb 0 hT tw_1714 tw_1711 tw_13 rfl rfl (by decide +kernel) ⟨(Nat.le_of_ble_eq_true rfl), (Nat.le_of_ble_eq_true rfl)⟩), (ux_T_at hT tw_1712 rfl), (ux_T_at hT tw_1713 rfl)⟩ (ux_preV (r := (R_Mo, F_Mo, 39)) (ci := 12) (q0 := 0) [] hT hPc hKc hDc rfl rfl) rfl rfl hl.1 rfl (lv_room (Nat.le_of_ble_eq_true rfl)) d_La_law_721 ⟨(Nat.le_of_ble_eq_true rfl), (Nat.le_of_ble_eq_true rfl)⟩) hS (fun q _ h => hFc q h) hFc (fun r1015 u t H1 locs ht hvm hw hB hz1 hk1 hS => ?_)
  obtain ⟨hP1, hK1, hD1⟩ := hB
  rw [ht] at hP1
  have hK1 := va_K.moved hvm.symm hK1
  obtain ⟨hP, hD⟩ := va_join (wr := [(q3, .inl (cA25, 2000, .inl (fun _ => 0))), (q4, .inr (1, [.ref q12, .ref q13, .ref q14, .int 0, .int 0])), (q5, .inr (2, [.ref q4, .ref q15, .ref q16, .int 0, .int 0])), (q6, .inr (3, [.ref q17, .int 0])), (q9, .inr (10, [.ref q20, .ref q21, .ref q22, .ref q23, .ref q24, .int 0])), (q29, .inl (cA52, 2000, .inl (fun _ => 0))), (q30, .inl (cA53, 5718, .inl (fun _ => 0))), (q54, .inl (cA55, 1, .inr (.inl (fun _ => 0))))]) (w1 := [(q27, .inr (12, [.ref q29, .ref q30, .ref q31, .int 0, .int 1, .int 0, .int 0, .int 0, .ref q32, .ref q33, .ref q34, .ref q35, .ref q36, .int 0, .int 0, .ref q37, .ref q38, .ref q39, .ref q40, .ref q41, .ref q42, .ref q43, .ref q44, .int 0, .int 0, .ref q45, .ref q46, .ref q47, .ref q48, .ref q49, .int 0, .ref q50, .int 0, .int 0, .int 0, .int 0, .ref q51, .int 0, .int 0]))]) hP hD [8] [0, 1, 2, 3, 4, 5, 6, 7] rfl rfl (by decide) (by decide) hk1 hFc hP1 hD1
  have hK := (hK.sub (tys' := [(cA25, .byte), (cA52, .byte), (cA53, .byte), (cA55, .long), (cA55, .long)]) [0, 1, 2, 3, 4] rfl).app hK1
  generalize H1 = H at hP hS ⊢
  have hP : va_P (dC, dI) cls [(q3, .inl (cA25, 2000, .inl (fun _ => 0))), (q4, .inr (1, [.ref q12, .ref q13, .ref q14, .int 0, .int 0])), (q5, .inr (2, [.ref q4, .ref q15, .ref q16, .int 0, .int 0])), (q6, .inr (3, [.ref q17, .int 0])), (q9, .inr (10, [.ref q20, .ref q21, .ref q22, .ref q23, .ref q24, .int 0])), (q29, .inl (cA52, 2000, .inl (fun _ => 0))), (q30, .inl (cA53, 5718, .inl (fun _ => 0))), (q54, .inl (cA55, 1, .inr (.inl (fun _ => 0)))), (q27, .inr (12, [.ref q29, .ref q30, .ref q31, .int 0, .int 1, .int 0, .int 0, .int 0, .ref q32, .ref q33, .ref q34, .ref q35, .ref q36, .int 0, .int 0, .ref q37, .ref q38, .ref q39, .ref q40, .ref q41, .ref q42, .ref q43, .ref q44, .int 0, .int 0, .ref q45, .ref q46, .ref q47, .ref q48, .ref q49, .int 0, .ref q50, .int 0, .int 0, .int 0, .int 0, .ref q51, .int 0, .int 0]))] H := hP
  have hD : va_D A [(q3, .inl (cA25, 2000, .inl (fun _ => 0))), (q4, .inr (1, [.ref q12, .ref q13, .ref q14, .int 0, .int 0])), (q5, .inr (2, [.ref q4, .ref q15, .ref q16, .int 0, .int 0])), (q6, .inr (3, [.ref q17, .int 0])), (q9, .inr (10, [.ref q20, .ref q21, .ref q22, .ref q23, .ref q24, .int 0])), (q29, .inl (cA52, 2000, .inl (fun _ => 0))), (q30, .inl (cA53, 5718, .inl (fun _ => 0))), (q54, .inl (cA55, 1, .inr (.inl (fun _ => 0)))), (q27, .inr (12, [.ref q29, .ref q30, .ref q31, .int 0, .int 1, .int 0, .int 0, .int 0, .ref q32, .ref q33, .ref q34, .ref q35, .ref q36, .int 0, .int 0, .ref q37, .ref q38, .ref q39, .ref q40, .ref q41, .ref q42, .ref q43, .ref q44, .int 0, .int 0, .ref q45, .ref q46, .ref q47, .ref q48, .ref q49, .int 0, .ref q50, .int 0, .int 0, .int 0, .int 0, .ref q51, .int 0, .int 0]))] := hD
  have hK : va_K (dC, dI) cls [(cA25, .byte), (cA52, .byte), (cA53, .byte), (cA55, .long), (cA55, .long)] s := hK
  obtain rfl : r1015 = 1 := hw
  refine lv_iload hx hb d_La_law_724 (lv_at hl 1 rfl) ?_
  refine lv_icmp_eq (tgt := 731) hx hb d_La_law_726 (by decide) (fun _ => ?_) (fun hc => absurd (by decide) hc)
  refine lv_iload hx hb d_La_law_731 (lv_at hl 1 rfl) ?_
  refine lv_if_ne (tgt := 748) hx hb d_La_law_733 (by decide) (fun _ => ?_) (fun hc => absurd hc (by decide))
  refine lv_goto hx hb d_La_law_748 (tgt := 751) (by decide) ?_
  exact law_end l hA2 ⟨hx, hb, hr, hml, hown, hts, hX, hbl, hlocks, hgv⟩ (Nat.le_of_ble_eq_true rfl) (Nat.le_of_ble_eq_true rfl) hS (lv_sub hl [6, 2] rfl)
