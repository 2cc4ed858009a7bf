theorem dX12_init_428 : decode cX12_init 428 = .ok (.putfield 156, 3) := k181 (y := 0) (z := 156) hC_cX12_init rfl rfl
theorem dX12_init_431 : decode cX12_init 431 = .ok (.aload_n 0, 1) := k42 hC_cX12_init rfl
theorem dX12_init_432 : decode cX12_init 432 = .ok (.sipush 400, 3) := k17 (y := 1) (z := 144) hC_cX12_init rfl rfl
theorem dX12_init_435 : decode cX12_init 435 = .ok (.newarray .int, 2) := k188_10 hC_cX12_init rfl
theorem dX12_init_437 : decode cX12_init 437 = .ok (.putfield 159, 3) := k181 (y := 0) (z := 159) hC_cX12_init rfl rfl
theorem dX12_init_44 : decode cX12_init 44 = .ok (.putfield 23, 3) := k181 (y := 0) (z := 23) hC_cX12_init rfl rfl
theorem dX12_init_440 : decode cX12_init 440 = .ok (.aload_n 0, 1) := k42 hC_cX12_init rfl
theorem dX12_init_441 : decode cX12_init 441 = .ok (.sipush 4000, 3) := k17 (y := 15) (z := 160) hC_cX12_init rfl rfl
theorem dX12_init_444 : decode cX12_init 444 = .ok (.newarray .int, 2) := k188_10 hC_cX12_init rfl
theorem dX12_init_446 : decode cX12_init 446 = .ok (.putfield 162, 3) := k181 (y := 0) (z := 162) hC_cX12_init rfl rfl
theorem dX12_init_449 : decode cX12_init 449 = .ok (.aload_n 0, 1) := k42 hC_cX12_init rfl
theorem dX12_init_450 : decode cX12_init 450 = .ok (.sipush 4000, 3) := k17 (y := 15) (z := 160) hC_cX12_init rfl rfl
theorem dX12_init_453 : decode cX12_init 453 = .ok (.newarray .int, 2) := k188_10 hC_cX12_init rfl
theorem dX12_init_455 : decode cX12_init 455 = .ok (.putfield 165, 3) := k181 (y := 0) (z := 165) hC_cX12_init rfl rfl
theorem dX12_init_458 : decode cX12_init 458 = .ok (.aload_n 0, 1) := k42 hC_cX12_init rfl
theorem dX12_init_459 : decode cX12_init 459 = .ok (.sipush 4000, 3) := k17 (y := 15) (z := 160) hC_cX12_init rfl rfl
theorem dX12_init_462 : decode cX12_init 462 = .ok (.newarray .int, 2) := k188_10 hC_cX12_init rfl
theorem dX12_init_464 : decode cX12_init 464 = .ok (.putfield 168, 3) := k181 (y := 0) (z := 168) hC_cX12_init rfl rfl
theorem dX12_init_467 : decode cX12_init 467 = .ok (.aload_n 0, 1) := k42 hC_cX12_init rfl
theorem dX12_init_468 : decode cX12_init 468 = .ok (.bipush 60, 2) := k16 (y := 60) hC_cX12_init rfl rfl
theorem dX12_init_47 : decode cX12_init 47 = .ok (.aload_n 0, 1) := k42 hC_cX12_init rfl
theorem dX12_init_470 : decode cX12_init 470 = .ok (.newarray .int, 2) := k188_10 hC_cX12_init rfl
theorem dX12_init_472 : decode cX12_init 472 = .ok (.putfield 171, 3) := k181 (y := 0) (z := 171) hC_cX12_init rfl rfl
theorem dX12_init_475 : decode cX12_init 475 = .ok (.aload_n 0, 1) := k42 hC_cX12_init rfl
theorem dX12_init_476 : decode cX12_init 476 = .ok (.bipush 6, 2) := k16 (y := 6) hC_cX12_init rfl rfl
theorem dX12_init_478 : decode cX12_init 478 = .ok (.newarray .int, 2) := k188_10 hC_cX12_init rfl
theorem dX12_init_48 : decode cX12_init 48 = .ok (.sipush 320, 3) := k17 (y := 1) (z := 64) hC_cX12_init rfl rfl
theorem dX12_init_480 : decode cX12_init 480 = .ok (.putfield 174, 3) := k181 (y := 0) (z := 174) hC_cX12_init rfl rfl
theorem dX12_init_483 : decode cX12_init 483 = .ok (.aload_n 0, 1) := k42 hC_cX12_init rfl
theorem dX12_init_484 : decode cX12_init 484 = .ok (.bipush 6, 2) := k16 (y := 6) hC_cX12_init rfl rfl
theorem dX12_init_486 : decode cX12_init 486 = .ok (.newarray .int, 2) := k188_10 hC_cX12_init rfl
theorem dX12_init_488 : decode cX12_init 488 = .ok (.putfield 177, 3) := k181 (y := 0) (z := 177) hC_cX12_init rfl rfl
theorem dX12_init_491 : decode cX12_init 491 = .ok (.aload_n 0, 1) := k42 hC_cX12_init rfl
theorem dX12_init_492 : decode cX12_init 492 = .ok (.bipush 24, 2) := k16 (y := 24) hC_cX12_init rfl rfl
theorem dX12_init_494 : decode cX12_init 494 = .ok (.newarray .int, 2) := k188_10 hC_cX12_init rfl
theorem dX12_init_496 : decode cX12_init 496 = .ok (.putfield 180, 3) := k181 (y := 0) (z := 180) hC_cX12_init rfl rfl
theorem dX12_init_499 : decode cX12_init 499 = .ok (.aload_n 0, 1) := k42 hC_cX12_init rfl
theorem dX12_init_5 : decode cX12_init 5 = .ok (.sipush 200, 3) := k17 (y := 0) (z := 200) hC_cX12_init rfl rfl
theorem dX12_init_500 : decode cX12_init 500 = .ok (.sipush 1600, 3) := k17 (y := 6) (z := 64) hC_cX12_init rfl rfl
theorem dX12_init_503 : decode cX12_init 503 = .ok (.newarray .boolean, 2) := k188_4 hC_cX12_init rfl
theorem dX12_init_505 : decode cX12_init 505 = .ok (.putfield 183, 3) := k181 (y := 0) (z := 183) hC_cX12_init rfl rfl
theorem dX12_init_508 : decode cX12_init 508 = .ok (.aload_n 0, 1) := k42 hC_cX12_init rfl
theorem dX12_init_509 : decode cX12_init 509 = .ok (.bipush 24, 2) := k16 (y := 24) hC_cX12_init rfl rfl
theorem dX12_init_51 : decode cX12_init 51 = .ok (.newarray .int, 2) := k188_10 hC_cX12_init rfl
theorem dX12_init_511 : decode cX12_init 511 = .ok (.newarray .int, 2) := k188_10 hC_cX12_init rfl
theorem dX12_init_513 : decode cX12_init 513 = .ok (.putfield 186, 3) := k181 (y := 0) (z := 186) hC_cX12_init rfl rfl
theorem dX12_init_516 : decode cX12_init 516 = .ok (.aload_n 0, 1) := k42 hC_cX12_init rfl
theorem dX12_init_517 : decode cX12_init 517 = .ok (.bipush 24, 2) := k16 (y := 24) hC_cX12_init rfl rfl
theorem dX12_init_519 : decode cX12_init 519 = .ok (.newarray .boolean, 2) := k188_4 hC_cX12_init rfl
theorem dX12_init_521 : decode cX12_init 521 = .ok (.putfield 189, 3) := k181 (y := 0) (z := 189) hC_cX12_init rfl rfl
theorem dX12_init_524 : decode cX12_init 524 = .ok (.aload_n 0, 1) := k42 hC_cX12_init rfl
theorem dX12_init_525 : decode cX12_init 525 = .ok (.sipush 480, 3) := k17 (y := 1) (z := 224) hC_cX12_init rfl rfl
theorem dX12_init_528 : decode cX12_init 528 = .ok (.newarray .int, 2) := k188_10 hC_cX12_init rfl
theorem dX12_init_53 : decode cX12_init 53 = .ok (.putfield 26, 3) := k181 (y := 0) (z := 26) hC_cX12_init rfl rfl
theorem dX12_init_530 : decode cX12_init 530 = .ok (.putfield 192, 3) := k181 (y := 0) (z := 192) hC_cX12_init rfl rfl
theorem dX12_init_533 : decode cX12_init 533 = .ok (.aload_n 0, 1) := k42 hC_cX12_init rfl
theorem dX12_init_534 : decode cX12_init 534 = .ok (.sipush 480, 3) := k17 (y := 1) (z := 224) hC_cX12_init rfl rfl
theorem dX12_init_537 : decode cX12_init 537 = .ok (.newarray .int, 2) := k188_10 hC_cX12_init rfl
theorem dX12_init_539 : decode cX12_init 539 = .ok (.putfield 195, 3) := k181 (y := 0) (z := 195) hC_cX12_init rfl rfl
theorem dX12_init_542 : decode cX12_init 542 = .ok (.aload_n 0, 1) := k42 hC_cX12_init rfl
theorem dX12_init_543 : decode cX12_init 543 = .ok (.sipush 200, 3) := k17 (y := 0) (z := 200) hC_cX12_init rfl rfl
theorem dX12_init_546 : decode cX12_init 546 = .ok (.newarray .byte, 2) := k188_8 hC_cX12_init rfl
theorem dX12_init_548 : decode cX12_init 548 = .ok (.putfield 198, 3) := k181 (y := 0) (z := 198) hC_cX12_init rfl rfl
theorem dX12_init_551 : decode cX12_init 551 = .ok (.aload_n 0, 1) := k42 hC_cX12_init rfl
theorem dX12_init_552 : decode cX12_init 552 = .ok (.bipush 6, 2) := k16 (y := 6) hC_cX12_init rfl rfl
theorem dX12_init_554 : decode cX12_init 554 = .ok (.newarray .int, 2) := k188_10 hC_cX12_init rfl
theorem dX12_init_556 : decode cX12_init 556 = .ok (.putfield 201, 3) := k181 (y := 0) (z := 201) hC_cX12_init rfl rfl
theorem dX12_init_559 : decode cX12_init 559 = .ok (.aload_n 0, 1) := k42 hC_cX12_init rfl
theorem dX12_init_56 : decode cX12_init 56 = .ok (.aload_n 0, 1) := k42 hC_cX12_init rfl
theorem dX12_init_560 : decode cX12_init 560 = .ok (.bipush 6, 2) := k16 (y := 6) hC_cX12_init rfl rfl
theorem dX12_init_562 : decode cX12_init 562 = .ok (.newarray .int, 2) := k188_10 hC_cX12_init rfl
theorem dX12_init_564 : decode cX12_init 564 = .ok (.putfield 204, 3) := k181 (y := 0) (z := 204) hC_cX12_init rfl rfl
theorem dX12_init_567 : decode cX12_init 567 = .ok (.aload_n 0, 1) := k42 hC_cX12_init rfl
theorem dX12_init_568 : decode cX12_init 568 = .ok (.bipush 6, 2) := k16 (y := 6) hC_cX12_init rfl rfl
theorem dX12_init_57 : decode cX12_init 57 = .ok (.sipush 3840, 3) := k17 (y := 15) (z := 0) hC_cX12_init rfl rfl
theorem dX12_init_570 : decode cX12_init 570 = .ok (.newarray .int, 2) := k188_10 hC_cX12_init rfl
theorem dX12_init_572 : decode cX12_init 572 = .ok (.putfield 207, 3) := k181 (y := 0) (z := 207) hC_cX12_init rfl rfl
theorem dX12_init_575 : decode cX12_init 575 = .ok (.return_, 1) := k177 hC_cX12_init rfl
theorem dX12_init_60 : decode cX12_init 60 = .ok (.newarray .byte, 2) := k188_8 hC_cX12_init rfl
theorem dX12_init_62 : decode cX12_init 62 = .ok (.putfield 29, 3) := k181 (y := 0) (z := 29) hC_cX12_init rfl rfl
theorem dX12_init_65 : decode cX12_init 65 = .ok (.aload_n 0, 1) := k42 hC_cX12_init rfl
theorem dX12_init_66 : decode cX12_init 66 = .ok (.bipush 6, 2) := k16 (y := 6) hC_cX12_init rfl rfl
theorem dX12_init_68 : decode cX12_init 68 = .ok (.newarray .int, 2) := k188_10 hC_cX12_init rfl
theorem dX12_init_70 : decode cX12_init 70 = .ok (.putfield 32, 3) := k181 (y := 0) (z := 32) hC_cX12_init rfl rfl
theorem dX12_init_73 : decode cX12_init 73 = .ok (.aload_n 0, 1) := k42 hC_cX12_init rfl
theorem dX12_init_74 : decode cX12_init 74 = .ok (.bipush 6, 2) := k16 (y := 6) hC_cX12_init rfl rfl
theorem dX12_init_76 : decode cX12_init 76 = .ok (.newarray .int, 2) := k188_10 hC_cX12_init rfl
theorem dX12_init_78 : decode cX12_init 78 = .ok (.putfield 35, 3) := k181 (y := 0) (z := 35) hC_cX12_init rfl rfl
theorem dX12_init_8 : decode cX12_init 8 = .ok (.newarray .byte, 2) := k188_8 hC_cX12_init rfl
theorem dX12_init_81 : decode cX12_init 81 = .ok (.aload_n 0, 1) := k42 hC_cX12_init rfl
theorem dX12_init_82 : decode cX12_init 82 = .ok (.bipush 24, 2) := k16 (y := 24) hC_cX12_init rfl rfl
theorem dX12_init_84 : decode cX12_init 84 = .ok (.newarray .int, 2) := k188_10 hC_cX12_init rfl
theorem dX12_init_86 : decode cX12_init 86 = .ok (.putfield 38, 3) := k181 (y := 0) (z := 38) hC_cX12_init rfl rfl
theorem dX12_init_89 : decode cX12_init 89 = .ok (.aload_n 0, 1) := k42 hC_cX12_init rfl
theorem dX12_init_90 : decode cX12_init 90 = .ok (.bipush 24, 2) := k16 (y := 24) hC_cX12_init rfl rfl
theorem dX12_init_92 : decode cX12_init 92 = .ok (.newarray .boolean, 2) := k188_4 hC_cX12_init rfl
theorem dX12_init_94 : decode cX12_init 94 = .ok (.putfield 41, 3) := k181 (y := 0) (z := 41) hC_cX12_init rfl rfl
theorem dX12_init_97 : decode cX12_init 97 = .ok (.aload_n 0, 1) := k42 hC_cX12_init rfl
theorem dX12_init_98 : decode cX12_init 98 = .ok (.bipush 24, 2) := k16 (y := 24) hC_cX12_init rfl rfl
theorem dX1_init_0 : decode cX1_init 0 = .ok (.aload_n 0, 1) := k42 hC_cX1_init rfl
theorem dX1_init_1 : decode cX1_init 1 = .ok (.invokespecial 7, 3) := k183 (y := 0) (z := 7) hC_cX1_init rfl rfl
theorem dX1_init_11 : decode cX1_init 11 = .ok (.aload_n 0, 1) := k42 hC_cX1_init rfl
theorem dX1_init_12 : decode cX1_init 12 = .ok (.sipush 320, 3) := k17 (y := 1) (z := 64) hC_cX1_init rfl rfl
theorem dX1_init_15 : decode cX1_init 15 = .ok (.newarray .int, 2) := k188_10 hC_cX1_init rfl
theorem dX1_init_17 : decode cX1_init 17 = .ok (.putfield 17, 3) := k181 (y := 0) (z := 17) hC_cX1_init rfl rfl
theorem dX1_init_20 : decode cX1_init 20 = .ok (.aload_n 0, 1) := k42 hC_cX1_init rfl
theorem dX1_init_21 : decode cX1_init 21 = .ok (.sipush 420, 3) := k17 (y := 1) (z := 164) hC_cX1_init rfl rfl
theorem dX1_init_24 : decode cX1_init 24 = .ok (.newarray .int, 2) := k188_10 hC_cX1_init rfl
theorem dX1_init_26 : decode cX1_init 26 = .ok (.putfield 20, 3) := k181 (y := 0) (z := 20) hC_cX1_init rfl rfl
theorem dX1_init_29 : decode cX1_init 29 = .ok (.aload_n 0, 1) := k42 hC_cX1_init rfl
theorem dX1_init_30 : decode cX1_init 30 = .ok (.sipush 420, 3) := k17 (y := 1) (z := 164) hC_cX1_init rfl rfl
theorem dX1_init_33 : decode cX1_init 33 = .ok (.newarray .int, 2) := k188_10 hC_cX1_init rfl
theorem dX1_init_35 : decode cX1_init 35 = .ok (.putfield 23, 3) := k181 (y := 0) (z := 23) hC_cX1_init rfl rfl
theorem dX1_init_38 : decode cX1_init 38 = .ok (.aload_n 0, 1) := k42 hC_cX1_init rfl
theorem dX1_init_39 : decode cX1_init 39 = .ok (.sipush 420, 3) := k17 (y := 1) (z := 164) hC_cX1_init rfl rfl
theorem dX1_init_4 : decode cX1_init 4 = .ok (.aload_n 0, 1) := k42 hC_cX1_init rfl
theorem dX1_init_42 : decode cX1_init 42 = .ok (.newarray .int, 2) := k188_10 hC_cX1_init rfl
theorem dX1_init_44 : decode cX1_init 44 = .ok (.putfield 26, 3) := k181 (y := 0) (z := 26) hC_cX1_init rfl rfl
theorem dX1_init_47 : decode cX1_init 47 = .ok (.aload_n 0, 1) := k42 hC_cX1_init rfl
theorem dX1_init_48 : decode cX1_init 48 = .ok (.sipush 300, 3) := k17 (y := 1) (z := 44) hC_cX1_init rfl rfl
theorem dX1_init_5 : decode cX1_init 5 = .ok (.iconst 5, 1) := k8 hC_cX1_init rfl
theorem dX1_init_51 : decode cX1_init 51 = .ok (.newarray .long, 2) := k188_11 hC_cX1_init rfl
theorem dX1_init_53 : decode cX1_init 53 = .ok (.putfield 29, 3) := k181 (y := 0) (z := 29) hC_cX1_init rfl rfl
theorem dX1_init_56 : decode cX1_init 56 = .ok (.aload_n 0, 1) := k42 hC_cX1_init rfl
theorem dX1_init_57 : decode cX1_init 57 = .ok (.aload_n 1, 1) := k43 hC_cX1_init rfl
theorem dX1_init_58 : decode cX1_init 58 = .ok (.putfield 33, 3) := k181 (y := 0) (z := 33) hC_cX1_init rfl rfl
theorem dX1_init_6 : decode cX1_init 6 = .ok (.newarray .int, 2) := k188_10 hC_cX1_init rfl
theorem dX1_init_61 : decode cX1_init 61 = .ok (.aload_n 0, 1) := k42 hC_cX1_init rfl
theorem dX1_init_62 : decode cX1_init 62 = .ok (.aload_n 2, 1) := k44 hC_cX1_init rfl
theorem dX1_init_63 : decode cX1_init 63 = .ok (.putfield 37, 3) := k181 (y := 0) (z := 37) hC_cX1_init rfl rfl
theorem dX1_init_66 : decode cX1_init 66 = .ok (.aload_n 0, 1) := k42 hC_cX1_init rfl
theorem dX1_init_67 : decode cX1_init 67 = .ok (.aload_n 3, 1) := k45 hC_cX1_init rfl
theorem dX1_init_68 : decode cX1_init 68 = .ok (.putfield 41, 3) := k181 (y := 0) (z := 41) hC_cX1_init rfl rfl
theorem dX1_init_71 : decode cX1_init 71 = .ok (.aload_n 0, 1) := k42 hC_cX1_init rfl
theorem dX1_init_72 : decode cX1_init 72 = .ok (.aload 4, 2) := k25 hC_cX1_init rfl
theorem dX1_init_74 : decode cX1_init 74 = .ok (.putfield 45, 3) := k181 (y := 0) (z := 45) hC_cX1_init rfl rfl
theorem dX1_init_77 : decode cX1_init 77 = .ok (.return_, 1) := k177 hC_cX1_init rfl
theorem dX1_init_8 : decode cX1_init 8 = .ok (.putfield 13, 3) := k181 (y := 0) (z := 13) hC_cX1_init rfl rfl
theorem dX2_init_0 : decode cX2_init 0 = .ok (.aload_n 0, 1) := k42 hC_cX2_init rfl
theorem dX2_init_1 : decode cX2_init 1 = .ok (.invokespecial 3, 3) := k183 (y := 0) (z := 3) hC_cX2_init rfl rfl
theorem dX2_init_10 : decode cX2_init 10 = .ok (.putfield 13, 3) := k181 (y := 0) (z := 13) hC_cX2_init rfl rfl
theorem dX2_init_13 : decode cX2_init 13 = .ok (.aload_n 0, 1) := k42 hC_cX2_init rfl
theorem dX2_init_14 : decode cX2_init 14 = .ok (.bipush 20, 2) := k16 (y := 20) hC_cX2_init rfl rfl
theorem dX2_init_16 : decode cX2_init 16 = .ok (.newarray .int, 2) := k188_10 hC_cX2_init rfl
theorem dX2_init_18 : decode cX2_init 18 = .ok (.putfield 17, 3) := k181 (y := 0) (z := 17) hC_cX2_init rfl rfl
theorem dX2_init_21 : decode cX2_init 21 = .ok (.aload_n 0, 1) := k42 hC_cX2_init rfl
theorem dX2_init_22 : decode cX2_init 22 = .ok (.bipush 20, 2) := k16 (y := 20) hC_cX2_init rfl rfl
theorem dX2_init_24 : decode cX2_init 24 = .ok (.newarray .int, 2) := k188_10 hC_cX2_init rfl
theorem dX2_init_26 : decode cX2_init 26 = .ok (.putfield 20, 3) := k181 (y := 0) (z := 20) hC_cX2_init rfl rfl
theorem dX2_init_29 : decode cX2_init 29 = .ok (.aload_n 0, 1) := k42 hC_cX2_init rfl
theorem dX2_init_30 : decode cX2_init 30 = .ok (.bipush 20, 2) := k16 (y := 20) hC_cX2_init rfl rfl
theorem dX2_init_32 : decode cX2_init 32 = .ok (.newarray .int, 2) := k188_10 hC_cX2_init rfl
theorem dX2_init_34 : decode cX2_init 34 = .ok (.putfield 23, 3) := k181 (y := 0) (z := 23) hC_cX2_init rfl rfl
theorem dX2_init_37 : decode cX2_init 37 = .ok (.aload_n 0, 1) := k42 hC_cX2_init rfl
theorem dX2_init_38 : decode cX2_init 38 = .ok (.bipush 20, 2) := k16 (y := 20) hC_cX2_init rfl rfl
theorem dX2_init_4 : decode cX2_init 4 = .ok (.aload_n 0, 1) := k42 hC_cX2_init rfl
theorem dX2_init_40 : decode cX2_init 40 = .ok (.newarray .int, 2) := k188_10 hC_cX2_init rfl
theorem dX2_init_42 : decode cX2_init 42 = .ok (.putfield 26, 3) := k181 (y := 0) (z := 26) hC_cX2_init rfl rfl
theorem dX2_init_45 : decode cX2_init 45 = .ok (.aload_n 0, 1) := k42 hC_cX2_init rfl
theorem dX2_init_46 : decode cX2_init 46 = .ok (.sipush 320, 3) := k17 (y := 1) (z := 64) hC_cX2_init rfl rfl
theorem dX2_init_49 : decode cX2_init 49 = .ok (.newarray .int, 2) := k188_10 hC_cX2_init rfl
theorem dX2_init_5 : decode cX2_init 5 = .ok (.bipush 20, 2) := k16 (y := 20) hC_cX2_init rfl rfl
theorem dX2_init_51 : decode cX2_init 51 = .ok (.putfield 29, 3) := k181 (y := 0) (z := 29) hC_cX2_init rfl rfl
theorem dX2_init_54 : decode cX2_init 54 = .ok (.aload_n 0, 1) := k42 hC_cX2_init rfl
theorem dX2_init_55 : decode cX2_init 55 = .ok (.sipush 320, 3) := k17 (y := 1) (z := 64) hC_cX2_init rfl rfl
theorem dX2_init_58 : decode cX2_init 58 = .ok (.newarray .int, 2) := k188_10 hC_cX2_init rfl
theorem dX2_init_60 : decode cX2_init 60 = .ok (.putfield 32, 3) := k181 (y := 0) (z := 32) hC_cX2_init rfl rfl
theorem dX2_init_63 : decode cX2_init 63 = .ok (.aload_n 0, 1) := k42 hC_cX2_init rfl
theorem dX2_init_64 : decode cX2_init 64 = .ok (.sipush 320, 3) := k17 (y := 1) (z := 64) hC_cX2_init rfl rfl
theorem dX2_init_67 : decode cX2_init 67 = .ok (.newarray .int, 2) := k188_10 hC_cX2_init rfl
theorem dX2_init_69 : decode cX2_init 69 = .ok (.putfield 35, 3) := k181 (y := 0) (z := 35) hC_cX2_init rfl rfl
theorem dX2_init_7 : decode cX2_init 7 = .ok (.anewarray 11, 3) := k189 (y := 0) (z := 11) hC_cX2_init rfl rfl
theorem dX2_init_72 : decode cX2_init 72 = .ok (.aload_n 0, 1) := k42 hC_cX2_init rfl
theorem dX2_init_73 : decode cX2_init 73 = .ok (.sipush 320, 3) := k17 (y := 1) (z := 64) hC_cX2_init rfl rfl
theorem dX2_init_76 : decode cX2_init 76 = .ok (.newarray .int, 2) := k188_10 hC_cX2_init rfl
theorem dX2_init_78 : decode cX2_init 78 = .ok (.putfield 38, 3) := k181 (y := 0) (z := 38) hC_cX2_init rfl rfl
theorem dX2_init_81 : decode cX2_init 81 = .ok (.aload_n 0, 1) := k42 hC_cX2_init rfl
theorem dX2_init_82 : decode cX2_init 82 = .ok (.sipush 320, 3) := k17 (y := 1) (z := 64) hC_cX2_init rfl rfl
theorem dX2_init_85 : decode cX2_init 85 = .ok (.newarray .int, 2) := k188_10 hC_cX2_init rfl
theorem dX2_init_87 : decode cX2_init 87 = .ok (.putfield 41, 3) := k181 (y := 0) (z := 41) hC_cX2_init rfl rfl
theorem dX2_init_90 : decode cX2_init 90 = .ok (.return_, 1) := k177 hC_cX2_init rfl
theorem dX3_init_0 : decode cX3_init 0 = .ok (.aload_n 0, 1) := k42 hC_cX3_init rfl
theorem dX3_init_1 : decode cX3_init 1 = .ok (.invokespecial 3, 3) := k183 (y := 0) (z := 3) hC_cX3_init rfl rfl
theorem dX3_init_11 : decode cX3_init 11 = .ok (.aload_n 0, 1) := k42 hC_cX3_init rfl
theorem dX3_init_12 : decode cX3_init 12 = .ok (.aload_n 1, 1) := k43 hC_cX3_init rfl
theorem dX3_init_13 : decode cX3_init 13 = .ok (.putfield 18, 3) := k181 (y := 0) (z := 18) hC_cX3_init rfl rfl
theorem dX3_init_16 : decode cX3_init 16 = .ok (.return_, 1) := k177 hC_cX3_init rfl
theorem dX3_init_4 : decode cX3_init 4 = .ok (.aload_n 0, 1) := k42 hC_cX3_init rfl
theorem dX3_init_5 : decode cX3_init 5 = .ok (.getstatic 9, 3) := k178 (y := 0) (z := 9) hC_cX3_init rfl rfl
theorem dX3_init_8 : decode cX3_init 8 = .ok (.putfield 13, 3) := k181 (y := 0) (z := 13) hC_cX3_init rfl rfl
theorem dX4_init_0 : decode cX4_init 0 = .ok (.aload_n 0, 1) := k42 hC_cX4_init rfl
theorem dX4_init_1 : decode cX4_init 1 = .ok (.invokespecial 3, 3) := k183 (y := 0) (z := 3) hC_cX4_init rfl rfl
theorem dX4_init_12 : decode cX4_init 12 = .ok (.aload_n 0, 1) := k42 hC_cX4_init rfl
theorem dX4_init_13 : decode cX4_init 13 = .ok (.bipush 6, 2) := k16 (y := 6) hC_cX4_init rfl rfl
theorem dX4_init_15 : decode cX4_init 15 = .ok (.newarray .int, 2) := k188_10 hC_cX4_init rfl
theorem dX4_init_17 : decode cX4_init 17 = .ok (.putfield 15, 3) := k181 (y := 0) (z := 15) hC_cX4_init rfl rfl
theorem dX4_init_20 : decode cX4_init 20 = .ok (.aload_n 0, 1) := k42 hC_cX4_init rfl
theorem dX4_init_21 : decode cX4_init 21 = .ok (.bipush 6, 2) := k16 (y := 6) hC_cX4_init rfl rfl
theorem dX4_init_23 : decode cX4_init 23 = .ok (.newarray .int, 2) := k188_10 hC_cX4_init rfl
theorem dX4_init_25 : decode cX4_init 25 = .ok (.putfield 18, 3) := k181 (y := 0) (z := 18) hC_cX4_init rfl rfl
theorem dX4_init_28 : decode cX4_init 28 = .ok (.return_, 1) := k177 hC_cX4_init rfl
theorem dX4_init_4 : decode cX4_init 4 = .ok (.aload_n 0, 1) := k42 hC_cX4_init rfl
theorem dX4_init_5 : decode cX4_init 5 = .ok (.bipush 6, 2) := k16 (y := 6) hC_cX4_init rfl rfl
theorem dX4_init_7 : decode cX4_init 7 = .ok (.newarray .int, 2) := k188_10 hC_cX4_init rfl
theorem dX4_init_9 : decode cX4_init 9 = .ok (.putfield 11, 3) := k181 (y := 0) (z := 11) hC_cX4_init rfl rfl
theorem dX5_init_0 : decode cX5_init 0 = .ok (.aload_n 0, 1) := k42 hC_cX5_init rfl
theorem dX5_init_1 : decode cX5_init 1 = .ok (.invokespecial 3, 3) := k183 (y := 0) (z := 3) hC_cX5_init rfl rfl
theorem dX5_init_12 : decode cX5_init 12 = .ok (.aload_n 0, 1) := k42 hC_cX5_init rfl
theorem dX5_init_13 : decode cX5_init 13 = .ok (.bipush 6, 2) := k16 (y := 6) hC_cX5_init rfl rfl
theorem dX5_init_15 : decode cX5_init 15 = .ok (.newarray .int, 2) := k188_10 hC_cX5_init rfl
theorem dX5_init_17 : decode cX5_init 17 = .ok (.putfield 15, 3) := k181 (y := 0) (z := 15) hC_cX5_init rfl rfl
theorem dX5_init_20 : decode cX5_init 20 = .ok (.aload_n 0, 1) := k42 hC_cX5_init rfl
theorem dX5_init_21 : decode cX5_init 21 = .ok (.bipush 6, 2) := k16 (y := 6) hC_cX5_init rfl rfl
theorem dX5_init_23 : decode cX5_init 23 = .ok (.newarray .int, 2) := k188_10 hC_cX5_init rfl
theorem dX5_init_25 : decode cX5_init 25 = .ok (.putfield 20, 3) := k181 (y := 0) (z := 20) hC_cX5_init rfl rfl
theorem dX5_init_28 : decode cX5_init 28 = .ok (.aload_n 0, 1) := k42 hC_cX5_init rfl
theorem dX5_init_29 : decode cX5_init 29 = .ok (.bipush 6, 2) := k16 (y := 6) hC_cX5_init rfl rfl
theorem dX5_init_31 : decode cX5_init 31 = .ok (.newarray .int, 2) := k188_10 hC_cX5_init rfl
theorem dX5_init_33 : decode cX5_init 33 = .ok (.putfield 23, 3) := k181 (y := 0) (z := 23) hC_cX5_init rfl rfl
theorem dX5_init_36 : decode cX5_init 36 = .ok (.aload_n 0, 1) := k42 hC_cX5_init rfl
theorem dX5_init_37 : decode cX5_init 37 = .ok (.bipush 6, 2) := k16 (y := 6) hC_cX5_init rfl rfl
theorem dX5_init_39 : decode cX5_init 39 = .ok (.newarray .int, 2) := k188_10 hC_cX5_init rfl
theorem dX5_init_4 : decode cX5_init 4 = .ok (.aload_n 0, 1) := k42 hC_cX5_init rfl
theorem dX5_init_41 : decode cX5_init 41 = .ok (.putfield 26, 3) := k181 (y := 0) (z := 26) hC_cX5_init rfl rfl
theorem dX5_init_44 : decode cX5_init 44 = .ok (.aload_n 0, 1) := k42 hC_cX5_init rfl
theorem dX5_init_45 : decode cX5_init 45 = .ok (.aload_n 1, 1) := k43 hC_cX5_init rfl
theorem dX5_init_46 : decode cX5_init 46 = .ok (.putfield 29, 3) := k181 (y := 0) (z := 29) hC_cX5_init rfl rfl
theorem dX5_init_49 : decode cX5_init 49 = .ok (.aload_n 0, 1) := k42 hC_cX5_init rfl
theorem dX5_init_5 : decode cX5_init 5 = .ok (.bipush 8, 2) := k16 (y := 8) hC_cX5_init rfl rfl
theorem dX5_init_50 : decode cX5_init 50 = .ok (.aload_n 2, 1) := k44 hC_cX5_init rfl
theorem dX5_init_51 : decode cX5_init 51 = .ok (.putfield 33, 3) := k181 (y := 0) (z := 33) hC_cX5_init rfl rfl
theorem dX5_init_54 : decode cX5_init 54 = .ok (.aload_n 0, 1) := k42 hC_cX5_init rfl
theorem dX5_init_55 : decode cX5_init 55 = .ok (.aload_n 3, 1) := k45 hC_cX5_init rfl
theorem dX5_init_56 : decode cX5_init 56 = .ok (.putfield 37, 3) := k181 (y := 0) (z := 37) hC_cX5_init rfl rfl
theorem dX5_init_59 : decode cX5_init 59 = .ok (.return_, 1) := k177 hC_cX5_init rfl
theorem dX5_init_7 : decode cX5_init 7 = .ok (.newarray .int, 2) := k188_10 hC_cX5_init rfl
theorem dX5_init_9 : decode cX5_init 9 = .ok (.putfield 11, 3) := k181 (y := 0) (z := 11) hC_cX5_init rfl rfl
theorem dX6_init_0 : decode cX6_init 0 = .ok (.aload_n 0, 1) := k42 hC_cX6_init rfl
theorem dX6_init_1 : decode cX6_init 1 = .ok (.invokespecial 3, 3) := k183 (y := 0) (z := 3) hC_cX6_init rfl rfl
theorem dX6_init_11 : decode cX6_init 11 = .ok (.aload_n 0, 1) := k42 hC_cX6_init rfl
theorem dX6_init_12 : decode cX6_init 12 = .ok (.aload_n 1, 1) := k43 hC_cX6_init rfl
theorem dX6_init_13 : decode cX6_init 13 = .ok (.putfield 18, 3) := k181 (y := 0) (z := 18) hC_cX6_init rfl rfl
theorem dX6_init_16 : decode cX6_init 16 = .ok (.aload_n 0, 1) := k42 hC_cX6_init rfl
theorem dX6_init_17 : decode cX6_init 17 = .ok (.aload_n 2, 1) := k44 hC_cX6_init rfl
theorem dX6_init_18 : decode cX6_init 18 = .ok (.putfield 22, 3) := k181 (y := 0) (z := 22) hC_cX6_init rfl rfl
theorem dX6_init_21 : decode cX6_init 21 = .ok (.aload_n 0, 1) := k42 hC_cX6_init rfl
theorem dX6_init_22 : decode cX6_init 22 = .ok (.aload_n 3, 1) := k45 hC_cX6_init rfl
theorem dX6_init_23 : decode cX6_init 23 = .ok (.putfield 26, 3) := k181 (y := 0) (z := 26) hC_cX6_init rfl rfl
theorem dX6_init_26 : decode cX6_init 26 = .ok (.return_, 1) := k177 hC_cX6_init rfl
theorem dX6_init_4 : decode cX6_init 4 = .ok (.aload_n 0, 1) := k42 hC_cX6_init rfl
theorem dX6_init_5 : decode cX6_init 5 = .ok (.getstatic 9, 3) := k178 (y := 0) (z := 9) hC_cX6_init rfl rfl
theorem dX6_init_8 : decode cX6_init 8 = .ok (.putfield 13, 3) := k181 (y := 0) (z := 13) hC_cX6_init rfl rfl
theorem dX8_init_0 : decode cX8_init 0 = .ok (.aload_n 0, 1) := k42 hC_cX8_init rfl
theorem dX8_init_1 : decode cX8_init 1 = .ok (.invokespecial 3, 3) := k183 (y := 0) (z := 3) hC_cX8_init rfl rfl
theorem dX8_init_11 : decode cX8_init 11 = .ok (.putfield 13, 3) := k181 (y := 0) (z := 13) hC_cX8_init rfl rfl
theorem dX8_init_14 : decode cX8_init 14 = .ok (.aload_n 0, 1) := k42 hC_cX8_init rfl
theorem dX8_init_15 : decode cX8_init 15 = .ok (.bipush 60, 2) := k16 (y := 60) hC_cX8_init rfl rfl
theorem dX8_init_17 : decode cX8_init 17 = .ok (.newarray .int, 2) := k188_10 hC_cX8_init rfl
theorem dX8_init_19 : decode cX8_init 19 = .ok (.putfield 17, 3) := k181 (y := 0) (z := 17) hC_cX8_init rfl rfl
theorem dX8_init_22 : decode cX8_init 22 = .ok (.aload_n 0, 1) := k42 hC_cX8_init rfl
theorem dX8_init_23 : decode cX8_init 23 = .ok (.sipush 1024, 3) := k17 (y := 4) (z := 0) hC_cX8_init rfl rfl
theorem dX8_init_26 : decode cX8_init 26 = .ok (.newarray .int, 2) := k188_10 hC_cX8_init rfl
theorem dX8_init_28 : decode cX8_init 28 = .ok (.putfield 21, 3) := k181 (y := 0) (z := 21) hC_cX8_init rfl rfl
theorem dX8_init_31 : decode cX8_init 31 = .ok (.aload_n 0, 1) := k42 hC_cX8_init rfl
theorem dX8_init_32 : decode cX8_init 32 = .ok (.sipush 1024, 3) := k17 (y := 4) (z := 0) hC_cX8_init rfl rfl
theorem dX8_init_35 : decode cX8_init 35 = .ok (.newarray .int, 2) := k188_10 hC_cX8_init rfl
theorem dX8_init_37 : decode cX8_init 37 = .ok (.putfield 24, 3) := k181 (y := 0) (z := 24) hC_cX8_init rfl rfl
theorem dX8_init_4 : decode cX8_init 4 = .ok (.aload_n 0, 1) := k42 hC_cX8_init rfl
theorem dX8_init_40 : decode cX8_init 40 = .ok (.aload_n 0, 1) := k42 hC_cX8_init rfl
theorem dX8_init_41 : decode cX8_init 41 = .ok (.sipush 1024, 3) := k17 (y := 4) (z := 0) hC_cX8_init rfl rfl
theorem dX8_init_44 : decode cX8_init 44 = .ok (.newarray .int, 2) := k188_10 hC_cX8_init rfl
theorem dX8_init_46 : decode cX8_init 46 = .ok (.putfield 27, 3) := k181 (y := 0) (z := 27) hC_cX8_init rfl rfl
theorem dX8_init_49 : decode cX8_init 49 = .ok (.iconst 0, 1) := k3 hC_cX8_init rfl
theorem dX8_init_5 : decode cX8_init 5 = .ok (.sipush 200, 3) := k17 (y := 0) (z := 200) hC_cX8_init rfl rfl
theorem dX8_init_50 : decode cX8_init 50 = .ok (.istore_n 1, 1) := k60 hC_cX8_init rfl
theorem dX8_init_51 : decode cX8_init 51 = .ok (.iload_n 1, 1) := k27 hC_cX8_init rfl
theorem dX8_init_52 : decode cX8_init 52 = .ok (.bipush 60, 2) := k16 (y := 60) hC_cX8_init rfl rfl
theorem dX8_init_54 : decode cX8_init 54 = .ok (.if_icmp .ge 16, 3) := k162 (y := 0) (z := 16) hC_cX8_init rfl rfl
theorem dX8_init_57 : decode cX8_init 57 = .ok (.aload_n 0, 1) := k42 hC_cX8_init rfl
theorem dX8_init_58 : decode cX8_init 58 = .ok (.getfield 17, 3) := k180 (y := 0) (z := 17) hC_cX8_init rfl rfl
theorem dX8_init_61 : decode cX8_init 61 = .ok (.iload_n 1, 1) := k27 hC_cX8_init rfl
theorem dX8_init_62 : decode cX8_init 62 = .ok (.iconst (-1), 1) := k2 hC_cX8_init rfl
theorem dX8_init_63 : decode cX8_init 63 = .ok (.iastore, 1) := k79 hC_cX8_init rfl
theorem dX8_init_64 : decode cX8_init 64 = .ok (.iinc 1 1, 3) := k132 (z := 1) hC_cX8_init rfl rfl
theorem dX8_init_67 : decode cX8_init 67 = .ok (.goto (-16), 3) := k167 (y := 255) (z := 240) hC_cX8_init rfl rfl
theorem dX8_init_70 : decode cX8_init 70 = .ok (.return_, 1) := k177 hC_cX8_init rfl
theorem dX8_init_8 : decode cX8_init 8 = .ok (.anewarray 11, 3) := k189 (y := 0) (z := 11) hC_cX8_init rfl rfl
theorem dX9_init_0 : decode cX9_init 0 = .ok (.aload_n 0, 1) := k42 hC_cX9_init rfl
theorem dX9_init_1 : decode cX9_init 1 = .ok (.invokespecial 3, 3) := k183 (y := 0) (z := 3) hC_cX9_init rfl rfl
theorem dX9_init_12 : decode cX9_init 12 = .ok (.aload_n 0, 1) := k42 hC_cX9_init rfl
theorem dX9_init_13 : decode cX9_init 13 = .ok (.bipush 60, 2) := k16 (y := 60) hC_cX9_init rfl rfl
theorem dX9_init_15 : decode cX9_init 15 = .ok (.newarray .int, 2) := k188_10 hC_cX9_init rfl
theorem dX9_init_17 : decode cX9_init 17 = .ok (.putfield 15, 3) := k181 (y := 0) (z := 15) hC_cX9_init rfl rfl
theorem dX9_init_20 : decode cX9_init 20 = .ok (.aload_n 0, 1) := k42 hC_cX9_init rfl
theorem dX9_init_21 : decode cX9_init 21 = .ok (.sipush 180, 3) := k17 (y := 0) (z := 180) hC_cX9_init rfl rfl
theorem dX9_init_24 : decode cX9_init 24 = .ok (.anewarray 18, 3) := k189 (y := 0) (z := 18) hC_cX9_init rfl rfl
theorem dX9_init_27 : decode cX9_init 27 = .ok (.putfield 19, 3) := k181 (y := 0) (z := 19) hC_cX9_init rfl rfl
theorem dX9_init_30 : decode cX9_init 30 = .ok (.aload_n 0, 1) := k42 hC_cX9_init rfl
theorem dX9_init_31 : decode cX9_init 31 = .ok (.sipush 480, 3) := k17 (y := 1) (z := 224) hC_cX9_init rfl rfl
theorem dX9_init_34 : decode cX9_init 34 = .ok (.newarray .int, 2) := k188_10 hC_cX9_init rfl
theorem dX9_init_36 : decode cX9_init 36 = .ok (.putfield 23, 3) := k181 (y := 0) (z := 23) hC_cX9_init rfl rfl
theorem dX9_init_39 : decode cX9_init 39 = .ok (.aload_n 0, 1) := k42 hC_cX9_init rfl
theorem dX9_init_4 : decode cX9_init 4 = .ok (.aload_n 0, 1) := k42 hC_cX9_init rfl
theorem dX9_init_40 : decode cX9_init 40 = .ok (.sipush 480, 3) := k17 (y := 1) (z := 224) hC_cX9_init rfl rfl
theorem dX9_init_43 : decode cX9_init 43 = .ok (.newarray .int, 2) := k188_10 hC_cX9_init rfl
theorem dX9_init_45 : decode cX9_init 45 = .ok (.putfield 26, 3) := k181 (y := 0) (z := 26) hC_cX9_init rfl rfl
theorem dX9_init_48 : decode cX9_init 48 = .ok (.return_, 1) := k177 hC_cX9_init rfl
theorem dX9_init_5 : decode cX9_init 5 = .ok (.bipush 60, 2) := k16 (y := 60) hC_cX9_init rfl rfl
theorem dX9_init_7 : decode cX9_init 7 = .ok (.newarray .int, 2) := k188_10 hC_cX9_init rfl
theorem dX9_init_9 : decode cX9_init 9 = .ok (.putfield 9, 3) := k181 (y := 0) (z := 9) hC_cX9_init rfl rfl
theorem spl {ws A B C : va_W} (h : C = A ++ B) : ws ++ C = (ws ++ A) ++ B := by rw [h, List.append_assoc]
theorem at_pp (ws l m : va_W) (k : Nat) : ((ws ++ l) ++ m)[ws.length + k]? = (l ++ m)[k]? := by rw [List.append_assoc]; exact at_p ws (l ++ m) k
theorem set_pp (ws l m : va_W) (k : Nat) (x : Nat × va_E) : ((ws ++ l) ++ m).set (ws.length + k) x = ws ++ (l ++ m).set k x := by rw [List.append_assoc]; exact set_p ws (l ++ m) k x
theorem Hp.to {D : va_G} {A : Nat → Prop} {H0 H : Heap} {locs : List Loc} {ws ws' : va_W} (B : Hp D A H0 ws H locs) (h : ws = ws') : Hp D A H0 ws' H locs := h ▸ B
theorem arrV_congr {cA : ClassId} {n : Nat} {f g : Nat → Value} (h : ∀ j, j < n → f j = g j) : arrV cA n f = arrV cA n g := by
  unfold arrV
  congr 1
  apply Array.ext
  · simp
  · intro i h1 h2
    simp only [Array.getElem_ofFn]
    exact h i (by simpa using h1)
theorem Hp.arr {D : va_G} {A : Nat → Prop} {H0 H : Heap} {locs : List Loc} {ws l : va_W} {a n : Nat} {cA : ClassId} {f g : Nat → Int32} (B : Hp D A H0 (ws ++ l) H locs) (k : Nat) (hk : l[k]? = some (a, .inl (cA, n, .inl f))) (hfg : ∀ j, j < n → f j = g j) : Hp D A H0 (ws ++ l.set k (a, .inl (cA, n, .inl g))) H locs := by
  have hk' : (ws ++ l)[ws.length + k]? = some (a, .inl (cA, n, .inl f)) := (at_p ws l k).trans hk
  have h1 := B.1 _ _ hk'
  have h2 : va_at D classes (a, .inl (cA, n, .inl g)) H := by
    show H[a]? = some (vp_cell cA (n, .inl g))
    rw [vp_cell_i, ← arrV_congr (f := fun j => .int (f j)) (fun j hj => by rw [hfg j hj])]
    exact h1
  have hP := B.1.set B.2.1 hk' h2 (fun _ _ => rfl)
  have hD := B.2.1.set (e := .inl (cA, n, .inl g)) hk'
  rw [set_p] at hP hD
  exact ⟨hP, hD, B.2.2⟩
