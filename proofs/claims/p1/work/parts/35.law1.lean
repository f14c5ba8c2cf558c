theorem d_Lw_law_427 : decode b_Lw_law 427 = .ok (.aload_n 1, 1) := by decide +kernel
theorem d_Lw_law_428 : decode b_Lw_law 428 = .ok (.aload_n 0, 1) := by decide +kernel
theorem d_Lw_law_429 : decode b_Lw_law 429 = .ok (.iload 4, 2) := by decide +kernel
theorem d_Lw_law_431 : decode b_Lw_law 431 = .ok (.iconst 1, 1) := by decide +kernel
theorem d_Lw_law_432 : decode b_Lw_law 432 = .ok (.iadd, 1) := by decide +kernel
theorem d_Lw_law_433 : decode b_Lw_law 433 = .ok (.iaload, 1) := by decide +kernel
theorem d_Lw_law_434 : decode b_Lw_law 434 = .ok (.aload_n 0, 1) := by decide +kernel
theorem d_Lw_law_435 : decode b_Lw_law 435 = .ok (.iload 4, 2) := by decide +kernel
theorem d_Lw_law_437 : decode b_Lw_law 437 = .ok (.iconst 2, 1) := by decide +kernel
theorem d_Lw_law_438 : decode b_Lw_law 438 = .ok (.iadd, 1) := by decide +kernel
theorem d_Lw_law_439 : decode b_Lw_law 439 = .ok (.iaload, 1) := by decide +kernel
theorem d_Lw_law_440 : decode b_Lw_law 440 = .ok (.aload_n 0, 1) := by decide +kernel
theorem d_Lw_law_441 : decode b_Lw_law 441 = .ok (.iload 4, 2) := by decide +kernel
theorem d_Lw_law_443 : decode b_Lw_law 443 = .ok (.iconst 3, 1) := by decide +kernel
theorem d_Lw_law_444 : decode b_Lw_law 444 = .ok (.iadd, 1) := by decide +kernel
theorem d_Lw_law_445 : decode b_Lw_law 445 = .ok (.iaload, 1) := by decide +kernel
theorem d_Lw_law_446 : decode b_Lw_law 446 = .ok (.aload_n 3, 1) := by decide +kernel
theorem d_Lw_law_447 : decode b_Lw_law 447 = .ok (.invokestatic 98, 3) := by decide +kernel
theorem d_Lw_law_450 : decode b_Lw_law 450 = .ok (.istore 5, 2) := by decide +kernel
theorem d_Lw_law_452 : decode b_Lw_law 452 = .ok (.aload_n 2, 1) := by decide +kernel
theorem d_Lw_law_453 : decode b_Lw_law 453 = .ok (.aload_n 0, 1) := by decide +kernel
theorem d_Lw_law_454 : decode b_Lw_law 454 = .ok (.iload 4, 2) := by decide +kernel
theorem d_Lw_law_456 : decode b_Lw_law 456 = .ok (.iconst 1, 1) := by decide +kernel
theorem d_Lw_law_457 : decode b_Lw_law 457 = .ok (.iadd, 1) := by decide +kernel
theorem d_Lw_law_458 : decode b_Lw_law 458 = .ok (.iaload, 1) := by decide +kernel
theorem d_Lw_law_459 : decode b_Lw_law 459 = .ok (.aload_n 0, 1) := by decide +kernel
theorem d_Lw_law_460 : decode b_Lw_law 460 = .ok (.iload 4, 2) := by decide +kernel
theorem d_Lw_law_462 : decode b_Lw_law 462 = .ok (.iconst 2, 1) := by decide +kernel
theorem d_Lw_law_463 : decode b_Lw_law 463 = .ok (.iadd, 1) := by decide +kernel
theorem d_Lw_law_464 : decode b_Lw_law 464 = .ok (.iaload, 1) := by decide +kernel
theorem d_Lw_law_465 : decode b_Lw_law 465 = .ok (.aload_n 0, 1) := by decide +kernel
theorem d_Lw_law_466 : decode b_Lw_law 466 = .ok (.iload 4, 2) := by decide +kernel
theorem d_Lw_law_468 : decode b_Lw_law 468 = .ok (.iconst 3, 1) := by decide +kernel
theorem d_Lw_law_469 : decode b_Lw_law 469 = .ok (.iadd, 1) := by decide +kernel
theorem d_Lw_law_470 : decode b_Lw_law 470 = .ok (.iaload, 1) := by decide +kernel
theorem d_Lw_law_471 : decode b_Lw_law 471 = .ok (.invokevirtual 101, 3) := by decide +kernel
theorem d_Lw_law_474 : decode b_Lw_law 474 = .ok (.istore 6, 2) := by decide +kernel
theorem d_Lw_law_476 : decode b_Lw_law 476 = .ok (.aload_n 2, 1) := by decide +kernel
theorem d_Lw_law_477 : decode b_Lw_law 477 = .ok (.invokevirtual 86, 3) := by decide +kernel
theorem d_Lw_law_480 : decode b_Lw_law 480 = .ok (.iload 5, 2) := by decide +kernel
theorem d_Lw_law_482 : decode b_Lw_law 482 = .ok (.if_icmp .eq 5, 3) := by decide +kernel
theorem d_Lw_law_487 : decode b_Lw_law 487 = .ok (.iload 5, 2) := by decide +kernel
theorem d_Lw_law_489 : decode b_Lw_law 489 = .ok (.ifCond .ne 15, 3) := by decide +kernel
theorem d_Lw_law_504 : decode b_Lw_law 504 = .ok (.goto 859, 3) := by decide +kernel
theorem d_Lw_law_492 : decode b_Lw_law 492 = .ok (.aload_n 3, 1) := by decide +kernel
theorem d_Lw_law_493 : decode b_Lw_law 493 = .ok (.iconst 0, 1) := by decide +kernel
theorem d_Lw_law_494 : decode b_Lw_law 494 = .ok (.laload, 1) := by decide +kernel
theorem d_Lw_law_495 : decode b_Lw_law 495 = .ok (.iload 6, 2) := by decide +kernel
theorem d_Lw_law_497 : decode b_Lw_law 497 = .ok (.i2l, 1) := by decide +kernel
theorem d_Lw_law_498 : decode b_Lw_law 498 = .ok (.lcmp, 1) := by decide +kernel
theorem d_Lw_law_499 : decode b_Lw_law 499 = .ok (.ifCond .eq 5, 3) := by decide +kernel
theorem d_Lw_law_507 : decode b_Lw_law 507 = .ok (.aload_n 1, 1) := by decide +kernel
theorem d_Lw_law_508 : decode b_Lw_law 508 = .ok (.aload_n 0, 1) := by decide +kernel
theorem d_Lw_law_509 : decode b_Lw_law 509 = .ok (.iload 4, 2) := by decide +kernel
theorem d_Lw_law_511 : decode b_Lw_law 511 = .ok (.iconst 1, 1) := by decide +kernel
theorem d_Lw_law_512 : decode b_Lw_law 512 = .ok (.iadd, 1) := by decide +kernel
theorem d_Lw_law_513 : decode b_Lw_law 513 = .ok (.iaload, 1) := by decide +kernel
theorem d_Lw_law_514 : decode b_Lw_law 514 = .ok (.aload_n 0, 1) := by decide +kernel
theorem d_Lw_law_515 : decode b_Lw_law 515 = .ok (.iload 4, 2) := by decide +kernel
theorem d_Lw_law_517 : decode b_Lw_law 517 = .ok (.iconst 2, 1) := by decide +kernel
theorem d_Lw_law_518 : decode b_Lw_law 518 = .ok (.iadd, 1) := by decide +kernel
theorem d_Lw_law_519 : decode b_Lw_law 519 = .ok (.iaload, 1) := by decide +kernel
theorem d_Lw_law_520 : decode b_Lw_law 520 = .ok (.aload_n 3, 1) := by decide +kernel
theorem d_Lw_law_521 : decode b_Lw_law 521 = .ok (.invokestatic 102, 3) := by decide +kernel
theorem d_Lw_law_524 : decode b_Lw_law 524 = .ok (.istore 5, 2) := by decide +kernel
theorem d_Lw_law_526 : decode b_Lw_law 526 = .ok (.aload_n 2, 1) := by decide +kernel
theorem d_Lw_law_527 : decode b_Lw_law 527 = .ok (.aload_n 0, 1) := by decide +kernel
theorem d_Lw_law_528 : decode b_Lw_law 528 = .ok (.iload 4, 2) := by decide +kernel
theorem d_Lw_law_530 : decode b_Lw_law 530 = .ok (.iconst 1, 1) := by decide +kernel
theorem d_Lw_law_531 : decode b_Lw_law 531 = .ok (.iadd, 1) := by decide +kernel
theorem d_Lw_law_532 : decode b_Lw_law 532 = .ok (.iaload, 1) := by decide +kernel
theorem d_Lw_law_533 : decode b_Lw_law 533 = .ok (.aload_n 0, 1) := by decide +kernel
theorem d_Lw_law_534 : decode b_Lw_law 534 = .ok (.iload 4, 2) := by decide +kernel
theorem d_Lw_law_536 : decode b_Lw_law 536 = .ok (.iconst 2, 1) := by decide +kernel
theorem d_Lw_law_537 : decode b_Lw_law 537 = .ok (.iadd, 1) := by decide +kernel
theorem d_Lw_law_538 : decode b_Lw_law 538 = .ok (.iaload, 1) := by decide +kernel
theorem d_Lw_law_539 : decode b_Lw_law 539 = .ok (.invokevirtual 105, 3) := by decide +kernel
theorem d_Lw_law_542 : decode b_Lw_law 542 = .ok (.istore 6, 2) := by decide +kernel
theorem d_Lw_law_544 : decode b_Lw_law 544 = .ok (.aload_n 2, 1) := by decide +kernel
theorem d_Lw_law_545 : decode b_Lw_law 545 = .ok (.invokevirtual 86, 3) := by decide +kernel
theorem d_Lw_law_548 : decode b_Lw_law 548 = .ok (.iload 5, 2) := by decide +kernel
theorem d_Lw_law_550 : decode b_Lw_law 550 = .ok (.if_icmp .eq 5, 3) := by decide +kernel
theorem d_Lw_law_555 : decode b_Lw_law 555 = .ok (.iload 5, 2) := by decide +kernel
theorem d_Lw_law_557 : decode b_Lw_law 557 = .ok (.ifCond .ne 15, 3) := by decide +kernel
theorem d_Lw_law_572 : decode b_Lw_law 572 = .ok (.goto 791, 3) := by decide +kernel
theorem d_Lw_law_560 : decode b_Lw_law 560 = .ok (.aload_n 3, 1) := by decide +kernel
theorem d_Lw_law_561 : decode b_Lw_law 561 = .ok (.iconst 0, 1) := by decide +kernel
theorem d_Lw_law_562 : decode b_Lw_law 562 = .ok (.laload, 1) := by decide +kernel
theorem d_Lw_law_563 : decode b_Lw_law 563 = .ok (.iload 6, 2) := by decide +kernel
theorem d_Lw_law_565 : decode b_Lw_law 565 = .ok (.i2l, 1) := by decide +kernel
theorem d_Lw_law_566 : decode b_Lw_law 566 = .ok (.lcmp, 1) := by decide +kernel
theorem d_Lw_law_567 : decode b_Lw_law 567 = .ok (.ifCond .eq 5, 3) := by decide +kernel
theorem d_Lw_law_575 : decode b_Lw_law 575 = .ok (.aload_n 1, 1) := by decide +kernel
theorem d_Lw_law_576 : decode b_Lw_law 576 = .ok (.aload_n 0, 1) := by decide +kernel
theorem d_Lw_law_577 : decode b_Lw_law 577 = .ok (.iload 4, 2) := by decide +kernel
theorem d_Lw_law_579 : decode b_Lw_law 579 = .ok (.iconst 1, 1) := by decide +kernel
theorem d_Lw_law_580 : decode b_Lw_law 580 = .ok (.iadd, 1) := by decide +kernel
theorem d_Lw_law_581 : decode b_Lw_law 581 = .ok (.iaload, 1) := by decide +kernel
theorem d_Lw_law_582 : decode b_Lw_law 582 = .ok (.aload_n 3, 1) := by decide +kernel
theorem d_Lw_law_583 : decode b_Lw_law 583 = .ok (.invokestatic 106, 3) := by decide +kernel
theorem d_Lw_law_586 : decode b_Lw_law 586 = .ok (.istore 5, 2) := by decide +kernel
theorem d_Lw_law_588 : decode b_Lw_law 588 = .ok (.aload_n 2, 1) := by decide +kernel
theorem d_Lw_law_589 : decode b_Lw_law 589 = .ok (.aload_n 0, 1) := by decide +kernel
theorem d_Lw_law_590 : decode b_Lw_law 590 = .ok (.iload 4, 2) := by decide +kernel
theorem d_Lw_law_592 : decode b_Lw_law 592 = .ok (.iconst 1, 1) := by decide +kernel
theorem d_Lw_law_593 : decode b_Lw_law 593 = .ok (.iadd, 1) := by decide +kernel
theorem d_Lw_law_594 : decode b_Lw_law 594 = .ok (.iaload, 1) := by decide +kernel
theorem d_Lw_law_595 : decode b_Lw_law 595 = .ok (.invokevirtual 109, 3) := by decide +kernel
theorem d_Lw_law_598 : decode b_Lw_law 598 = .ok (.istore 6, 2) := by decide +kernel
theorem d_Lw_law_600 : decode b_Lw_law 600 = .ok (.aload_n 2, 1) := by decide +kernel
theorem d_Lw_law_601 : decode b_Lw_law 601 = .ok (.invokevirtual 86, 3) := by decide +kernel
theorem d_Lw_law_604 : decode b_Lw_law 604 = .ok (.iload 5, 2) := by decide +kernel
theorem d_Lw_law_606 : decode b_Lw_law 606 = .ok (.if_icmp .eq 5, 3) := by decide +kernel
theorem d_Lw_law_611 : decode b_Lw_law 611 = .ok (.iload 5, 2) := by decide +kernel
theorem d_Lw_law_613 : decode b_Lw_law 613 = .ok (.ifCond .ne 15, 3) := by decide +kernel
theorem d_Lw_law_628 : decode b_Lw_law 628 = .ok (.goto 735, 3) := by decide +kernel
theorem d_Lw_law_616 : decode b_Lw_law 616 = .ok (.aload_n 3, 1) := by decide +kernel
theorem d_Lw_law_617 : decode b_Lw_law 617 = .ok (.iconst 0, 1) := by decide +kernel
theorem d_Lw_law_618 : decode b_Lw_law 618 = .ok (.laload, 1) := by decide +kernel
theorem d_Lw_law_619 : decode b_Lw_law 619 = .ok (.iload 6, 2) := by decide +kernel
theorem d_Lw_law_621 : decode b_Lw_law 621 = .ok (.i2l, 1) := by decide +kernel
theorem d_Lw_law_622 : decode b_Lw_law 622 = .ok (.lcmp, 1) := by decide +kernel
theorem d_Lw_law_623 : decode b_Lw_law 623 = .ok (.ifCond .eq 5, 3) := by decide +kernel
theorem d_Lw_law_743 : decode b_Lw_law 743 = .ok (.aload_n 1, 1) := by decide +kernel
theorem d_Lw_law_744 : decode b_Lw_law 744 = .ok (.aload_n 0, 1) := by decide +kernel
theorem d_Lw_law_745 : decode b_Lw_law 745 = .ok (.iload 4, 2) := by decide +kernel
theorem d_Lw_law_747 : decode b_Lw_law 747 = .ok (.iconst 1, 1) := by decide +kernel
theorem d_Lw_law_748 : decode b_Lw_law 748 = .ok (.iadd, 1) := by decide +kernel
theorem d_Lw_law_749 : decode b_Lw_law 749 = .ok (.iaload, 1) := by decide +kernel
theorem d_Lw_law_750 : decode b_Lw_law 750 = .ok (.aload_n 3, 1) := by decide +kernel
theorem d_Lw_law_751 : decode b_Lw_law 751 = .ok (.invokestatic 113, 3) := by decide +kernel
theorem d_Lw_law_754 : decode b_Lw_law 754 = .ok (.istore 5, 2) := by decide +kernel
theorem d_Lw_law_756 : decode b_Lw_law 756 = .ok (.aload_n 2, 1) := by decide +kernel
theorem d_Lw_law_757 : decode b_Lw_law 757 = .ok (.aload_n 0, 1) := by decide +kernel
theorem d_Lw_law_758 : decode b_Lw_law 758 = .ok (.iload 4, 2) := by decide +kernel
theorem d_Lw_law_760 : decode b_Lw_law 760 = .ok (.iconst 1, 1) := by decide +kernel
theorem d_Lw_law_761 : decode b_Lw_law 761 = .ok (.iadd, 1) := by decide +kernel
theorem d_Lw_law_762 : decode b_Lw_law 762 = .ok (.iaload, 1) := by decide +kernel
theorem d_Lw_law_763 : decode b_Lw_law 763 = .ok (.invokevirtual 115, 3) := by decide +kernel
theorem d_Lw_law_766 : decode b_Lw_law 766 = .ok (.istore 6, 2) := by decide +kernel
theorem d_Lw_law_768 : decode b_Lw_law 768 = .ok (.aload_n 2, 1) := by decide +kernel
theorem d_Lw_law_769 : decode b_Lw_law 769 = .ok (.invokevirtual 86, 3) := by decide +kernel
theorem d_Lw_law_772 : decode b_Lw_law 772 = .ok (.iload 5, 2) := by decide +kernel
theorem d_Lw_law_774 : decode b_Lw_law 774 = .ok (.if_icmp .eq 5, 3) := by decide +kernel
theorem d_Lw_law_779 : decode b_Lw_law 779 = .ok (.iload 5, 2) := by decide +kernel
theorem d_Lw_law_781 : decode b_Lw_law 781 = .ok (.ifCond .ne 15, 3) := by decide +kernel
theorem d_Lw_law_796 : decode b_Lw_law 796 = .ok (.goto 567, 3) := by decide +kernel
theorem d_Lw_law_784 : decode b_Lw_law 784 = .ok (.aload_n 3, 1) := by decide +kernel
theorem d_Lw_law_785 : decode b_Lw_law 785 = .ok (.iconst 0, 1) := by decide +kernel
theorem d_Lw_law_786 : decode b_Lw_law 786 = .ok (.laload, 1) := by decide +kernel
theorem d_Lw_law_787 : decode b_Lw_law 787 = .ok (.iload 6, 2) := by decide +kernel
theorem d_Lw_law_789 : decode b_Lw_law 789 = .ok (.i2l, 1) := by decide +kernel
theorem d_Lw_law_790 : decode b_Lw_law 790 = .ok (.lcmp, 1) := by decide +kernel
theorem d_Lw_law_791 : decode b_Lw_law 791 = .ok (.ifCond .eq 5, 3) := by decide +kernel
theorem d_Lw_law_799 : decode b_Lw_law 799 = .ok (.aload_n 1, 1) := by decide +kernel
theorem d_Lw_law_800 : decode b_Lw_law 800 = .ok (.aload_n 0, 1) := by decide +kernel
theorem d_Lw_law_801 : decode b_Lw_law 801 = .ok (.iload 4, 2) := by decide +kernel
theorem d_Lw_law_803 : decode b_Lw_law 803 = .ok (.iconst 1, 1) := by decide +kernel
theorem d_Lw_law_804 : decode b_Lw_law 804 = .ok (.iadd, 1) := by decide +kernel
theorem d_Lw_law_805 : decode b_Lw_law 805 = .ok (.iaload, 1) := by decide +kernel
theorem d_Lw_law_806 : decode b_Lw_law 806 = .ok (.i2l, 1) := by decide +kernel
theorem d_Lw_law_807 : decode b_Lw_law 807 = .ok (.bipush 32, 2) := by decide +kernel
theorem d_Lw_law_809 : decode b_Lw_law 809 = .ok (.lshl, 1) := by decide +kernel
theorem d_Lw_law_810 : decode b_Lw_law 810 = .ok (.aload_n 0, 1) := by decide +kernel
theorem d_Lw_law_811 : decode b_Lw_law 811 = .ok (.iload 4, 2) := by decide +kernel
theorem d_Lw_law_813 : decode b_Lw_law 813 = .ok (.iconst 2, 1) := by decide +kernel
theorem d_Lw_law_814 : decode b_Lw_law 814 = .ok (.iadd, 1) := by decide +kernel
theorem d_Lw_law_815 : decode b_Lw_law 815 = .ok (.iaload, 1) := by decide +kernel
theorem d_Lw_law_816 : decode b_Lw_law 816 = .ok (.i2l, 1) := by decide +kernel
theorem d_Lw_law_817 : decode b_Lw_law 817 = .ok (.ldc2_w 78, 3) := by decide +kernel
theorem d_Lw_law_820 : decode b_Lw_law 820 = .ok (.land, 1) := by decide +kernel
theorem d_Lw_law_821 : decode b_Lw_law 821 = .ok (.lor, 1) := by decide +kernel
theorem d_Lw_law_822 : decode b_Lw_law 822 = .ok (.aload_n 0, 1) := by decide +kernel
theorem d_Lw_law_823 : decode b_Lw_law 823 = .ok (.iload 4, 2) := by decide +kernel
theorem d_Lw_law_825 : decode b_Lw_law 825 = .ok (.iconst 3, 1) := by decide +kernel
theorem d_Lw_law_826 : decode b_Lw_law 826 = .ok (.iadd, 1) := by decide +kernel
theorem d_Lw_law_827 : decode b_Lw_law 827 = .ok (.iaload, 1) := by decide +kernel
theorem d_Lw_law_828 : decode b_Lw_law 828 = .ok (.aload_n 3, 1) := by decide +kernel
theorem d_Lw_law_829 : decode b_Lw_law 829 = .ok (.invokestatic 116, 3) := by decide +kernel
theorem d_Lw_law_832 : decode b_Lw_law 832 = .ok (.istore 5, 2) := by decide +kernel
theorem d_Lw_law_834 : decode b_Lw_law 834 = .ok (.aload_n 2, 1) := by decide +kernel
theorem d_Lw_law_835 : decode b_Lw_law 835 = .ok (.aload_n 0, 1) := by decide +kernel
theorem d_Lw_law_836 : decode b_Lw_law 836 = .ok (.iload 4, 2) := by decide +kernel
theorem d_Lw_law_838 : decode b_Lw_law 838 = .ok (.iconst 1, 1) := by decide +kernel
theorem d_Lw_law_839 : decode b_Lw_law 839 = .ok (.iadd, 1) := by decide +kernel
theorem d_Lw_law_840 : decode b_Lw_law 840 = .ok (.iaload, 1) := by decide +kernel
theorem d_Lw_law_841 : decode b_Lw_law 841 = .ok (.i2l, 1) := by decide +kernel
theorem d_Lw_law_842 : decode b_Lw_law 842 = .ok (.bipush 32, 2) := by decide +kernel
theorem d_Lw_law_844 : decode b_Lw_law 844 = .ok (.lshl, 1) := by decide +kernel
theorem d_Lw_law_845 : decode b_Lw_law 845 = .ok (.aload_n 0, 1) := by decide +kernel
theorem d_Lw_law_846 : decode b_Lw_law 846 = .ok (.iload 4, 2) := by decide +kernel
theorem d_Lw_law_848 : decode b_Lw_law 848 = .ok (.iconst 2, 1) := by decide +kernel
theorem d_Lw_law_849 : decode b_Lw_law 849 = .ok (.iadd, 1) := by decide +kernel
theorem d_Lw_law_850 : decode b_Lw_law 850 = .ok (.iaload, 1) := by decide +kernel
theorem d_Lw_law_851 : decode b_Lw_law 851 = .ok (.i2l, 1) := by decide +kernel
theorem d_Lw_law_852 : decode b_Lw_law 852 = .ok (.ldc2_w 78, 3) := by decide +kernel
theorem d_Lw_law_855 : decode b_Lw_law 855 = .ok (.land, 1) := by decide +kernel
theorem d_Lw_law_856 : decode b_Lw_law 856 = .ok (.lor, 1) := by decide +kernel
theorem d_Lw_law_857 : decode b_Lw_law 857 = .ok (.aload_n 0, 1) := by decide +kernel
theorem d_Lw_law_858 : decode b_Lw_law 858 = .ok (.iload 4, 2) := by decide +kernel
theorem d_Lw_law_860 : decode b_Lw_law 860 = .ok (.iconst 3, 1) := by decide +kernel
theorem d_Lw_law_861 : decode b_Lw_law 861 = .ok (.iadd, 1) := by decide +kernel
theorem d_Lw_law_862 : decode b_Lw_law 862 = .ok (.iaload, 1) := by decide +kernel
theorem d_Lw_law_863 : decode b_Lw_law 863 = .ok (.invokevirtual 119, 3) := by decide +kernel
theorem d_Lw_law_866 : decode b_Lw_law 866 = .ok (.istore 6, 2) := by decide +kernel
theorem d_Lw_law_868 : decode b_Lw_law 868 = .ok (.aload_n 2, 1) := by decide +kernel
theorem d_Lw_law_869 : decode b_Lw_law 869 = .ok (.invokevirtual 86, 3) := by decide +kernel
theorem d_Lw_law_872 : decode b_Lw_law 872 = .ok (.iload 5, 2) := by decide +kernel
theorem d_Lw_law_874 : decode b_Lw_law 874 = .ok (.if_icmp .eq 5, 3) := by decide +kernel
theorem d_Lw_law_879 : decode b_Lw_law 879 = .ok (.iload 5, 2) := by decide +kernel
theorem d_Lw_law_881 : decode b_Lw_law 881 = .ok (.ifCond .ne 15, 3) := by decide +kernel
theorem d_Lw_law_896 : decode b_Lw_law 896 = .ok (.goto 467, 3) := by decide +kernel
theorem d_Lw_law_884 : decode b_Lw_law 884 = .ok (.aload_n 3, 1) := by decide +kernel
theorem d_Lw_law_885 : decode b_Lw_law 885 = .ok (.iconst 0, 1) := by decide +kernel
theorem d_Lw_law_886 : decode b_Lw_law 886 = .ok (.laload, 1) := by decide +kernel
theorem d_Lw_law_887 : decode b_Lw_law 887 = .ok (.iload 6, 2) := by decide +kernel
theorem d_Lw_law_889 : decode b_Lw_law 889 = .ok (.i2l, 1) := by decide +kernel
theorem d_Lw_law_890 : decode b_Lw_law 890 = .ok (.lcmp, 1) := by decide +kernel
theorem d_Lw_law_891 : decode b_Lw_law 891 = .ok (.ifCond .eq 5, 3) := by decide +kernel
set_option maxHeartbeats 4000000 in
set_option maxRecDepth 100000 in
theorem lw_case3 {p : Program} {l : Launch} {e : Env} {s : State} {m : MethodId} {args : Array Value} {below : List Frame} {meth : Method} {c : Code} {Q : State → Prop} {A : Nat → Prop} {b : Nat} {xs : Nat → Int32} {H : Heap} {locs : List Loc} {ls : Array Slot} (dC : Nat → ClassId) (dI : Nat → Nat → Nat) (cT : Nat → ClassId) (ds : Nat) (dr : Nat) (sv : Nat) (rr : Nat) (se : Nat) (pw : Nat) (g0 : Nat) (ty : Nat) (an : Nat) (aw : Nat) (ts : Nat) (ss : Nat) (rq : Nat) (sh : Nat) (sr : Nat) (uh : Nat) (ur : Nat) (tx : Nat) (tr : Nat) (wo : Nat) (di : Nat) (ar : Nat) (a1 : Nat) (t1 : Nat) (s1 : Nat) (sa : Nat) (mo : Nat) (ou : Nat) (st us : Nat) (gs gp : Nat → Option Nat) (df sf mc mz mf mZ : Nat → Int32) (mS mQ fo : Nat → Int64) (mq : Nat → Nat) (hx : p.tables.exec = Jvm.exec) (hb : c.code = b_Lw_law) (hml : c.maxLocals = 8) (hown : s.vm.findClass "DoorServerLaw" = some m.cls) (hg : ∀ w ∈ BIG, w.before args s = true) (hX : va_X b 5 xs s s.heap) (hbl : b < s.heap.size) (hbA : ¬ A b) (hA : ∀ q : Nat, s.heap.size ≤ q → A q) (hK : va_K (dC, dI) vcl (tyL cT) s) (hfl : l.flags = pinnedFlags ++ [noTraceFlag]) (hXm : xm A s s.heap) (hXz : xz_T A s s.heap) (hst : st < 4) (hus : us < 32) (hgs : gs st = some sh) (hgp : gp us = some uh) (hst1 : ¬ xs 1 < 0 → ¬ 3 < xs 1 → xs 1 = nI st) (hus1 : ¬ xs 1 < 0 → ¬ 31 < xs 1 → xs 1 = nI us) (hdf : df 0 = 1 ∧ df 1 = 0 ∧ df 2 = 0 ∧ df 3 = 20 ∧ ∀ q9, q9 < 8 → df (4 + q9) = bn_at 0 q9 ∧ df (12 + q9) = bn_at 0 q9 ^^^ 90) (hmf : mf 0 = 1 ∧ mf 1 = 0 ∧ mf 2 = 0 ∧ mf 3 = 20 ∧ ∀ k9, k9 < 16 → mf (4 + k9) = mb_at 0 k9) (hmz : ∀ q9, q9 < 4 → mz q9 = 1) (hz : mZ 14 = 0 ∧ mZ 17 = 0 ∧ mZ 24 = 0 ∧ mZ 33 = 0 ∧ mZ 43 = 0 ∧ mZ 44 = 0) (kk : ∀ (H : Heap) (locs : List Loc) (ls : Array Slot), va_S A s.heap H locs → lv_has ls 8 [(0, .ref b), (4, .int 0)] → W p l e room_1 s m args below meth c H locs 900 33000 Q (F0 m 1363 ls [])) (hP : va_P (dC, dI) vcl [(ds, .inr (0, [.ref dr, .ref sv])), (dr, .inr (2, [.ref rr, .int (nI 20)])), (rr, .inl ((cT 0), 1000, .inl df)), (sv, .inr (5, [.ref se, .ref pw, .ref g0, .ref ty, .ref an, .ref aw, .ref ts, .ref ss, .ref rq, .int 0, .int 0, .int 0])), (se, .inl ((cT 2), 4, .inr (.inr (.inr (.inr gs))))), (sh, .inr (1, [.ref sr, .int (nI 1)])), (sr, .inl ((cT 0), 40, .inl sf)), (pw, .inl ((cT 2), 32, .inr (.inr (.inr (.inr gp))))), (uh, .inr (1, [.ref ur, .int 0])), (ur, .inl ((cT 0), 60, .inl (fun _ => 0))), (g0, .inr (3, [.ref tx, .ref wo, .ref di, .int 0, .int 0, .int 0, .int 0])), (tx, .inr (1, [.ref tr, .int (nI 0)])), (tr, .inl ((cT 0), 1192, .inl (fun _ => 0))), (wo, .inl ((cT 0), 16, .inl (fun _ => 0))), (di, .inl ((cT 0), 16, .inl (fun _ => 0))), (an, .inr (2, [.ref ar, .int 0])), (ar, .inl ((cT 0), 72, .inl (fun _ => 0))), (aw, .inr (6, [.ref a1, .int 0, .int 0])), (ts, .inr (9, [.ref t1, .long 0, .long 1, .int 0])), (ss, .inr (11, [.ref s1, .int 0])), (rq, .inr (4, [.ref dr, .ref sa])), (sa, .inl ((cT 0), 256, .inl (fun _ => 0))), (mo, .inr (12, mdF mq mZ mQ 0 0 (nI 20) (nI 0))), (mq 0, .inl ((cT 1), 64, .inr (.inl mS))), (mq 3, .inl ((cT 0), 160, .inl mc)), (mq 4, .inl ((cT 0), 4, .inl mz)), (mq 5, .inl ((cT 0), 1920, .inl (fun _ => 0))), (mq 6, .inl ((cT 0), 32, .inl (fun _ => 0))), (mq 7, .inl ((cT 0), 1000, .inl mf)), (mq 9, .inl ((cT 0), 1400, .inl (fun _ => 0))), (mq 11, .inl ((cT 0), 16, .inl (fun _ => 0))), (mq 12, .inl ((cT 0), 1200, .inl (fun _ => 0))), (ou, .inl ((cT 1), 1, .inr (.inl fo)))] H) (hD : va_D A [(ds, .inr (0, [.ref dr, .ref sv])), (dr, .inr (2, [.ref rr, .int (nI 20)])), (rr, .inl ((cT 0), 1000, .inl df)), (sv, .inr (5, [.ref se, .ref pw, .ref g0, .ref ty, .ref an, .ref aw, .ref ts, .ref ss, .ref rq, .int 0, .int 0, .int 0])), (se, .inl ((cT 2), 4, .inr (.inr (.inr (.inr gs))))), (sh, .inr (1, [.ref sr, .int (nI 1)])), (sr, .inl ((cT 0), 40, .inl sf)), (pw, .inl ((cT 2), 32, .inr (.inr (.inr (.inr gp))))), (uh, .inr (1, [.ref ur, .int 0])), (ur, .inl ((cT 0), 60, .inl (fun _ => 0))), (g0, .inr (3, [.ref tx, .ref wo, .ref di, .int 0, .int 0, .int 0, .int 0])), (tx, .inr (1, [.ref tr, .int (nI 0)])), (tr, .inl ((cT 0), 1192, .inl (fun _ => 0))), (wo, .inl ((cT 0), 16, .inl (fun _ => 0))), (di, .inl ((cT 0), 16, .inl (fun _ => 0))), (an, .inr (2, [.ref ar, .int 0])), (ar, .inl ((cT 0), 72, .inl (fun _ => 0))), (aw, .inr (6, [.ref a1, .int 0, .int 0])), (ts, .inr (9, [.ref t1, .long 0, .long 1, .int 0])), (ss, .inr (11, [.ref s1, .int 0])), (rq, .inr (4, [.ref dr, .ref sa])), (sa, .inl ((cT 0), 256, .inl (fun _ => 0))), (mo, .inr (12, mdF mq mZ mQ 0 0 (nI 20) (nI 0))), (mq 0, .inl ((cT 1), 64, .inr (.inl mS))), (mq 3, .inl ((cT 0), 160, .inl mc)), (mq 4, .inl ((cT 0), 4, .inl mz)), (mq 5, .inl ((cT 0), 1920, .inl (fun _ => 0))), (mq 6, .inl ((cT 0), 32, .inl (fun _ => 0))), (mq 7, .inl ((cT 0), 1000, .inl mf)), (mq 9, .inl ((cT 0), 1400, .inl (fun _ => 0))), (mq 11, .inl ((cT 0), 16, .inl (fun _ => 0))), (mq 12, .inl ((cT 0), 1200, .inl (fun _ => 0))), (ou, .inl ((cT 1), 1, .inr (.inl fo)))]) (hS : va_S A s.heap H locs) (hl : lv_has ls 8 [(0, .ref b), (1, .ref ds), (2, .ref mo), (3, .ref ou), (4, .int 0)]) : W p l e room_1 s m args below meth c H locs 800 32000 Q (F0 m 427 ls []) := by
  by_cases h1 : xs 1 < 0 ∨ 255 < xs 1
  · skip
    have hP := hP.sub (ws' := [(ds, .inr (0, [.ref dr, .ref sv])), (mo, .inr (12, mdF mq mZ mQ 0 0 (nI 20) (nI 0)))]) [0, 22] rfl
    have hD := hD.sub (ws' := [(ds, .inr (0, [.ref dr, .ref sv])), (mo, .inr (12, mdF mq mZ mQ 0 0 (nI 20) (nI 0)))]) [0, 22] (by decide) rfl
    refine lv_aload_n hx hb d_Lw_law_427 rfl (lv_at hl 1 rfl) ?_
    refine lv_aload_n hx hb d_Lw_law_428 rfl (lv_at hl 0 rfl) ?_
    refine lv_iload hx hb d_Lw_law_429 (lv_at hl 4 rfl) ?_
    refine lv_iconst (v := 1) hx hb d_Lw_law_431 (by decide) ?_
    refine lv_iadd hx hb d_Lw_law_432 ?_
    refine va_sld hx hb hX hbl hbA hS (i := (0 + 1)) (vin (by decide)) d_Lw_law_433 ?_
    refine lv_topi (fun x2 e1 => ?_)
    obtain rfl : x2 = xs 1 := by rw [e1]; exact congrArg xs (by decide)
    refine lv_aload_n hx hb d_Lw_law_434 rfl (lv_at hl 0 rfl) ?_
    refine lv_iload hx hb d_Lw_law_435 (lv_at hl 4 rfl) ?_
    refine lv_iconst (v := 2) hx hb d_Lw_law_437 (by decide) ?_
    refine lv_iadd hx hb d_Lw_law_438 ?_
    refine va_sld hx hb hX hbl hbA hS (i := (0 + 2)) (vin (by decide)) d_Lw_law_439 ?_
    refine lv_topi (fun x4 e3 => ?_)
    obtain rfl : x4 = xs 2 := by rw [e3]; exact congrArg xs (by decide)
    refine lv_aload_n hx hb d_Lw_law_440 rfl (lv_at hl 0 rfl) ?_
    refine lv_iload hx hb d_Lw_law_441 (lv_at hl 4 rfl) ?_
    refine lv_iconst (v := 3) hx hb d_Lw_law_443 (by decide) ?_
    refine lv_iadd hx hb d_Lw_law_444 ?_
    refine va_sld hx hb hX hbl hbA hS (i := (0 + 3)) (vin (by decide)) d_Lw_law_445 ?_
    refine lv_topi (fun x6 e5 => ?_)
    obtain rfl : x6 = xs 3 := by rw [e5]; exact congrArg xs (by decide)
    refine lv_aload_n hx hb d_Lw_law_446 rfl (lv_at hl 3 rfl) ?_
    have hPc := hP.sub (ws' := [(ds, .inr (0, [.ref dr, .ref sv]))]) [0] rfl
    have hDc := hD.sub (ws' := [(ds, .inr (0, [.ref dr, .ref sv]))]) [0] (by decide) rfl
    have hFc := va_free (wc := [(ds, .inr (0, [.ref dr, .ref sv]))]) hD hS hA [0] rfl
    refine va_calli (xw_runS (As := [.ref ds, .int (xs 1), .int (xs 2), .int (xs 3), .ref ou]) (rest := []) ⟨hx, hb, hml, hown, hg⟩ (t_put1 l dC dI cT H.size ds (xs 1) (xs 2) (xs 3) dr sv ou (hfl) (h1)) rfl (gI (List.forall_mem_cons.mpr ⟨k_494, fun _ h => h⟩)) (hg _ k_492) (hg _ k_493) (hg _ k_0) rfl rfl (n := 5) (by decide +kernel) ⟨Nat.le_of_ble_eq_true rfl, Nat.le_of_ble_eq_true rfl⟩ ⟨fun a U g mk q => by obtain ⟨q0, q1, qP, qK, qD, qE⟩ := q; exact ⟨q0, q1, qP, va_K.moved (u := U) (U := U.calling g mk a) (Vm.Alike.refl U.vm) qK, qD, qE.at (State.WarmedH.refl _) (fun _ _ _ => rfl) (fun _ h => h)⟩, fun U hU hW => ⟨rfl, by rw [hU], by rw [hU]; exact hPc, va_K.moved hW.alike hK, hDc.weaken (fun _ _ _ _ => trivial), by rw [hU]; exact hXz.at hW hS.2.1 (fun _ h => h.elim)⟩⟩ rfl rfl hl.1 rfl (lv_room (Nat.le_of_ble_eq_true rfl)) d_Lw_law_447 ⟨Nat.le_of_ble_eq_true rfl, Nat.le_of_ble_eq_true rfl⟩) hS (fun q _ h => hFc q h) hFc (fun rv9 u t H1 locs ht hvm hw hB hz1 hk1 hS => ?_)
    try dsimp only at hw hB
    obtain ⟨hP1, hK1, hD1⟩ := hB
    rw [ht] at hP1
    obtain ⟨rfl, hw⟩ := hw
    obtain ⟨hP, hD⟩ := va_join (wr := [(mo, .inr (12, mdF mq mZ mQ 0 0 (nI 20) (nI 0)))]) (w1 := []) hP hD [0] [1] rfl rfl (by decide) (by decide) hk1 hFc hP1 hD1
    have hw7 := hw
    clear hPc hDc hFc hz1 hk1 hP1 hK1 hD1
    generalize H1 = H at hP hS ⊢
    have hP : va_P (dC, dI) vcl [(mo, .inr (12, mdF mq mZ mQ 0 0 (nI 20) (nI 0)))] H := hP
    have hD : va_D A [(mo, .inr (12, mdF mq mZ mQ 0 0 (nI 20) (nI 0)))] := hD
    refine lv_istore (lv' := [(5, .int 1), (0, .ref b), (1, .ref ds), (2, .ref mo), (3, .ref ou), (4, .int 0)]) hx hb d_Lw_law_450 hl (by decide) rfl (fun ls hl => ?_)
    refine lv_aload_n hx hb d_Lw_law_452 rfl (lv_at hl 3 rfl) ?_
    refine lv_aload_n hx hb d_Lw_law_453 rfl (lv_at hl 1 rfl) ?_
    refine lv_iload hx hb d_Lw_law_454 (lv_at hl 5 rfl) ?_
    refine lv_iconst (v := 1) hx hb d_Lw_law_456 (by decide) ?_
    refine lv_iadd hx hb d_Lw_law_457 ?_
    refine va_sld hx hb hX hbl hbA hS (i := (0 + 1)) (vin (by decide)) d_Lw_law_458 ?_
    refine lv_topi (fun x9 e8 => ?_)
    obtain rfl : x9 = xs 1 := by rw [e8]; exact congrArg xs (by decide)
    refine lv_aload_n hx hb d_Lw_law_459 rfl (lv_at hl 1 rfl) ?_
    refine lv_iload hx hb d_Lw_law_460 (lv_at hl 5 rfl) ?_
    refine lv_iconst (v := 2) hx hb d_Lw_law_462 (by decide) ?_
    refine lv_iadd hx hb d_Lw_law_463 ?_
    refine va_sld hx hb hX hbl hbA hS (i := (0 + 2)) (vin (by decide)) d_Lw_law_464 ?_
    refine lv_topi (fun x11 e10 => ?_)
    obtain rfl : x11 = xs 2 := by rw [e10]; exact congrArg xs (by decide)
    refine lv_aload_n hx hb d_Lw_law_465 rfl (lv_at hl 1 rfl) ?_
    refine lv_iload hx hb d_Lw_law_466 (lv_at hl 5 rfl) ?_
    refine lv_iconst (v := 3) hx hb d_Lw_law_468 (by decide) ?_
    refine lv_iadd hx hb d_Lw_law_469 ?_
    refine va_sld hx hb hX hbl hbA hS (i := (0 + 3)) (vin (by decide)) d_Lw_law_470 ?_
    refine lv_topi (fun x13 e12 => ?_)
    obtain rfl : x13 = xs 3 := by rw [e12]; exact congrArg xs (by decide)
    have hPc := hP.sub (ws' := [(mo, .inr (12, mdF mq mZ mQ 0 0 (nI 20) (nI 0)))]) [0] rfl
    have hDc := hD.sub (ws' := [(mo, .inr (12, mdF mq mZ mQ 0 0 (nI 20) (nI 0)))]) [0] (by decide) rfl
    have hFc := va_free (wc := [(mo, .inr (12, mdF mq mZ mQ 0 0 (nI 20) (nI 0)))]) hD hS hA [0] rfl
    refine va_calli (va_runV (C := "DoorServerModel") (As := [.int (xs 1), .int (xs 2), .int (xs 3)]) (rest := []) ⟨hx, hb, hml, hown, hg⟩ (b_put1 l dC dI cT H.size mo mq mZ mQ 0 0 20 0 (xs 1) (xs 2) (xs 3) (h1)) (cwV 3 hg (gI (List.forall_mem_append.mpr ⟨List.forall_mem_cons.mpr ⟨k_1184, List.forall_mem_cons.mpr ⟨k_1185, List.forall_mem_cons.mpr ⟨k_1186, List.forall_mem_cons.mpr ⟨k_13, fun _ h => absurd h List.not_mem_nil⟩⟩⟩⟩, List.forall_mem_cons.mpr ⟨k_1187, fun _ h => h⟩⟩)) rfl rfl rfl (by decide +kernel) ⟨Nat.le_of_ble_eq_true rfl, Nat.le_of_ble_eq_true rfl⟩) ⟨fun a U g mk q => by obtain ⟨q0, q1, qP, qK, qD⟩ := q; exact ⟨q0, q1, qP, va_K.moved (u := U) (U := U.calling g mk a) (Vm.Alike.refl U.vm) qK, qD⟩, va_recv (q0 := 0) (ci := 12) hK hP rfl rfl, fun U hU hW => ⟨rfl, by rw [hU], by rw [hU]; exact hPc, va_K.moved hW.alike hK, hDc.weaken (fun _ _ _ _ => trivial)⟩⟩ rfl rfl hl.1 rfl (lv_room (Nat.le_of_ble_eq_true rfl)) d_Lw_law_471 ⟨Nat.le_of_ble_eq_true rfl, Nat.le_of_ble_eq_true rfl⟩) hS (fun q _ h => hFc q h) hFc (fun rv9 u t H1 locs ht hvm hw hB hz1 hk1 hS => ?_)
    try dsimp only at hw hB
    obtain ⟨hP1, hK1, hD1⟩ := hB
    rw [ht] at hP1
    generalize rv9 = r14 at hw ⊢
    obtain ⟨hP, hD⟩ := va_join (wr := []) (w1 := [(mo, .inr (12, mdF mq mZ mQ 1 0 (nI 20) (nI 0)))]) hP hD [0] [] rfl rfl (by decide) (by decide) hk1 hFc hP1 hD1
    have hw15 := hw
    clear hPc hDc hFc hz1 hk1 hP1 hK1 hD1
    generalize H1 = H at hP hS ⊢
    have hP : va_P (dC, dI) vcl [(mo, .inr (12, mdF mq mZ mQ 1 0 (nI 20) (nI 0)))] H := hP
    have hD : va_D A [(mo, .inr (12, mdF mq mZ mQ 1 0 (nI 20) (nI 0)))] := hD
    refine lv_istore (lv' := [(6, .int r14), (5, .int 1), (0, .ref b), (1, .ref ds), (2, .ref mo), (3, .ref ou), (4, .int 0)]) hx hb d_Lw_law_474 hl (by decide) rfl (fun ls hl => ?_)
    refine lv_aload_n hx hb d_Lw_law_476 rfl (lv_at hl 4 rfl) ?_
    have hPc := hP.sub (ws' := [(mo, .inr (12, mdF mq mZ mQ 1 0 (nI 20) (nI 0)))]) [0] rfl
    have hDc := hD.sub (ws' := [(mo, .inr (12, mdF mq mZ mQ 1 0 (nI 20) (nI 0)))]) [0] (by decide) rfl
    have hFc := va_free (wc := [(mo, .inr (12, mdF mq mZ mQ 1 0 (nI 20) (nI 0)))]) hD hS hA [0] rfl
    refine va_calli (va_runV (C := "DoorServerModel") (As := []) (rest := []) ⟨hx, hb, hml, hown, hg⟩ (m_thrown l dC dI cT H.size mo mq mZ mQ 1 0 20 0 ) (cwV 0 hg (gI (List.forall_mem_append.mpr ⟨List.forall_mem_cons.mpr ⟨k_1157, List.forall_mem_cons.mpr ⟨k_1158, List.forall_mem_cons.mpr ⟨k_1159, List.forall_mem_cons.mpr ⟨k_13, fun _ h => absurd h List.not_mem_nil⟩⟩⟩⟩, List.forall_mem_cons.mpr ⟨k_1160, fun _ h => h⟩⟩)) rfl rfl rfl (by decide +kernel) ⟨Nat.le_of_ble_eq_true rfl, Nat.le_of_ble_eq_true rfl⟩) ⟨fun a U g mk q => by obtain ⟨q0, q1, qP, qK, qD⟩ := q; exact ⟨q0, q1, qP, va_K.moved (u := U) (U := U.calling g mk a) (Vm.Alike.refl U.vm) qK, qD⟩, va_recv (q0 := 0) (ci := 12) hK hP rfl rfl, fun U hU hW => ⟨rfl, by rw [hU], by rw [hU]; exact hPc, va_K.moved hW.alike hK, hDc.weaken (fun _ _ _ _ => trivial)⟩⟩ rfl rfl hl.1 rfl (lv_room (Nat.le_of_ble_eq_true rfl)) d_Lw_law_477 ⟨Nat.le_of_ble_eq_true rfl, Nat.le_of_ble_eq_true rfl⟩) hS (fun q _ h => hFc q h) hFc (fun rv9 u t H1 locs ht hvm hw hB hz1 hk1 hS => ?_)
    try dsimp only at hw hB
    obtain ⟨hP1, hK1, hD1⟩ := hB
    rw [ht] at hP1
    obtain ⟨rfl, hw⟩ := hw
    obtain ⟨hP, hD⟩ := va_join (wr := []) (w1 := []) hP hD [0] [] rfl rfl (by decide) (by decide) hk1 hFc hP1 hD1
    have hw16 := hw
    clear hPc hDc hFc hz1 hk1 hP1 hK1 hD1
    generalize H1 = H at hP hS ⊢
    have hP : va_P (dC, dI) vcl [] H := hP
    have hD : va_D A [] := hD
    refine lv_iload hx hb d_Lw_law_480 (lv_at hl 1 rfl) ?_
    refine lv_icmp_eq (tgt := 487) hx hb d_Lw_law_482 (by decide) (fun hc17 => ?_) (fun hn9 => absurd (rfl) hn9)
    refine lv_iload hx hb d_Lw_law_487 (lv_at hl 1 rfl) ?_
    refine lv_if_ne (tgt := 504) hx hb d_Lw_law_489 (by decide) (fun hc18 => ?_) (fun hn9 => absurd hn9 (by decide))
    refine lv_goto (tgt := 1363) hx hb d_Lw_law_504 (by decide) ?_
    refine W.widen (k := 900) (n := 33000) (Nat.le_of_ble_eq_true rfl) (Nat.le_of_ble_eq_true rfl) ?_
    have hl9 : lv_has ls 8 [(0, .ref b), (4, .int 0)] := lv_sub hl [2, 6] rfl
    exact kk _ _ _ hS hl9
  have h1a : ¬ xs 1 < 0 := fun h9 => h1 (Or.inl h9)
  have h1b : ¬ 255 < xs 1 := fun h9 => h1 (Or.inr h9)
  by_cases h2 : xs 3 < 0 ∨ 255 < xs 3
  · skip
    have hP := hP.sub (ws' := [(ds, .inr (0, [.ref dr, .ref sv])), (mo, .inr (12, mdF mq mZ mQ 0 0 (nI 20) (nI 0)))]) [0, 22] rfl
    have hD := hD.sub (ws' := [(ds, .inr (0, [.ref dr, .ref sv])), (mo, .inr (12, mdF mq mZ mQ 0 0 (nI 20) (nI 0)))]) [0, 22] (by decide) rfl
    refine lv_aload_n hx hb d_Lw_law_427 rfl (lv_at hl 1 rfl) ?_
    refine lv_aload_n hx hb d_Lw_law_428 rfl (lv_at hl 0 rfl) ?_
    refine lv_iload hx hb d_Lw_law_429 (lv_at hl 4 rfl) ?_
    refine lv_iconst (v := 1) hx hb d_Lw_law_431 (by decide) ?_
    refine lv_iadd hx hb d_Lw_law_432 ?_
    refine va_sld hx hb hX hbl hbA hS (i := (0 + 1)) (vin (by decide)) d_Lw_law_433 ?_
    refine lv_topi (fun x20 e19 => ?_)
    obtain rfl : x20 = xs 1 := by rw [e19]; exact congrArg xs (by decide)
    refine lv_aload_n hx hb d_Lw_law_434 rfl (lv_at hl 0 rfl) ?_
    refine lv_iload hx hb d_Lw_law_435 (lv_at hl 4 rfl) ?_
    refine lv_iconst (v := 2) hx hb d_Lw_law_437 (by decide) ?_
    refine lv_iadd hx hb d_Lw_law_438 ?_
    refine va_sld hx hb hX hbl hbA hS (i := (0 + 2)) (vin (by decide)) d_Lw_law_439 ?_
    refine lv_topi (fun x22 e21 => ?_)
    obtain rfl : x22 = xs 2 := by rw [e21]; exact congrArg xs (by decide)
    refine lv_aload_n hx hb d_Lw_law_440 rfl (lv_at hl 0 rfl) ?_
    refine lv_iload hx hb d_Lw_law_441 (lv_at hl 4 rfl) ?_
    refine lv_iconst (v := 3) hx hb d_Lw_law_443 (by decide) ?_
    refine lv_iadd hx hb d_Lw_law_444 ?_
    refine va_sld hx hb hX hbl hbA hS (i := (0 + 3)) (vin (by decide)) d_Lw_law_445 ?_
    refine lv_topi (fun x24 e23 => ?_)
    obtain rfl : x24 = xs 3 := by rw [e23]; exact congrArg xs (by decide)
    refine lv_aload_n hx hb d_Lw_law_446 rfl (lv_at hl 3 rfl) ?_
    have hPc := hP.sub (ws' := [(ds, .inr (0, [.ref dr, .ref sv]))]) [0] rfl
    have hDc := hD.sub (ws' := [(ds, .inr (0, [.ref dr, .ref sv]))]) [0] (by decide) rfl
    have hFc := va_free (wc := [(ds, .inr (0, [.ref dr, .ref sv]))]) hD hS hA [0] rfl
    refine va_calli (xw_runS (As := [.ref ds, .int (xs 1), .int (xs 2), .int (xs 3), .ref ou]) (rest := []) ⟨hx, hb, hml, hown, hg⟩ (t_put2 l dC dI cT H.size ds (xs 1) (xs 2) (xs 3) dr sv ou (hfl) (h1a) (h1b) (h2)) rfl (gI (List.forall_mem_cons.mpr ⟨k_494, fun _ h => h⟩)) (hg _ k_492) (hg _ k_493) (hg _ k_0) rfl rfl (n := 5) (by decide +kernel) ⟨Nat.le_of_ble_eq_true rfl, Nat.le_of_ble_eq_true rfl⟩ ⟨fun a U g mk q => by obtain ⟨q0, q1, qP, qK, qD, qE⟩ := q; exact ⟨q0, q1, qP, va_K.moved (u := U) (U := U.calling g mk a) (Vm.Alike.refl U.vm) qK, qD, qE.at (State.WarmedH.refl _) (fun _ _ _ => rfl) (fun _ h => h)⟩, fun U hU hW => ⟨rfl, by rw [hU], by rw [hU]; exact hPc, va_K.moved hW.alike hK, hDc.weaken (fun _ _ _ _ => trivial), by rw [hU]; exact hXz.at hW hS.2.1 (fun _ h => h.elim)⟩⟩ rfl rfl hl.1 rfl (lv_room (Nat.le_of_ble_eq_true rfl)) d_Lw_law_447 ⟨Nat.le_of_ble_eq_true rfl, Nat.le_of_ble_eq_true rfl⟩) hS (fun q _ h => hFc q h) hFc (fun rv9 u t H1 locs ht hvm hw hB hz1 hk1 hS => ?_)
    try dsimp only at hw hB
    obtain ⟨hP1, hK1, hD1⟩ := hB
    rw [ht] at hP1
    obtain ⟨rfl, hw⟩ := hw
    obtain ⟨hP, hD⟩ := va_join (wr := [(mo, .inr (12, mdF mq mZ mQ 0 0 (nI 20) (nI 0)))]) (w1 := []) hP hD [0] [1] rfl rfl (by decide) (by decide) hk1 hFc hP1 hD1
    have hw25 := hw
    clear hPc hDc hFc hz1 hk1 hP1 hK1 hD1
    generalize H1 = H at hP hS ⊢
    have hP : va_P (dC, dI) vcl [(mo, .inr (12, mdF mq mZ mQ 0 0 (nI 20) (nI 0)))] H := hP
    have hD : va_D A [(mo, .inr (12, mdF mq mZ mQ 0 0 (nI 20) (nI 0)))] := hD
    refine lv_istore (lv' := [(5, .int 1), (0, .ref b), (1, .ref ds), (2, .ref mo), (3, .ref ou), (4, .int 0)]) hx hb d_Lw_law_450 hl (by decide) rfl (fun ls hl => ?_)
    refine lv_aload_n hx hb d_Lw_law_452 rfl (lv_at hl 3 rfl) ?_
    refine lv_aload_n hx hb d_Lw_law_453 rfl (lv_at hl 1 rfl) ?_
    refine lv_iload hx hb d_Lw_law_454 (lv_at hl 5 rfl) ?_
    refine lv_iconst (v := 1) hx hb d_Lw_law_456 (by decide) ?_
    refine lv_iadd hx hb d_Lw_law_457 ?_
    refine va_sld hx hb hX hbl hbA hS (i := (0 + 1)) (vin (by decide)) d_Lw_law_458 ?_
    refine lv_topi (fun x27 e26 => ?_)
    obtain rfl : x27 = xs 1 := by rw [e26]; exact congrArg xs (by decide)
    refine lv_aload_n hx hb d_Lw_law_459 rfl (lv_at hl 1 rfl) ?_
    refine lv_iload hx hb d_Lw_law_460 (lv_at hl 5 rfl) ?_
    refine lv_iconst (v := 2) hx hb d_Lw_law_462 (by decide) ?_
    refine lv_iadd hx hb d_Lw_law_463 ?_
    refine va_sld hx hb hX hbl hbA hS (i := (0 + 2)) (vin (by decide)) d_Lw_law_464 ?_
    refine lv_topi (fun x29 e28 => ?_)
    obtain rfl : x29 = xs 2 := by rw [e28]; exact congrArg xs (by decide)
    refine lv_aload_n hx hb d_Lw_law_465 rfl (lv_at hl 1 rfl) ?_
    refine lv_iload hx hb d_Lw_law_466 (lv_at hl 5 rfl) ?_
    refine lv_iconst (v := 3) hx hb d_Lw_law_468 (by decide) ?_
    refine lv_iadd hx hb d_Lw_law_469 ?_
    refine va_sld hx hb hX hbl hbA hS (i := (0 + 3)) (vin (by decide)) d_Lw_law_470 ?_
    refine lv_topi (fun x31 e30 => ?_)
    obtain rfl : x31 = xs 3 := by rw [e30]; exact congrArg xs (by decide)
    have hPc := hP.sub (ws' := [(mo, .inr (12, mdF mq mZ mQ 0 0 (nI 20) (nI 0)))]) [0] rfl
    have hDc := hD.sub (ws' := [(mo, .inr (12, mdF mq mZ mQ 0 0 (nI 20) (nI 0)))]) [0] (by decide) rfl
    have hFc := va_free (wc := [(mo, .inr (12, mdF mq mZ mQ 0 0 (nI 20) (nI 0)))]) hD hS hA [0] rfl
    refine va_calli (va_runV (C := "DoorServerModel") (As := [.int (xs 1), .int (xs 2), .int (xs 3)]) (rest := []) ⟨hx, hb, hml, hown, hg⟩ (b_put2 l dC dI cT H.size mo mq mZ mQ 0 0 20 0 (xs 1) (xs 2) (xs 3) (h1a) (h1b) (h2)) (cwV 3 hg (gI (List.forall_mem_append.mpr ⟨List.forall_mem_cons.mpr ⟨k_1184, List.forall_mem_cons.mpr ⟨k_1185, List.forall_mem_cons.mpr ⟨k_1186, List.forall_mem_cons.mpr ⟨k_13, fun _ h => absurd h List.not_mem_nil⟩⟩⟩⟩, List.forall_mem_cons.mpr ⟨k_1187, fun _ h => h⟩⟩)) rfl rfl rfl (by decide +kernel) ⟨Nat.le_of_ble_eq_true rfl, Nat.le_of_ble_eq_true rfl⟩) ⟨fun a U g mk q => by obtain ⟨q0, q1, qP, qK, qD⟩ := q; exact ⟨q0, q1, qP, va_K.moved (u := U) (U := U.calling g mk a) (Vm.Alike.refl U.vm) qK, qD⟩, va_recv (q0 := 0) (ci := 12) hK hP rfl rfl, fun U hU hW => ⟨rfl, by rw [hU], by rw [hU]; exact hPc, va_K.moved hW.alike hK, hDc.weaken (fun _ _ _ _ => trivial)⟩⟩ rfl rfl hl.1 rfl (lv_room (Nat.le_of_ble_eq_true rfl)) d_Lw_law_471 ⟨Nat.le_of_ble_eq_true rfl, Nat.le_of_ble_eq_true rfl⟩) hS (fun q _ h => hFc q h) hFc (fun rv9 u t H1 locs ht hvm hw hB hz1 hk1 hS => ?_)
    try dsimp only at hw hB
    obtain ⟨hP1, hK1, hD1⟩ := hB
    rw [ht] at hP1
    generalize rv9 = r32 at hw ⊢
    obtain ⟨hP, hD⟩ := va_join (wr := []) (w1 := [(mo, .inr (12, mdF mq mZ mQ 1 0 (nI 20) (nI 0)))]) hP hD [0] [] rfl rfl (by decide) (by decide) hk1 hFc hP1 hD1
    have hw33 := hw
    clear hPc hDc hFc hz1 hk1 hP1 hK1 hD1
    generalize H1 = H at hP hS ⊢
    have hP : va_P (dC, dI) vcl [(mo, .inr (12, mdF mq mZ mQ 1 0 (nI 20) (nI 0)))] H := hP
    have hD : va_D A [(mo, .inr (12, mdF mq mZ mQ 1 0 (nI 20) (nI 0)))] := hD
    refine lv_istore (lv' := [(6, .int r32), (5, .int 1), (0, .ref b), (1, .ref ds), (2, .ref mo), (3, .ref ou), (4, .int 0)]) hx hb d_Lw_law_474 hl (by decide) rfl (fun ls hl => ?_)
    refine lv_aload_n hx hb d_Lw_law_476 rfl (lv_at hl 4 rfl) ?_
    have hPc := hP.sub (ws' := [(mo, .inr (12, mdF mq mZ mQ 1 0 (nI 20) (nI 0)))]) [0] rfl
    have hDc := hD.sub (ws' := [(mo, .inr (12, mdF mq mZ mQ 1 0 (nI 20) (nI 0)))]) [0] (by decide) rfl
    have hFc := va_free (wc := [(mo, .inr (12, mdF mq mZ mQ 1 0 (nI 20) (nI 0)))]) hD hS hA [0] rfl
    refine va_calli (va_runV (C := "DoorServerModel") (As := []) (rest := []) ⟨hx, hb, hml, hown, hg⟩ (m_thrown l dC dI cT H.size mo mq mZ mQ 1 0 20 0 ) (cwV 0 hg (gI (List.forall_mem_append.mpr ⟨List.forall_mem_cons.mpr ⟨k_1157, List.forall_mem_cons.mpr ⟨k_1158, List.forall_mem_cons.mpr ⟨k_1159, List.forall_mem_cons.mpr ⟨k_13, fun _ h => absurd h List.not_mem_nil⟩⟩⟩⟩, List.forall_mem_cons.mpr ⟨k_1160, fun _ h => h⟩⟩)) rfl rfl rfl (by decide +kernel) ⟨Nat.le_of_ble_eq_true rfl, Nat.le_of_ble_eq_true rfl⟩) ⟨fun a U g mk q => by obtain ⟨q0, q1, qP, qK, qD⟩ := q; exact ⟨q0, q1, qP, va_K.moved (u := U) (U := U.calling g mk a) (Vm.Alike.refl U.vm) qK, qD⟩, va_recv (q0 := 0) (ci := 12) hK hP rfl rfl, fun U hU hW => ⟨rfl, by rw [hU], by rw [hU]; exact hPc, va_K.moved hW.alike hK, hDc.weaken (fun _ _ _ _ => trivial)⟩⟩ rfl rfl hl.1 rfl (lv_room (Nat.le_of_ble_eq_true rfl)) d_Lw_law_477 ⟨Nat.le_of_ble_eq_true rfl, Nat.le_of_ble_eq_true rfl⟩) hS (fun q _ h => hFc q h) hFc (fun rv9 u t H1 locs ht hvm hw hB hz1 hk1 hS => ?_)
    try dsimp only at hw hB
    obtain ⟨hP1, hK1, hD1⟩ := hB
    rw [ht] at hP1
    obtain ⟨rfl, hw⟩ := hw
    obtain ⟨hP, hD⟩ := va_join (wr := []) (w1 := []) hP hD [0] [] rfl rfl (by decide) (by decide) hk1 hFc hP1 hD1
    have hw34 := hw
    clear hPc hDc hFc hz1 hk1 hP1 hK1 hD1
    generalize H1 = H at hP hS ⊢
    have hP : va_P (dC, dI) vcl [] H := hP
    have hD : va_D A [] := hD
    refine lv_iload hx hb d_Lw_law_480 (lv_at hl 1 rfl) ?_
    refine lv_icmp_eq (tgt := 487) hx hb d_Lw_law_482 (by decide) (fun hc35 => ?_) (fun hn9 => absurd (rfl) hn9)
    refine lv_iload hx hb d_Lw_law_487 (lv_at hl 1 rfl) ?_
    refine lv_if_ne (tgt := 504) hx hb d_Lw_law_489 (by decide) (fun hc36 => ?_) (fun hn9 => absurd hn9 (by decide))
    refine lv_goto (tgt := 1363) hx hb d_Lw_law_504 (by decide) ?_
    refine W.widen (k := 900) (n := 33000) (Nat.le_of_ble_eq_true rfl) (Nat.le_of_ble_eq_true rfl) ?_
    have hl9 : lv_has ls 8 [(0, .ref b), (4, .int 0)] := lv_sub hl [2, 6] rfl
    exact kk _ _ _ hS hl9
  have h2a : ¬ xs 3 < 0 := fun h9 => h2 (Or.inl h9)
  have h2b : ¬ 255 < xs 3 := fun h9 => h2 (Or.inr h9)
  by_cases h3 : xs 2 < 0 ∨ 100 < xs 2
  · skip
    have hP := hP.sub (ws' := [(ds, .inr (0, [.ref dr, .ref sv])), (mo, .inr (12, mdF mq mZ mQ 0 0 (nI 20) (nI 0)))]) [0, 22] rfl
    have hD := hD.sub (ws' := [(ds, .inr (0, [.ref dr, .ref sv])), (mo, .inr (12, mdF mq mZ mQ 0 0 (nI 20) (nI 0)))]) [0, 22] (by decide) rfl
    refine lv_aload_n hx hb d_Lw_law_427 rfl (lv_at hl 1 rfl) ?_
    refine lv_aload_n hx hb d_Lw_law_428 rfl (lv_at hl 0 rfl) ?_
    refine lv_iload hx hb d_Lw_law_429 (lv_at hl 4 rfl) ?_
    refine lv_iconst (v := 1) hx hb d_Lw_law_431 (by decide) ?_
    refine lv_iadd hx hb d_Lw_law_432 ?_
    refine va_sld hx hb hX hbl hbA hS (i := (0 + 1)) (vin (by decide)) d_Lw_law_433 ?_
    refine lv_topi (fun x38 e37 => ?_)
    obtain rfl : x38 = xs 1 := by rw [e37]; exact congrArg xs (by decide)
    refine lv_aload_n hx hb d_Lw_law_434 rfl (lv_at hl 0 rfl) ?_
    refine lv_iload hx hb d_Lw_law_435 (lv_at hl 4 rfl) ?_
    refine lv_iconst (v := 2) hx hb d_Lw_law_437 (by decide) ?_
    refine lv_iadd hx hb d_Lw_law_438 ?_
    refine va_sld hx hb hX hbl hbA hS (i := (0 + 2)) (vin (by decide)) d_Lw_law_439 ?_
    refine lv_topi (fun x40 e39 => ?_)
    obtain rfl : x40 = xs 2 := by rw [e39]; exact congrArg xs (by decide)
    refine lv_aload_n hx hb d_Lw_law_440 rfl (lv_at hl 0 rfl) ?_
    refine lv_iload hx hb d_Lw_law_441 (lv_at hl 4 rfl) ?_
    refine lv_iconst (v := 3) hx hb d_Lw_law_443 (by decide) ?_
    refine lv_iadd hx hb d_Lw_law_444 ?_
    refine va_sld hx hb hX hbl hbA hS (i := (0 + 3)) (vin (by decide)) d_Lw_law_445 ?_
    refine lv_topi (fun x42 e41 => ?_)
    obtain rfl : x42 = xs 3 := by rw [e41]; exact congrArg xs (by decide)
    refine lv_aload_n hx hb d_Lw_law_446 rfl (lv_at hl 3 rfl) ?_
    have hPc := hP.sub (ws' := [(ds, .inr (0, [.ref dr, .ref sv]))]) [0] rfl
    have hDc := hD.sub (ws' := [(ds, .inr (0, [.ref dr, .ref sv]))]) [0] (by decide) rfl
    have hFc := va_free (wc := [(ds, .inr (0, [.ref dr, .ref sv]))]) hD hS hA [0] rfl
    refine va_calli (xw_runS (As := [.ref ds, .int (xs 1), .int (xs 2), .int (xs 3), .ref ou]) (rest := []) ⟨hx, hb, hml, hown, hg⟩ (t_put3 l dC dI cT H.size ds (xs 1) (xs 2) (xs 3) dr sv ou (hfl) (h1a) (h1b) (h2a) (h2b) (h3)) rfl (gI (List.forall_mem_cons.mpr ⟨k_494, fun _ h => h⟩)) (hg _ k_492) (hg _ k_493) (hg _ k_0) rfl rfl (n := 5) (by decide +kernel) ⟨Nat.le_of_ble_eq_true rfl, Nat.le_of_ble_eq_true rfl⟩ ⟨fun a U g mk q => by obtain ⟨q0, q1, qP, qK, qD, qE⟩ := q; exact ⟨q0, q1, qP, va_K.moved (u := U) (U := U.calling g mk a) (Vm.Alike.refl U.vm) qK, qD, qE.at (State.WarmedH.refl _) (fun _ _ _ => rfl) (fun _ h => h)⟩, fun U hU hW => ⟨rfl, by rw [hU], by rw [hU]; exact hPc, va_K.moved hW.alike hK, hDc.weaken (fun _ _ _ _ => trivial), by rw [hU]; exact hXz.at hW hS.2.1 (fun _ h => h.elim)⟩⟩ rfl rfl hl.1 rfl (lv_room (Nat.le_of_ble_eq_true rfl)) d_Lw_law_447 ⟨Nat.le_of_ble_eq_true rfl, Nat.le_of_ble_eq_true rfl⟩) hS (fun q _ h => hFc q h) hFc (fun rv9 u t H1 locs ht hvm hw hB hz1 hk1 hS => ?_)
    try dsimp only at hw hB
    obtain ⟨hP1, hK1, hD1⟩ := hB
    rw [ht] at hP1
    obtain ⟨rfl, hw⟩ := hw
    obtain ⟨hP, hD⟩ := va_join (wr := [(mo, .inr (12, mdF mq mZ mQ 0 0 (nI 20) (nI 0)))]) (w1 := []) hP hD [0] [1] rfl rfl (by decide) (by decide) hk1 hFc hP1 hD1
    have hw43 := hw
    clear hPc hDc hFc hz1 hk1 hP1 hK1 hD1
    generalize H1 = H at hP hS ⊢
    have hP : va_P (dC, dI) vcl [(mo, .inr (12, mdF mq mZ mQ 0 0 (nI 20) (nI 0)))] H := hP
    have hD : va_D A [(mo, .inr (12, mdF mq mZ mQ 0 0 (nI 20) (nI 0)))] := hD
    refine lv_istore (lv' := [(5, .int 1), (0, .ref b), (1, .ref ds), (2, .ref mo), (3, .ref ou), (4, .int 0)]) hx hb d_Lw_law_450 hl (by decide) rfl (fun ls hl => ?_)
    refine lv_aload_n hx hb d_Lw_law_452 rfl (lv_at hl 3 rfl) ?_
    refine lv_aload_n hx hb d_Lw_law_453 rfl (lv_at hl 1 rfl) ?_
    refine lv_iload hx hb d_Lw_law_454 (lv_at hl 5 rfl) ?_
    refine lv_iconst (v := 1) hx hb d_Lw_law_456 (by decide) ?_
    refine lv_iadd hx hb d_Lw_law_457 ?_
    refine va_sld hx hb hX hbl hbA hS (i := (0 + 1)) (vin (by decide)) d_Lw_law_458 ?_
    refine lv_topi (fun x45 e44 => ?_)
    obtain rfl : x45 = xs 1 := by rw [e44]; exact congrArg xs (by decide)
    refine lv_aload_n hx hb d_Lw_law_459 rfl (lv_at hl 1 rfl) ?_
    refine lv_iload hx hb d_Lw_law_460 (lv_at hl 5 rfl) ?_
    refine lv_iconst (v := 2) hx hb d_Lw_law_462 (by decide) ?_
    refine lv_iadd hx hb d_Lw_law_463 ?_
    refine va_sld hx hb hX hbl hbA hS (i := (0 + 2)) (vin (by decide)) d_Lw_law_464 ?_
    refine lv_topi (fun x47 e46 => ?_)
    obtain rfl : x47 = xs 2 := by rw [e46]; exact congrArg xs (by decide)
    refine lv_aload_n hx hb d_Lw_law_465 rfl (lv_at hl 1 rfl) ?_
    refine lv_iload hx hb d_Lw_law_466 (lv_at hl 5 rfl) ?_
    refine lv_iconst (v := 3) hx hb d_Lw_law_468 (by decide) ?_
    refine lv_iadd hx hb d_Lw_law_469 ?_
    refine va_sld hx hb hX hbl hbA hS (i := (0 + 3)) (vin (by decide)) d_Lw_law_470 ?_
    refine lv_topi (fun x49 e48 => ?_)
    obtain rfl : x49 = xs 3 := by rw [e48]; exact congrArg xs (by decide)
    have hPc := hP.sub (ws' := [(mo, .inr (12, mdF mq mZ mQ 0 0 (nI 20) (nI 0)))]) [0] rfl
    have hDc := hD.sub (ws' := [(mo, .inr (12, mdF mq mZ mQ 0 0 (nI 20) (nI 0)))]) [0] (by decide) rfl
    have hFc := va_free (wc := [(mo, .inr (12, mdF mq mZ mQ 0 0 (nI 20) (nI 0)))]) hD hS hA [0] rfl
    refine va_calli (va_runV (C := "DoorServerModel") (As := [.int (xs 1), .int (xs 2), .int (xs 3)]) (rest := []) ⟨hx, hb, hml, hown, hg⟩ (b_put3 l dC dI cT H.size mo mq mZ mQ 0 0 20 0 (xs 1) (xs 2) (xs 3) (h1a) (h1b) (h2a) (h2b) (h3)) (cwV 3 hg (gI (List.forall_mem_append.mpr ⟨List.forall_mem_cons.mpr ⟨k_1184, List.forall_mem_cons.mpr ⟨k_1185, List.forall_mem_cons.mpr ⟨k_1186, List.forall_mem_cons.mpr ⟨k_13, fun _ h => absurd h List.not_mem_nil⟩⟩⟩⟩, List.forall_mem_cons.mpr ⟨k_1187, fun _ h => h⟩⟩)) rfl rfl rfl (by decide +kernel) ⟨Nat.le_of_ble_eq_true rfl, Nat.le_of_ble_eq_true rfl⟩) ⟨fun a U g mk q => by obtain ⟨q0, q1, qP, qK, qD⟩ := q; exact ⟨q0, q1, qP, va_K.moved (u := U) (U := U.calling g mk a) (Vm.Alike.refl U.vm) qK, qD⟩, va_recv (q0 := 0) (ci := 12) hK hP rfl rfl, fun U hU hW => ⟨rfl, by rw [hU], by rw [hU]; exact hPc, va_K.moved hW.alike hK, hDc.weaken (fun _ _ _ _ => trivial)⟩⟩ rfl rfl hl.1 rfl (lv_room (Nat.le_of_ble_eq_true rfl)) d_Lw_law_471 ⟨Nat.le_of_ble_eq_true rfl, Nat.le_of_ble_eq_true rfl⟩) hS (fun q _ h => hFc q h) hFc (fun rv9 u t H1 locs ht hvm hw hB hz1 hk1 hS => ?_)
    try dsimp only at hw hB
    obtain ⟨hP1, hK1, hD1⟩ := hB
    rw [ht] at hP1
    generalize rv9 = r50 at hw ⊢
    obtain ⟨hP, hD⟩ := va_join (wr := []) (w1 := [(mo, .inr (12, mdF mq mZ mQ 1 0 (nI 20) (nI 0)))]) hP hD [0] [] rfl rfl (by decide) (by decide) hk1 hFc hP1 hD1
    have hw51 := hw
    clear hPc hDc hFc hz1 hk1 hP1 hK1 hD1
    generalize H1 = H at hP hS ⊢
    have hP : va_P (dC, dI) vcl [(mo, .inr (12, mdF mq mZ mQ 1 0 (nI 20) (nI 0)))] H := hP
    have hD : va_D A [(mo, .inr (12, mdF mq mZ mQ 1 0 (nI 20) (nI 0)))] := hD
    refine lv_istore (lv' := [(6, .int r50), (5, .int 1), (0, .ref b), (1, .ref ds), (2, .ref mo), (3, .ref ou), (4, .int 0)]) hx hb d_Lw_law_474 hl (by decide) rfl (fun ls hl => ?_)
    refine lv_aload_n hx hb d_Lw_law_476 rfl (lv_at hl 4 rfl) ?_
    have hPc := hP.sub (ws' := [(mo, .inr (12, mdF mq mZ mQ 1 0 (nI 20) (nI 0)))]) [0] rfl
    have hDc := hD.sub (ws' := [(mo, .inr (12, mdF mq mZ mQ 1 0 (nI 20) (nI 0)))]) [0] (by decide) rfl
    have hFc := va_free (wc := [(mo, .inr (12, mdF mq mZ mQ 1 0 (nI 20) (nI 0)))]) hD hS hA [0] rfl
    refine va_calli (va_runV (C := "DoorServerModel") (As := []) (rest := []) ⟨hx, hb, hml, hown, hg⟩ (m_thrown l dC dI cT H.size mo mq mZ mQ 1 0 20 0 ) (cwV 0 hg (gI (List.forall_mem_append.mpr ⟨List.forall_mem_cons.mpr ⟨k_1157, List.forall_mem_cons.mpr ⟨k_1158, List.forall_mem_cons.mpr ⟨k_1159, List.forall_mem_cons.mpr ⟨k_13, fun _ h => absurd h List.not_mem_nil⟩⟩⟩⟩, List.forall_mem_cons.mpr ⟨k_1160, fun _ h => h⟩⟩)) rfl rfl rfl (by decide +kernel) ⟨Nat.le_of_ble_eq_true rfl, Nat.le_of_ble_eq_true rfl⟩) ⟨fun a U g mk q => by obtain ⟨q0, q1, qP, qK, qD⟩ := q; exact ⟨q0, q1, qP, va_K.moved (u := U) (U := U.calling g mk a) (Vm.Alike.refl U.vm) qK, qD⟩, va_recv (q0 := 0) (ci := 12) hK hP rfl rfl, fun U hU hW => ⟨rfl, by rw [hU], by rw [hU]; exact hPc, va_K.moved hW.alike hK, hDc.weaken (fun _ _ _ _ => trivial)⟩⟩ rfl rfl hl.1 rfl (lv_room (Nat.le_of_ble_eq_true rfl)) d_Lw_law_477 ⟨Nat.le_of_ble_eq_true rfl, Nat.le_of_ble_eq_true rfl⟩) hS (fun q _ h => hFc q h) hFc (fun rv9 u t H1 locs ht hvm hw hB hz1 hk1 hS => ?_)
    try dsimp only at hw hB
    obtain ⟨hP1, hK1, hD1⟩ := hB
    rw [ht] at hP1
    obtain ⟨rfl, hw⟩ := hw
    obtain ⟨hP, hD⟩ := va_join (wr := []) (w1 := []) hP hD [0] [] rfl rfl (by decide) (by decide) hk1 hFc hP1 hD1
    have hw52 := hw
    clear hPc hDc hFc hz1 hk1 hP1 hK1 hD1
    generalize H1 = H at hP hS ⊢
    have hP : va_P (dC, dI) vcl [] H := hP
    have hD : va_D A [] := hD
    refine lv_iload hx hb d_Lw_law_480 (lv_at hl 1 rfl) ?_
    refine lv_icmp_eq (tgt := 487) hx hb d_Lw_law_482 (by decide) (fun hc53 => ?_) (fun hn9 => absurd (rfl) hn9)
    refine lv_iload hx hb d_Lw_law_487 (lv_at hl 1 rfl) ?_
    refine lv_if_ne (tgt := 504) hx hb d_Lw_law_489 (by decide) (fun hc54 => ?_) (fun hn9 => absurd hn9 (by decide))
    refine lv_goto (tgt := 1363) hx hb d_Lw_law_504 (by decide) ?_
    refine W.widen (k := 900) (n := 33000) (Nat.le_of_ble_eq_true rfl) (Nat.le_of_ble_eq_true rfl) ?_
    have hl9 : lv_has ls 8 [(0, .ref b), (4, .int 0)] := lv_sub hl [2, 6] rfl
    exact kk _ _ _ hS hl9
  have h3a : ¬ xs 2 < 0 := fun h9 => h3 (Or.inl h9)
  have h3b : ¬ 100 < xs 2 := fun h9 => h3 (Or.inr h9)
  obtain ⟨k, hk, he⟩ := rng_0 (M := 100) (n := 100) (by decide) h3a h3b
  have hP := hP.sub (ws' := [(ds, .inr (0, [.ref dr, .ref sv])), (dr, .inr (2, [.ref rr, .int (nI 20)])), (rr, .inl ((cT 0), 1000, .inl df)), (mo, .inr (12, mdF mq mZ mQ 0 0 (nI 20) (nI 0))), (mq 7, .inl ((cT 0), 1000, .inl mf)), (ou, .inl ((cT 1), 1, .inr (.inl fo)))]) [0, 1, 2, 22, 28, 32] rfl
  have hD := hD.sub (ws' := [(ds, .inr (0, [.ref dr, .ref sv])), (dr, .inr (2, [.ref rr, .int (nI 20)])), (rr, .inl ((cT 0), 1000, .inl df)), (mo, .inr (12, mdF mq mZ mQ 0 0 (nI 20) (nI 0))), (mq 7, .inl ((cT 0), 1000, .inl mf)), (ou, .inl ((cT 1), 1, .inr (.inl fo)))]) [0, 1, 2, 22, 28, 32] (by decide) rfl
  refine lv_aload_n hx hb d_Lw_law_427 rfl (lv_at hl 1 rfl) ?_
  refine lv_aload_n hx hb d_Lw_law_428 rfl (lv_at hl 0 rfl) ?_
  refine lv_iload hx hb d_Lw_law_429 (lv_at hl 4 rfl) ?_
  refine lv_iconst (v := 1) hx hb d_Lw_law_431 (by decide) ?_
  refine lv_iadd hx hb d_Lw_law_432 ?_
  refine va_sld hx hb hX hbl hbA hS (i := (0 + 1)) (vin (by decide)) d_Lw_law_433 ?_
  refine lv_topi (fun x56 e55 => ?_)
  obtain rfl : x56 = xs 1 := by rw [e55]; exact congrArg xs (by decide)
  refine lv_aload_n hx hb d_Lw_law_434 rfl (lv_at hl 0 rfl) ?_
  refine lv_iload hx hb d_Lw_law_435 (lv_at hl 4 rfl) ?_
  refine lv_iconst (v := 2) hx hb d_Lw_law_437 (by decide) ?_
  refine lv_iadd hx hb d_Lw_law_438 ?_
  refine va_sld hx hb hX hbl hbA hS (i := (0 + 2)) (vin (by decide)) d_Lw_law_439 ?_
  refine lv_topi (fun x58 e57 => ?_)
  obtain rfl : x58 = nI k := by rw [e57]; exact (congrArg xs (by decide)).trans (he)
  refine lv_aload_n hx hb d_Lw_law_440 rfl (lv_at hl 0 rfl) ?_
  refine lv_iload hx hb d_Lw_law_441 (lv_at hl 4 rfl) ?_
  refine lv_iconst (v := 3) hx hb d_Lw_law_443 (by decide) ?_
  refine lv_iadd hx hb d_Lw_law_444 ?_
  refine va_sld hx hb hX hbl hbA hS (i := (0 + 3)) (vin (by decide)) d_Lw_law_445 ?_
  refine lv_topi (fun x60 e59 => ?_)
  obtain rfl : x60 = xs 3 := by rw [e59]; exact congrArg xs (by decide)
  refine lv_aload_n hx hb d_Lw_law_446 rfl (lv_at hl 3 rfl) ?_
  have hPc := hP.sub (ws' := [(ds, .inr (0, [.ref dr, .ref sv])), (dr, .inr (2, [.ref rr, .int (nI 20)])), (rr, .inl ((cT 0), 1000, .inl df)), (ou, .inl ((cT 1), 1, .inr (.inl fo)))]) [0, 1, 2, 5] rfl
  have hDc := hD.sub (ws' := [(ds, .inr (0, [.ref dr, .ref sv])), (dr, .inr (2, [.ref rr, .int (nI 20)])), (rr, .inl ((cT 0), 1000, .inl df)), (ou, .inl ((cT 1), 1, .inr (.inl fo)))]) [0, 1, 2, 5] (by decide) rfl
  have hFc := va_free (wc := [(ds, .inr (0, [.ref dr, .ref sv])), (dr, .inr (2, [.ref rr, .int (nI 20)])), (rr, .inl ((cT 0), 1000, .inl df)), (ou, .inl ((cT 1), 1, .inr (.inl fo)))]) hD hS hA [0, 1, 2, 5] rfl
  refine va_calli (xw_runS (As := [.ref ds, .int (xs 1), .int (nI k), .int (xs 3), .ref ou]) (rest := []) ⟨hx, hb, hml, hown, hg⟩ (l_put l dC dI cT H.size ds dr sv rr df (xs 1) k (xs 3) ou fo (h1a) (h1b) (hk) (h2a) (h2b)) rfl (gI (List.forall_mem_cons.mpr ⟨k_494, fun _ h => h⟩)) (hg _ k_492) (hg _ k_493) (hg _ k_0) rfl rfl (n := 5) (by decide +kernel) ⟨Nat.le_of_ble_eq_true rfl, Nat.le_of_ble_eq_true rfl⟩ ⟨fun a U g mk q => by obtain ⟨q0, q1, qP, qK, qD⟩ := q; exact ⟨q0, q1, qP, va_K.moved (u := U) (U := U.calling g mk a) (Vm.Alike.refl U.vm) qK, qD⟩, fun U hU hW => ⟨rfl, by rw [hU], by rw [hU]; exact hPc, va_K.moved hW.alike hK, hDc.weaken (fun _ _ _ _ => trivial)⟩⟩ rfl rfl hl.1 rfl (lv_room (Nat.le_of_ble_eq_true rfl)) d_Lw_law_447 ⟨Nat.le_of_ble_eq_true rfl, Nat.le_of_ble_eq_true rfl⟩) hS (fun q _ h => hFc q h) hFc (fun rv9 u t H1 locs ht hvm hw hB hz1 hk1 hS => ?_)
  try dsimp only at hw hB
  obtain ⟨hP1, hK1, hD1⟩ := hB
  rw [ht] at hP1
  obtain ⟨rfl, hw⟩ := hw
  obtain ⟨hP, hD⟩ := va_join (wr := [(mo, .inr (12, mdF mq mZ mQ 0 0 (nI 20) (nI 0))), (mq 7, .inl ((cT 0), 1000, .inl mf))]) (w1 := [(ou, .inl ((cT 1), 1, .inr (.inl (vp_updL fo (0 : Int32).toNatClampNeg ((nI (22 + k)).toInt64)))))]) hP hD [0, 1, 2, 5] [3, 4] rfl rfl (by decide) (by decide) hk1 hFc hP1 hD1
  have hw61 := hw
  clear hPc hDc hFc hz1 hk1 hP1 hK1 hD1
  generalize H1 = H at hP hS ⊢
  have hP : va_P (dC, dI) vcl [(mo, .inr (12, mdF mq mZ mQ 0 0 (nI 20) (nI 0))), (mq 7, .inl ((cT 0), 1000, .inl mf)), (ou, .inl ((cT 1), 1, .inr (.inl (vp_updL fo (0 : Int32).toNatClampNeg ((nI (22 + k)).toInt64)))))] H := hP
  have hD : va_D A [(mo, .inr (12, mdF mq mZ mQ 0 0 (nI 20) (nI 0))), (mq 7, .inl ((cT 0), 1000, .inl mf)), (ou, .inl ((cT 1), 1, .inr (.inl (vp_updL fo (0 : Int32).toNatClampNeg ((nI (22 + k)).toInt64)))))] := hD
  refine lv_istore (lv' := [(5, .int 0), (0, .ref b), (1, .ref ds), (2, .ref mo), (3, .ref ou), (4, .int 0)]) hx hb d_Lw_law_450 hl (by decide) rfl (fun ls hl => ?_)
  refine lv_aload_n hx hb d_Lw_law_452 rfl (lv_at hl 3 rfl) ?_
  refine lv_aload_n hx hb d_Lw_law_453 rfl (lv_at hl 1 rfl) ?_
  refine lv_iload hx hb d_Lw_law_454 (lv_at hl 5 rfl) ?_
  refine lv_iconst (v := 1) hx hb d_Lw_law_456 (by decide) ?_
  refine lv_iadd hx hb d_Lw_law_457 ?_
  refine va_sld hx hb hX hbl hbA hS (i := (0 + 1)) (vin (by decide)) d_Lw_law_458 ?_
  refine lv_topi (fun x63 e62 => ?_)
  obtain rfl : x63 = xs 1 := by rw [e62]; exact congrArg xs (by decide)
  refine lv_aload_n hx hb d_Lw_law_459 rfl (lv_at hl 1 rfl) ?_
  refine lv_iload hx hb d_Lw_law_460 (lv_at hl 5 rfl) ?_
  refine lv_iconst (v := 2) hx hb d_Lw_law_462 (by decide) ?_
  refine lv_iadd hx hb d_Lw_law_463 ?_
  refine va_sld hx hb hX hbl hbA hS (i := (0 + 2)) (vin (by decide)) d_Lw_law_464 ?_
  refine lv_topi (fun x65 e64 => ?_)
  obtain rfl : x65 = nI k := by rw [e64]; exact (congrArg xs (by decide)).trans (he)
  refine lv_aload_n hx hb d_Lw_law_465 rfl (lv_at hl 1 rfl) ?_
  refine lv_iload hx hb d_Lw_law_466 (lv_at hl 5 rfl) ?_
  refine lv_iconst (v := 3) hx hb d_Lw_law_468 (by decide) ?_
  refine lv_iadd hx hb d_Lw_law_469 ?_
  refine va_sld hx hb hX hbl hbA hS (i := (0 + 3)) (vin (by decide)) d_Lw_law_470 ?_
  refine lv_topi (fun x67 e66 => ?_)
  obtain rfl : x67 = xs 3 := by rw [e66]; exact congrArg xs (by decide)
  have hPc := hP.sub (ws' := [(mo, .inr (12, mdF mq mZ mQ 0 0 (nI 20) (nI 0))), (mq 7, .inl ((cT 0), 1000, .inl mf))]) [0, 1] rfl
  have hDc := hD.sub (ws' := [(mo, .inr (12, mdF mq mZ mQ 0 0 (nI 20) (nI 0))), (mq 7, .inl ((cT 0), 1000, .inl mf))]) [0, 1] (by decide) rfl
  have hFc := va_free (wc := [(mo, .inr (12, mdF mq mZ mQ 0 0 (nI 20) (nI 0))), (mq 7, .inl ((cT 0), 1000, .inl mf))]) hD hS hA [0, 1] rfl
  refine va_calli (va_runV (C := "DoorServerModel") (As := [.int (xs 1), .int (nI k), .int (xs 3)]) (rest := []) ⟨hx, hb, hml, hown, hg⟩ (o_put l dC dI cT H.size mo mq mZ mQ 0 0 20 0 mf (xs 1) k (xs 3) (h1a) (h1b) (h2a) (h2b) (hk)) (cwV 3 hg (gI (List.forall_mem_append.mpr ⟨List.forall_mem_cons.mpr ⟨k_1184, List.forall_mem_cons.mpr ⟨k_1185, List.forall_mem_cons.mpr ⟨k_1186, List.forall_mem_cons.mpr ⟨k_13, fun _ h => absurd h List.not_mem_nil⟩⟩⟩⟩, List.forall_mem_cons.mpr ⟨k_1187, fun _ h => h⟩⟩)) rfl rfl rfl (by decide +kernel) ⟨Nat.le_of_ble_eq_true rfl, Nat.le_of_ble_eq_true rfl⟩) ⟨fun a U g mk q => by obtain ⟨q0, q1, qP, qK, qD⟩ := q; exact ⟨q0, q1, qP, va_K.moved (u := U) (U := U.calling g mk a) (Vm.Alike.refl U.vm) qK, qD⟩, va_recv (q0 := 0) (ci := 12) hK hP rfl rfl, fun U hU hW => ⟨rfl, by rw [hU], by rw [hU]; exact hPc, va_K.moved hW.alike hK, hDc.weaken (fun _ _ _ _ => trivial)⟩⟩ rfl rfl hl.1 rfl (lv_room (Nat.le_of_ble_eq_true rfl)) d_Lw_law_471 ⟨Nat.le_of_ble_eq_true rfl, Nat.le_of_ble_eq_true rfl⟩) hS (fun q _ h => hFc q h) hFc (fun rv9 u t H1 locs ht hvm hw hB hz1 hk1 hS => ?_)
  try dsimp only at hw hB
  obtain ⟨hP1, hK1, hD1⟩ := hB
  rw [ht] at hP1
  obtain ⟨rfl, hw⟩ := hw
  obtain ⟨hP, hD⟩ := va_join (wr := [(ou, .inl ((cT 1), 1, .inr (.inl (vp_updL fo (0 : Int32).toNatClampNeg ((nI (22 + k)).toInt64)))))]) (w1 := [(mo, .inr (12, mdF mq mZ mQ 0 0 (nI (22 + k)) (nI 0)))]) hP hD [0, 1] [2] rfl rfl (by decide) (by decide) hk1 hFc hP1 hD1
  have hw68 := hw
  clear hPc hDc hFc hz1 hk1 hP1 hK1 hD1
  generalize H1 = H at hP hS ⊢
  have hP : va_P (dC, dI) vcl [(ou, .inl ((cT 1), 1, .inr (.inl (vp_updL fo (0 : Int32).toNatClampNeg ((nI (22 + k)).toInt64))))), (mo, .inr (12, mdF mq mZ mQ 0 0 (nI (22 + k)) (nI 0)))] H := hP
  have hD : va_D A [(ou, .inl ((cT 1), 1, .inr (.inl (vp_updL fo (0 : Int32).toNatClampNeg ((nI (22 + k)).toInt64))))), (mo, .inr (12, mdF mq mZ mQ 0 0 (nI (22 + k)) (nI 0)))] := hD
  refine lv_istore (lv' := [(6, .int (nI (22 + k))), (5, .int 0), (0, .ref b), (1, .ref ds), (2, .ref mo), (3, .ref ou), (4, .int 0)]) hx hb d_Lw_law_474 hl (by decide) rfl (fun ls hl => ?_)
  refine lv_aload_n hx hb d_Lw_law_476 rfl (lv_at hl 4 rfl) ?_
  have hPc := hP.sub (ws' := [(mo, .inr (12, mdF mq mZ mQ 0 0 (nI (22 + k)) (nI 0)))]) [1] rfl
  have hDc := hD.sub (ws' := [(mo, .inr (12, mdF mq mZ mQ 0 0 (nI (22 + k)) (nI 0)))]) [1] (by decide) rfl
  have hFc := va_free (wc := [(mo, .inr (12, mdF mq mZ mQ 0 0 (nI (22 + k)) (nI 0)))]) hD hS hA [1] rfl
  refine va_calli (va_runV (C := "DoorServerModel") (As := []) (rest := []) ⟨hx, hb, hml, hown, hg⟩ (m_thrown l dC dI cT H.size mo mq mZ mQ 0 0 (22 + k) 0 ) (cwV 0 hg (gI (List.forall_mem_append.mpr ⟨List.forall_mem_cons.mpr ⟨k_1157, List.forall_mem_cons.mpr ⟨k_1158, List.forall_mem_cons.mpr ⟨k_1159, List.forall_mem_cons.mpr ⟨k_13, fun _ h => absurd h List.not_mem_nil⟩⟩⟩⟩, List.forall_mem_cons.mpr ⟨k_1160, fun _ h => h⟩⟩)) rfl rfl rfl (by decide +kernel) ⟨Nat.le_of_ble_eq_true rfl, Nat.le_of_ble_eq_true rfl⟩) ⟨fun a U g mk q => by obtain ⟨q0, q1, qP, qK, qD⟩ := q; exact ⟨q0, q1, qP, va_K.moved (u := U) (U := U.calling g mk a) (Vm.Alike.refl U.vm) qK, qD⟩, va_recv (q0 := 1) (ci := 12) hK hP rfl rfl, fun U hU hW => ⟨rfl, by rw [hU], by rw [hU]; exact hPc, va_K.moved hW.alike hK, hDc.weaken (fun _ _ _ _ => trivial)⟩⟩ rfl rfl hl.1 rfl (lv_room (Nat.le_of_ble_eq_true rfl)) d_Lw_law_477 ⟨Nat.le_of_ble_eq_true rfl, Nat.le_of_ble_eq_true rfl⟩) hS (fun q _ h => hFc q h) hFc (fun rv9 u t H1 locs ht hvm hw hB hz1 hk1 hS => ?_)
  try dsimp only at hw hB
  obtain ⟨hP1, hK1, hD1⟩ := hB
  rw [ht] at hP1
  obtain ⟨rfl, hw⟩ := hw
  obtain ⟨hP, hD⟩ := va_join (wr := [(ou, .inl ((cT 1), 1, .inr (.inl (vp_updL fo (0 : Int32).toNatClampNeg ((nI (22 + k)).toInt64)))))]) (w1 := []) hP hD [1] [0] rfl rfl (by decide) (by decide) hk1 hFc hP1 hD1
  have hw69 := hw
  clear hPc hDc hFc hz1 hk1 hP1 hK1 hD1
  generalize H1 = H at hP hS ⊢
  have hP : va_P (dC, dI) vcl [(ou, .inl ((cT 1), 1, .inr (.inl (vp_updL fo (0 : Int32).toNatClampNeg ((nI (22 + k)).toInt64)))))] H := hP
  have hD : va_D A [(ou, .inl ((cT 1), 1, .inr (.inl (vp_updL fo (0 : Int32).toNatClampNeg ((nI (22 + k)).toInt64)))))] := hD
  refine lv_iload hx hb d_Lw_law_480 (lv_at hl 1 rfl) ?_
  refine lv_icmp_eq (tgt := 487) hx hb d_Lw_law_482 (by decide) (fun hc70 => ?_) (fun hn9 => absurd (rfl) hn9)
  refine lv_iload hx hb d_Lw_law_487 (lv_at hl 1 rfl) ?_
  refine lv_if_ne (tgt := 504) hx hb d_Lw_law_489 (by decide) (fun hn9 => absurd hn9 (fun h => h rfl)) (fun hc71 => ?_)
  refine lv_aload_n hx hb d_Lw_law_492 rfl (lv_at hl 5 rfl) ?_
  refine lv_iconst (v := 0) hx hb d_Lw_law_493 (by decide) ?_
  refine va_lald hx hb hK hP 0 1 rfl rfl (i := 0) (vp_in_nI (n := 0) (N := 1) (by decide) (by decide)) d_Lw_law_494 ?_
  refine lv_topl (fun x73 e72 => ?_)
  obtain rfl : x73 = ((nI (22 + k)).toInt64) := by rw [e72]; exact updL_eq
  refine lv_iload hx hb d_Lw_law_495 (lv_at hl 0 rfl) ?_
  refine lv_i2l (v := (nI (22 + k)).toInt64) hx hb d_Lw_law_497 rfl ?_
  refine W.lcmp hx hb d_Lw_law_498 ?_
  refine lv_if_eq (tgt := 504) hx hb d_Lw_law_499 (by decide) (fun hc74 => ?_) (fun hn9 => absurd (cmp_e (rfl)) hn9)
  refine lv_goto (tgt := 1363) hx hb d_Lw_law_504 (by decide) ?_
  refine W.widen (k := 900) (n := 33000) (Nat.le_of_ble_eq_true rfl) (Nat.le_of_ble_eq_true rfl) ?_
  have hl9 : lv_has ls 8 [(0, .ref b), (4, .int 0)] := lv_sub hl [2, 6] rfl
  exact kk _ _ _ hS hl9
set_option maxHeartbeats 4000000 in
set_option maxRecDepth 100000 in
theorem lw_case4 {p : Program} {l : Launch} {e : Env} {s : State} {m : MethodId} {args : Array Value} {below : List Frame} {meth : Method} {c : Code} {Q : State → Prop} {A : Nat → Prop} {b : Nat} {xs : Nat → Int32} {H : Heap} {locs : List Loc} {ls : Array Slot} (dC : Nat → ClassId) (dI : Nat → Nat → Nat) (cT : Nat → ClassId) (ds : Nat) (dr : Nat) (sv : Nat) (rr : Nat) (se : Nat) (pw : Nat) (g0 : Nat) (ty : Nat) (an : Nat) (aw : Nat) (ts : Nat) (ss : Nat) (rq : Nat) (sh : Nat) (sr : Nat) (uh : Nat) (ur : Nat) (tx : Nat) (tr : Nat) (wo : Nat) (di : Nat) (ar : Nat) (a1 : Nat) (t1 : Nat) (s1 : Nat) (sa : Nat) (mo : Nat) (ou : Nat) (st us : Nat) (gs gp : Nat → Option Nat) (df sf mc mz mf mZ : Nat → Int32) (mS mQ fo : Nat → Int64) (mq : Nat → Nat) (hx : p.tables.exec = Jvm.exec) (hb : c.code = b_Lw_law) (hml : c.maxLocals = 8) (hown : s.vm.findClass "DoorServerLaw" = some m.cls) (hg : ∀ w ∈ BIG, w.before args s = true) (hX : va_X b 5 xs s s.heap) (hbl : b < s.heap.size) (hbA : ¬ A b) (hA : ∀ q : Nat, s.heap.size ≤ q → A q) (hK : va_K (dC, dI) vcl (tyL cT) s) (hfl : l.flags = pinnedFlags ++ [noTraceFlag]) (hXm : xm A s s.heap) (hXz : xz_T A s s.heap) (hst : st < 4) (hus : us < 32) (hgs : gs st = some sh) (hgp : gp us = some uh) (hst1 : ¬ xs 1 < 0 → ¬ 3 < xs 1 → xs 1 = nI st) (hus1 : ¬ xs 1 < 0 → ¬ 31 < xs 1 → xs 1 = nI us) (hdf : df 0 = 1 ∧ df 1 = 0 ∧ df 2 = 0 ∧ df 3 = 20 ∧ ∀ q9, q9 < 8 → df (4 + q9) = bn_at 0 q9 ∧ df (12 + q9) = bn_at 0 q9 ^^^ 90) (hmf : mf 0 = 1 ∧ mf 1 = 0 ∧ mf 2 = 0 ∧ mf 3 = 20 ∧ ∀ k9, k9 < 16 → mf (4 + k9) = mb_at 0 k9) (hmz : ∀ q9, q9 < 4 → mz q9 = 1) (hz : mZ 14 = 0 ∧ mZ 17 = 0 ∧ mZ 24 = 0 ∧ mZ 33 = 0 ∧ mZ 43 = 0 ∧ mZ 44 = 0) (kk : ∀ (H : Heap) (locs : List Loc) (ls : Array Slot), va_S A s.heap H locs → lv_has ls 8 [(0, .ref b), (4, .int 0)] → W p l e room_1 s m args below meth c H locs 900 33000 Q (F0 m 1363 ls [])) (hP : va_P (dC, dI) vcl [(ds, .inr (0, [.ref dr, .ref sv])), (dr, .inr (2, [.ref rr, .int (nI 20)])), (rr, .inl ((cT 0), 1000, .inl df)), (sv, .inr (5, [.ref se, .ref pw, .ref g0, .ref ty, .ref an, .ref aw, .ref ts, .ref ss, .ref rq, .int 0, .int 0, .int 0])), (se, .inl ((cT 2), 4, .inr (.inr (.inr (.inr gs))))), (sh, .inr (1, [.ref sr, .int (nI 1)])), (sr, .inl ((cT 0), 40, .inl sf)), (pw, .inl ((cT 2), 32, .inr (.inr (.inr (.inr gp))))), (uh, .inr (1, [.ref ur, .int 0])), (ur, .inl ((cT 0), 60, .inl (fun _ => 0))), (g0, .inr (3, [.ref tx, .ref wo, .ref di, .int 0, .int 0, .int 0, .int 0])), (tx, .inr (1, [.ref tr, .int (nI 0)])), (tr, .inl ((cT 0), 1192, .inl (fun _ => 0))), (wo, .inl ((cT 0), 16, .inl (fun _ => 0))), (di, .inl ((cT 0), 16, .inl (fun _ => 0))), (an, .inr (2, [.ref ar, .int 0])), (ar, .inl ((cT 0), 72, .inl (fun _ => 0))), (aw, .inr (6, [.ref a1, .int 0, .int 0])), (ts, .inr (9, [.ref t1, .long 0, .long 1, .int 0])), (ss, .inr (11, [.ref s1, .int 0])), (rq, .inr (4, [.ref dr, .ref sa])), (sa, .inl ((cT 0), 256, .inl (fun _ => 0))), (mo, .inr (12, mdF mq mZ mQ 0 0 (nI 20) (nI 0))), (mq 0, .inl ((cT 1), 64, .inr (.inl mS))), (mq 3, .inl ((cT 0), 160, .inl mc)), (mq 4, .inl ((cT 0), 4, .inl mz)), (mq 5, .inl ((cT 0), 1920, .inl (fun _ => 0))), (mq 6, .inl ((cT 0), 32, .inl (fun _ => 0))), (mq 7, .inl ((cT 0), 1000, .inl mf)), (mq 9, .inl ((cT 0), 1400, .inl (fun _ => 0))), (mq 11, .inl ((cT 0), 16, .inl (fun _ => 0))), (mq 12, .inl ((cT 0), 1200, .inl (fun _ => 0))), (ou, .inl ((cT 1), 1, .inr (.inl fo)))] H) (hD : va_D A [(ds, .inr (0, [.ref dr, .ref sv])), (dr, .inr (2, [.ref rr, .int (nI 20)])), (rr, .inl ((cT 0), 1000, .inl df)), (sv, .inr (5, [.ref se, .ref pw, .ref g0, .ref ty, .ref an, .ref aw, .ref ts, .ref ss, .ref rq, .int 0, .int 0, .int 0])), (se, .inl ((cT 2), 4, .inr (.inr (.inr (.inr gs))))), (sh, .inr (1, [.ref sr, .int (nI 1)])), (sr, .inl ((cT 0), 40, .inl sf)), (pw, .inl ((cT 2), 32, .inr (.inr (.inr (.inr gp))))), (uh, .inr (1, [.ref ur, .int 0])), (ur, .inl ((cT 0), 60, .inl (fun _ => 0))), (g0, .inr (3, [.ref tx, .ref wo, .ref di, .int 0, .int 0, .int 0, .int 0])), (tx, .inr (1, [.ref tr, .int (nI 0)])), (tr, .inl ((cT 0), 1192, .inl (fun _ => 0))), (wo, .inl ((cT 0), 16, .inl (fun _ => 0))), (di, .inl ((cT 0), 16, .inl (fun _ => 0))), (an, .inr (2, [.ref ar, .int 0])), (ar, .inl ((cT 0), 72, .inl (fun _ => 0))), (aw, .inr (6, [.ref a1, .int 0, .int 0])), (ts, .inr (9, [.ref t1, .long 0, .long 1, .int 0])), (ss, .inr (11, [.ref s1, .int 0])), (rq, .inr (4, [.ref dr, .ref sa])), (sa, .inl ((cT 0), 256, .inl (fun _ => 0))), (mo, .inr (12, mdF mq mZ mQ 0 0 (nI 20) (nI 0))), (mq 0, .inl ((cT 1), 64, .inr (.inl mS))), (mq 3, .inl ((cT 0), 160, .inl mc)), (mq 4, .inl ((cT 0), 4, .inl mz)), (mq 5, .inl ((cT 0), 1920, .inl (fun _ => 0))), (mq 6, .inl ((cT 0), 32, .inl (fun _ => 0))), (mq 7, .inl ((cT 0), 1000, .inl mf)), (mq 9, .inl ((cT 0), 1400, .inl (fun _ => 0))), (mq 11, .inl ((cT 0), 16, .inl (fun _ => 0))), (mq 12, .inl ((cT 0), 1200, .inl (fun _ => 0))), (ou, .inl ((cT 1), 1, .inr (.inl fo)))]) (hS : va_S A s.heap H locs) (hl : lv_has ls 8 [(0, .ref b), (1, .ref ds), (2, .ref mo), (3, .ref ou), (4, .int 0)]) : W p l e room_1 s m args below meth c H locs 800 32000 Q (F0 m 507 ls []) := by
  by_cases h1 : xs 1 < 0 ∨ 255 < xs 1
  · skip
    have hP := hP.sub (ws' := [(ds, .inr (0, [.ref dr, .ref sv])), (mo, .inr (12, mdF mq mZ mQ 0 0 (nI 20) (nI 0)))]) [0, 22] rfl
    have hD := hD.sub (ws' := [(ds, .inr (0, [.ref dr, .ref sv])), (mo, .inr (12, mdF mq mZ mQ 0 0 (nI 20) (nI 0)))]) [0, 22] (by decide) rfl
    refine lv_aload_n hx hb d_Lw_law_507 rfl (lv_at hl 1 rfl) ?_
    refine lv_aload_n hx hb d_Lw_law_508 rfl (lv_at hl 0 rfl) ?_
    refine lv_iload hx hb d_Lw_law_509 (lv_at hl 4 rfl) ?_
    refine lv_iconst (v := 1) hx hb d_Lw_law_511 (by decide) ?_
    refine lv_iadd hx hb d_Lw_law_512 ?_
    refine va_sld hx hb hX hbl hbA hS (i := (0 + 1)) (vin (by decide)) d_Lw_law_513 ?_
    refine lv_topi (fun x76 e75 => ?_)
    obtain rfl : x76 = xs 1 := by rw [e75]; exact congrArg xs (by decide)
    refine lv_aload_n hx hb d_Lw_law_514 rfl (lv_at hl 0 rfl) ?_
    refine lv_iload hx hb d_Lw_law_515 (lv_at hl 4 rfl) ?_
    refine lv_iconst (v := 2) hx hb d_Lw_law_517 (by decide) ?_
    refine lv_iadd hx hb d_Lw_law_518 ?_
    refine va_sld hx hb hX hbl hbA hS (i := (0 + 2)) (vin (by decide)) d_Lw_law_519 ?_
    refine lv_topi (fun x78 e77 => ?_)
    obtain rfl : x78 = xs 2 := by rw [e77]; exact congrArg xs (by decide)
    refine lv_aload_n hx hb d_Lw_law_520 rfl (lv_at hl 3 rfl) ?_
    have hPc := hP.sub (ws' := [(ds, .inr (0, [.ref dr, .ref sv]))]) [0] rfl
    have hDc := hD.sub (ws' := [(ds, .inr (0, [.ref dr, .ref sv]))]) [0] (by decide) rfl
    have hFc := va_free (wc := [(ds, .inr (0, [.ref dr, .ref sv]))]) hD hS hA [0] rfl
    refine va_calli (xw_runS (As := [.ref ds, .int (xs 1), .int (xs 2), .ref ou]) (rest := []) ⟨hx, hb, hml, hown, hg⟩ (t_number l dC dI cT H.size ds (xs 1) (xs 2) dr sv ou (hfl) (h1)) rfl (gI (List.forall_mem_cons.mpr ⟨k_534, fun _ h => h⟩)) (hg _ k_532) (hg _ k_533) (hg _ k_0) rfl rfl (n := 4) (by decide +kernel) ⟨Nat.le_of_ble_eq_true rfl, Nat.le_of_ble_eq_true rfl⟩ ⟨fun a U g mk q => by obtain ⟨q0, q1, qP, qK, qD, qE⟩ := q; exact ⟨q0, q1, qP, va_K.moved (u := U) (U := U.calling g mk a) (Vm.Alike.refl U.vm) qK, qD, qE.at (State.WarmedH.refl _) (fun _ _ _ => rfl) (fun _ h => h)⟩, fun U hU hW => ⟨rfl, by rw [hU], by rw [hU]; exact hPc, va_K.moved hW.alike hK, hDc.weaken (fun _ _ _ _ => trivial), by rw [hU]; exact hXz.at hW hS.2.1 (fun _ h => h.elim)⟩⟩ rfl rfl hl.1 rfl (lv_room (Nat.le_of_ble_eq_true rfl)) d_Lw_law_521 ⟨Nat.le_of_ble_eq_true rfl, Nat.le_of_ble_eq_true rfl⟩) hS (fun q _ h => hFc q h) hFc (fun rv9 u t H1 locs ht hvm hw hB hz1 hk1 hS => ?_)
    try dsimp only at hw hB
    obtain ⟨hP1, hK1, hD1⟩ := hB
    rw [ht] at hP1
    obtain ⟨rfl, hw⟩ := hw
    obtain ⟨hP, hD⟩ := va_join (wr := [(mo, .inr (12, mdF mq mZ mQ 0 0 (nI 20) (nI 0)))]) (w1 := []) hP hD [0] [1] rfl rfl (by decide) (by decide) hk1 hFc hP1 hD1
    have hw79 := hw
    clear hPc hDc hFc hz1 hk1 hP1 hK1 hD1
    generalize H1 = H at hP hS ⊢
    have hP : va_P (dC, dI) vcl [(mo, .inr (12, mdF mq mZ mQ 0 0 (nI 20) (nI 0)))] H := hP
    have hD : va_D A [(mo, .inr (12, mdF mq mZ mQ 0 0 (nI 20) (nI 0)))] := hD
    refine lv_istore (lv' := [(5, .int 1), (0, .ref b), (1, .ref ds), (2, .ref mo), (3, .ref ou), (4, .int 0)]) hx hb d_Lw_law_524 hl (by decide) rfl (fun ls hl => ?_)
    refine lv_aload_n hx hb d_Lw_law_526 rfl (lv_at hl 3 rfl) ?_
    refine lv_aload_n hx hb d_Lw_law_527 rfl (lv_at hl 1 rfl) ?_
    refine lv_iload hx hb d_Lw_law_528 (lv_at hl 5 rfl) ?_
    refine lv_iconst (v := 1) hx hb d_Lw_law_530 (by decide) ?_
    refine lv_iadd hx hb d_Lw_law_531 ?_
    refine va_sld hx hb hX hbl hbA hS (i := (0 + 1)) (vin (by decide)) d_Lw_law_532 ?_
    refine lv_topi (fun x81 e80 => ?_)
    obtain rfl : x81 = xs 1 := by rw [e80]; exact congrArg xs (by decide)
    refine lv_aload_n hx hb d_Lw_law_533 rfl (lv_at hl 1 rfl) ?_
    refine lv_iload hx hb d_Lw_law_534 (lv_at hl 5 rfl) ?_
    refine lv_iconst (v := 2) hx hb d_Lw_law_536 (by decide) ?_
    refine lv_iadd hx hb d_Lw_law_537 ?_
    refine va_sld hx hb hX hbl hbA hS (i := (0 + 2)) (vin (by decide)) d_Lw_law_538 ?_
    refine lv_topi (fun x83 e82 => ?_)
    obtain rfl : x83 = xs 2 := by rw [e82]; exact congrArg xs (by decide)
    have hPc := hP.sub (ws' := [(mo, .inr (12, mdF mq mZ mQ 0 0 (nI 20) (nI 0)))]) [0] rfl
    have hDc := hD.sub (ws' := [(mo, .inr (12, mdF mq mZ mQ 0 0 (nI 20) (nI 0)))]) [0] (by decide) rfl
    have hFc := va_free (wc := [(mo, .inr (12, mdF mq mZ mQ 0 0 (nI 20) (nI 0)))]) hD hS hA [0] rfl
    refine va_calli (va_runV (C := "DoorServerModel") (As := [.int (xs 1), .int (xs 2)]) (rest := []) ⟨hx, hb, hml, hown, hg⟩ (b_number l dC dI cT H.size mo mq mZ mQ 0 0 20 0 (xs 1) (xs 2) (h1)) (cwV 2 hg (gI (List.forall_mem_append.mpr ⟨List.forall_mem_cons.mpr ⟨k_1200, List.forall_mem_cons.mpr ⟨k_1201, List.forall_mem_cons.mpr ⟨k_1202, List.forall_mem_cons.mpr ⟨k_13, fun _ h => absurd h List.not_mem_nil⟩⟩⟩⟩, List.forall_mem_cons.mpr ⟨k_1203, fun _ h => h⟩⟩)) rfl rfl rfl (by decide +kernel) ⟨Nat.le_of_ble_eq_true rfl, Nat.le_of_ble_eq_true rfl⟩) ⟨fun a U g mk q => by obtain ⟨q0, q1, qP, qK, qD⟩ := q; exact ⟨q0, q1, qP, va_K.moved (u := U) (U := U.calling g mk a) (Vm.Alike.refl U.vm) qK, qD⟩, va_recv (q0 := 0) (ci := 12) hK hP rfl rfl, fun U hU hW => ⟨rfl, by rw [hU], by rw [hU]; exact hPc, va_K.moved hW.alike hK, hDc.weaken (fun _ _ _ _ => trivial)⟩⟩ rfl rfl hl.1 rfl (lv_room (Nat.le_of_ble_eq_true rfl)) d_Lw_law_539 ⟨Nat.le_of_ble_eq_true rfl, Nat.le_of_ble_eq_true rfl⟩) hS (fun q _ h => hFc q h) hFc (fun rv9 u t H1 locs ht hvm hw hB hz1 hk1 hS => ?_)
    try dsimp only at hw hB
    obtain ⟨hP1, hK1, hD1⟩ := hB
    rw [ht] at hP1
    generalize rv9 = r84 at hw ⊢
    obtain ⟨hP, hD⟩ := va_join (wr := []) (w1 := [(mo, .inr (12, mdF mq mZ mQ 1 0 (nI 20) (nI 0)))]) hP hD [0] [] rfl rfl (by decide) (by decide) hk1 hFc hP1 hD1
    have hw85 := hw
    clear hPc hDc hFc hz1 hk1 hP1 hK1 hD1
    generalize H1 = H at hP hS ⊢
    have hP : va_P (dC, dI) vcl [(mo, .inr (12, mdF mq mZ mQ 1 0 (nI 20) (nI 0)))] H := hP
    have hD : va_D A [(mo, .inr (12, mdF mq mZ mQ 1 0 (nI 20) (nI 0)))] := hD
    refine lv_istore (lv' := [(6, .int r84), (5, .int 1), (0, .ref b), (1, .ref ds), (2, .ref mo), (3, .ref ou), (4, .int 0)]) hx hb d_Lw_law_542 hl (by decide) rfl (fun ls hl => ?_)
    refine lv_aload_n hx hb d_Lw_law_544 rfl (lv_at hl 4 rfl) ?_
    have hPc := hP.sub (ws' := [(mo, .inr (12, mdF mq mZ mQ 1 0 (nI 20) (nI 0)))]) [0] rfl
    have hDc := hD.sub (ws' := [(mo, .inr (12, mdF mq mZ mQ 1 0 (nI 20) (nI 0)))]) [0] (by decide) rfl
    have hFc := va_free (wc := [(mo, .inr (12, mdF mq mZ mQ 1 0 (nI 20) (nI 0)))]) hD hS hA [0] rfl
    refine va_calli (va_runV (C := "DoorServerModel") (As := []) (rest := []) ⟨hx, hb, hml, hown, hg⟩ (m_thrown l dC dI cT H.size mo mq mZ mQ 1 0 20 0 ) (cwV 0 hg (gI (List.forall_mem_append.mpr ⟨List.forall_mem_cons.mpr ⟨k_1157, List.forall_mem_cons.mpr ⟨k_1158, List.forall_mem_cons.mpr ⟨k_1159, List.forall_mem_cons.mpr ⟨k_13, fun _ h => absurd h List.not_mem_nil⟩⟩⟩⟩, List.forall_mem_cons.mpr ⟨k_1160, fun _ h => h⟩⟩)) rfl rfl rfl (by decide +kernel) ⟨Nat.le_of_ble_eq_true rfl, Nat.le_of_ble_eq_true rfl⟩) ⟨fun a U g mk q => by obtain ⟨q0, q1, qP, qK, qD⟩ := q; exact ⟨q0, q1, qP, va_K.moved (u := U) (U := U.calling g mk a) (Vm.Alike.refl U.vm) qK, qD⟩, va_recv (q0 := 0) (ci := 12) hK hP rfl rfl, fun U hU hW => ⟨rfl, by rw [hU], by rw [hU]; exact hPc, va_K.moved hW.alike hK, hDc.weaken (fun _ _ _ _ => trivial)⟩⟩ rfl rfl hl.1 rfl (lv_room (Nat.le_of_ble_eq_true rfl)) d_Lw_law_545 ⟨Nat.le_of_ble_eq_true rfl, Nat.le_of_ble_eq_true rfl⟩) hS (fun q _ h => hFc q h) hFc (fun rv9 u t H1 locs ht hvm hw hB hz1 hk1 hS => ?_)
    try dsimp only at hw hB
    obtain ⟨hP1, hK1, hD1⟩ := hB
    rw [ht] at hP1
    obtain ⟨rfl, hw⟩ := hw
    obtain ⟨hP, hD⟩ := va_join (wr := []) (w1 := []) hP hD [0] [] rfl rfl (by decide) (by decide) hk1 hFc hP1 hD1
    have hw86 := hw
    clear hPc hDc hFc hz1 hk1 hP1 hK1 hD1
    generalize H1 = H at hP hS ⊢
    have hP : va_P (dC, dI) vcl [] H := hP
    have hD : va_D A [] := hD
    refine lv_iload hx hb d_Lw_law_548 (lv_at hl 1 rfl) ?_
    refine lv_icmp_eq (tgt := 555) hx hb d_Lw_law_550 (by decide) (fun hc87 => ?_) (fun hn9 => absurd (rfl) hn9)
    refine lv_iload hx hb d_Lw_law_555 (lv_at hl 1 rfl) ?_
    refine lv_if_ne (tgt := 572) hx hb d_Lw_law_557 (by decide) (fun hc88 => ?_) (fun hn9 => absurd hn9 (by decide))
    refine lv_goto (tgt := 1363) hx hb d_Lw_law_572 (by decide) ?_
    refine W.widen (k := 900) (n := 33000) (Nat.le_of_ble_eq_true rfl) (Nat.le_of_ble_eq_true rfl) ?_
    have hl9 : lv_has ls 8 [(0, .ref b), (4, .int 0)] := lv_sub hl [2, 6] rfl
    exact kk _ _ _ hS hl9
  have h1a : ¬ xs 1 < 0 := fun h9 => h1 (Or.inl h9)
  have h1b : ¬ 255 < xs 1 := fun h9 => h1 (Or.inr h9)
  have hP := hP.sub (ws' := [(ds, .inr (0, [.ref dr, .ref sv])), (dr, .inr (2, [.ref rr, .int (nI 20)])), (rr, .inl ((cT 0), 1000, .inl df)), (mo, .inr (12, mdF mq mZ mQ 0 0 (nI 20) (nI 0))), (mq 7, .inl ((cT 0), 1000, .inl mf)), (ou, .inl ((cT 1), 1, .inr (.inl fo)))]) [0, 1, 2, 22, 28, 32] rfl
  have hD := hD.sub (ws' := [(ds, .inr (0, [.ref dr, .ref sv])), (dr, .inr (2, [.ref rr, .int (nI 20)])), (rr, .inl ((cT 0), 1000, .inl df)), (mo, .inr (12, mdF mq mZ mQ 0 0 (nI 20) (nI 0))), (mq 7, .inl ((cT 0), 1000, .inl mf)), (ou, .inl ((cT 1), 1, .inr (.inl fo)))]) [0, 1, 2, 22, 28, 32] (by decide) rfl
  refine lv_aload_n hx hb d_Lw_law_507 rfl (lv_at hl 1 rfl) ?_
  refine lv_aload_n hx hb d_Lw_law_508 rfl (lv_at hl 0 rfl) ?_
  refine lv_iload hx hb d_Lw_law_509 (lv_at hl 4 rfl) ?_
  refine lv_iconst (v := 1) hx hb d_Lw_law_511 (by decide) ?_
  refine lv_iadd hx hb d_Lw_law_512 ?_
  refine va_sld hx hb hX hbl hbA hS (i := (0 + 1)) (vin (by decide)) d_Lw_law_513 ?_
  refine lv_topi (fun x90 e89 => ?_)
  obtain rfl : x90 = xs 1 := by rw [e89]; exact congrArg xs (by decide)
  refine lv_aload_n hx hb d_Lw_law_514 rfl (lv_at hl 0 rfl) ?_
  refine lv_iload hx hb d_Lw_law_515 (lv_at hl 4 rfl) ?_
  refine lv_iconst (v := 2) hx hb d_Lw_law_517 (by decide) ?_
  refine lv_iadd hx hb d_Lw_law_518 ?_
  refine va_sld hx hb hX hbl hbA hS (i := (0 + 2)) (vin (by decide)) d_Lw_law_519 ?_
  refine lv_topi (fun x92 e91 => ?_)
  obtain rfl : x92 = xs 2 := by rw [e91]; exact congrArg xs (by decide)
  refine lv_aload_n hx hb d_Lw_law_520 rfl (lv_at hl 3 rfl) ?_
  have hPc := hP.sub (ws' := [(ds, .inr (0, [.ref dr, .ref sv])), (dr, .inr (2, [.ref rr, .int (nI 20)])), (rr, .inl ((cT 0), 1000, .inl df)), (ou, .inl ((cT 1), 1, .inr (.inl fo)))]) [0, 1, 2, 5] rfl
  have hDc := hD.sub (ws' := [(ds, .inr (0, [.ref dr, .ref sv])), (dr, .inr (2, [.ref rr, .int (nI 20)])), (rr, .inl ((cT 0), 1000, .inl df)), (ou, .inl ((cT 1), 1, .inr (.inl fo)))]) [0, 1, 2, 5] (by decide) rfl
  have hFc := va_free (wc := [(ds, .inr (0, [.ref dr, .ref sv])), (dr, .inr (2, [.ref rr, .int (nI 20)])), (rr, .inl ((cT 0), 1000, .inl df)), (ou, .inl ((cT 1), 1, .inr (.inl fo)))]) hD hS hA [0, 1, 2, 5] rfl
  refine va_calli (xw_runS (As := [.ref ds, .int (xs 1), .int (xs 2), .ref ou]) (rest := []) ⟨hx, hb, hml, hown, hg⟩ (l_number l dC dI cT H.size ds dr sv rr df (xs 1) (xs 2) ou fo (h1a) (h1b)) rfl (gI (List.forall_mem_cons.mpr ⟨k_534, fun _ h => h⟩)) (hg _ k_532) (hg _ k_533) (hg _ k_0) rfl rfl (n := 4) (by decide +kernel) ⟨Nat.le_of_ble_eq_true rfl, Nat.le_of_ble_eq_true rfl⟩ ⟨fun a U g mk q => by obtain ⟨q0, q1, qP, qK, qD⟩ := q; exact ⟨q0, q1, qP, va_K.moved (u := U) (U := U.calling g mk a) (Vm.Alike.refl U.vm) qK, qD⟩, fun U hU hW => ⟨rfl, by rw [hU], by rw [hU]; exact hPc, va_K.moved hW.alike hK, hDc.weaken (fun _ _ _ _ => trivial)⟩⟩ rfl rfl hl.1 rfl (lv_room (Nat.le_of_ble_eq_true rfl)) d_Lw_law_521 ⟨Nat.le_of_ble_eq_true rfl, Nat.le_of_ble_eq_true rfl⟩) hS (fun q _ h => hFc q h) hFc (fun rv9 u t H1 locs ht hvm hw hB hz1 hk1 hS => ?_)
  try dsimp only at hw hB
  obtain ⟨hP1, hK1, hD1⟩ := hB
  rw [ht] at hP1
  obtain ⟨rfl, hw⟩ := hw
  obtain ⟨hP, hD⟩ := va_join (wr := [(mo, .inr (12, mdF mq mZ mQ 0 0 (nI 20) (nI 0))), (mq 7, .inl ((cT 0), 1000, .inl mf))]) (w1 := [(ou, .inl ((cT 1), 1, .inr (.inl (vp_updL fo (0 : Int32).toNatClampNeg ((26 : Int32).toInt64)))))]) hP hD [0, 1, 2, 5] [3, 4] rfl rfl (by decide) (by decide) hk1 hFc hP1 hD1
  have hw93 := hw
  clear hPc hDc hFc hz1 hk1 hP1 hK1 hD1
  generalize H1 = H at hP hS ⊢
  have hP : va_P (dC, dI) vcl [(mo, .inr (12, mdF mq mZ mQ 0 0 (nI 20) (nI 0))), (mq 7, .inl ((cT 0), 1000, .inl mf)), (ou, .inl ((cT 1), 1, .inr (.inl (vp_updL fo (0 : Int32).toNatClampNeg ((26 : Int32).toInt64)))))] H := hP
  have hD : va_D A [(mo, .inr (12, mdF mq mZ mQ 0 0 (nI 20) (nI 0))), (mq 7, .inl ((cT 0), 1000, .inl mf)), (ou, .inl ((cT 1), 1, .inr (.inl (vp_updL fo (0 : Int32).toNatClampNeg ((26 : Int32).toInt64)))))] := hD
  refine lv_istore (lv' := [(5, .int 0), (0, .ref b), (1, .ref ds), (2, .ref mo), (3, .ref ou), (4, .int 0)]) hx hb d_Lw_law_524 hl (by decide) rfl (fun ls hl => ?_)
  refine lv_aload_n hx hb d_Lw_law_526 rfl (lv_at hl 3 rfl) ?_
  refine lv_aload_n hx hb d_Lw_law_527 rfl (lv_at hl 1 rfl) ?_
  refine lv_iload hx hb d_Lw_law_528 (lv_at hl 5 rfl) ?_
  refine lv_iconst (v := 1) hx hb d_Lw_law_530 (by decide) ?_
  refine lv_iadd hx hb d_Lw_law_531 ?_
  refine va_sld hx hb hX hbl hbA hS (i := (0 + 1)) (vin (by decide)) d_Lw_law_532 ?_
  refine lv_topi (fun x95 e94 => ?_)
  obtain rfl : x95 = xs 1 := by rw [e94]; exact congrArg xs (by decide)
  refine lv_aload_n hx hb d_Lw_law_533 rfl (lv_at hl 1 rfl) ?_
  refine lv_iload hx hb d_Lw_law_534 (lv_at hl 5 rfl) ?_
  refine lv_iconst (v := 2) hx hb d_Lw_law_536 (by decide) ?_
  refine lv_iadd hx hb d_Lw_law_537 ?_
  refine va_sld hx hb hX hbl hbA hS (i := (0 + 2)) (vin (by decide)) d_Lw_law_538 ?_
  refine lv_topi (fun x97 e96 => ?_)
  obtain rfl : x97 = xs 2 := by rw [e96]; exact congrArg xs (by decide)
  have hPc := hP.sub (ws' := [(mo, .inr (12, mdF mq mZ mQ 0 0 (nI 20) (nI 0))), (mq 7, .inl ((cT 0), 1000, .inl mf))]) [0, 1] rfl
  have hDc := hD.sub (ws' := [(mo, .inr (12, mdF mq mZ mQ 0 0 (nI 20) (nI 0))), (mq 7, .inl ((cT 0), 1000, .inl mf))]) [0, 1] (by decide) rfl
  have hFc := va_free (wc := [(mo, .inr (12, mdF mq mZ mQ 0 0 (nI 20) (nI 0))), (mq 7, .inl ((cT 0), 1000, .inl mf))]) hD hS hA [0, 1] rfl
  refine va_calli (va_runV (C := "DoorServerModel") (As := [.int (xs 1), .int (xs 2)]) (rest := []) ⟨hx, hb, hml, hown, hg⟩ (o_number l dC dI cT H.size mo mq mZ mQ 0 0 20 0 mf (xs 1) (xs 2) (h1a) (h1b)) (cwV 2 hg (gI (List.forall_mem_append.mpr ⟨List.forall_mem_cons.mpr ⟨k_1200, List.forall_mem_cons.mpr ⟨k_1201, List.forall_mem_cons.mpr ⟨k_1202, List.forall_mem_cons.mpr ⟨k_13, fun _ h => absurd h List.not_mem_nil⟩⟩⟩⟩, List.forall_mem_cons.mpr ⟨k_1203, fun _ h => h⟩⟩)) rfl rfl rfl (by decide +kernel) ⟨Nat.le_of_ble_eq_true rfl, Nat.le_of_ble_eq_true rfl⟩) ⟨fun a U g mk q => by obtain ⟨q0, q1, qP, qK, qD⟩ := q; exact ⟨q0, q1, qP, va_K.moved (u := U) (U := U.calling g mk a) (Vm.Alike.refl U.vm) qK, qD⟩, va_recv (q0 := 0) (ci := 12) hK hP rfl rfl, fun U hU hW => ⟨rfl, by rw [hU], by rw [hU]; exact hPc, va_K.moved hW.alike hK, hDc.weaken (fun _ _ _ _ => trivial)⟩⟩ rfl rfl hl.1 rfl (lv_room (Nat.le_of_ble_eq_true rfl)) d_Lw_law_539 ⟨Nat.le_of_ble_eq_true rfl, Nat.le_of_ble_eq_true rfl⟩) hS (fun q _ h => hFc q h) hFc (fun rv9 u t H1 locs ht hvm hw hB hz1 hk1 hS => ?_)
  try dsimp only at hw hB
  obtain ⟨hP1, hK1, hD1⟩ := hB
  rw [ht] at hP1
  obtain ⟨rfl, hw⟩ := hw
  obtain ⟨hP, hD⟩ := va_join (wr := [(ou, .inl ((cT 1), 1, .inr (.inl (vp_updL fo (0 : Int32).toNatClampNeg ((26 : Int32).toInt64)))))]) (w1 := [(mo, .inr (12, mdF mq mZ mQ 0 0 (nI 26) (nI 0)))]) hP hD [0, 1] [2] rfl rfl (by decide) (by decide) hk1 hFc hP1 hD1
  have hw98 := hw
  clear hPc hDc hFc hz1 hk1 hP1 hK1 hD1
  generalize H1 = H at hP hS ⊢
  have hP : va_P (dC, dI) vcl [(ou, .inl ((cT 1), 1, .inr (.inl (vp_updL fo (0 : Int32).toNatClampNeg ((26 : Int32).toInt64))))), (mo, .inr (12, mdF mq mZ mQ 0 0 (nI 26) (nI 0)))] H := hP
  have hD : va_D A [(ou, .inl ((cT 1), 1, .inr (.inl (vp_updL fo (0 : Int32).toNatClampNeg ((26 : Int32).toInt64))))), (mo, .inr (12, mdF mq mZ mQ 0 0 (nI 26) (nI 0)))] := hD
  refine lv_istore (lv' := [(6, .int 26), (5, .int 0), (0, .ref b), (1, .ref ds), (2, .ref mo), (3, .ref ou), (4, .int 0)]) hx hb d_Lw_law_542 hl (by decide) rfl (fun ls hl => ?_)
  refine lv_aload_n hx hb d_Lw_law_544 rfl (lv_at hl 4 rfl) ?_
  have hPc := hP.sub (ws' := [(mo, .inr (12, mdF mq mZ mQ 0 0 (nI 26) (nI 0)))]) [1] rfl
  have hDc := hD.sub (ws' := [(mo, .inr (12, mdF mq mZ mQ 0 0 (nI 26) (nI 0)))]) [1] (by decide) rfl
  have hFc := va_free (wc := [(mo, .inr (12, mdF mq mZ mQ 0 0 (nI 26) (nI 0)))]) hD hS hA [1] rfl
  refine va_calli (va_runV (C := "DoorServerModel") (As := []) (rest := []) ⟨hx, hb, hml, hown, hg⟩ (m_thrown l dC dI cT H.size mo mq mZ mQ 0 0 26 0 ) (cwV 0 hg (gI (List.forall_mem_append.mpr ⟨List.forall_mem_cons.mpr ⟨k_1157, List.forall_mem_cons.mpr ⟨k_1158, List.forall_mem_cons.mpr ⟨k_1159, List.forall_mem_cons.mpr ⟨k_13, fun _ h => absurd h List.not_mem_nil⟩⟩⟩⟩, List.forall_mem_cons.mpr ⟨k_1160, fun _ h => h⟩⟩)) rfl rfl rfl (by decide +kernel) ⟨Nat.le_of_ble_eq_true rfl, Nat.le_of_ble_eq_true rfl⟩) ⟨fun a U g mk q => by obtain ⟨q0, q1, qP, qK, qD⟩ := q; exact ⟨q0, q1, qP, va_K.moved (u := U) (U := U.calling g mk a) (Vm.Alike.refl U.vm) qK, qD⟩, va_recv (q0 := 1) (ci := 12) hK hP rfl rfl, fun U hU hW => ⟨rfl, by rw [hU], by rw [hU]; exact hPc, va_K.moved hW.alike hK, hDc.weaken (fun _ _ _ _ => trivial)⟩⟩ rfl rfl hl.1 rfl (lv_room (Nat.le_of_ble_eq_true rfl)) d_Lw_law_545 ⟨Nat.le_of_ble_eq_true rfl, Nat.le_of_ble_eq_true rfl⟩) hS (fun q _ h => hFc q h) hFc (fun rv9 u t H1 locs ht hvm hw hB hz1 hk1 hS => ?_)
  try dsimp only at hw hB
  obtain ⟨hP1, hK1, hD1⟩ := hB
  rw [ht] at hP1
  obtain ⟨rfl, hw⟩ := hw
  obtain ⟨hP, hD⟩ := va_join (wr := [(ou, .inl ((cT 1), 1, .inr (.inl (vp_updL fo (0 : Int32).toNatClampNeg ((26 : Int32).toInt64)))))]) (w1 := []) hP hD [1] [0] rfl rfl (by decide) (by decide) hk1 hFc hP1 hD1
  have hw99 := hw
  clear hPc hDc hFc hz1 hk1 hP1 hK1 hD1
  generalize H1 = H at hP hS ⊢
  have hP : va_P (dC, dI) vcl [(ou, .inl ((cT 1), 1, .inr (.inl (vp_updL fo (0 : Int32).toNatClampNeg ((26 : Int32).toInt64)))))] H := hP
  have hD : va_D A [(ou, .inl ((cT 1), 1, .inr (.inl (vp_updL fo (0 : Int32).toNatClampNeg ((26 : Int32).toInt64)))))] := hD
  refine lv_iload hx hb d_Lw_law_548 (lv_at hl 1 rfl) ?_
  refine lv_icmp_eq (tgt := 555) hx hb d_Lw_law_550 (by decide) (fun hc100 => ?_) (fun hn9 => absurd (rfl) hn9)
  refine lv_iload hx hb d_Lw_law_555 (lv_at hl 1 rfl) ?_
  refine lv_if_ne (tgt := 572) hx hb d_Lw_law_557 (by decide) (fun hn9 => absurd hn9 (fun h => h rfl)) (fun hc101 => ?_)
  refine lv_aload_n hx hb d_Lw_law_560 rfl (lv_at hl 5 rfl) ?_
  refine lv_iconst (v := 0) hx hb d_Lw_law_561 (by decide) ?_
  refine va_lald hx hb hK hP 0 1 rfl rfl (i := 0) (vp_in_nI (n := 0) (N := 1) (by decide) (by decide)) d_Lw_law_562 ?_
  refine lv_topl (fun x103 e102 => ?_)
  obtain rfl : x103 = ((26 : Int32).toInt64) := by rw [e102]; exact updL_eq
  refine lv_iload hx hb d_Lw_law_563 (lv_at hl 0 rfl) ?_
  refine lv_i2l (v := (26 : Int32).toInt64) hx hb d_Lw_law_565 rfl ?_
  refine W.lcmp hx hb d_Lw_law_566 ?_
  refine lv_if_eq (tgt := 572) hx hb d_Lw_law_567 (by decide) (fun hc104 => ?_) (fun hn9 => absurd (cmp_e (rfl)) hn9)
  refine lv_goto (tgt := 1363) hx hb d_Lw_law_572 (by decide) ?_
  refine W.widen (k := 900) (n := 33000) (Nat.le_of_ble_eq_true rfl) (Nat.le_of_ble_eq_true rfl) ?_
  have hl9 : lv_has ls 8 [(0, .ref b), (4, .int 0)] := lv_sub hl [2, 6] rfl
  exact kk _ _ _ hS hl9
set_option maxHeartbeats 4000000 in
set_option maxRecDepth 100000 in
theorem lw_case5 {p : Program} {l : Launch} {e : Env} {s : State} {m : MethodId} {args : Array Value} {below : List Frame} {meth : Method} {c : Code} {Q : State → Prop} {A : Nat → Prop} {b : Nat} {xs : Nat → Int32} {H : Heap} {locs : List Loc} {ls : Array Slot} (dC : Nat → ClassId) (dI : Nat → Nat → Nat) (cT : Nat → ClassId) (ds : Nat) (dr : Nat) (sv : Nat) (rr : Nat) (se : Nat) (pw : Nat) (g0 : Nat) (ty : Nat) (an : Nat) (aw : Nat) (ts : Nat) (ss : Nat) (rq : Nat) (sh : Nat) (sr : Nat) (uh : Nat) (ur : Nat) (tx : Nat) (tr : Nat) (wo : Nat) (di : Nat) (ar : Nat) (a1 : Nat) (t1 : Nat) (s1 : Nat) (sa : Nat) (mo : Nat) (ou : Nat) (st us : Nat) (gs gp : Nat → Option Nat) (df sf mc mz mf mZ : Nat → Int32) (mS mQ fo : Nat → Int64) (mq : Nat → Nat) (hx : p.tables.exec = Jvm.exec) (hb : c.code = b_Lw_law) (hml : c.maxLocals = 8) (hown : s.vm.findClass "DoorServerLaw" = some m.cls) (hg : ∀ w ∈ BIG, w.before args s = true) (hX : va_X b 5 xs s s.heap) (hbl : b < s.heap.size) (hbA : ¬ A b) (hA : ∀ q : Nat, s.heap.size ≤ q → A q) (hK : va_K (dC, dI) vcl (tyL cT) s) (hfl : l.flags = pinnedFlags ++ [noTraceFlag]) (hXm : xm A s s.heap) (hXz : xz_T A s s.heap) (hst : st < 4) (hus : us < 32) (hgs : gs st = some sh) (hgp : gp us = some uh) (hst1 : ¬ xs 1 < 0 → ¬ 3 < xs 1 → xs 1 = nI st) (hus1 : ¬ xs 1 < 0 → ¬ 31 < xs 1 → xs 1 = nI us) (hdf : df 0 = 1 ∧ df 1 = 0 ∧ df 2 = 0 ∧ df 3 = 20 ∧ ∀ q9, q9 < 8 → df (4 + q9) = bn_at 0 q9 ∧ df (12 + q9) = bn_at 0 q9 ^^^ 90) (hmf : mf 0 = 1 ∧ mf 1 = 0 ∧ mf 2 = 0 ∧ mf 3 = 20 ∧ ∀ k9, k9 < 16 → mf (4 + k9) = mb_at 0 k9) (hmz : ∀ q9, q9 < 4 → mz q9 = 1) (hz : mZ 14 = 0 ∧ mZ 17 = 0 ∧ mZ 24 = 0 ∧ mZ 33 = 0 ∧ mZ 43 = 0 ∧ mZ 44 = 0) (kk : ∀ (H : Heap) (locs : List Loc) (ls : Array Slot), va_S A s.heap H locs → lv_has ls 8 [(0, .ref b), (4, .int 0)] → W p l e room_1 s m args below meth c H locs 900 33000 Q (F0 m 1363 ls [])) (hP : va_P (dC, dI) vcl [(ds, .inr (0, [.ref dr, .ref sv])), (dr, .inr (2, [.ref rr, .int (nI 20)])), (rr, .inl ((cT 0), 1000, .inl df)), (sv, .inr (5, [.ref se, .ref pw, .ref g0, .ref ty, .ref an, .ref aw, .ref ts, .ref ss, .ref rq, .int 0, .int 0, .int 0])), (se, .inl ((cT 2), 4, .inr (.inr (.inr (.inr gs))))), (sh, .inr (1, [.ref sr, .int (nI 1)])), (sr, .inl ((cT 0), 40, .inl sf)), (pw, .inl ((cT 2), 32, .inr (.inr (.inr (.inr gp))))), (uh, .inr (1, [.ref ur, .int 0])), (ur, .inl ((cT 0), 60, .inl (fun _ => 0))), (g0, .inr (3, [.ref tx, .ref wo, .ref di, .int 0, .int 0, .int 0, .int 0])), (tx, .inr (1, [.ref tr, .int (nI 0)])), (tr, .inl ((cT 0), 1192, .inl (fun _ => 0))), (wo, .inl ((cT 0), 16, .inl (fun _ => 0))), (di, .inl ((cT 0), 16, .inl (fun _ => 0))), (an, .inr (2, [.ref ar, .int 0])), (ar, .inl ((cT 0), 72, .inl (fun _ => 0))), (aw, .inr (6, [.ref a1, .int 0, .int 0])), (ts, .inr (9, [.ref t1, .long 0, .long 1, .int 0])), (ss, .inr (11, [.ref s1, .int 0])), (rq, .inr (4, [.ref dr, .ref sa])), (sa, .inl ((cT 0), 256, .inl (fun _ => 0))), (mo, .inr (12, mdF mq mZ mQ 0 0 (nI 20) (nI 0))), (mq 0, .inl ((cT 1), 64, .inr (.inl mS))), (mq 3, .inl ((cT 0), 160, .inl mc)), (mq 4, .inl ((cT 0), 4, .inl mz)), (mq 5, .inl ((cT 0), 1920, .inl (fun _ => 0))), (mq 6, .inl ((cT 0), 32, .inl (fun _ => 0))), (mq 7, .inl ((cT 0), 1000, .inl mf)), (mq 9, .inl ((cT 0), 1400, .inl (fun _ => 0))), (mq 11, .inl ((cT 0), 16, .inl (fun _ => 0))), (mq 12, .inl ((cT 0), 1200, .inl (fun _ => 0))), (ou, .inl ((cT 1), 1, .inr (.inl fo)))] H) (hD : va_D A [(ds, .inr (0, [.ref dr, .ref sv])), (dr, .inr (2, [.ref rr, .int (nI 20)])), (rr, .inl ((cT 0), 1000, .inl df)), (sv, .inr (5, [.ref se, .ref pw, .ref g0, .ref ty, .ref an, .ref aw, .ref ts, .ref ss, .ref rq, .int 0, .int 0, .int 0])), (se, .inl ((cT 2), 4, .inr (.inr (.inr (.inr gs))))), (sh, .inr (1, [.ref sr, .int (nI 1)])), (sr, .inl ((cT 0), 40, .inl sf)), (pw, .inl ((cT 2), 32, .inr (.inr (.inr (.inr gp))))), (uh, .inr (1, [.ref ur, .int 0])), (ur, .inl ((cT 0), 60, .inl (fun _ => 0))), (g0, .inr (3, [.ref tx, .ref wo, .ref di, .int 0, .int 0, .int 0, .int 0])), (tx, .inr (1, [.ref tr, .int (nI 0)])), (tr, .inl ((cT 0), 1192, .inl (fun _ => 0))), (wo, .inl ((cT 0), 16, .inl (fun _ => 0))), (di, .inl ((cT 0), 16, .inl (fun _ => 0))), (an, .inr (2, [.ref ar, .int 0])), (ar, .inl ((cT 0), 72, .inl (fun _ => 0))), (aw, .inr (6, [.ref a1, .int 0, .int 0])), (ts, .inr (9, [.ref t1, .long 0, .long 1, .int 0])), (ss, .inr (11, [.ref s1, .int 0])), (rq, .inr (4, [.ref dr, .ref sa])), (sa, .inl ((cT 0), 256, .inl (fun _ => 0))), (mo, .inr (12, mdF mq mZ mQ 0 0 (nI 20) (nI 0))), (mq 0, .inl ((cT 1), 64, .inr (.inl mS))), (mq 3, .inl ((cT 0), 160, .inl mc)), (mq 4, .inl ((cT 0), 4, .inl mz)), (mq 5, .inl ((cT 0), 1920, .inl (fun _ => 0))), (mq 6, .inl ((cT 0), 32, .inl (fun _ => 0))), (mq 7, .inl ((cT 0), 1000, .inl mf)), (mq 9, .inl ((cT 0), 1400, .inl (fun _ => 0))), (mq 11, .inl ((cT 0), 16, .inl (fun _ => 0))), (mq 12, .inl ((cT 0), 1200, .inl (fun _ => 0))), (ou, .inl ((cT 1), 1, .inr (.inl fo)))]) (hS : va_S A s.heap H locs) (hl : lv_has ls 8 [(0, .ref b), (1, .ref ds), (2, .ref mo), (3, .ref ou), (4, .int 0)]) : W p l e room_1 s m args below meth c H locs 800 32000 Q (F0 m 575 ls []) := by
  by_cases h1 : xs 1 < 0 ∨ 31 < xs 1
  · skip
    have hP := hP.sub (ws' := [(ds, .inr (0, [.ref dr, .ref sv])), (mo, .inr (12, mdF mq mZ mQ 0 0 (nI 20) (nI 0)))]) [0, 22] rfl
    have hD := hD.sub (ws' := [(ds, .inr (0, [.ref dr, .ref sv])), (mo, .inr (12, mdF mq mZ mQ 0 0 (nI 20) (nI 0)))]) [0, 22] (by decide) rfl
    refine lv_aload_n hx hb d_Lw_law_575 rfl (lv_at hl 1 rfl) ?_
    refine lv_aload_n hx hb d_Lw_law_576 rfl (lv_at hl 0 rfl) ?_
    refine lv_iload hx hb d_Lw_law_577 (lv_at hl 4 rfl) ?_
    refine lv_iconst (v := 1) hx hb d_Lw_law_579 (by decide) ?_
    refine lv_iadd hx hb d_Lw_law_580 ?_
    refine va_sld hx hb hX hbl hbA hS (i := (0 + 1)) (vin (by decide)) d_Lw_law_581 ?_
    refine lv_topi (fun x106 e105 => ?_)
    obtain rfl : x106 = xs 1 := by rw [e105]; exact congrArg xs (by decide)
    refine lv_aload_n hx hb d_Lw_law_582 rfl (lv_at hl 3 rfl) ?_
    have hPc := hP.sub (ws' := [(ds, .inr (0, [.ref dr, .ref sv]))]) [0] rfl
    have hDc := hD.sub (ws' := [(ds, .inr (0, [.ref dr, .ref sv]))]) [0] (by decide) rfl
    have hFc := va_free (wc := [(ds, .inr (0, [.ref dr, .ref sv]))]) hD hS hA [0] rfl
    refine va_calli (xw_runS (As := [.ref ds, .int (xs 1), .ref ou]) (rest := []) ⟨hx, hb, hml, hown, hg⟩ (t_name l dC dI cT H.size ds (xs 1) dr sv ou (hfl) (h1)) rfl (gI (List.forall_mem_cons.mpr ⟨k_542, fun _ h => h⟩)) (hg _ k_540) (hg _ k_541) (hg _ k_0) rfl rfl (n := 3) (by decide +kernel) ⟨Nat.le_of_ble_eq_true rfl, Nat.le_of_ble_eq_true rfl⟩ ⟨fun a U g mk q => by obtain ⟨q0, q1, qP, qK, qD, qE⟩ := q; exact ⟨q0, q1, qP, va_K.moved (u := U) (U := U.calling g mk a) (Vm.Alike.refl U.vm) qK, qD, qE.at (State.WarmedH.refl _) (fun _ _ _ => rfl) (fun _ h => h)⟩, fun U hU hW => ⟨rfl, by rw [hU], by rw [hU]; exact hPc, va_K.moved hW.alike hK, hDc.weaken (fun _ _ _ _ => trivial), by rw [hU]; exact hXz.at hW hS.2.1 (fun _ h => h.elim)⟩⟩ rfl rfl hl.1 rfl (lv_room (Nat.le_of_ble_eq_true rfl)) d_Lw_law_583 ⟨Nat.le_of_ble_eq_true rfl, Nat.le_of_ble_eq_true rfl⟩) hS (fun q _ h => hFc q h) hFc (fun rv9 u t H1 locs ht hvm hw hB hz1 hk1 hS => ?_)
    try dsimp only at hw hB
    obtain ⟨hP1, hK1, hD1⟩ := hB
    rw [ht] at hP1
    obtain ⟨rfl, hw⟩ := hw
    obtain ⟨hP, hD⟩ := va_join (wr := [(mo, .inr (12, mdF mq mZ mQ 0 0 (nI 20) (nI 0)))]) (w1 := []) hP hD [0] [1] rfl rfl (by decide) (by decide) hk1 hFc hP1 hD1
    have hw107 := hw
    clear hPc hDc hFc hz1 hk1 hP1 hK1 hD1
    generalize H1 = H at hP hS ⊢
    have hP : va_P (dC, dI) vcl [(mo, .inr (12, mdF mq mZ mQ 0 0 (nI 20) (nI 0)))] H := hP
    have hD : va_D A [(mo, .inr (12, mdF mq mZ mQ 0 0 (nI 20) (nI 0)))] := hD
    refine lv_istore (lv' := [(5, .int 1), (0, .ref b), (1, .ref ds), (2, .ref mo), (3, .ref ou), (4, .int 0)]) hx hb d_Lw_law_586 hl (by decide) rfl (fun ls hl => ?_)
    refine lv_aload_n hx hb d_Lw_law_588 rfl (lv_at hl 3 rfl) ?_
    refine lv_aload_n hx hb d_Lw_law_589 rfl (lv_at hl 1 rfl) ?_
    refine lv_iload hx hb d_Lw_law_590 (lv_at hl 5 rfl) ?_
    refine lv_iconst (v := 1) hx hb d_Lw_law_592 (by decide) ?_
    refine lv_iadd hx hb d_Lw_law_593 ?_
    refine va_sld hx hb hX hbl hbA hS (i := (0 + 1)) (vin (by decide)) d_Lw_law_594 ?_
    refine lv_topi (fun x109 e108 => ?_)
    obtain rfl : x109 = xs 1 := by rw [e108]; exact congrArg xs (by decide)
    have hPc := hP.sub (ws' := [(mo, .inr (12, mdF mq mZ mQ 0 0 (nI 20) (nI 0)))]) [0] rfl
    have hDc := hD.sub (ws' := [(mo, .inr (12, mdF mq mZ mQ 0 0 (nI 20) (nI 0)))]) [0] (by decide) rfl
    have hFc := va_free (wc := [(mo, .inr (12, mdF mq mZ mQ 0 0 (nI 20) (nI 0)))]) hD hS hA [0] rfl
    refine va_calli (va_runV (C := "DoorServerModel") (As := [.int (xs 1)]) (rest := []) ⟨hx, hb, hml, hown, hg⟩ (b_name l dC dI cT H.size mo mq mZ mQ 0 0 20 0 (xs 1) (h1)) (cwV 1 hg (gI (List.forall_mem_append.mpr ⟨List.forall_mem_cons.mpr ⟨k_1204, List.forall_mem_cons.mpr ⟨k_1205, List.forall_mem_cons.mpr ⟨k_1206, List.forall_mem_cons.mpr ⟨k_13, fun _ h => absurd h List.not_mem_nil⟩⟩⟩⟩, List.forall_mem_cons.mpr ⟨k_1207, fun _ h => h⟩⟩)) rfl rfl rfl (by decide +kernel) ⟨Nat.le_of_ble_eq_true rfl, Nat.le_of_ble_eq_true rfl⟩) ⟨fun a U g mk q => by obtain ⟨q0, q1, qP, qK, qD⟩ := q; exact ⟨q0, q1, qP, va_K.moved (u := U) (U := U.calling g mk a) (Vm.Alike.refl U.vm) qK, qD⟩, va_recv (q0 := 0) (ci := 12) hK hP rfl rfl, fun U hU hW => ⟨rfl, by rw [hU], by rw [hU]; exact hPc, va_K.moved hW.alike hK, hDc.weaken (fun _ _ _ _ => trivial)⟩⟩ rfl rfl hl.1 rfl (lv_room (Nat.le_of_ble_eq_true rfl)) d_Lw_law_595 ⟨Nat.le_of_ble_eq_true rfl, Nat.le_of_ble_eq_true rfl⟩) hS (fun q _ h => hFc q h) hFc (fun rv9 u t H1 locs ht hvm hw hB hz1 hk1 hS => ?_)
    try dsimp only at hw hB
    obtain ⟨hP1, hK1, hD1⟩ := hB
    rw [ht] at hP1
    generalize rv9 = r110 at hw ⊢
    obtain ⟨hP, hD⟩ := va_join (wr := []) (w1 := [(mo, .inr (12, mdF mq mZ mQ 1 0 (nI 20) (nI 0)))]) hP hD [0] [] rfl rfl (by decide) (by decide) hk1 hFc hP1 hD1
    have hw111 := hw
    clear hPc hDc hFc hz1 hk1 hP1 hK1 hD1
    generalize H1 = H at hP hS ⊢
    have hP : va_P (dC, dI) vcl [(mo, .inr (12, mdF mq mZ mQ 1 0 (nI 20) (nI 0)))] H := hP
    have hD : va_D A [(mo, .inr (12, mdF mq mZ mQ 1 0 (nI 20) (nI 0)))] := hD
    refine lv_istore (lv' := [(6, .int r110), (5, .int 1), (0, .ref b), (1, .ref ds), (2, .ref mo), (3, .ref ou), (4, .int 0)]) hx hb d_Lw_law_598 hl (by decide) rfl (fun ls hl => ?_)
    refine lv_aload_n hx hb d_Lw_law_600 rfl (lv_at hl 4 rfl) ?_
    have hPc := hP.sub (ws' := [(mo, .inr (12, mdF mq mZ mQ 1 0 (nI 20) (nI 0)))]) [0] rfl
    have hDc := hD.sub (ws' := [(mo, .inr (12, mdF mq mZ mQ 1 0 (nI 20) (nI 0)))]) [0] (by decide) rfl
    have hFc := va_free (wc := [(mo, .inr (12, mdF mq mZ mQ 1 0 (nI 20) (nI 0)))]) hD hS hA [0] rfl
    refine va_calli (va_runV (C := "DoorServerModel") (As := []) (rest := []) ⟨hx, hb, hml, hown, hg⟩ (m_thrown l dC dI cT H.size mo mq mZ mQ 1 0 20 0 ) (cwV 0 hg (gI (List.forall_mem_append.mpr ⟨List.forall_mem_cons.mpr ⟨k_1157, List.forall_mem_cons.mpr ⟨k_1158, List.forall_mem_cons.mpr ⟨k_1159, List.forall_mem_cons.mpr ⟨k_13, fun _ h => absurd h List.not_mem_nil⟩⟩⟩⟩, List.forall_mem_cons.mpr ⟨k_1160, fun _ h => h⟩⟩)) rfl rfl rfl (by decide +kernel) ⟨Nat.le_of_ble_eq_true rfl, Nat.le_of_ble_eq_true rfl⟩) ⟨fun a U g mk q => by obtain ⟨q0, q1, qP, qK, qD⟩ := q; exact ⟨q0, q1, qP, va_K.moved (u := U) (U := U.calling g mk a) (Vm.Alike.refl U.vm) qK, qD⟩, va_recv (q0 := 0) (ci := 12) hK hP rfl rfl, fun U hU hW => ⟨rfl, by rw [hU], by rw [hU]; exact hPc, va_K.moved hW.alike hK, hDc.weaken (fun _ _ _ _ => trivial)⟩⟩ rfl rfl hl.1 rfl (lv_room (Nat.le_of_ble_eq_true rfl)) d_Lw_law_601 ⟨Nat.le_of_ble_eq_true rfl, Nat.le_of_ble_eq_true rfl⟩) hS (fun q _ h => hFc q h) hFc (fun rv9 u t H1 locs ht hvm hw hB hz1 hk1 hS => ?_)
    try dsimp only at hw hB
    obtain ⟨hP1, hK1, hD1⟩ := hB
    rw [ht] at hP1
    obtain ⟨rfl, hw⟩ := hw
    obtain ⟨hP, hD⟩ := va_join (wr := []) (w1 := []) hP hD [0] [] rfl rfl (by decide) (by decide) hk1 hFc hP1 hD1
    have hw112 := hw
    clear hPc hDc hFc hz1 hk1 hP1 hK1 hD1
    generalize H1 = H at hP hS ⊢
    have hP : va_P (dC, dI) vcl [] H := hP
    have hD : va_D A [] := hD
    refine lv_iload hx hb d_Lw_law_604 (lv_at hl 1 rfl) ?_
    refine lv_icmp_eq (tgt := 611) hx hb d_Lw_law_606 (by decide) (fun hc113 => ?_) (fun hn9 => absurd (rfl) hn9)
    refine lv_iload hx hb d_Lw_law_611 (lv_at hl 1 rfl) ?_
    refine lv_if_ne (tgt := 628) hx hb d_Lw_law_613 (by decide) (fun hc114 => ?_) (fun hn9 => absurd hn9 (by decide))
    refine lv_goto (tgt := 1363) hx hb d_Lw_law_628 (by decide) ?_
    refine W.widen (k := 900) (n := 33000) (Nat.le_of_ble_eq_true rfl) (Nat.le_of_ble_eq_true rfl) ?_
    have hl9 : lv_has ls 8 [(0, .ref b), (4, .int 0)] := lv_sub hl [2, 6] rfl
    exact kk _ _ _ hS hl9
  have h1a : ¬ xs 1 < 0 := fun h9 => h1 (Or.inl h9)
  have h1b : ¬ 31 < xs 1 := fun h9 => h1 (Or.inr h9)
  have hP := hP.sub (ws' := [(ds, .inr (0, [.ref dr, .ref sv])), (dr, .inr (2, [.ref rr, .int (nI 20)])), (rr, .inl ((cT 0), 1000, .inl df)), (mo, .inr (12, mdF mq mZ mQ 0 0 (nI 20) (nI 0))), (mq 7, .inl ((cT 0), 1000, .inl mf)), (ou, .inl ((cT 1), 1, .inr (.inl fo)))]) [0, 1, 2, 22, 28, 32] rfl
  have hD := hD.sub (ws' := [(ds, .inr (0, [.ref dr, .ref sv])), (dr, .inr (2, [.ref rr, .int (nI 20)])), (rr, .inl ((cT 0), 1000, .inl df)), (mo, .inr (12, mdF mq mZ mQ 0 0 (nI 20) (nI 0))), (mq 7, .inl ((cT 0), 1000, .inl mf)), (ou, .inl ((cT 1), 1, .inr (.inl fo)))]) [0, 1, 2, 22, 28, 32] (by decide) rfl
  refine lv_aload_n hx hb d_Lw_law_575 rfl (lv_at hl 1 rfl) ?_
  refine lv_aload_n hx hb d_Lw_law_576 rfl (lv_at hl 0 rfl) ?_
  refine lv_iload hx hb d_Lw_law_577 (lv_at hl 4 rfl) ?_
  refine lv_iconst (v := 1) hx hb d_Lw_law_579 (by decide) ?_
  refine lv_iadd hx hb d_Lw_law_580 ?_
  refine va_sld hx hb hX hbl hbA hS (i := (0 + 1)) (vin (by decide)) d_Lw_law_581 ?_
  refine lv_topi (fun x116 e115 => ?_)
  obtain rfl : x116 = xs 1 := by rw [e115]; exact congrArg xs (by decide)
  refine lv_aload_n hx hb d_Lw_law_582 rfl (lv_at hl 3 rfl) ?_
  have hPc := hP.sub (ws' := [(ds, .inr (0, [.ref dr, .ref sv])), (dr, .inr (2, [.ref rr, .int (nI 20)])), (rr, .inl ((cT 0), 1000, .inl df)), (ou, .inl ((cT 1), 1, .inr (.inl fo)))]) [0, 1, 2, 5] rfl
  have hDc := hD.sub (ws' := [(ds, .inr (0, [.ref dr, .ref sv])), (dr, .inr (2, [.ref rr, .int (nI 20)])), (rr, .inl ((cT 0), 1000, .inl df)), (ou, .inl ((cT 1), 1, .inr (.inl fo)))]) [0, 1, 2, 5] (by decide) rfl
  have hFc := va_free (wc := [(ds, .inr (0, [.ref dr, .ref sv])), (dr, .inr (2, [.ref rr, .int (nI 20)])), (rr, .inl ((cT 0), 1000, .inl df)), (ou, .inl ((cT 1), 1, .inr (.inl fo)))]) hD hS hA [0, 1, 2, 5] rfl
  refine va_calli (xw_runS (As := [.ref ds, .int (xs 1), .ref ou]) (rest := []) ⟨hx, hb, hml, hown, hg⟩ (l_name l dC dI cT H.size ds dr sv rr df (xs 1) ou fo (h1a) (h1b)) rfl (gI (List.forall_mem_cons.mpr ⟨k_542, fun _ h => h⟩)) (hg _ k_540) (hg _ k_541) (hg _ k_0) rfl rfl (n := 3) (by decide +kernel) ⟨Nat.le_of_ble_eq_true rfl, Nat.le_of_ble_eq_true rfl⟩ ⟨fun a U g mk q => by obtain ⟨q0, q1, qP, qK, qD⟩ := q; exact ⟨q0, q1, qP, va_K.moved (u := U) (U := U.calling g mk a) (Vm.Alike.refl U.vm) qK, qD⟩, fun U hU hW => ⟨rfl, by rw [hU], by rw [hU]; exact hPc, va_K.moved hW.alike hK, hDc.weaken (fun _ _ _ _ => trivial)⟩⟩ rfl rfl hl.1 rfl (lv_room (Nat.le_of_ble_eq_true rfl)) d_Lw_law_583 ⟨Nat.le_of_ble_eq_true rfl, Nat.le_of_ble_eq_true rfl⟩) hS (fun q _ h => hFc q h) hFc (fun rv9 u t H1 locs ht hvm hw hB hz1 hk1 hS => ?_)
  try dsimp only at hw hB
  obtain ⟨hP1, hK1, hD1⟩ := hB
  rw [ht] at hP1
  obtain ⟨rfl, hw⟩ := hw
  obtain ⟨hP, hD⟩ := va_join (wr := [(mo, .inr (12, mdF mq mZ mQ 0 0 (nI 20) (nI 0))), (mq 7, .inl ((cT 0), 1000, .inl mf))]) (w1 := [(ou, .inl ((cT 1), 1, .inr (.inl (vp_updL fo (0 : Int32).toNatClampNeg ((25 : Int32).toInt64)))))]) hP hD [0, 1, 2, 5] [3, 4] rfl rfl (by decide) (by decide) hk1 hFc hP1 hD1
  have hw117 := hw
  clear hPc hDc hFc hz1 hk1 hP1 hK1 hD1
  generalize H1 = H at hP hS ⊢
  have hP : va_P (dC, dI) vcl [(mo, .inr (12, mdF mq mZ mQ 0 0 (nI 20) (nI 0))), (mq 7, .inl ((cT 0), 1000, .inl mf)), (ou, .inl ((cT 1), 1, .inr (.inl (vp_updL fo (0 : Int32).toNatClampNeg ((25 : Int32).toInt64)))))] H := hP
  have hD : va_D A [(mo, .inr (12, mdF mq mZ mQ 0 0 (nI 20) (nI 0))), (mq 7, .inl ((cT 0), 1000, .inl mf)), (ou, .inl ((cT 1), 1, .inr (.inl (vp_updL fo (0 : Int32).toNatClampNeg ((25 : Int32).toInt64)))))] := hD
  refine lv_istore (lv' := [(5, .int 0), (0, .ref b), (1, .ref ds), (2, .ref mo), (3, .ref ou), (4, .int 0)]) hx hb d_Lw_law_586 hl (by decide) rfl (fun ls hl => ?_)
  refine lv_aload_n hx hb d_Lw_law_588 rfl (lv_at hl 3 rfl) ?_
  refine lv_aload_n hx hb d_Lw_law_589 rfl (lv_at hl 1 rfl) ?_
  refine lv_iload hx hb d_Lw_law_590 (lv_at hl 5 rfl) ?_
  refine lv_iconst (v := 1) hx hb d_Lw_law_592 (by decide) ?_
  refine lv_iadd hx hb d_Lw_law_593 ?_
  refine va_sld hx hb hX hbl hbA hS (i := (0 + 1)) (vin (by decide)) d_Lw_law_594 ?_
  refine lv_topi (fun x119 e118 => ?_)
  obtain rfl : x119 = xs 1 := by rw [e118]; exact congrArg xs (by decide)
  have hPc := hP.sub (ws' := [(mo, .inr (12, mdF mq mZ mQ 0 0 (nI 20) (nI 0))), (mq 7, .inl ((cT 0), 1000, .inl mf))]) [0, 1] rfl
  have hDc := hD.sub (ws' := [(mo, .inr (12, mdF mq mZ mQ 0 0 (nI 20) (nI 0))), (mq 7, .inl ((cT 0), 1000, .inl mf))]) [0, 1] (by decide) rfl
  have hFc := va_free (wc := [(mo, .inr (12, mdF mq mZ mQ 0 0 (nI 20) (nI 0))), (mq 7, .inl ((cT 0), 1000, .inl mf))]) hD hS hA [0, 1] rfl
  refine va_calli (va_runV (C := "DoorServerModel") (As := [.int (xs 1)]) (rest := []) ⟨hx, hb, hml, hown, hg⟩ (o_name l dC dI cT H.size mo mq mZ mQ 0 0 20 0 mf (xs 1) (h1a) (h1b)) (cwV 1 hg (gI (List.forall_mem_append.mpr ⟨List.forall_mem_cons.mpr ⟨k_1204, List.forall_mem_cons.mpr ⟨k_1205, List.forall_mem_cons.mpr ⟨k_1206, List.forall_mem_cons.mpr ⟨k_13, fun _ h => absurd h List.not_mem_nil⟩⟩⟩⟩, List.forall_mem_cons.mpr ⟨k_1207, fun _ h => h⟩⟩)) rfl rfl rfl (by decide +kernel) ⟨Nat.le_of_ble_eq_true rfl, Nat.le_of_ble_eq_true rfl⟩) ⟨fun a U g mk q => by obtain ⟨q0, q1, qP, qK, qD⟩ := q; exact ⟨q0, q1, qP, va_K.moved (u := U) (U := U.calling g mk a) (Vm.Alike.refl U.vm) qK, qD⟩, va_recv (q0 := 0) (ci := 12) hK hP rfl rfl, fun U hU hW => ⟨rfl, by rw [hU], by rw [hU]; exact hPc, va_K.moved hW.alike hK, hDc.weaken (fun _ _ _ _ => trivial)⟩⟩ rfl rfl hl.1 rfl (lv_room (Nat.le_of_ble_eq_true rfl)) d_Lw_law_595 ⟨Nat.le_of_ble_eq_true rfl, Nat.le_of_ble_eq_true rfl⟩) hS (fun q _ h => hFc q h) hFc (fun rv9 u t H1 locs ht hvm hw hB hz1 hk1 hS => ?_)
  try dsimp only at hw hB
  obtain ⟨hP1, hK1, hD1⟩ := hB
  rw [ht] at hP1
  obtain ⟨rfl, hw⟩ := hw
  obtain ⟨hP, hD⟩ := va_join (wr := [(ou, .inl ((cT 1), 1, .inr (.inl (vp_updL fo (0 : Int32).toNatClampNeg ((25 : Int32).toInt64)))))]) (w1 := [(mo, .inr (12, mdF mq mZ mQ 0 0 (nI 25) (nI 0)))]) hP hD [0, 1] [2] rfl rfl (by decide) (by decide) hk1 hFc hP1 hD1
  have hw120 := hw
  clear hPc hDc hFc hz1 hk1 hP1 hK1 hD1
  generalize H1 = H at hP hS ⊢
  have hP : va_P (dC, dI) vcl [(ou, .inl ((cT 1), 1, .inr (.inl (vp_updL fo (0 : Int32).toNatClampNeg ((25 : Int32).toInt64))))), (mo, .inr (12, mdF mq mZ mQ 0 0 (nI 25) (nI 0)))] H := hP
  have hD : va_D A [(ou, .inl ((cT 1), 1, .inr (.inl (vp_updL fo (0 : Int32).toNatClampNeg ((25 : Int32).toInt64))))), (mo, .inr (12, mdF mq mZ mQ 0 0 (nI 25) (nI 0)))] := hD
  refine lv_istore (lv' := [(6, .int 25), (5, .int 0), (0, .ref b), (1, .ref ds), (2, .ref mo), (3, .ref ou), (4, .int 0)]) hx hb d_Lw_law_598 hl (by decide) rfl (fun ls hl => ?_)
  refine lv_aload_n hx hb d_Lw_law_600 rfl (lv_at hl 4 rfl) ?_
  have hPc := hP.sub (ws' := [(mo, .inr (12, mdF mq mZ mQ 0 0 (nI 25) (nI 0)))]) [1] rfl
  have hDc := hD.sub (ws' := [(mo, .inr (12, mdF mq mZ mQ 0 0 (nI 25) (nI 0)))]) [1] (by decide) rfl
  have hFc := va_free (wc := [(mo, .inr (12, mdF mq mZ mQ 0 0 (nI 25) (nI 0)))]) hD hS hA [1] rfl
  refine va_calli (va_runV (C := "DoorServerModel") (As := []) (rest := []) ⟨hx, hb, hml, hown, hg⟩ (m_thrown l dC dI cT H.size mo mq mZ mQ 0 0 25 0 ) (cwV 0 hg (gI (List.forall_mem_append.mpr ⟨List.forall_mem_cons.mpr ⟨k_1157, List.forall_mem_cons.mpr ⟨k_1158, List.forall_mem_cons.mpr ⟨k_1159, List.forall_mem_cons.mpr ⟨k_13, fun _ h => absurd h List.not_mem_nil⟩⟩⟩⟩, List.forall_mem_cons.mpr ⟨k_1160, fun _ h => h⟩⟩)) rfl rfl rfl (by decide +kernel) ⟨Nat.le_of_ble_eq_true rfl, Nat.le_of_ble_eq_true rfl⟩) ⟨fun a U g mk q => by obtain ⟨q0, q1, qP, qK, qD⟩ := q; exact ⟨q0, q1, qP, va_K.moved (u := U) (U := U.calling g mk a) (Vm.Alike.refl U.vm) qK, qD⟩, va_recv (q0 := 1) (ci := 12) hK hP rfl rfl, fun U hU hW => ⟨rfl, by rw [hU], by rw [hU]; exact hPc, va_K.moved hW.alike hK, hDc.weaken (fun _ _ _ _ => trivial)⟩⟩ rfl rfl hl.1 rfl (lv_room (Nat.le_of_ble_eq_true rfl)) d_Lw_law_601 ⟨Nat.le_of_ble_eq_true rfl, Nat.le_of_ble_eq_true rfl⟩) hS (fun q _ h => hFc q h) hFc (fun rv9 u t H1 locs ht hvm hw hB hz1 hk1 hS => ?_)
  try dsimp only at hw hB
  obtain ⟨hP1, hK1, hD1⟩ := hB
  rw [ht] at hP1
  obtain ⟨rfl, hw⟩ := hw
  obtain ⟨hP, hD⟩ := va_join (wr := [(ou, .inl ((cT 1), 1, .inr (.inl (vp_updL fo (0 : Int32).toNatClampNeg ((25 : Int32).toInt64)))))]) (w1 := []) hP hD [1] [0] rfl rfl (by decide) (by decide) hk1 hFc hP1 hD1
  have hw121 := hw
  clear hPc hDc hFc hz1 hk1 hP1 hK1 hD1
  generalize H1 = H at hP hS ⊢
  have hP : va_P (dC, dI) vcl [(ou, .inl ((cT 1), 1, .inr (.inl (vp_updL fo (0 : Int32).toNatClampNeg ((25 : Int32).toInt64)))))] H := hP
  have hD : va_D A [(ou, .inl ((cT 1), 1, .inr (.inl (vp_updL fo (0 : Int32).toNatClampNeg ((25 : Int32).toInt64)))))] := hD
  refine lv_iload hx hb d_Lw_law_604 (lv_at hl 1 rfl) ?_
  refine lv_icmp_eq (tgt := 611) hx hb d_Lw_law_606 (by decide) (fun hc122 => ?_) (fun hn9 => absurd (rfl) hn9)
  refine lv_iload hx hb d_Lw_law_611 (lv_at hl 1 rfl) ?_
  refine lv_if_ne (tgt := 628) hx hb d_Lw_law_613 (by decide) (fun hn9 => absurd hn9 (fun h => h rfl)) (fun hc123 => ?_)
  refine lv_aload_n hx hb d_Lw_law_616 rfl (lv_at hl 5 rfl) ?_
  refine lv_iconst (v := 0) hx hb d_Lw_law_617 (by decide) ?_
  refine va_lald hx hb hK hP 0 1 rfl rfl (i := 0) (vp_in_nI (n := 0) (N := 1) (by decide) (by decide)) d_Lw_law_618 ?_
  refine lv_topl (fun x125 e124 => ?_)
  obtain rfl : x125 = ((25 : Int32).toInt64) := by rw [e124]; exact updL_eq
  refine lv_iload hx hb d_Lw_law_619 (lv_at hl 0 rfl) ?_
  refine lv_i2l (v := (25 : Int32).toInt64) hx hb d_Lw_law_621 rfl ?_
  refine W.lcmp hx hb d_Lw_law_622 ?_
  refine lv_if_eq (tgt := 628) hx hb d_Lw_law_623 (by decide) (fun hc126 => ?_) (fun hn9 => absurd (cmp_e (rfl)) hn9)
  refine lv_goto (tgt := 1363) hx hb d_Lw_law_628 (by decide) ?_
  refine W.widen (k := 900) (n := 33000) (Nat.le_of_ble_eq_true rfl) (Nat.le_of_ble_eq_true rfl) ?_
  have hl9 : lv_has ls 8 [(0, .ref b), (4, .int 0)] := lv_sub hl [2, 6] rfl
  exact kk _ _ _ hS hl9
set_option maxHeartbeats 4000000 in
set_option maxRecDepth 100000 in
theorem lw_case7 {p : Program} {l : Launch} {e : Env} {s : State} {m : MethodId} {args : Array Value} {below : List Frame} {meth : Method} {c : Code} {Q : State → Prop} {A : Nat → Prop} {b : Nat} {xs : Nat → Int32} {H : Heap} {locs : List Loc} {ls : Array Slot} (dC : Nat → ClassId) (dI : Nat → Nat → Nat) (cT : Nat → ClassId) (ds : Nat) (dr : Nat) (sv : Nat) (rr : Nat) (se : Nat) (pw : Nat) (g0 : Nat) (ty : Nat) (an : Nat) (aw : Nat) (ts : Nat) (ss : Nat) (rq : Nat) (sh : Nat) (sr : Nat) (uh : Nat) (ur : Nat) (tx : Nat) (tr : Nat) (wo : Nat) (di : Nat) (ar : Nat) (a1 : Nat) (t1 : Nat) (s1 : Nat) (sa : Nat) (mo : Nat) (ou : Nat) (st us : Nat) (gs gp : Nat → Option Nat) (df sf mc mz mf mZ : Nat → Int32) (mS mQ fo : Nat → Int64) (mq : Nat → Nat) (hx : p.tables.exec = Jvm.exec) (hb : c.code = b_Lw_law) (hml : c.maxLocals = 8) (hown : s.vm.findClass "DoorServerLaw" = some m.cls) (hg : ∀ w ∈ BIG, w.before args s = true) (hX : va_X b 5 xs s s.heap) (hbl : b < s.heap.size) (hbA : ¬ A b) (hA : ∀ q : Nat, s.heap.size ≤ q → A q) (hK : va_K (dC, dI) vcl (tyL cT) s) (hfl : l.flags = pinnedFlags ++ [noTraceFlag]) (hXm : xm A s s.heap) (hXz : xz_T A s s.heap) (hst : st < 4) (hus : us < 32) (hgs : gs st = some sh) (hgp : gp us = some uh) (hst1 : ¬ xs 1 < 0 → ¬ 3 < xs 1 → xs 1 = nI st) (hus1 : ¬ xs 1 < 0 → ¬ 31 < xs 1 → xs 1 = nI us) (hdf : df 0 = 1 ∧ df 1 = 0 ∧ df 2 = 0 ∧ df 3 = 20 ∧ ∀ q9, q9 < 8 → df (4 + q9) = bn_at 0 q9 ∧ df (12 + q9) = bn_at 0 q9 ^^^ 90) (hmf : mf 0 = 1 ∧ mf 1 = 0 ∧ mf 2 = 0 ∧ mf 3 = 20 ∧ ∀ k9, k9 < 16 → mf (4 + k9) = mb_at 0 k9) (hmz : ∀ q9, q9 < 4 → mz q9 = 1) (hz : mZ 14 = 0 ∧ mZ 17 = 0 ∧ mZ 24 = 0 ∧ mZ 33 = 0 ∧ mZ 43 = 0 ∧ mZ 44 = 0) (kk : ∀ (H : Heap) (locs : List Loc) (ls : Array Slot), va_S A s.heap H locs → lv_has ls 8 [(0, .ref b), (4, .int 0)] → W p l e room_1 s m args below meth c H locs 900 33000 Q (F0 m 1363 ls [])) (hP : va_P (dC, dI) vcl [(ds, .inr (0, [.ref dr, .ref sv])), (dr, .inr (2, [.ref rr, .int (nI 20)])), (rr, .inl ((cT 0), 1000, .inl df)), (sv, .inr (5, [.ref se, .ref pw, .ref g0, .ref ty, .ref an, .ref aw, .ref ts, .ref ss, .ref rq, .int 0, .int 0, .int 0])), (se, .inl ((cT 2), 4, .inr (.inr (.inr (.inr gs))))), (sh, .inr (1, [.ref sr, .int (nI 1)])), (sr, .inl ((cT 0), 40, .inl sf)), (pw, .inl ((cT 2), 32, .inr (.inr (.inr (.inr gp))))), (uh, .inr (1, [.ref ur, .int 0])), (ur, .inl ((cT 0), 60, .inl (fun _ => 0))), (g0, .inr (3, [.ref tx, .ref wo, .ref di, .int 0, .int 0, .int 0, .int 0])), (tx, .inr (1, [.ref tr, .int (nI 0)])), (tr, .inl ((cT 0), 1192, .inl (fun _ => 0))), (wo, .inl ((cT 0), 16, .inl (fun _ => 0))), (di, .inl ((cT 0), 16, .inl (fun _ => 0))), (an, .inr (2, [.ref ar, .int 0])), (ar, .inl ((cT 0), 72, .inl (fun _ => 0))), (aw, .inr (6, [.ref a1, .int 0, .int 0])), (ts, .inr (9, [.ref t1, .long 0, .long 1, .int 0])), (ss, .inr (11, [.ref s1, .int 0])), (rq, .inr (4, [.ref dr, .ref sa])), (sa, .inl ((cT 0), 256, .inl (fun _ => 0))), (mo, .inr (12, mdF mq mZ mQ 0 0 (nI 20) (nI 0))), (mq 0, .inl ((cT 1), 64, .inr (.inl mS))), (mq 3, .inl ((cT 0), 160, .inl mc)), (mq 4, .inl ((cT 0), 4, .inl mz)), (mq 5, .inl ((cT 0), 1920, .inl (fun _ => 0))), (mq 6, .inl ((cT 0), 32, .inl (fun _ => 0))), (mq 7, .inl ((cT 0), 1000, .inl mf)), (mq 9, .inl ((cT 0), 1400, .inl (fun _ => 0))), (mq 11, .inl ((cT 0), 16, .inl (fun _ => 0))), (mq 12, .inl ((cT 0), 1200, .inl (fun _ => 0))), (ou, .inl ((cT 1), 1, .inr (.inl fo)))] H) (hD : va_D A [(ds, .inr (0, [.ref dr, .ref sv])), (dr, .inr (2, [.ref rr, .int (nI 20)])), (rr, .inl ((cT 0), 1000, .inl df)), (sv, .inr (5, [.ref se, .ref pw, .ref g0, .ref ty, .ref an, .ref aw, .ref ts, .ref ss, .ref rq, .int 0, .int 0, .int 0])), (se, .inl ((cT 2), 4, .inr (.inr (.inr (.inr gs))))), (sh, .inr (1, [.ref sr, .int (nI 1)])), (sr, .inl ((cT 0), 40, .inl sf)), (pw, .inl ((cT 2), 32, .inr (.inr (.inr (.inr gp))))), (uh, .inr (1, [.ref ur, .int 0])), (ur, .inl ((cT 0), 60, .inl (fun _ => 0))), (g0, .inr (3, [.ref tx, .ref wo, .ref di, .int 0, .int 0, .int 0, .int 0])), (tx, .inr (1, [.ref tr, .int (nI 0)])), (tr, .inl ((cT 0), 1192, .inl (fun _ => 0))), (wo, .inl ((cT 0), 16, .inl (fun _ => 0))), (di, .inl ((cT 0), 16, .inl (fun _ => 0))), (an, .inr (2, [.ref ar, .int 0])), (ar, .inl ((cT 0), 72, .inl (fun _ => 0))), (aw, .inr (6, [.ref a1, .int 0, .int 0])), (ts, .inr (9, [.ref t1, .long 0, .long 1, .int 0])), (ss, .inr (11, [.ref s1, .int 0])), (rq, .inr (4, [.ref dr, .ref sa])), (sa, .inl ((cT 0), 256, .inl (fun _ => 0))), (mo, .inr (12, mdF mq mZ mQ 0 0 (nI 20) (nI 0))), (mq 0, .inl ((cT 1), 64, .inr (.inl mS))), (mq 3, .inl ((cT 0), 160, .inl mc)), (mq 4, .inl ((cT 0), 4, .inl mz)), (mq 5, .inl ((cT 0), 1920, .inl (fun _ => 0))), (mq 6, .inl ((cT 0), 32, .inl (fun _ => 0))), (mq 7, .inl ((cT 0), 1000, .inl mf)), (mq 9, .inl ((cT 0), 1400, .inl (fun _ => 0))), (mq 11, .inl ((cT 0), 16, .inl (fun _ => 0))), (mq 12, .inl ((cT 0), 1200, .inl (fun _ => 0))), (ou, .inl ((cT 1), 1, .inr (.inl fo)))]) (hS : va_S A s.heap H locs) (hl : lv_has ls 8 [(0, .ref b), (1, .ref ds), (2, .ref mo), (3, .ref ou), (4, .int 0)]) : W p l e room_1 s m args below meth c H locs 800 32000 Q (F0 m 743 ls []) := by
  by_cases h1 : xs 1 < 0 ∨ 255 < xs 1
  · skip
    have hP := hP.sub (ws' := [(ds, .inr (0, [.ref dr, .ref sv])), (mo, .inr (12, mdF mq mZ mQ 0 0 (nI 20) (nI 0)))]) [0, 22] rfl
    have hD := hD.sub (ws' := [(ds, .inr (0, [.ref dr, .ref sv])), (mo, .inr (12, mdF mq mZ mQ 0 0 (nI 20) (nI 0)))]) [0, 22] (by decide) rfl
    refine lv_aload_n hx hb d_Lw_law_743 rfl (lv_at hl 1 rfl) ?_
    refine lv_aload_n hx hb d_Lw_law_744 rfl (lv_at hl 0 rfl) ?_
    refine lv_iload hx hb d_Lw_law_745 (lv_at hl 4 rfl) ?_
    refine lv_iconst (v := 1) hx hb d_Lw_law_747 (by decide) ?_
    refine lv_iadd hx hb d_Lw_law_748 ?_
    refine va_sld hx hb hX hbl hbA hS (i := (0 + 1)) (vin (by decide)) d_Lw_law_749 ?_
    refine lv_topi (fun x128 e127 => ?_)
    obtain rfl : x128 = xs 1 := by rw [e127]; exact congrArg xs (by decide)
    refine lv_aload_n hx hb d_Lw_law_750 rfl (lv_at hl 3 rfl) ?_
    have hPc := hP.sub (ws' := [(ds, .inr (0, [.ref dr, .ref sv]))]) [0] rfl
    have hDc := hD.sub (ws' := [(ds, .inr (0, [.ref dr, .ref sv]))]) [0] (by decide) rfl
    have hFc := va_free (wc := [(ds, .inr (0, [.ref dr, .ref sv]))]) hD hS hA [0] rfl
    refine va_calli (xw_runS (As := [.ref ds, .int (xs 1), .ref ou]) (rest := []) ⟨hx, hb, hml, hown, hg⟩ (t_hello l dC dI cT H.size ds (xs 1) dr sv ou (hfl) (h1)) rfl (gI (List.forall_mem_cons.mpr ⟨k_607, fun _ h => h⟩)) (hg _ k_605) (hg _ k_606) (hg _ k_0) rfl rfl (n := 3) (by decide +kernel) ⟨Nat.le_of_ble_eq_true rfl, Nat.le_of_ble_eq_true rfl⟩ ⟨fun a U g mk q => by obtain ⟨q0, q1, qP, qK, qD, qE⟩ := q; exact ⟨q0, q1, qP, va_K.moved (u := U) (U := U.calling g mk a) (Vm.Alike.refl U.vm) qK, qD, qE.at (State.WarmedH.refl _) (fun _ _ _ => rfl) (fun _ h => h)⟩, fun U hU hW => ⟨rfl, by rw [hU], by rw [hU]; exact hPc, va_K.moved hW.alike hK, hDc.weaken (fun _ _ _ _ => trivial), by rw [hU]; exact hXz.at hW hS.2.1 (fun _ h => h.elim)⟩⟩ rfl rfl hl.1 rfl (lv_room (Nat.le_of_ble_eq_true rfl)) d_Lw_law_751 ⟨Nat.le_of_ble_eq_true rfl, Nat.le_of_ble_eq_true rfl⟩) hS (fun q _ h => hFc q h) hFc (fun rv9 u t H1 locs ht hvm hw hB hz1 hk1 hS => ?_)
    try dsimp only at hw hB
    obtain ⟨hP1, hK1, hD1⟩ := hB
    rw [ht] at hP1
    obtain ⟨rfl, hw⟩ := hw
    obtain ⟨hP, hD⟩ := va_join (wr := [(mo, .inr (12, mdF mq mZ mQ 0 0 (nI 20) (nI 0)))]) (w1 := []) hP hD [0] [1] rfl rfl (by decide) (by decide) hk1 hFc hP1 hD1
    have hw129 := hw
    clear hPc hDc hFc hz1 hk1 hP1 hK1 hD1
    generalize H1 = H at hP hS ⊢
    have hP : va_P (dC, dI) vcl [(mo, .inr (12, mdF mq mZ mQ 0 0 (nI 20) (nI 0)))] H := hP
    have hD : va_D A [(mo, .inr (12, mdF mq mZ mQ 0 0 (nI 20) (nI 0)))] := hD
    refine lv_istore (lv' := [(5, .int 1), (0, .ref b), (1, .ref ds), (2, .ref mo), (3, .ref ou), (4, .int 0)]) hx hb d_Lw_law_754 hl (by decide) rfl (fun ls hl => ?_)
    refine lv_aload_n hx hb d_Lw_law_756 rfl (lv_at hl 3 rfl) ?_
    refine lv_aload_n hx hb d_Lw_law_757 rfl (lv_at hl 1 rfl) ?_
    refine lv_iload hx hb d_Lw_law_758 (lv_at hl 5 rfl) ?_
    refine lv_iconst (v := 1) hx hb d_Lw_law_760 (by decide) ?_
    refine lv_iadd hx hb d_Lw_law_761 ?_
    refine va_sld hx hb hX hbl hbA hS (i := (0 + 1)) (vin (by decide)) d_Lw_law_762 ?_
    refine lv_topi (fun x131 e130 => ?_)
    obtain rfl : x131 = xs 1 := by rw [e130]; exact congrArg xs (by decide)
    have hPc := hP.sub (ws' := [(mo, .inr (12, mdF mq mZ mQ 0 0 (nI 20) (nI 0)))]) [0] rfl
    have hDc := hD.sub (ws' := [(mo, .inr (12, mdF mq mZ mQ 0 0 (nI 20) (nI 0)))]) [0] (by decide) rfl
    have hFc := va_free (wc := [(mo, .inr (12, mdF mq mZ mQ 0 0 (nI 20) (nI 0)))]) hD hS hA [0] rfl
    refine va_calli (va_runV (C := "DoorServerModel") (As := [.int (xs 1)]) (rest := []) ⟨hx, hb, hml, hown, hg⟩ (b_hello l dC dI cT H.size mo mq mZ mQ 0 0 20 0 (xs 1) (h1)) (cwV 1 hg (gI (List.forall_mem_append.mpr ⟨List.forall_mem_cons.mpr ⟨k_1247, List.forall_mem_cons.mpr ⟨k_1248, List.forall_mem_cons.mpr ⟨k_1249, List.forall_mem_cons.mpr ⟨k_13, fun _ h => absurd h List.not_mem_nil⟩⟩⟩⟩, List.forall_mem_cons.mpr ⟨k_1250, fun _ h => h⟩⟩)) rfl rfl rfl (by decide +kernel) ⟨Nat.le_of_ble_eq_true rfl, Nat.le_of_ble_eq_true rfl⟩) ⟨fun a U g mk q => by obtain ⟨q0, q1, qP, qK, qD⟩ := q; exact ⟨q0, q1, qP, va_K.moved (u := U) (U := U.calling g mk a) (Vm.Alike.refl U.vm) qK, qD⟩, va_recv (q0 := 0) (ci := 12) hK hP rfl rfl, fun U hU hW => ⟨rfl, by rw [hU], by rw [hU]; exact hPc, va_K.moved hW.alike hK, hDc.weaken (fun _ _ _ _ => trivial)⟩⟩ rfl rfl hl.1 rfl (lv_room (Nat.le_of_ble_eq_true rfl)) d_Lw_law_763 ⟨Nat.le_of_ble_eq_true rfl, Nat.le_of_ble_eq_true rfl⟩) hS (fun q _ h => hFc q h) hFc (fun rv9 u t H1 locs ht hvm hw hB hz1 hk1 hS => ?_)
    try dsimp only at hw hB
    obtain ⟨hP1, hK1, hD1⟩ := hB
    rw [ht] at hP1
    generalize rv9 = r132 at hw ⊢
    obtain ⟨hP, hD⟩ := va_join (wr := []) (w1 := [(mo, .inr (12, mdF mq mZ mQ 1 0 (nI 20) (nI 0)))]) hP hD [0] [] rfl rfl (by decide) (by decide) hk1 hFc hP1 hD1
    have hw133 := hw
    clear hPc hDc hFc hz1 hk1 hP1 hK1 hD1
    generalize H1 = H at hP hS ⊢
    have hP : va_P (dC, dI) vcl [(mo, .inr (12, mdF mq mZ mQ 1 0 (nI 20) (nI 0)))] H := hP
    have hD : va_D A [(mo, .inr (12, mdF mq mZ mQ 1 0 (nI 20) (nI 0)))] := hD
    refine lv_istore (lv' := [(6, .int r132), (5, .int 1), (0, .ref b), (1, .ref ds), (2, .ref mo), (3, .ref ou), (4, .int 0)]) hx hb d_Lw_law_766 hl (by decide) rfl (fun ls hl => ?_)
    refine lv_aload_n hx hb d_Lw_law_768 rfl (lv_at hl 4 rfl) ?_
    have hPc := hP.sub (ws' := [(mo, .inr (12, mdF mq mZ mQ 1 0 (nI 20) (nI 0)))]) [0] rfl
    have hDc := hD.sub (ws' := [(mo, .inr (12, mdF mq mZ mQ 1 0 (nI 20) (nI 0)))]) [0] (by decide) rfl
    have hFc := va_free (wc := [(mo, .inr (12, mdF mq mZ mQ 1 0 (nI 20) (nI 0)))]) hD hS hA [0] rfl
    refine va_calli (va_runV (C := "DoorServerModel") (As := []) (rest := []) ⟨hx, hb, hml, hown, hg⟩ (m_thrown l dC dI cT H.size mo mq mZ mQ 1 0 20 0 ) (cwV 0 hg (gI (List.forall_mem_append.mpr ⟨List.forall_mem_cons.mpr ⟨k_1157, List.forall_mem_cons.mpr ⟨k_1158, List.forall_mem_cons.mpr ⟨k_1159, List.forall_mem_cons.mpr ⟨k_13, fun _ h => absurd h List.not_mem_nil⟩⟩⟩⟩, List.forall_mem_cons.mpr ⟨k_1160, fun _ h => h⟩⟩)) rfl rfl rfl (by decide +kernel) ⟨Nat.le_of_ble_eq_true rfl, Nat.le_of_ble_eq_true rfl⟩) ⟨fun a U g mk q => by obtain ⟨q0, q1, qP, qK, qD⟩ := q; exact ⟨q0, q1, qP, va_K.moved (u := U) (U := U.calling g mk a) (Vm.Alike.refl U.vm) qK, qD⟩, va_recv (q0 := 0) (ci := 12) hK hP rfl rfl, fun U hU hW => ⟨rfl, by rw [hU], by rw [hU]; exact hPc, va_K.moved hW.alike hK, hDc.weaken (fun _ _ _ _ => trivial)⟩⟩ rfl rfl hl.1 rfl (lv_room (Nat.le_of_ble_eq_true rfl)) d_Lw_law_769 ⟨Nat.le_of_ble_eq_true rfl, Nat.le_of_ble_eq_true rfl⟩) hS (fun q _ h => hFc q h) hFc (fun rv9 u t H1 locs ht hvm hw hB hz1 hk1 hS => ?_)
    try dsimp only at hw hB
    obtain ⟨hP1, hK1, hD1⟩ := hB
    rw [ht] at hP1
    obtain ⟨rfl, hw⟩ := hw
    obtain ⟨hP, hD⟩ := va_join (wr := []) (w1 := []) hP hD [0] [] rfl rfl (by decide) (by decide) hk1 hFc hP1 hD1
    have hw134 := hw
    clear hPc hDc hFc hz1 hk1 hP1 hK1 hD1
    generalize H1 = H at hP hS ⊢
    have hP : va_P (dC, dI) vcl [] H := hP
    have hD : va_D A [] := hD
    refine lv_iload hx hb d_Lw_law_772 (lv_at hl 1 rfl) ?_
    refine lv_icmp_eq (tgt := 779) hx hb d_Lw_law_774 (by decide) (fun hc135 => ?_) (fun hn9 => absurd (rfl) hn9)
    refine lv_iload hx hb d_Lw_law_779 (lv_at hl 1 rfl) ?_
    refine lv_if_ne (tgt := 796) hx hb d_Lw_law_781 (by decide) (fun hc136 => ?_) (fun hn9 => absurd hn9 (by decide))
    refine lv_goto (tgt := 1363) hx hb d_Lw_law_796 (by decide) ?_
    refine W.widen (k := 900) (n := 33000) (Nat.le_of_ble_eq_true rfl) (Nat.le_of_ble_eq_true rfl) ?_
    have hl9 : lv_has ls 8 [(0, .ref b), (4, .int 0)] := lv_sub hl [2, 6] rfl
    exact kk _ _ _ hS hl9
  have h1a : ¬ xs 1 < 0 := fun h9 => h1 (Or.inl h9)
  have h1b : ¬ 255 < xs 1 := fun h9 => h1 (Or.inr h9)
  have hP := hP.sub (ws' := [(ds, .inr (0, [.ref dr, .ref sv])), (dr, .inr (2, [.ref rr, .int (nI 20)])), (rr, .inl ((cT 0), 1000, .inl df)), (mo, .inr (12, mdF mq mZ mQ 0 0 (nI 20) (nI 0))), (mq 7, .inl ((cT 0), 1000, .inl mf)), (ou, .inl ((cT 1), 1, .inr (.inl fo)))]) [0, 1, 2, 22, 28, 32] rfl
  have hD := hD.sub (ws' := [(ds, .inr (0, [.ref dr, .ref sv])), (dr, .inr (2, [.ref rr, .int (nI 20)])), (rr, .inl ((cT 0), 1000, .inl df)), (mo, .inr (12, mdF mq mZ mQ 0 0 (nI 20) (nI 0))), (mq 7, .inl ((cT 0), 1000, .inl mf)), (ou, .inl ((cT 1), 1, .inr (.inl fo)))]) [0, 1, 2, 22, 28, 32] (by decide) rfl
  refine lv_aload_n hx hb d_Lw_law_743 rfl (lv_at hl 1 rfl) ?_
  refine lv_aload_n hx hb d_Lw_law_744 rfl (lv_at hl 0 rfl) ?_
  refine lv_iload hx hb d_Lw_law_745 (lv_at hl 4 rfl) ?_
  refine lv_iconst (v := 1) hx hb d_Lw_law_747 (by decide) ?_
  refine lv_iadd hx hb d_Lw_law_748 ?_
  refine va_sld hx hb hX hbl hbA hS (i := (0 + 1)) (vin (by decide)) d_Lw_law_749 ?_
  refine lv_topi (fun x138 e137 => ?_)
  obtain rfl : x138 = xs 1 := by rw [e137]; exact congrArg xs (by decide)
  refine lv_aload_n hx hb d_Lw_law_750 rfl (lv_at hl 3 rfl) ?_
  have hPc := hP.sub (ws' := [(ds, .inr (0, [.ref dr, .ref sv])), (dr, .inr (2, [.ref rr, .int (nI 20)])), (rr, .inl ((cT 0), 1000, .inl df)), (ou, .inl ((cT 1), 1, .inr (.inl fo)))]) [0, 1, 2, 5] rfl
  have hDc := hD.sub (ws' := [(ds, .inr (0, [.ref dr, .ref sv])), (dr, .inr (2, [.ref rr, .int (nI 20)])), (rr, .inl ((cT 0), 1000, .inl df)), (ou, .inl ((cT 1), 1, .inr (.inl fo)))]) [0, 1, 2, 5] (by decide) rfl
  have hFc := va_free (wc := [(ds, .inr (0, [.ref dr, .ref sv])), (dr, .inr (2, [.ref rr, .int (nI 20)])), (rr, .inl ((cT 0), 1000, .inl df)), (ou, .inl ((cT 1), 1, .inr (.inl fo)))]) hD hS hA [0, 1, 2, 5] rfl
  refine va_calli (xw_runS (As := [.ref ds, .int (xs 1), .ref ou]) (rest := []) ⟨hx, hb, hml, hown, hg⟩ (l_hello l dC dI cT H.size ds dr sv rr df (xs 1) ou fo (h1a) (h1b)) rfl (gI (List.forall_mem_cons.mpr ⟨k_607, fun _ h => h⟩)) (hg _ k_605) (hg _ k_606) (hg _ k_0) rfl rfl (n := 3) (by decide +kernel) ⟨Nat.le_of_ble_eq_true rfl, Nat.le_of_ble_eq_true rfl⟩ ⟨fun a U g mk q => by obtain ⟨q0, q1, qP, qK, qD⟩ := q; exact ⟨q0, q1, qP, va_K.moved (u := U) (U := U.calling g mk a) (Vm.Alike.refl U.vm) qK, qD⟩, fun U hU hW => ⟨rfl, by rw [hU], by rw [hU]; exact hPc, va_K.moved hW.alike hK, hDc.weaken (fun _ _ _ _ => trivial)⟩⟩ rfl rfl hl.1 rfl (lv_room (Nat.le_of_ble_eq_true rfl)) d_Lw_law_751 ⟨Nat.le_of_ble_eq_true rfl, Nat.le_of_ble_eq_true rfl⟩) hS (fun q _ h => hFc q h) hFc (fun rv9 u t H1 locs ht hvm hw hB hz1 hk1 hS => ?_)
  try dsimp only at hw hB
  obtain ⟨hP1, hK1, hD1⟩ := hB
  rw [ht] at hP1
  obtain ⟨rfl, hw⟩ := hw
  obtain ⟨hP, hD⟩ := va_join (wr := [(mo, .inr (12, mdF mq mZ mQ 0 0 (nI 20) (nI 0))), (mq 7, .inl ((cT 0), 1000, .inl mf))]) (w1 := [(ou, .inl ((cT 1), 1, .inr (.inl (vp_updL fo (0 : Int32).toNatClampNeg ((27 : Int32).toInt64)))))]) hP hD [0, 1, 2, 5] [3, 4] rfl rfl (by decide) (by decide) hk1 hFc hP1 hD1
  have hw139 := hw
  clear hPc hDc hFc hz1 hk1 hP1 hK1 hD1
  generalize H1 = H at hP hS ⊢
  have hP : va_P (dC, dI) vcl [(mo, .inr (12, mdF mq mZ mQ 0 0 (nI 20) (nI 0))), (mq 7, .inl ((cT 0), 1000, .inl mf)), (ou, .inl ((cT 1), 1, .inr (.inl (vp_updL fo (0 : Int32).toNatClampNeg ((27 : Int32).toInt64)))))] H := hP
  have hD : va_D A [(mo, .inr (12, mdF mq mZ mQ 0 0 (nI 20) (nI 0))), (mq 7, .inl ((cT 0), 1000, .inl mf)), (ou, .inl ((cT 1), 1, .inr (.inl (vp_updL fo (0 : Int32).toNatClampNeg ((27 : Int32).toInt64)))))] := hD
  refine lv_istore (lv' := [(5, .int 0), (0, .ref b), (1, .ref ds), (2, .ref mo), (3, .ref ou), (4, .int 0)]) hx hb d_Lw_law_754 hl (by decide) rfl (fun ls hl => ?_)
  refine lv_aload_n hx hb d_Lw_law_756 rfl (lv_at hl 3 rfl) ?_
  refine lv_aload_n hx hb d_Lw_law_757 rfl (lv_at hl 1 rfl) ?_
  refine lv_iload hx hb d_Lw_law_758 (lv_at hl 5 rfl) ?_
  refine lv_iconst (v := 1) hx hb d_Lw_law_760 (by decide) ?_
  refine lv_iadd hx hb d_Lw_law_761 ?_
  refine va_sld hx hb hX hbl hbA hS (i := (0 + 1)) (vin (by decide)) d_Lw_law_762 ?_
  refine lv_topi (fun x141 e140 => ?_)
  obtain rfl : x141 = xs 1 := by rw [e140]; exact congrArg xs (by decide)
  have hPc := hP.sub (ws' := [(mo, .inr (12, mdF mq mZ mQ 0 0 (nI 20) (nI 0))), (mq 7, .inl ((cT 0), 1000, .inl mf))]) [0, 1] rfl
  have hDc := hD.sub (ws' := [(mo, .inr (12, mdF mq mZ mQ 0 0 (nI 20) (nI 0))), (mq 7, .inl ((cT 0), 1000, .inl mf))]) [0, 1] (by decide) rfl
  have hFc := va_free (wc := [(mo, .inr (12, mdF mq mZ mQ 0 0 (nI 20) (nI 0))), (mq 7, .inl ((cT 0), 1000, .inl mf))]) hD hS hA [0, 1] rfl
  refine va_calli (va_runV (C := "DoorServerModel") (As := [.int (xs 1)]) (rest := []) ⟨hx, hb, hml, hown, hg⟩ (o_hello l dC dI cT H.size mo mq mZ mQ 0 0 20 0 mf (xs 1) (h1a) (h1b)) (cwV 1 hg (gI (List.forall_mem_append.mpr ⟨List.forall_mem_cons.mpr ⟨k_1247, List.forall_mem_cons.mpr ⟨k_1248, List.forall_mem_cons.mpr ⟨k_1249, List.forall_mem_cons.mpr ⟨k_13, fun _ h => absurd h List.not_mem_nil⟩⟩⟩⟩, List.forall_mem_cons.mpr ⟨k_1250, fun _ h => h⟩⟩)) rfl rfl rfl (by decide +kernel) ⟨Nat.le_of_ble_eq_true rfl, Nat.le_of_ble_eq_true rfl⟩) ⟨fun a U g mk q => by obtain ⟨q0, q1, qP, qK, qD⟩ := q; exact ⟨q0, q1, qP, va_K.moved (u := U) (U := U.calling g mk a) (Vm.Alike.refl U.vm) qK, qD⟩, va_recv (q0 := 0) (ci := 12) hK hP rfl rfl, fun U hU hW => ⟨rfl, by rw [hU], by rw [hU]; exact hPc, va_K.moved hW.alike hK, hDc.weaken (fun _ _ _ _ => trivial)⟩⟩ rfl rfl hl.1 rfl (lv_room (Nat.le_of_ble_eq_true rfl)) d_Lw_law_763 ⟨Nat.le_of_ble_eq_true rfl, Nat.le_of_ble_eq_true rfl⟩) hS (fun q _ h => hFc q h) hFc (fun rv9 u t H1 locs ht hvm hw hB hz1 hk1 hS => ?_)
  try dsimp only at hw hB
  obtain ⟨hP1, hK1, hD1⟩ := hB
  rw [ht] at hP1
  obtain ⟨rfl, hw⟩ := hw
  obtain ⟨hP, hD⟩ := va_join (wr := [(ou, .inl ((cT 1), 1, .inr (.inl (vp_updL fo (0 : Int32).toNatClampNeg ((27 : Int32).toInt64)))))]) (w1 := [(mo, .inr (12, mdF mq mZ mQ 0 0 (nI 27) (nI 0)))]) hP hD [0, 1] [2] rfl rfl (by decide) (by decide) hk1 hFc hP1 hD1
  have hw142 := hw
  clear hPc hDc hFc hz1 hk1 hP1 hK1 hD1
  generalize H1 = H at hP hS ⊢
  have hP : va_P (dC, dI) vcl [(ou, .inl ((cT 1), 1, .inr (.inl (vp_updL fo (0 : Int32).toNatClampNeg ((27 : Int32).toInt64))))), (mo, .inr (12, mdF mq mZ mQ 0 0 (nI 27) (nI 0)))] H := hP
  have hD : va_D A [(ou, .inl ((cT 1), 1, .inr (.inl (vp_updL fo (0 : Int32).toNatClampNeg ((27 : Int32).toInt64))))), (mo, .inr (12, mdF mq mZ mQ 0 0 (nI 27) (nI 0)))] := hD
  refine lv_istore (lv' := [(6, .int 27), (5, .int 0), (0, .ref b), (1, .ref ds), (2, .ref mo), (3, .ref ou), (4, .int 0)]) hx hb d_Lw_law_766 hl (by decide) rfl (fun ls hl => ?_)
  refine lv_aload_n hx hb d_Lw_law_768 rfl (lv_at hl 4 rfl) ?_
  have hPc := hP.sub (ws' := [(mo, .inr (12, mdF mq mZ mQ 0 0 (nI 27) (nI 0)))]) [1] rfl
  have hDc := hD.sub (ws' := [(mo, .inr (12, mdF mq mZ mQ 0 0 (nI 27) (nI 0)))]) [1] (by decide) rfl
  have hFc := va_free (wc := [(mo, .inr (12, mdF mq mZ mQ 0 0 (nI 27) (nI 0)))]) hD hS hA [1] rfl
  refine va_calli (va_runV (C := "DoorServerModel") (As := []) (rest := []) ⟨hx, hb, hml, hown, hg⟩ (m_thrown l dC dI cT H.size mo mq mZ mQ 0 0 27 0 ) (cwV 0 hg (gI (List.forall_mem_append.mpr ⟨List.forall_mem_cons.mpr ⟨k_1157, List.forall_mem_cons.mpr ⟨k_1158, List.forall_mem_cons.mpr ⟨k_1159, List.forall_mem_cons.mpr ⟨k_13, fun _ h => absurd h List.not_mem_nil⟩⟩⟩⟩, List.forall_mem_cons.mpr ⟨k_1160, fun _ h => h⟩⟩)) rfl rfl rfl (by decide +kernel) ⟨Nat.le_of_ble_eq_true rfl, Nat.le_of_ble_eq_true rfl⟩) ⟨fun a U g mk q => by obtain ⟨q0, q1, qP, qK, qD⟩ := q; exact ⟨q0, q1, qP, va_K.moved (u := U) (U := U.calling g mk a) (Vm.Alike.refl U.vm) qK, qD⟩, va_recv (q0 := 1) (ci := 12) hK hP rfl rfl, fun U hU hW => ⟨rfl, by rw [hU], by rw [hU]; exact hPc, va_K.moved hW.alike hK, hDc.weaken (fun _ _ _ _ => trivial)⟩⟩ rfl rfl hl.1 rfl (lv_room (Nat.le_of_ble_eq_true rfl)) d_Lw_law_769 ⟨Nat.le_of_ble_eq_true rfl, Nat.le_of_ble_eq_true rfl⟩) hS (fun q _ h => hFc q h) hFc (fun rv9 u t H1 locs ht hvm hw hB hz1 hk1 hS => ?_)
  try dsimp only at hw hB
  obtain ⟨hP1, hK1, hD1⟩ := hB
  rw [ht] at hP1
  obtain ⟨rfl, hw⟩ := hw
  obtain ⟨hP, hD⟩ := va_join (wr := [(ou, .inl ((cT 1), 1, .inr (.inl (vp_updL fo (0 : Int32).toNatClampNeg ((27 : Int32).toInt64)))))]) (w1 := []) hP hD [1] [0] rfl rfl (by decide) (by decide) hk1 hFc hP1 hD1
  have hw143 := hw
  clear hPc hDc hFc hz1 hk1 hP1 hK1 hD1
  generalize H1 = H at hP hS ⊢
  have hP : va_P (dC, dI) vcl [(ou, .inl ((cT 1), 1, .inr (.inl (vp_updL fo (0 : Int32).toNatClampNeg ((27 : Int32).toInt64)))))] H := hP
  have hD : va_D A [(ou, .inl ((cT 1), 1, .inr (.inl (vp_updL fo (0 : Int32).toNatClampNeg ((27 : Int32).toInt64)))))] := hD
  refine lv_iload hx hb d_Lw_law_772 (lv_at hl 1 rfl) ?_
  refine lv_icmp_eq (tgt := 779) hx hb d_Lw_law_774 (by decide) (fun hc144 => ?_) (fun hn9 => absurd (rfl) hn9)
  refine lv_iload hx hb d_Lw_law_779 (lv_at hl 1 rfl) ?_
  refine lv_if_ne (tgt := 796) hx hb d_Lw_law_781 (by decide) (fun hn9 => absurd hn9 (fun h => h rfl)) (fun hc145 => ?_)
  refine lv_aload_n hx hb d_Lw_law_784 rfl (lv_at hl 5 rfl) ?_
  refine lv_iconst (v := 0) hx hb d_Lw_law_785 (by decide) ?_
  refine va_lald hx hb hK hP 0 1 rfl rfl (i := 0) (vp_in_nI (n := 0) (N := 1) (by decide) (by decide)) d_Lw_law_786 ?_
  refine lv_topl (fun x147 e146 => ?_)
  obtain rfl : x147 = ((27 : Int32).toInt64) := by rw [e146]; exact updL_eq
  refine lv_iload hx hb d_Lw_law_787 (lv_at hl 0 rfl) ?_
  refine lv_i2l (v := (27 : Int32).toInt64) hx hb d_Lw_law_789 rfl ?_
  refine W.lcmp hx hb d_Lw_law_790 ?_
  refine lv_if_eq (tgt := 796) hx hb d_Lw_law_791 (by decide) (fun hc148 => ?_) (fun hn9 => absurd (cmp_e (rfl)) hn9)
  refine lv_goto (tgt := 1363) hx hb d_Lw_law_796 (by decide) ?_
  refine W.widen (k := 900) (n := 33000) (Nat.le_of_ble_eq_true rfl) (Nat.le_of_ble_eq_true rfl) ?_
  have hl9 : lv_has ls 8 [(0, .ref b), (4, .int 0)] := lv_sub hl [2, 6] rfl
  exact kk _ _ _ hS hl9
set_option maxHeartbeats 4000000 in
set_option maxRecDepth 100000 in
theorem lw_case8 {p : Program} {l : Launch} {e : Env} {s : State} {m : MethodId} {args : Array Value} {below : List Frame} {meth : Method} {c : Code} {Q : State → Prop} {A : Nat → Prop} {b : Nat} {xs : Nat → Int32} {H : Heap} {locs : List Loc} {ls : Array Slot} (dC : Nat → ClassId) (dI : Nat → Nat → Nat) (cT : Nat → ClassId) (ds : Nat) (dr : Nat) (sv : Nat) (rr : Nat) (se : Nat) (pw : Nat) (g0 : Nat) (ty : Nat) (an : Nat) (aw : Nat) (ts : Nat) (ss : Nat) (rq : Nat) (sh : Nat) (sr : Nat) (uh : Nat) (ur : Nat) (tx : Nat) (tr : Nat) (wo : Nat) (di : Nat) (ar : Nat) (a1 : Nat) (t1 : Nat) (s1 : Nat) (sa : Nat) (mo : Nat) (ou : Nat) (st us : Nat) (gs gp : Nat → Option Nat) (df sf mc mz mf mZ : Nat → Int32) (mS mQ fo : Nat → Int64) (mq : Nat → Nat) (hx : p.tables.exec = Jvm.exec) (hb : c.code = b_Lw_law) (hml : c.maxLocals = 8) (hown : s.vm.findClass "DoorServerLaw" = some m.cls) (hg : ∀ w ∈ BIG, w.before args s = true) (hX : va_X b 5 xs s s.heap) (hbl : b < s.heap.size) (hbA : ¬ A b) (hA : ∀ q : Nat, s.heap.size ≤ q → A q) (hK : va_K (dC, dI) vcl (tyL cT) s) (hfl : l.flags = pinnedFlags ++ [noTraceFlag]) (hXm : xm A s s.heap) (hXz : xz_T A s s.heap) (hst : st < 4) (hus : us < 32) (hgs : gs st = some sh) (hgp : gp us = some uh) (hst1 : ¬ xs 1 < 0 → ¬ 3 < xs 1 → xs 1 = nI st) (hus1 : ¬ xs 1 < 0 → ¬ 31 < xs 1 → xs 1 = nI us) (hdf : df 0 = 1 ∧ df 1 = 0 ∧ df 2 = 0 ∧ df 3 = 20 ∧ ∀ q9, q9 < 8 → df (4 + q9) = bn_at 0 q9 ∧ df (12 + q9) = bn_at 0 q9 ^^^ 90) (hmf : mf 0 = 1 ∧ mf 1 = 0 ∧ mf 2 = 0 ∧ mf 3 = 20 ∧ ∀ k9, k9 < 16 → mf (4 + k9) = mb_at 0 k9) (hmz : ∀ q9, q9 < 4 → mz q9 = 1) (hz : mZ 14 = 0 ∧ mZ 17 = 0 ∧ mZ 24 = 0 ∧ mZ 33 = 0 ∧ mZ 43 = 0 ∧ mZ 44 = 0) (kk : ∀ (H : Heap) (locs : List Loc) (ls : Array Slot), va_S A s.heap H locs → lv_has ls 8 [(0, .ref b), (4, .int 0)] → W p l e room_1 s m args below meth c H locs 900 33000 Q (F0 m 1363 ls [])) (hP : va_P (dC, dI) vcl [(ds, .inr (0, [.ref dr, .ref sv])), (dr, .inr (2, [.ref rr, .int (nI 20)])), (rr, .inl ((cT 0), 1000, .inl df)), (sv, .inr (5, [.ref se, .ref pw, .ref g0, .ref ty, .ref an, .ref aw, .ref ts, .ref ss, .ref rq, .int 0, .int 0, .int 0])), (se, .inl ((cT 2), 4, .inr (.inr (.inr (.inr gs))))), (sh, .inr (1, [.ref sr, .int (nI 1)])), (sr, .inl ((cT 0), 40, .inl sf)), (pw, .inl ((cT 2), 32, .inr (.inr (.inr (.inr gp))))), (uh, .inr (1, [.ref ur, .int 0])), (ur, .inl ((cT 0), 60, .inl (fun _ => 0))), (g0, .inr (3, [.ref tx, .ref wo, .ref di, .int 0, .int 0, .int 0, .int 0])), (tx, .inr (1, [.ref tr, .int (nI 0)])), (tr, .inl ((cT 0), 1192, .inl (fun _ => 0))), (wo, .inl ((cT 0), 16, .inl (fun _ => 0))), (di, .inl ((cT 0), 16, .inl (fun _ => 0))), (an, .inr (2, [.ref ar, .int 0])), (ar, .inl ((cT 0), 72, .inl (fun _ => 0))), (aw, .inr (6, [.ref a1, .int 0, .int 0])), (ts, .inr (9, [.ref t1, .long 0, .long 1, .int 0])), (ss, .inr (11, [.ref s1, .int 0])), (rq, .inr (4, [.ref dr, .ref sa])), (sa, .inl ((cT 0), 256, .inl (fun _ => 0))), (mo, .inr (12, mdF mq mZ mQ 0 0 (nI 20) (nI 0))), (mq 0, .inl ((cT 1), 64, .inr (.inl mS))), (mq 3, .inl ((cT 0), 160, .inl mc)), (mq 4, .inl ((cT 0), 4, .inl mz)), (mq 5, .inl ((cT 0), 1920, .inl (fun _ => 0))), (mq 6, .inl ((cT 0), 32, .inl (fun _ => 0))), (mq 7, .inl ((cT 0), 1000, .inl mf)), (mq 9, .inl ((cT 0), 1400, .inl (fun _ => 0))), (mq 11, .inl ((cT 0), 16, .inl (fun _ => 0))), (mq 12, .inl ((cT 0), 1200, .inl (fun _ => 0))), (ou, .inl ((cT 1), 1, .inr (.inl fo)))] H) (hD : va_D A [(ds, .inr (0, [.ref dr, .ref sv])), (dr, .inr (2, [.ref rr, .int (nI 20)])), (rr, .inl ((cT 0), 1000, .inl df)), (sv, .inr (5, [.ref se, .ref pw, .ref g0, .ref ty, .ref an, .ref aw, .ref ts, .ref ss, .ref rq, .int 0, .int 0, .int 0])), (se, .inl ((cT 2), 4, .inr (.inr (.inr (.inr gs))))), (sh, .inr (1, [.ref sr, .int (nI 1)])), (sr, .inl ((cT 0), 40, .inl sf)), (pw, .inl ((cT 2), 32, .inr (.inr (.inr (.inr gp))))), (uh, .inr (1, [.ref ur, .int 0])), (ur, .inl ((cT 0), 60, .inl (fun _ => 0))), (g0, .inr (3, [.ref tx, .ref wo, .ref di, .int 0, .int 0, .int 0, .int 0])), (tx, .inr (1, [.ref tr, .int (nI 0)])), (tr, .inl ((cT 0), 1192, .inl (fun _ => 0))), (wo, .inl ((cT 0), 16, .inl (fun _ => 0))), (di, .inl ((cT 0), 16, .inl (fun _ => 0))), (an, .inr (2, [.ref ar, .int 0])), (ar, .inl ((cT 0), 72, .inl (fun _ => 0))), (aw, .inr (6, [.ref a1, .int 0, .int 0])), (ts, .inr (9, [.ref t1, .long 0, .long 1, .int 0])), (ss, .inr (11, [.ref s1, .int 0])), (rq, .inr (4, [.ref dr, .ref sa])), (sa, .inl ((cT 0), 256, .inl (fun _ => 0))), (mo, .inr (12, mdF mq mZ mQ 0 0 (nI 20) (nI 0))), (mq 0, .inl ((cT 1), 64, .inr (.inl mS))), (mq 3, .inl ((cT 0), 160, .inl mc)), (mq 4, .inl ((cT 0), 4, .inl mz)), (mq 5, .inl ((cT 0), 1920, .inl (fun _ => 0))), (mq 6, .inl ((cT 0), 32, .inl (fun _ => 0))), (mq 7, .inl ((cT 0), 1000, .inl mf)), (mq 9, .inl ((cT 0), 1400, .inl (fun _ => 0))), (mq 11, .inl ((cT 0), 16, .inl (fun _ => 0))), (mq 12, .inl ((cT 0), 1200, .inl (fun _ => 0))), (ou, .inl ((cT 1), 1, .inr (.inl fo)))]) (hS : va_S A s.heap H locs) (hl : lv_has ls 8 [(0, .ref b), (1, .ref ds), (2, .ref mo), (3, .ref ou), (4, .int 0)]) : W p l e room_1 s m args below meth c H locs 800 32000 Q (F0 m 799 ls []) := by
  by_cases h1 : xs 3 < 1 ∨ 60 < xs 3
  · skip
    have hP := hP.sub (ws' := [(ds, .inr (0, [.ref dr, .ref sv])), (mo, .inr (12, mdF mq mZ mQ 0 0 (nI 20) (nI 0)))]) [0, 22] rfl
    have hD := hD.sub (ws' := [(ds, .inr (0, [.ref dr, .ref sv])), (mo, .inr (12, mdF mq mZ mQ 0 0 (nI 20) (nI 0)))]) [0, 22] (by decide) rfl
    refine lv_aload_n hx hb d_Lw_law_799 rfl (lv_at hl 1 rfl) ?_
    refine lv_aload_n hx hb d_Lw_law_800 rfl (lv_at hl 0 rfl) ?_
    refine lv_iload hx hb d_Lw_law_801 (lv_at hl 4 rfl) ?_
    refine lv_iconst (v := 1) hx hb d_Lw_law_803 (by decide) ?_
    refine lv_iadd hx hb d_Lw_law_804 ?_
    refine va_sld hx hb hX hbl hbA hS (i := (0 + 1)) (vin (by decide)) d_Lw_law_805 ?_
    refine lv_topi (fun x150 e149 => ?_)
    obtain rfl : x150 = xs 1 := by rw [e149]; exact congrArg xs (by decide)
    refine lv_i2l (v := (xs 1).toInt64) hx hb d_Lw_law_806 rfl ?_
    refine lv_bipush (v := 32) hx hb d_Lw_law_807 (by decide) ?_
    refine lv_lshl (v := ((xs 1).toInt64) <<< ((32 : Int32).toInt64 &&& 63)) hx hb d_Lw_law_809 rfl ?_
    refine lv_aload_n hx hb d_Lw_law_810 rfl (lv_at hl 0 rfl) ?_
    refine lv_iload hx hb d_Lw_law_811 (lv_at hl 4 rfl) ?_
    refine lv_iconst (v := 2) hx hb d_Lw_law_813 (by decide) ?_
    refine lv_iadd hx hb d_Lw_law_814 ?_
    refine va_sld hx hb hX hbl hbA hS (i := (0 + 2)) (vin (by decide)) d_Lw_law_815 ?_
    refine lv_topi (fun x152 e151 => ?_)
    obtain rfl : x152 = xs 2 := by rw [e151]; exact congrArg xs (by decide)
    refine lv_i2l (v := (xs 2).toInt64) hx hb d_Lw_law_816 rfl ?_
    refine lv_ldc2 (v := 4294967295) hx hb hown (hg _ k_1418) d_Lw_law_817 ?_
    refine lv_land hx hb d_Lw_law_820 ?_
    refine lv_lor hx hb d_Lw_law_821 ?_
    refine lv_aload_n hx hb d_Lw_law_822 rfl (lv_at hl 0 rfl) ?_
    refine lv_iload hx hb d_Lw_law_823 (lv_at hl 4 rfl) ?_
    refine lv_iconst (v := 3) hx hb d_Lw_law_825 (by decide) ?_
    refine lv_iadd hx hb d_Lw_law_826 ?_
    refine va_sld hx hb hX hbl hbA hS (i := (0 + 3)) (vin (by decide)) d_Lw_law_827 ?_
    refine lv_topi (fun x154 e153 => ?_)
    obtain rfl : x154 = xs 3 := by rw [e153]; exact congrArg xs (by decide)
    refine lv_aload_n hx hb d_Lw_law_828 rfl (lv_at hl 3 rfl) ?_
    have hPc := hP.sub (ws' := [(ds, .inr (0, [.ref dr, .ref sv]))]) [0] rfl
    have hDc := hD.sub (ws' := [(ds, .inr (0, [.ref dr, .ref sv]))]) [0] (by decide) rfl
    have hFc := va_free (wc := [(ds, .inr (0, [.ref dr, .ref sv]))]) hD hS hA [0] rfl
    refine va_calli (xw_runS (As := [.ref ds, .long ((((xs 1).toInt64) <<< ((32 : Int32).toInt64 &&& 63)) ||| (((xs 2).toInt64) &&& 4294967295)), .int (xs 3), .ref ou]) (rest := []) ⟨hx, hb, hml, hown, hg⟩ (t_reply l dC dI cT H.size ds ((((xs 1).toInt64) <<< ((32 : Int32).toInt64 &&& 63)) ||| (((xs 2).toInt64) &&& 4294967295)) (xs 3) dr sv ou (hfl) (h1)) rfl (gI (List.forall_mem_cons.mpr ⟨k_619, fun _ h => h⟩)) (hg _ k_617) (hg _ k_618) (hg _ k_0) rfl rfl (n := 4) (by decide +kernel) ⟨Nat.le_of_ble_eq_true rfl, Nat.le_of_ble_eq_true rfl⟩ ⟨fun a U g mk q => by obtain ⟨q0, q1, qP, qK, qD, qE⟩ := q; exact ⟨q0, q1, qP, va_K.moved (u := U) (U := U.calling g mk a) (Vm.Alike.refl U.vm) qK, qD, qE.at (State.WarmedH.refl _) (fun _ _ _ => rfl) (fun _ h => h)⟩, fun U hU hW => ⟨rfl, by rw [hU], by rw [hU]; exact hPc, va_K.moved hW.alike hK, hDc.weaken (fun _ _ _ _ => trivial), by rw [hU]; exact hXz.at hW hS.2.1 (fun _ h => h.elim)⟩⟩ rfl rfl hl.1 rfl (lv_room (Nat.le_of_ble_eq_true rfl)) d_Lw_law_829 ⟨Nat.le_of_ble_eq_true rfl, Nat.le_of_ble_eq_true rfl⟩) hS (fun q _ h => hFc q h) hFc (fun rv9 u t H1 locs ht hvm hw hB hz1 hk1 hS => ?_)
    try dsimp only at hw hB
    obtain ⟨hP1, hK1, hD1⟩ := hB
    rw [ht] at hP1
    obtain ⟨rfl, hw⟩ := hw
    obtain ⟨hP, hD⟩ := va_join (wr := [(mo, .inr (12, mdF mq mZ mQ 0 0 (nI 20) (nI 0)))]) (w1 := []) hP hD [0] [1] rfl rfl (by decide) (by decide) hk1 hFc hP1 hD1
    have hw155 := hw
    clear hPc hDc hFc hz1 hk1 hP1 hK1 hD1
    generalize H1 = H at hP hS ⊢
    have hP : va_P (dC, dI) vcl [(mo, .inr (12, mdF mq mZ mQ 0 0 (nI 20) (nI 0)))] H := hP
    have hD : va_D A [(mo, .inr (12, mdF mq mZ mQ 0 0 (nI 20) (nI 0)))] := hD
    refine lv_istore (lv' := [(5, .int 1), (0, .ref b), (1, .ref ds), (2, .ref mo), (3, .ref ou), (4, .int 0)]) hx hb d_Lw_law_832 hl (by decide) rfl (fun ls hl => ?_)
    refine lv_aload_n hx hb d_Lw_law_834 rfl (lv_at hl 3 rfl) ?_
    refine lv_aload_n hx hb d_Lw_law_835 rfl (lv_at hl 1 rfl) ?_
    refine lv_iload hx hb d_Lw_law_836 (lv_at hl 5 rfl) ?_
    refine lv_iconst (v := 1) hx hb d_Lw_law_838 (by decide) ?_
    refine lv_iadd hx hb d_Lw_law_839 ?_
    refine va_sld hx hb hX hbl hbA hS (i := (0 + 1)) (vin (by decide)) d_Lw_law_840 ?_
    refine lv_topi (fun x157 e156 => ?_)
    obtain rfl : x157 = xs 1 := by rw [e156]; exact congrArg xs (by decide)
    refine lv_i2l (v := (xs 1).toInt64) hx hb d_Lw_law_841 rfl ?_
    refine lv_bipush (v := 32) hx hb d_Lw_law_842 (by decide) ?_
    refine lv_lshl (v := ((xs 1).toInt64) <<< ((32 : Int32).toInt64 &&& 63)) hx hb d_Lw_law_844 rfl ?_
    refine lv_aload_n hx hb d_Lw_law_845 rfl (lv_at hl 1 rfl) ?_
    refine lv_iload hx hb d_Lw_law_846 (lv_at hl 5 rfl) ?_
    refine lv_iconst (v := 2) hx hb d_Lw_law_848 (by decide) ?_
    refine lv_iadd hx hb d_Lw_law_849 ?_
    refine va_sld hx hb hX hbl hbA hS (i := (0 + 2)) (vin (by decide)) d_Lw_law_850 ?_
    refine lv_topi (fun x159 e158 => ?_)
    obtain rfl : x159 = xs 2 := by rw [e158]; exact congrArg xs (by decide)
    refine lv_i2l (v := (xs 2).toInt64) hx hb d_Lw_law_851 rfl ?_
    refine lv_ldc2 (v := 4294967295) hx hb hown (hg _ k_1418) d_Lw_law_852 ?_
    refine lv_land hx hb d_Lw_law_855 ?_
    refine lv_lor hx hb d_Lw_law_856 ?_
    refine lv_aload_n hx hb d_Lw_law_857 rfl (lv_at hl 1 rfl) ?_
    refine lv_iload hx hb d_Lw_law_858 (lv_at hl 5 rfl) ?_
    refine lv_iconst (v := 3) hx hb d_Lw_law_860 (by decide) ?_
    refine lv_iadd hx hb d_Lw_law_861 ?_
    refine va_sld hx hb hX hbl hbA hS (i := (0 + 3)) (vin (by decide)) d_Lw_law_862 ?_
    refine lv_topi (fun x161 e160 => ?_)
    obtain rfl : x161 = xs 3 := by rw [e160]; exact congrArg xs (by decide)
    have hPc := hP.sub (ws' := [(mo, .inr (12, mdF mq mZ mQ 0 0 (nI 20) (nI 0)))]) [0] rfl
    have hDc := hD.sub (ws' := [(mo, .inr (12, mdF mq mZ mQ 0 0 (nI 20) (nI 0)))]) [0] (by decide) rfl
    have hFc := va_free (wc := [(mo, .inr (12, mdF mq mZ mQ 0 0 (nI 20) (nI 0)))]) hD hS hA [0] rfl
    refine va_calli (va_runV (C := "DoorServerModel") (As := [.long ((((xs 1).toInt64) <<< ((32 : Int32).toInt64 &&& 63)) ||| (((xs 2).toInt64) &&& 4294967295)), .int (xs 3)]) (rest := []) ⟨hx, hb, hml, hown, hg⟩ (b_reply l dC dI cT H.size mo mq mZ mQ 0 0 20 0 ((((xs 1).toInt64) <<< ((32 : Int32).toInt64 &&& 63)) ||| (((xs 2).toInt64) &&& 4294967295)) (xs 3) (h1)) (cwV 2 hg (gI (List.forall_mem_append.mpr ⟨List.forall_mem_cons.mpr ⟨k_1251, List.forall_mem_cons.mpr ⟨k_1252, List.forall_mem_cons.mpr ⟨k_1253, List.forall_mem_cons.mpr ⟨k_13, fun _ h => absurd h List.not_mem_nil⟩⟩⟩⟩, List.forall_mem_cons.mpr ⟨k_1254, fun _ h => h⟩⟩)) rfl rfl rfl (by decide +kernel) ⟨Nat.le_of_ble_eq_true rfl, Nat.le_of_ble_eq_true rfl⟩) ⟨fun a U g mk q => by obtain ⟨q0, q1, qP, qK, qD⟩ := q; exact ⟨q0, q1, qP, va_K.moved (u := U) (U := U.calling g mk a) (Vm.Alike.refl U.vm) qK, qD⟩, va_recv (q0 := 0) (ci := 12) hK hP rfl rfl, fun U hU hW => ⟨rfl, by rw [hU], by rw [hU]; exact hPc, va_K.moved hW.alike hK, hDc.weaken (fun _ _ _ _ => trivial)⟩⟩ rfl rfl hl.1 rfl (lv_room (Nat.le_of_ble_eq_true rfl)) d_Lw_law_863 ⟨Nat.le_of_ble_eq_true rfl, Nat.le_of_ble_eq_true rfl⟩) hS (fun q _ h => hFc q h) hFc (fun rv9 u t H1 locs ht hvm hw hB hz1 hk1 hS => ?_)
    try dsimp only at hw hB
    obtain ⟨hP1, hK1, hD1⟩ := hB
    rw [ht] at hP1
    generalize rv9 = r162 at hw ⊢
    obtain ⟨hP, hD⟩ := va_join (wr := []) (w1 := [(mo, .inr (12, mdF mq mZ mQ 1 0 (nI 20) (nI 0)))]) hP hD [0] [] rfl rfl (by decide) (by decide) hk1 hFc hP1 hD1
    have hw163 := hw
    clear hPc hDc hFc hz1 hk1 hP1 hK1 hD1
    generalize H1 = H at hP hS ⊢
    have hP : va_P (dC, dI) vcl [(mo, .inr (12, mdF mq mZ mQ 1 0 (nI 20) (nI 0)))] H := hP
    have hD : va_D A [(mo, .inr (12, mdF mq mZ mQ 1 0 (nI 20) (nI 0)))] := hD
    refine lv_istore (lv' := [(6, .int r162), (5, .int 1), (0, .ref b), (1, .ref ds), (2, .ref mo), (3, .ref ou), (4, .int 0)]) hx hb d_Lw_law_866 hl (by decide) rfl (fun ls hl => ?_)
    refine lv_aload_n hx hb d_Lw_law_868 rfl (lv_at hl 4 rfl) ?_
    have hPc := hP.sub (ws' := [(mo, .inr (12, mdF mq mZ mQ 1 0 (nI 20) (nI 0)))]) [0] rfl
    have hDc := hD.sub (ws' := [(mo, .inr (12, mdF mq mZ mQ 1 0 (nI 20) (nI 0)))]) [0] (by decide) rfl
    have hFc := va_free (wc := [(mo, .inr (12, mdF mq mZ mQ 1 0 (nI 20) (nI 0)))]) hD hS hA [0] rfl
    refine va_calli (va_runV (C := "DoorServerModel") (As := []) (rest := []) ⟨hx, hb, hml, hown, hg⟩ (m_thrown l dC dI cT H.size mo mq mZ mQ 1 0 20 0 ) (cwV 0 hg (gI (List.forall_mem_append.mpr ⟨List.forall_mem_cons.mpr ⟨k_1157, List.forall_mem_cons.mpr ⟨k_1158, List.forall_mem_cons.mpr ⟨k_1159, List.forall_mem_cons.mpr ⟨k_13, fun _ h => absurd h List.not_mem_nil⟩⟩⟩⟩, List.forall_mem_cons.mpr ⟨k_1160, fun _ h => h⟩⟩)) rfl rfl rfl (by decide +kernel) ⟨Nat.le_of_ble_eq_true rfl, Nat.le_of_ble_eq_true rfl⟩) ⟨fun a U g mk q => by obtain ⟨q0, q1, qP, qK, qD⟩ := q; exact ⟨q0, q1, qP, va_K.moved (u := U) (U := U.calling g mk a) (Vm.Alike.refl U.vm) qK, qD⟩, va_recv (q0 := 0) (ci := 12) hK hP rfl rfl, fun U hU hW => ⟨rfl, by rw [hU], by rw [hU]; exact hPc, va_K.moved hW.alike hK, hDc.weaken (fun _ _ _ _ => trivial)⟩⟩ rfl rfl hl.1 rfl (lv_room (Nat.le_of_ble_eq_true rfl)) d_Lw_law_869 ⟨Nat.le_of_ble_eq_true rfl, Nat.le_of_ble_eq_true rfl⟩) hS (fun q _ h => hFc q h) hFc (fun rv9 u t H1 locs ht hvm hw hB hz1 hk1 hS => ?_)
    try dsimp only at hw hB
    obtain ⟨hP1, hK1, hD1⟩ := hB
    rw [ht] at hP1
    obtain ⟨rfl, hw⟩ := hw
    obtain ⟨hP, hD⟩ := va_join (wr := []) (w1 := []) hP hD [0] [] rfl rfl (by decide) (by decide) hk1 hFc hP1 hD1
    have hw164 := hw
    clear hPc hDc hFc hz1 hk1 hP1 hK1 hD1
    generalize H1 = H at hP hS ⊢
    have hP : va_P (dC, dI) vcl [] H := hP
    have hD : va_D A [] := hD
    refine lv_iload hx hb d_Lw_law_872 (lv_at hl 1 rfl) ?_
    refine lv_icmp_eq (tgt := 879) hx hb d_Lw_law_874 (by decide) (fun hc165 => ?_) (fun hn9 => absurd (rfl) hn9)
    refine lv_iload hx hb d_Lw_law_879 (lv_at hl 1 rfl) ?_
    refine lv_if_ne (tgt := 896) hx hb d_Lw_law_881 (by decide) (fun hc166 => ?_) (fun hn9 => absurd hn9 (by decide))
    refine lv_goto (tgt := 1363) hx hb d_Lw_law_896 (by decide) ?_
    refine W.widen (k := 900) (n := 33000) (Nat.le_of_ble_eq_true rfl) (Nat.le_of_ble_eq_true rfl) ?_
    have hl9 : lv_has ls 8 [(0, .ref b), (4, .int 0)] := lv_sub hl [2, 6] rfl
    exact kk _ _ _ hS hl9
  have h1a : ¬ xs 3 < 1 := fun h9 => h1 (Or.inl h9)
  have h1b : ¬ 60 < xs 3 := fun h9 => h1 (Or.inr h9)
  obtain ⟨k, hk1, hk2, he⟩ := rng_1 (M := 60) (n := 60) (by decide) (by decide) h1a h1b
  have hP := hP.sub (ws' := [(ds, .inr (0, [.ref dr, .ref sv])), (sv, .inr (5, [.ref se, .ref pw, .ref g0, .ref ty, .ref an, .ref aw, .ref ts, .ref ss, .ref rq, .int 0, .int 0, .int 0])), (an, .inr (2, [.ref ar, .int 0])), (ar, .inl ((cT 0), 72, .inl (fun _ => 0))), (mo, .inr (12, mdF mq mZ mQ 0 0 (nI 20) (nI 0))), (ou, .inl ((cT 1), 1, .inr (.inl fo)))]) [0, 3, 15, 16, 22, 32] rfl
  have hD := hD.sub (ws' := [(ds, .inr (0, [.ref dr, .ref sv])), (sv, .inr (5, [.ref se, .ref pw, .ref g0, .ref ty, .ref an, .ref aw, .ref ts, .ref ss, .ref rq, .int 0, .int 0, .int 0])), (an, .inr (2, [.ref ar, .int 0])), (ar, .inl ((cT 0), 72, .inl (fun _ => 0))), (mo, .inr (12, mdF mq mZ mQ 0 0 (nI 20) (nI 0))), (ou, .inl ((cT 1), 1, .inr (.inl fo)))]) [0, 3, 15, 16, 22, 32] (by decide) rfl
  refine lv_aload_n hx hb d_Lw_law_799 rfl (lv_at hl 1 rfl) ?_
  refine lv_aload_n hx hb d_Lw_law_800 rfl (lv_at hl 0 rfl) ?_
  refine lv_iload hx hb d_Lw_law_801 (lv_at hl 4 rfl) ?_
  refine lv_iconst (v := 1) hx hb d_Lw_law_803 (by decide) ?_
  refine lv_iadd hx hb d_Lw_law_804 ?_
  refine va_sld hx hb hX hbl hbA hS (i := (0 + 1)) (vin (by decide)) d_Lw_law_805 ?_
  refine lv_topi (fun x168 e167 => ?_)
  obtain rfl : x168 = xs 1 := by rw [e167]; exact congrArg xs (by decide)
  refine lv_i2l (v := (xs 1).toInt64) hx hb d_Lw_law_806 rfl ?_
  refine lv_bipush (v := 32) hx hb d_Lw_law_807 (by decide) ?_
  refine lv_lshl (v := ((xs 1).toInt64) <<< ((32 : Int32).toInt64 &&& 63)) hx hb d_Lw_law_809 rfl ?_
  refine lv_aload_n hx hb d_Lw_law_810 rfl (lv_at hl 0 rfl) ?_
  refine lv_iload hx hb d_Lw_law_811 (lv_at hl 4 rfl) ?_
  refine lv_iconst (v := 2) hx hb d_Lw_law_813 (by decide) ?_
  refine lv_iadd hx hb d_Lw_law_814 ?_
  refine va_sld hx hb hX hbl hbA hS (i := (0 + 2)) (vin (by decide)) d_Lw_law_815 ?_
  refine lv_topi (fun x170 e169 => ?_)
  obtain rfl : x170 = xs 2 := by rw [e169]; exact congrArg xs (by decide)
  refine lv_i2l (v := (xs 2).toInt64) hx hb d_Lw_law_816 rfl ?_
  refine lv_ldc2 (v := 4294967295) hx hb hown (hg _ k_1418) d_Lw_law_817 ?_
  refine lv_land hx hb d_Lw_law_820 ?_
  refine lv_lor hx hb d_Lw_law_821 ?_
  refine lv_aload_n hx hb d_Lw_law_822 rfl (lv_at hl 0 rfl) ?_
  refine lv_iload hx hb d_Lw_law_823 (lv_at hl 4 rfl) ?_
  refine lv_iconst (v := 3) hx hb d_Lw_law_825 (by decide) ?_
  refine lv_iadd hx hb d_Lw_law_826 ?_
  refine va_sld hx hb hX hbl hbA hS (i := (0 + 3)) (vin (by decide)) d_Lw_law_827 ?_
  refine lv_topi (fun x172 e171 => ?_)
  obtain rfl : x172 = nI k := by rw [e171]; exact (congrArg xs (by decide)).trans (he)
  refine lv_aload_n hx hb d_Lw_law_828 rfl (lv_at hl 3 rfl) ?_
  have hPc := hP.sub (ws' := [(ds, .inr (0, [.ref dr, .ref sv])), (sv, .inr (5, [.ref se, .ref pw, .ref g0, .ref ty, .ref an, .ref aw, .ref ts, .ref ss, .ref rq, .int 0, .int 0, .int 0])), (an, .inr (2, [.ref ar, .int 0])), (ar, .inl ((cT 0), 72, .inl (fun _ => 0))), (ou, .inl ((cT 1), 1, .inr (.inl fo)))]) [0, 1, 2, 3, 5] rfl
  have hDc := hD.sub (ws' := [(ds, .inr (0, [.ref dr, .ref sv])), (sv, .inr (5, [.ref se, .ref pw, .ref g0, .ref ty, .ref an, .ref aw, .ref ts, .ref ss, .ref rq, .int 0, .int 0, .int 0])), (an, .inr (2, [.ref ar, .int 0])), (ar, .inl ((cT 0), 72, .inl (fun _ => 0))), (ou, .inl ((cT 1), 1, .inr (.inl fo)))]) [0, 1, 2, 3, 5] (by decide) rfl
  have hFc := va_free (wc := [(ds, .inr (0, [.ref dr, .ref sv])), (sv, .inr (5, [.ref se, .ref pw, .ref g0, .ref ty, .ref an, .ref aw, .ref ts, .ref ss, .ref rq, .int 0, .int 0, .int 0])), (an, .inr (2, [.ref ar, .int 0])), (ar, .inl ((cT 0), 72, .inl (fun _ => 0))), (ou, .inl ((cT 1), 1, .inr (.inl fo)))]) hD hS hA [0, 1, 2, 3, 5] rfl
  refine va_calli (xw_runS (As := [.ref ds, .long ((((xs 1).toInt64) <<< ((32 : Int32).toInt64 &&& 63)) ||| (((xs 2).toInt64) &&& 4294967295)), .int (nI k), .ref ou]) (rest := []) ⟨hx, hb, hml, hown, hg⟩ (l_reply l dC dI cT H.size ds dr sv rr g0 se pw ty an aw ts ss rq 0 0 0 ar (fun _ => 0) ((((xs 1).toInt64) <<< ((32 : Int32).toInt64 &&& 63)) ||| (((xs 2).toInt64) &&& 4294967295)) k ou fo (hk1) (hk2) (rfl)) rfl (gI (List.forall_mem_cons.mpr ⟨k_619, fun _ h => h⟩)) (hg _ k_617) (hg _ k_618) (hg _ k_0) rfl rfl (n := 4) (by decide +kernel) ⟨Nat.le_of_ble_eq_true rfl, Nat.le_of_ble_eq_true rfl⟩ ⟨fun a U g mk q => by obtain ⟨q0, q1, qP, qK, qD⟩ := q; exact ⟨q0, q1, qP, va_K.moved (u := U) (U := U.calling g mk a) (Vm.Alike.refl U.vm) qK, qD⟩, fun U hU hW => ⟨rfl, by rw [hU], by rw [hU]; exact hPc, va_K.moved hW.alike hK, hDc.weaken (fun _ _ _ _ => trivial)⟩⟩ rfl rfl hl.1 rfl (lv_room (Nat.le_of_ble_eq_true rfl)) d_Lw_law_829 ⟨Nat.le_of_ble_eq_true rfl, Nat.le_of_ble_eq_true rfl⟩) hS (fun q _ h => hFc q h) hFc (fun rv9 u t H1 locs ht hvm hw hB hz1 hk1 hS => ?_)
  try dsimp only at hw hB
  obtain ⟨hP1, hK1, hD1⟩ := hB
  rw [ht] at hP1
  obtain ⟨rfl, hw⟩ := hw
  obtain ⟨hP, hD⟩ := va_join (wr := [(mo, .inr (12, mdF mq mZ mQ 0 0 (nI 20) (nI 0)))]) (w1 := [(ou, .inl ((cT 1), 1, .inr (.inl (vp_updL fo (0 : Int32).toNatClampNeg (((-1) : Int32).toInt64)))))]) hP hD [0, 1, 2, 3, 5] [4] rfl rfl (by decide) (by decide) hk1 hFc hP1 hD1
  have hw173 := hw
  clear hPc hDc hFc hz1 hk1 hP1 hK1 hD1
  generalize H1 = H at hP hS ⊢
  have hP : va_P (dC, dI) vcl [(mo, .inr (12, mdF mq mZ mQ 0 0 (nI 20) (nI 0))), (ou, .inl ((cT 1), 1, .inr (.inl (vp_updL fo (0 : Int32).toNatClampNeg (((-1) : Int32).toInt64)))))] H := hP
  have hD : va_D A [(mo, .inr (12, mdF mq mZ mQ 0 0 (nI 20) (nI 0))), (ou, .inl ((cT 1), 1, .inr (.inl (vp_updL fo (0 : Int32).toNatClampNeg (((-1) : Int32).toInt64)))))] := hD
  refine lv_istore (lv' := [(5, .int 0), (0, .ref b), (1, .ref ds), (2, .ref mo), (3, .ref ou), (4, .int 0)]) hx hb d_Lw_law_832 hl (by decide) rfl (fun ls hl => ?_)
  refine lv_aload_n hx hb d_Lw_law_834 rfl (lv_at hl 3 rfl) ?_
  refine lv_aload_n hx hb d_Lw_law_835 rfl (lv_at hl 1 rfl) ?_
  refine lv_iload hx hb d_Lw_law_836 (lv_at hl 5 rfl) ?_
  refine lv_iconst (v := 1) hx hb d_Lw_law_838 (by decide) ?_
  refine lv_iadd hx hb d_Lw_law_839 ?_
  refine va_sld hx hb hX hbl hbA hS (i := (0 + 1)) (vin (by decide)) d_Lw_law_840 ?_
  refine lv_topi (fun x175 e174 => ?_)
  obtain rfl : x175 = xs 1 := by rw [e174]; exact congrArg xs (by decide)
  refine lv_i2l (v := (xs 1).toInt64) hx hb d_Lw_law_841 rfl ?_
  refine lv_bipush (v := 32) hx hb d_Lw_law_842 (by decide) ?_
  refine lv_lshl (v := ((xs 1).toInt64) <<< ((32 : Int32).toInt64 &&& 63)) hx hb d_Lw_law_844 rfl ?_
  refine lv_aload_n hx hb d_Lw_law_845 rfl (lv_at hl 1 rfl) ?_
  refine lv_iload hx hb d_Lw_law_846 (lv_at hl 5 rfl) ?_
  refine lv_iconst (v := 2) hx hb d_Lw_law_848 (by decide) ?_
  refine lv_iadd hx hb d_Lw_law_849 ?_
  refine va_sld hx hb hX hbl hbA hS (i := (0 + 2)) (vin (by decide)) d_Lw_law_850 ?_
  refine lv_topi (fun x177 e176 => ?_)
  obtain rfl : x177 = xs 2 := by rw [e176]; exact congrArg xs (by decide)
  refine lv_i2l (v := (xs 2).toInt64) hx hb d_Lw_law_851 rfl ?_
  refine lv_ldc2 (v := 4294967295) hx hb hown (hg _ k_1418) d_Lw_law_852 ?_
  refine lv_land hx hb d_Lw_law_855 ?_
  refine lv_lor hx hb d_Lw_law_856 ?_
  refine lv_aload_n hx hb d_Lw_law_857 rfl (lv_at hl 1 rfl) ?_
  refine lv_iload hx hb d_Lw_law_858 (lv_at hl 5 rfl) ?_
  refine lv_iconst (v := 3) hx hb d_Lw_law_860 (by decide) ?_
  refine lv_iadd hx hb d_Lw_law_861 ?_
  refine va_sld hx hb hX hbl hbA hS (i := (0 + 3)) (vin (by decide)) d_Lw_law_862 ?_
  refine lv_topi (fun x179 e178 => ?_)
  obtain rfl : x179 = nI k := by rw [e178]; exact (congrArg xs (by decide)).trans (he)
  have hPc := hP.sub (ws' := [(mo, .inr (12, mdF mq mZ mQ 0 0 (nI 20) (nI 0)))]) [0] rfl
  have hDc := hD.sub (ws' := [(mo, .inr (12, mdF mq mZ mQ 0 0 (nI 20) (nI 0)))]) [0] (by decide) rfl
  have hFc := va_free (wc := [(mo, .inr (12, mdF mq mZ mQ 0 0 (nI 20) (nI 0)))]) hD hS hA [0] rfl
  refine va_calli (va_runV (C := "DoorServerModel") (As := [.long ((((xs 1).toInt64) <<< ((32 : Int32).toInt64 &&& 63)) ||| (((xs 2).toInt64) &&& 4294967295)), .int (nI k)]) (rest := []) ⟨hx, hb, hml, hown, hg⟩ (o_reply l dC dI cT H.size mo mq mZ mQ 0 0 20 0 ((((xs 1).toInt64) <<< ((32 : Int32).toInt64 &&& 63)) ||| (((xs 2).toInt64) &&& 4294967295)) k (hz.1) (hk1) (hk2)) (cwV 2 hg (gI (List.forall_mem_append.mpr ⟨List.forall_mem_cons.mpr ⟨k_1251, List.forall_mem_cons.mpr ⟨k_1252, List.forall_mem_cons.mpr ⟨k_1253, List.forall_mem_cons.mpr ⟨k_13, fun _ h => absurd h List.not_mem_nil⟩⟩⟩⟩, List.forall_mem_cons.mpr ⟨k_1254, fun _ h => h⟩⟩)) rfl rfl rfl (by decide +kernel) ⟨Nat.le_of_ble_eq_true rfl, Nat.le_of_ble_eq_true rfl⟩) ⟨fun a U g mk q => by obtain ⟨q0, q1, qP, qK, qD⟩ := q; exact ⟨q0, q1, qP, va_K.moved (u := U) (U := U.calling g mk a) (Vm.Alike.refl U.vm) qK, qD⟩, va_recv (q0 := 0) (ci := 12) hK hP rfl rfl, fun U hU hW => ⟨rfl, by rw [hU], by rw [hU]; exact hPc, va_K.moved hW.alike hK, hDc.weaken (fun _ _ _ _ => trivial)⟩⟩ rfl rfl hl.1 rfl (lv_room (Nat.le_of_ble_eq_true rfl)) d_Lw_law_863 ⟨Nat.le_of_ble_eq_true rfl, Nat.le_of_ble_eq_true rfl⟩) hS (fun q _ h => hFc q h) hFc (fun rv9 u t H1 locs ht hvm hw hB hz1 hk1 hS => ?_)
  try dsimp only at hw hB
  obtain ⟨hP1, hK1, hD1⟩ := hB
  rw [ht] at hP1
  obtain ⟨rfl, hw⟩ := hw
  obtain ⟨hP, hD⟩ := va_join (wr := [(ou, .inl ((cT 1), 1, .inr (.inl (vp_updL fo (0 : Int32).toNatClampNeg (((-1) : Int32).toInt64)))))]) (w1 := [(mo, .inr (12, mdF mq mZ mQ 0 0 (nI 20) (nI 0)))]) hP hD [0] [1] rfl rfl (by decide) (by decide) hk1 hFc hP1 hD1
  have hw180 := hw
  clear hPc hDc hFc hz1 hk1 hP1 hK1 hD1
  generalize H1 = H at hP hS ⊢
  have hP : va_P (dC, dI) vcl [(ou, .inl ((cT 1), 1, .inr (.inl (vp_updL fo (0 : Int32).toNatClampNeg (((-1) : Int32).toInt64))))), (mo, .inr (12, mdF mq mZ mQ 0 0 (nI 20) (nI 0)))] H := hP
  have hD : va_D A [(ou, .inl ((cT 1), 1, .inr (.inl (vp_updL fo (0 : Int32).toNatClampNeg (((-1) : Int32).toInt64))))), (mo, .inr (12, mdF mq mZ mQ 0 0 (nI 20) (nI 0)))] := hD
  refine lv_istore (lv' := [(6, .int (-1)), (5, .int 0), (0, .ref b), (1, .ref ds), (2, .ref mo), (3, .ref ou), (4, .int 0)]) hx hb d_Lw_law_866 hl (by decide) rfl (fun ls hl => ?_)
  refine lv_aload_n hx hb d_Lw_law_868 rfl (lv_at hl 4 rfl) ?_
  have hPc := hP.sub (ws' := [(mo, .inr (12, mdF mq mZ mQ 0 0 (nI 20) (nI 0)))]) [1] rfl
  have hDc := hD.sub (ws' := [(mo, .inr (12, mdF mq mZ mQ 0 0 (nI 20) (nI 0)))]) [1] (by decide) rfl
  have hFc := va_free (wc := [(mo, .inr (12, mdF mq mZ mQ 0 0 (nI 20) (nI 0)))]) hD hS hA [1] rfl
  refine va_calli (va_runV (C := "DoorServerModel") (As := []) (rest := []) ⟨hx, hb, hml, hown, hg⟩ (m_thrown l dC dI cT H.size mo mq mZ mQ 0 0 20 0 ) (cwV 0 hg (gI (List.forall_mem_append.mpr ⟨List.forall_mem_cons.mpr ⟨k_1157, List.forall_mem_cons.mpr ⟨k_1158, List.forall_mem_cons.mpr ⟨k_1159, List.forall_mem_cons.mpr ⟨k_13, fun _ h => absurd h List.not_mem_nil⟩⟩⟩⟩, List.forall_mem_cons.mpr ⟨k_1160, fun _ h => h⟩⟩)) rfl rfl rfl (by decide +kernel) ⟨Nat.le_of_ble_eq_true rfl, Nat.le_of_ble_eq_true rfl⟩) ⟨fun a U g mk q => by obtain ⟨q0, q1, qP, qK, qD⟩ := q; exact ⟨q0, q1, qP, va_K.moved (u := U) (U := U.calling g mk a) (Vm.Alike.refl U.vm) qK, qD⟩, va_recv (q0 := 1) (ci := 12) hK hP rfl rfl, fun U hU hW => ⟨rfl, by rw [hU], by rw [hU]; exact hPc, va_K.moved hW.alike hK, hDc.weaken (fun _ _ _ _ => trivial)⟩⟩ rfl rfl hl.1 rfl (lv_room (Nat.le_of_ble_eq_true rfl)) d_Lw_law_869 ⟨Nat.le_of_ble_eq_true rfl, Nat.le_of_ble_eq_true rfl⟩) hS (fun q _ h => hFc q h) hFc (fun rv9 u t H1 locs ht hvm hw hB hz1 hk1 hS => ?_)
  try dsimp only at hw hB
  obtain ⟨hP1, hK1, hD1⟩ := hB
  rw [ht] at hP1
  obtain ⟨rfl, hw⟩ := hw
  obtain ⟨hP, hD⟩ := va_join (wr := [(ou, .inl ((cT 1), 1, .inr (.inl (vp_updL fo (0 : Int32).toNatClampNeg (((-1) : Int32).toInt64)))))]) (w1 := []) hP hD [1] [0] rfl rfl (by decide) (by decide) hk1 hFc hP1 hD1
  have hw181 := hw
  clear hPc hDc hFc hz1 hk1 hP1 hK1 hD1
  generalize H1 = H at hP hS ⊢
  have hP : va_P (dC, dI) vcl [(ou, .inl ((cT 1), 1, .inr (.inl (vp_updL fo (0 : Int32).toNatClampNeg (((-1) : Int32).toInt64)))))] H := hP
  have hD : va_D A [(ou, .inl ((cT 1), 1, .inr (.inl (vp_updL fo (0 : Int32).toNatClampNeg (((-1) : Int32).toInt64)))))] := hD
  refine lv_iload hx hb d_Lw_law_872 (lv_at hl 1 rfl) ?_
  refine lv_icmp_eq (tgt := 879) hx hb d_Lw_law_874 (by decide) (fun hc182 => ?_) (fun hn9 => absurd (rfl) hn9)
  refine lv_iload hx hb d_Lw_law_879 (lv_at hl 1 rfl) ?_
  refine lv_if_ne (tgt := 896) hx hb d_Lw_law_881 (by decide) (fun hn9 => absurd hn9 (fun h => h rfl)) (fun hc183 => ?_)
  refine lv_aload_n hx hb d_Lw_law_884 rfl (lv_at hl 5 rfl) ?_
  refine lv_iconst (v := 0) hx hb d_Lw_law_885 (by decide) ?_
  refine va_lald hx hb hK hP 0 1 rfl rfl (i := 0) (vp_in_nI (n := 0) (N := 1) (by decide) (by decide)) d_Lw_law_886 ?_
  refine lv_topl (fun x185 e184 => ?_)
  obtain rfl : x185 = (((-1) : Int32).toInt64) := by rw [e184]; exact updL_eq
  refine lv_iload hx hb d_Lw_law_887 (lv_at hl 0 rfl) ?_
  refine lv_i2l (v := ((-1) : Int32).toInt64) hx hb d_Lw_law_889 rfl ?_
  refine W.lcmp hx hb d_Lw_law_890 ?_
  refine lv_if_eq (tgt := 896) hx hb d_Lw_law_891 (by decide) (fun hc186 => ?_) (fun hn9 => absurd (cmp_e (rfl)) hn9)
  refine lv_goto (tgt := 1363) hx hb d_Lw_law_896 (by decide) ?_
  refine W.widen (k := 900) (n := 33000) (Nat.le_of_ble_eq_true rfl) (Nat.le_of_ble_eq_true rfl) ?_
  have hl9 : lv_has ls 8 [(0, .ref b), (4, .int 0)] := lv_sub hl [2, 6] rfl
  exact kk _ _ _ hS hl9
