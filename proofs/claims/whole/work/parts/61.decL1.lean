theorem d_law_law_472 : decode code 472 = .ok (.aload_n 0, 1) := by decide +kernel
theorem d_law_law_473 : decode code 473 = .ok (.iload_n 3, 1) := by decide +kernel
theorem d_law_law_474 : decode code 474 = .ok (.iconst (1), 1) := by decide +kernel
theorem d_law_law_475 : decode code 475 = .ok (.iadd, 1) := by decide +kernel
theorem d_law_law_476 : decode code 476 = .ok (.iaload, 1) := by decide +kernel
theorem d_law_law_477 : decode code 477 = .ok (.aload_n 0, 1) := by decide +kernel
theorem d_law_law_478 : decode code 478 = .ok (.iload_n 3, 1) := by decide +kernel
theorem d_law_law_479 : decode code 479 = .ok (.iconst (2), 1) := by decide +kernel
theorem d_law_law_480 : decode code 480 = .ok (.iadd, 1) := by decide +kernel
theorem d_law_law_481 : decode code 481 = .ok (.iaload, 1) := by decide +kernel
theorem d_law_law_482 : decode code 482 = .ok (.aload_n 0, 1) := by decide +kernel
theorem d_law_law_483 : decode code 483 = .ok (.iload_n 3, 1) := by decide +kernel
theorem d_law_law_484 : decode code 484 = .ok (.iconst (3), 1) := by decide +kernel
theorem d_law_law_485 : decode code 485 = .ok (.iadd, 1) := by decide +kernel
theorem d_law_law_486 : decode code 486 = .ok (.iaload, 1) := by decide +kernel
theorem d_law_law_487 : decode code 487 = .ok (.aload_n 0, 1) := by decide +kernel
theorem d_law_law_488 : decode code 488 = .ok (.iload_n 3, 1) := by decide +kernel
theorem d_law_law_489 : decode code 489 = .ok (.iconst (4), 1) := by decide +kernel
theorem d_law_law_490 : decode code 490 = .ok (.iadd, 1) := by decide +kernel
theorem d_law_law_491 : decode code 491 = .ok (.iaload, 1) := by decide +kernel
theorem d_law_law_492 : decode code 492 = .ok (.aload_n 0, 1) := by decide +kernel
theorem d_law_law_493 : decode code 493 = .ok (.iload_n 3, 1) := by decide +kernel
theorem d_law_law_494 : decode code 494 = .ok (.iconst (5), 1) := by decide +kernel
theorem d_law_law_495 : decode code 495 = .ok (.iadd, 1) := by decide +kernel
theorem d_law_law_496 : decode code 496 = .ok (.iaload, 1) := by decide +kernel
theorem d_law_law_497 : decode code 497 = .ok (.invokevirtual 62, 3) := by decide +kernel
theorem d_law_law_500 : decode code 500 = .ok (.if_icmp .eq (295), 3) := by decide +kernel
theorem d_law_law_503 : decode code 503 = .ok (.iconst (0), 1) := by decide +kernel
theorem d_law_law_504 : decode code 504 = .ok (.ireturn, 1) := by decide +kernel
theorem d_law_law_505 : decode code 505 = .ok (.aload_n 1, 1) := by decide +kernel
theorem d_law_law_506 : decode code 506 = .ok (.aload_n 0, 1) := by decide +kernel
theorem d_law_law_507 : decode code 507 = .ok (.iload_n 3, 1) := by decide +kernel
theorem d_law_law_508 : decode code 508 = .ok (.iconst (1), 1) := by decide +kernel
theorem d_law_law_509 : decode code 509 = .ok (.iadd, 1) := by decide +kernel
theorem d_law_law_510 : decode code 510 = .ok (.iaload, 1) := by decide +kernel
theorem d_law_law_511 : decode code 511 = .ok (.aload_n 0, 1) := by decide +kernel
theorem d_law_law_512 : decode code 512 = .ok (.iload_n 3, 1) := by decide +kernel
theorem d_law_law_513 : decode code 513 = .ok (.iconst (2), 1) := by decide +kernel
theorem d_law_law_514 : decode code 514 = .ok (.iadd, 1) := by decide +kernel
theorem d_law_law_515 : decode code 515 = .ok (.iaload, 1) := by decide +kernel
theorem d_law_law_516 : decode code 516 = .ok (.aload_n 0, 1) := by decide +kernel
theorem d_law_law_517 : decode code 517 = .ok (.iload_n 3, 1) := by decide +kernel
theorem d_law_law_518 : decode code 518 = .ok (.iconst (3), 1) := by decide +kernel
theorem d_law_law_519 : decode code 519 = .ok (.iadd, 1) := by decide +kernel
theorem d_law_law_520 : decode code 520 = .ok (.iaload, 1) := by decide +kernel
theorem d_law_law_521 : decode code 521 = .ok (.invokevirtual 63, 3) := by decide +kernel
theorem d_law_law_524 : decode code 524 = .ok (.aload_n 2, 1) := by decide +kernel
theorem d_law_law_525 : decode code 525 = .ok (.aload_n 0, 1) := by decide +kernel
theorem d_law_law_526 : decode code 526 = .ok (.iload_n 3, 1) := by decide +kernel
theorem d_law_law_527 : decode code 527 = .ok (.iconst (1), 1) := by decide +kernel
theorem d_law_law_528 : decode code 528 = .ok (.iadd, 1) := by decide +kernel
theorem d_law_law_529 : decode code 529 = .ok (.iaload, 1) := by decide +kernel
theorem d_law_law_530 : decode code 530 = .ok (.aload_n 0, 1) := by decide +kernel
theorem d_law_law_531 : decode code 531 = .ok (.iload_n 3, 1) := by decide +kernel
theorem d_law_law_532 : decode code 532 = .ok (.iconst (2), 1) := by decide +kernel
theorem d_law_law_533 : decode code 533 = .ok (.iadd, 1) := by decide +kernel
theorem d_law_law_534 : decode code 534 = .ok (.iaload, 1) := by decide +kernel
theorem d_law_law_535 : decode code 535 = .ok (.aload_n 0, 1) := by decide +kernel
theorem d_law_law_536 : decode code 536 = .ok (.iload_n 3, 1) := by decide +kernel
theorem d_law_law_537 : decode code 537 = .ok (.iconst (3), 1) := by decide +kernel
theorem d_law_law_538 : decode code 538 = .ok (.iadd, 1) := by decide +kernel
theorem d_law_law_539 : decode code 539 = .ok (.iaload, 1) := by decide +kernel
theorem d_law_law_540 : decode code 540 = .ok (.invokevirtual 66, 3) := by decide +kernel
theorem d_law_law_543 : decode code 543 = .ok (.if_icmp .eq (252), 3) := by decide +kernel
theorem d_law_law_546 : decode code 546 = .ok (.iconst (0), 1) := by decide +kernel
theorem d_law_law_547 : decode code 547 = .ok (.ireturn, 1) := by decide +kernel
theorem d_law_law_548 : decode code 548 = .ok (.aload_n 1, 1) := by decide +kernel
theorem d_law_law_549 : decode code 549 = .ok (.aload_n 0, 1) := by decide +kernel
theorem d_law_law_550 : decode code 550 = .ok (.iload_n 3, 1) := by decide +kernel
theorem d_law_law_551 : decode code 551 = .ok (.iconst (1), 1) := by decide +kernel
theorem d_law_law_552 : decode code 552 = .ok (.iadd, 1) := by decide +kernel
theorem d_law_law_553 : decode code 553 = .ok (.iaload, 1) := by decide +kernel
theorem d_law_law_554 : decode code 554 = .ok (.aload_n 0, 1) := by decide +kernel
theorem d_law_law_555 : decode code 555 = .ok (.iload_n 3, 1) := by decide +kernel
theorem d_law_law_556 : decode code 556 = .ok (.iconst (2), 1) := by decide +kernel
theorem d_law_law_557 : decode code 557 = .ok (.iadd, 1) := by decide +kernel
theorem d_law_law_558 : decode code 558 = .ok (.iaload, 1) := by decide +kernel
theorem d_law_law_559 : decode code 559 = .ok (.aload_n 0, 1) := by decide +kernel
theorem d_law_law_560 : decode code 560 = .ok (.iload_n 3, 1) := by decide +kernel
theorem d_law_law_561 : decode code 561 = .ok (.iconst (3), 1) := by decide +kernel
theorem d_law_law_562 : decode code 562 = .ok (.iadd, 1) := by decide +kernel
theorem d_law_law_563 : decode code 563 = .ok (.iaload, 1) := by decide +kernel
theorem d_law_law_564 : decode code 564 = .ok (.invokevirtual 67, 3) := by decide +kernel
theorem d_law_law_567 : decode code 567 = .ok (.aload_n 2, 1) := by decide +kernel
theorem d_law_law_568 : decode code 568 = .ok (.aload_n 0, 1) := by decide +kernel
theorem d_law_law_569 : decode code 569 = .ok (.iload_n 3, 1) := by decide +kernel
theorem d_law_law_570 : decode code 570 = .ok (.iconst (1), 1) := by decide +kernel
theorem d_law_law_571 : decode code 571 = .ok (.iadd, 1) := by decide +kernel
theorem d_law_law_572 : decode code 572 = .ok (.iaload, 1) := by decide +kernel
theorem d_law_law_573 : decode code 573 = .ok (.aload_n 0, 1) := by decide +kernel
theorem d_law_law_574 : decode code 574 = .ok (.iload_n 3, 1) := by decide +kernel
theorem d_law_law_575 : decode code 575 = .ok (.iconst (2), 1) := by decide +kernel
theorem d_law_law_576 : decode code 576 = .ok (.iadd, 1) := by decide +kernel
theorem d_law_law_577 : decode code 577 = .ok (.iaload, 1) := by decide +kernel
theorem d_law_law_578 : decode code 578 = .ok (.aload_n 0, 1) := by decide +kernel
theorem d_law_law_579 : decode code 579 = .ok (.iload_n 3, 1) := by decide +kernel
theorem d_law_law_580 : decode code 580 = .ok (.iconst (3), 1) := by decide +kernel
theorem d_law_law_581 : decode code 581 = .ok (.iadd, 1) := by decide +kernel
theorem d_law_law_582 : decode code 582 = .ok (.iaload, 1) := by decide +kernel
theorem d_law_law_583 : decode code 583 = .ok (.invokevirtual 70, 3) := by decide +kernel
theorem d_law_law_586 : decode code 586 = .ok (.if_icmp .eq (209), 3) := by decide +kernel
theorem d_law_law_589 : decode code 589 = .ok (.iconst (0), 1) := by decide +kernel
theorem d_law_law_590 : decode code 590 = .ok (.ireturn, 1) := by decide +kernel
theorem d_law_law_591 : decode code 591 = .ok (.aload_n 1, 1) := by decide +kernel
theorem d_law_law_592 : decode code 592 = .ok (.aload_n 0, 1) := by decide +kernel
theorem d_law_law_593 : decode code 593 = .ok (.iload_n 3, 1) := by decide +kernel
theorem d_law_law_594 : decode code 594 = .ok (.iconst (1), 1) := by decide +kernel
theorem d_law_law_595 : decode code 595 = .ok (.iadd, 1) := by decide +kernel
theorem d_law_law_596 : decode code 596 = .ok (.iaload, 1) := by decide +kernel
theorem d_law_law_597 : decode code 597 = .ok (.aload_n 0, 1) := by decide +kernel
theorem d_law_law_598 : decode code 598 = .ok (.iload_n 3, 1) := by decide +kernel
theorem d_law_law_599 : decode code 599 = .ok (.iconst (2), 1) := by decide +kernel
theorem d_law_law_600 : decode code 600 = .ok (.iadd, 1) := by decide +kernel
theorem d_law_law_601 : decode code 601 = .ok (.iaload, 1) := by decide +kernel
theorem d_law_law_602 : decode code 602 = .ok (.aload_n 0, 1) := by decide +kernel
theorem d_law_law_603 : decode code 603 = .ok (.iload_n 3, 1) := by decide +kernel
theorem d_law_law_604 : decode code 604 = .ok (.iconst (3), 1) := by decide +kernel
theorem d_law_law_605 : decode code 605 = .ok (.iadd, 1) := by decide +kernel
theorem d_law_law_606 : decode code 606 = .ok (.iaload, 1) := by decide +kernel
theorem d_law_law_607 : decode code 607 = .ok (.invokevirtual 71, 3) := by decide +kernel
theorem d_law_law_610 : decode code 610 = .ok (.aload_n 2, 1) := by decide +kernel
theorem d_law_law_611 : decode code 611 = .ok (.aload_n 0, 1) := by decide +kernel
theorem d_law_law_612 : decode code 612 = .ok (.iload_n 3, 1) := by decide +kernel
theorem d_law_law_613 : decode code 613 = .ok (.iconst (1), 1) := by decide +kernel
theorem d_law_law_614 : decode code 614 = .ok (.iadd, 1) := by decide +kernel
theorem d_law_law_615 : decode code 615 = .ok (.iaload, 1) := by decide +kernel
theorem d_law_law_616 : decode code 616 = .ok (.aload_n 0, 1) := by decide +kernel
theorem d_law_law_617 : decode code 617 = .ok (.iload_n 3, 1) := by decide +kernel
theorem d_law_law_618 : decode code 618 = .ok (.iconst (2), 1) := by decide +kernel
theorem d_law_law_619 : decode code 619 = .ok (.iadd, 1) := by decide +kernel
theorem d_law_law_620 : decode code 620 = .ok (.iaload, 1) := by decide +kernel
theorem d_law_law_621 : decode code 621 = .ok (.aload_n 0, 1) := by decide +kernel
theorem d_law_law_622 : decode code 622 = .ok (.iload_n 3, 1) := by decide +kernel
theorem d_law_law_623 : decode code 623 = .ok (.iconst (3), 1) := by decide +kernel
theorem d_law_law_624 : decode code 624 = .ok (.iadd, 1) := by decide +kernel
theorem d_law_law_625 : decode code 625 = .ok (.iaload, 1) := by decide +kernel
theorem d_law_law_626 : decode code 626 = .ok (.invokevirtual 74, 3) := by decide +kernel
theorem d_law_law_629 : decode code 629 = .ok (.if_icmp .eq (166), 3) := by decide +kernel
theorem d_law_law_632 : decode code 632 = .ok (.iconst (0), 1) := by decide +kernel
theorem d_law_law_633 : decode code 633 = .ok (.ireturn, 1) := by decide +kernel
theorem d_law_law_634 : decode code 634 = .ok (.aload_n 1, 1) := by decide +kernel
theorem d_law_law_635 : decode code 635 = .ok (.aload_n 0, 1) := by decide +kernel
theorem d_law_law_636 : decode code 636 = .ok (.iload_n 3, 1) := by decide +kernel
theorem d_law_law_637 : decode code 637 = .ok (.iconst (1), 1) := by decide +kernel
theorem d_law_law_638 : decode code 638 = .ok (.iadd, 1) := by decide +kernel
theorem d_law_law_639 : decode code 639 = .ok (.iaload, 1) := by decide +kernel
theorem d_law_law_640 : decode code 640 = .ok (.invokevirtual 75, 3) := by decide +kernel
theorem d_law_law_643 : decode code 643 = .ok (.aload_n 2, 1) := by decide +kernel
theorem d_law_law_644 : decode code 644 = .ok (.aload_n 0, 1) := by decide +kernel
theorem d_law_law_645 : decode code 645 = .ok (.iload_n 3, 1) := by decide +kernel
theorem d_law_law_646 : decode code 646 = .ok (.iconst (1), 1) := by decide +kernel
theorem d_law_law_647 : decode code 647 = .ok (.iadd, 1) := by decide +kernel
theorem d_law_law_648 : decode code 648 = .ok (.iaload, 1) := by decide +kernel
theorem d_law_law_649 : decode code 649 = .ok (.invokevirtual 78, 3) := by decide +kernel
theorem d_law_law_652 : decode code 652 = .ok (.if_icmp .eq (143), 3) := by decide +kernel
theorem d_law_law_655 : decode code 655 = .ok (.iconst (0), 1) := by decide +kernel
theorem d_law_law_656 : decode code 656 = .ok (.ireturn, 1) := by decide +kernel
theorem d_law_law_657 : decode code 657 = .ok (.aload_n 1, 1) := by decide +kernel
theorem d_law_law_658 : decode code 658 = .ok (.aload_n 0, 1) := by decide +kernel
theorem d_law_law_659 : decode code 659 = .ok (.iload_n 3, 1) := by decide +kernel
theorem d_law_law_660 : decode code 660 = .ok (.iconst (1), 1) := by decide +kernel
theorem d_law_law_661 : decode code 661 = .ok (.iadd, 1) := by decide +kernel
theorem d_law_law_662 : decode code 662 = .ok (.iaload, 1) := by decide +kernel
theorem d_law_law_663 : decode code 663 = .ok (.aload_n 0, 1) := by decide +kernel
theorem d_law_law_664 : decode code 664 = .ok (.iload_n 3, 1) := by decide +kernel
theorem d_law_law_665 : decode code 665 = .ok (.iconst (2), 1) := by decide +kernel
theorem d_law_law_666 : decode code 666 = .ok (.iadd, 1) := by decide +kernel
theorem d_law_law_667 : decode code 667 = .ok (.iaload, 1) := by decide +kernel
theorem d_law_law_668 : decode code 668 = .ok (.aload_n 0, 1) := by decide +kernel
theorem d_law_law_669 : decode code 669 = .ok (.iload_n 3, 1) := by decide +kernel
theorem d_law_law_670 : decode code 670 = .ok (.iconst (3), 1) := by decide +kernel
theorem d_law_law_671 : decode code 671 = .ok (.iadd, 1) := by decide +kernel
theorem d_law_law_672 : decode code 672 = .ok (.iaload, 1) := by decide +kernel
theorem d_law_law_673 : decode code 673 = .ok (.invokevirtual 79, 3) := by decide +kernel
theorem d_law_law_676 : decode code 676 = .ok (.aload_n 2, 1) := by decide +kernel
theorem d_law_law_677 : decode code 677 = .ok (.aload_n 0, 1) := by decide +kernel
theorem d_law_law_678 : decode code 678 = .ok (.iload_n 3, 1) := by decide +kernel
theorem d_law_law_679 : decode code 679 = .ok (.iconst (1), 1) := by decide +kernel
theorem d_law_law_680 : decode code 680 = .ok (.iadd, 1) := by decide +kernel
theorem d_law_law_681 : decode code 681 = .ok (.iaload, 1) := by decide +kernel
theorem d_law_law_682 : decode code 682 = .ok (.aload_n 0, 1) := by decide +kernel
theorem d_law_law_683 : decode code 683 = .ok (.iload_n 3, 1) := by decide +kernel
theorem d_law_law_684 : decode code 684 = .ok (.iconst (2), 1) := by decide +kernel
theorem d_law_law_685 : decode code 685 = .ok (.iadd, 1) := by decide +kernel
theorem d_law_law_686 : decode code 686 = .ok (.iaload, 1) := by decide +kernel
theorem d_law_law_687 : decode code 687 = .ok (.aload_n 0, 1) := by decide +kernel
theorem d_law_law_688 : decode code 688 = .ok (.iload_n 3, 1) := by decide +kernel
theorem d_law_law_689 : decode code 689 = .ok (.iconst (3), 1) := by decide +kernel
theorem d_law_law_690 : decode code 690 = .ok (.iadd, 1) := by decide +kernel
theorem d_law_law_691 : decode code 691 = .ok (.iaload, 1) := by decide +kernel
theorem d_law_law_692 : decode code 692 = .ok (.invokevirtual 82, 3) := by decide +kernel
theorem d_law_law_695 : decode code 695 = .ok (.if_icmp .eq (100), 3) := by decide +kernel
theorem d_law_law_698 : decode code 698 = .ok (.iconst (0), 1) := by decide +kernel
theorem d_law_law_699 : decode code 699 = .ok (.ireturn, 1) := by decide +kernel
theorem d_law_law_700 : decode code 700 = .ok (.aload_n 1, 1) := by decide +kernel
theorem d_law_law_701 : decode code 701 = .ok (.invokevirtual 83, 3) := by decide +kernel
theorem d_law_law_704 : decode code 704 = .ok (.aload_n 2, 1) := by decide +kernel
theorem d_law_law_705 : decode code 705 = .ok (.invokevirtual 86, 3) := by decide +kernel
theorem d_law_law_708 : decode code 708 = .ok (.if_icmp .eq (87), 3) := by decide +kernel
theorem d_law_law_711 : decode code 711 = .ok (.iconst (0), 1) := by decide +kernel
theorem d_law_law_712 : decode code 712 = .ok (.ireturn, 1) := by decide +kernel
theorem d_law_law_713 : decode code 713 = .ok (.aload_n 1, 1) := by decide +kernel
theorem d_law_law_714 : decode code 714 = .ok (.invokevirtual 87, 3) := by decide +kernel
theorem d_law_law_717 : decode code 717 = .ok (.aload_n 2, 1) := by decide +kernel
theorem d_law_law_718 : decode code 718 = .ok (.invokevirtual 90, 3) := by decide +kernel
theorem d_law_law_721 : decode code 721 = .ok (.if_icmp .eq (74), 3) := by decide +kernel
theorem d_law_law_724 : decode code 724 = .ok (.iconst (0), 1) := by decide +kernel
theorem d_law_law_725 : decode code 725 = .ok (.ireturn, 1) := by decide +kernel
theorem d_law_law_726 : decode code 726 = .ok (.aload_n 1, 1) := by decide +kernel
theorem d_law_law_727 : decode code 727 = .ok (.invokevirtual 91, 3) := by decide +kernel
theorem d_law_law_730 : decode code 730 = .ok (.aload_n 2, 1) := by decide +kernel
theorem d_law_law_731 : decode code 731 = .ok (.invokevirtual 94, 3) := by decide +kernel
theorem d_law_law_734 : decode code 734 = .ok (.if_icmp .eq (61), 3) := by decide +kernel
theorem d_law_law_737 : decode code 737 = .ok (.iconst (0), 1) := by decide +kernel
theorem d_law_law_738 : decode code 738 = .ok (.ireturn, 1) := by decide +kernel
theorem d_law_law_739 : decode code 739 = .ok (.aload_n 1, 1) := by decide +kernel
theorem d_law_law_740 : decode code 740 = .ok (.aload_n 0, 1) := by decide +kernel
theorem d_law_law_741 : decode code 741 = .ok (.iload_n 3, 1) := by decide +kernel
theorem d_law_law_742 : decode code 742 = .ok (.iconst (1), 1) := by decide +kernel
theorem d_law_law_743 : decode code 743 = .ok (.iadd, 1) := by decide +kernel
theorem d_law_law_744 : decode code 744 = .ok (.iaload, 1) := by decide +kernel
theorem d_law_law_745 : decode code 745 = .ok (.invokevirtual 95, 3) := by decide +kernel
theorem d_law_law_748 : decode code 748 = .ok (.aload_n 2, 1) := by decide +kernel
theorem d_law_law_749 : decode code 749 = .ok (.aload_n 0, 1) := by decide +kernel
theorem d_law_law_750 : decode code 750 = .ok (.iload_n 3, 1) := by decide +kernel
theorem d_law_law_751 : decode code 751 = .ok (.iconst (1), 1) := by decide +kernel
theorem d_law_law_752 : decode code 752 = .ok (.iadd, 1) := by decide +kernel
theorem d_law_law_753 : decode code 753 = .ok (.iaload, 1) := by decide +kernel
theorem d_law_law_754 : decode code 754 = .ok (.invokevirtual 98, 3) := by decide +kernel
theorem d_law_law_757 : decode code 757 = .ok (.if_icmp .eq (38), 3) := by decide +kernel
theorem d_law_law_760 : decode code 760 = .ok (.iconst (0), 1) := by decide +kernel
theorem d_law_law_761 : decode code 761 = .ok (.ireturn, 1) := by decide +kernel
theorem d_law_law_762 : decode code 762 = .ok (.aload_n 1, 1) := by decide +kernel
theorem d_law_law_763 : decode code 763 = .ok (.aload_n 0, 1) := by decide +kernel
theorem d_law_law_764 : decode code 764 = .ok (.iload_n 3, 1) := by decide +kernel
theorem d_law_law_765 : decode code 765 = .ok (.iconst (1), 1) := by decide +kernel
theorem d_law_law_766 : decode code 766 = .ok (.iadd, 1) := by decide +kernel
theorem d_law_law_767 : decode code 767 = .ok (.iaload, 1) := by decide +kernel
theorem d_law_law_768 : decode code 768 = .ok (.aload_n 0, 1) := by decide +kernel
theorem d_law_law_769 : decode code 769 = .ok (.iload_n 3, 1) := by decide +kernel
theorem d_law_law_770 : decode code 770 = .ok (.iconst (2), 1) := by decide +kernel
theorem d_law_law_771 : decode code 771 = .ok (.iadd, 1) := by decide +kernel
theorem d_law_law_772 : decode code 772 = .ok (.iaload, 1) := by decide +kernel
theorem d_law_law_773 : decode code 773 = .ok (.invokevirtual 99, 3) := by decide +kernel
theorem d_law_law_776 : decode code 776 = .ok (.aload_n 2, 1) := by decide +kernel
theorem d_law_law_777 : decode code 777 = .ok (.aload_n 0, 1) := by decide +kernel
theorem d_law_law_778 : decode code 778 = .ok (.iload_n 3, 1) := by decide +kernel
theorem d_law_law_779 : decode code 779 = .ok (.iconst (1), 1) := by decide +kernel
theorem d_law_law_780 : decode code 780 = .ok (.iadd, 1) := by decide +kernel
theorem d_law_law_781 : decode code 781 = .ok (.iaload, 1) := by decide +kernel
theorem d_law_law_782 : decode code 782 = .ok (.aload_n 0, 1) := by decide +kernel
theorem d_law_law_783 : decode code 783 = .ok (.iload_n 3, 1) := by decide +kernel
theorem d_law_law_784 : decode code 784 = .ok (.iconst (2), 1) := by decide +kernel
theorem d_law_law_785 : decode code 785 = .ok (.iadd, 1) := by decide +kernel
theorem d_law_law_786 : decode code 786 = .ok (.iaload, 1) := by decide +kernel
theorem d_law_law_787 : decode code 787 = .ok (.invokevirtual 102, 3) := by decide +kernel
theorem d_law_law_790 : decode code 790 = .ok (.if_icmp .eq (5), 3) := by decide +kernel
theorem d_law_law_793 : decode code 793 = .ok (.iconst (0), 1) := by decide +kernel
theorem d_law_law_794 : decode code 794 = .ok (.ireturn, 1) := by decide +kernel
theorem d_law_law_795 : decode code 795 = .ok (.iinc 3 (6), 3) := by decide +kernel
theorem d_law_law_798 : decode code 798 = .ok (.goto (-780), 3) := by decide +kernel
theorem d_law_law_801 : decode code 801 = .ok (.iconst (1), 1) := by decide +kernel
theorem d_law_law_802 : decode code 802 = .ok (.ireturn, 1) := by decide +kernel
