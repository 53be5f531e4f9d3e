theorem d_L_534 : decode code 534 = .ok (.iadd, 1) := by decide +kernel
theorem d_L_535 : decode code 535 = .ok (.iaload, 1) := by decide +kernel
theorem d_L_536 : decode code 536 = .ok (.aload_n 0, 1) := by decide +kernel
theorem d_L_537 : decode code 537 = .ok (.iload_n 3, 1) := by decide +kernel
theorem d_L_538 : decode code 538 = .ok (.iconst 2, 1) := by decide +kernel
theorem d_L_539 : decode code 539 = .ok (.iadd, 1) := by decide +kernel
theorem d_L_540 : decode code 540 = .ok (.iaload, 1) := by decide +kernel
theorem d_L_541 : decode code 541 = .ok (.invokevirtual 85, 3) := by decide +kernel
theorem d_L_544 : decode code 544 = .ok (.if_icmp .eq 115, 3) := by decide +kernel
theorem d_L_547 : decode code 547 = .ok (.iconst 0, 1) := by decide +kernel
theorem d_L_548 : decode code 548 = .ok (.ireturn, 1) := by decide +kernel
theorem d_L_549 : decode code 549 = .ok (.aload_n 1, 1) := by decide +kernel
theorem d_L_550 : decode code 550 = .ok (.aload_n 0, 1) := by decide +kernel
theorem d_L_551 : decode code 551 = .ok (.iload_n 3, 1) := by decide +kernel
theorem d_L_552 : decode code 552 = .ok (.iconst 1, 1) := by decide +kernel
theorem d_L_553 : decode code 553 = .ok (.iadd, 1) := by decide +kernel
theorem d_L_554 : decode code 554 = .ok (.iaload, 1) := by decide +kernel
theorem d_L_555 : decode code 555 = .ok (.aload_n 0, 1) := by decide +kernel
theorem d_L_556 : decode code 556 = .ok (.iload_n 3, 1) := by decide +kernel
theorem d_L_557 : decode code 557 = .ok (.iconst 2, 1) := by decide +kernel
theorem d_L_558 : decode code 558 = .ok (.iadd, 1) := by decide +kernel
theorem d_L_559 : decode code 559 = .ok (.iaload, 1) := by decide +kernel
theorem d_L_560 : decode code 560 = .ok (.invokevirtual 86, 3) := by decide +kernel
theorem d_L_563 : decode code 563 = .ok (.aload_n 2, 1) := by decide +kernel
theorem d_L_564 : decode code 564 = .ok (.aload_n 0, 1) := by decide +kernel
theorem d_L_565 : decode code 565 = .ok (.iload_n 3, 1) := by decide +kernel
theorem d_L_566 : decode code 566 = .ok (.iconst 1, 1) := by decide +kernel
theorem d_L_567 : decode code 567 = .ok (.iadd, 1) := by decide +kernel
theorem d_L_568 : decode code 568 = .ok (.iaload, 1) := by decide +kernel
theorem d_L_569 : decode code 569 = .ok (.aload_n 0, 1) := by decide +kernel
theorem d_L_570 : decode code 570 = .ok (.iload_n 3, 1) := by decide +kernel
theorem d_L_571 : decode code 571 = .ok (.iconst 2, 1) := by decide +kernel
theorem d_L_572 : decode code 572 = .ok (.iadd, 1) := by decide +kernel
theorem d_L_573 : decode code 573 = .ok (.iaload, 1) := by decide +kernel
theorem d_L_574 : decode code 574 = .ok (.invokevirtual 89, 3) := by decide +kernel
theorem d_L_577 : decode code 577 = .ok (.if_icmp .eq 82, 3) := by decide +kernel
theorem d_L_580 : decode code 580 = .ok (.iconst 0, 1) := by decide +kernel
theorem d_L_581 : decode code 581 = .ok (.ireturn, 1) := by decide +kernel
theorem d_L_582 : decode code 582 = .ok (.aload_n 1, 1) := by decide +kernel
theorem d_L_583 : decode code 583 = .ok (.aload_n 0, 1) := by decide +kernel
theorem d_L_584 : decode code 584 = .ok (.iload_n 3, 1) := by decide +kernel
theorem d_L_585 : decode code 585 = .ok (.iconst 1, 1) := by decide +kernel
theorem d_L_586 : decode code 586 = .ok (.iadd, 1) := by decide +kernel
theorem d_L_587 : decode code 587 = .ok (.iaload, 1) := by decide +kernel
theorem d_L_588 : decode code 588 = .ok (.aload_n 0, 1) := by decide +kernel
theorem d_L_589 : decode code 589 = .ok (.iload_n 3, 1) := by decide +kernel
theorem d_L_590 : decode code 590 = .ok (.iconst 2, 1) := by decide +kernel
theorem d_L_591 : decode code 591 = .ok (.iadd, 1) := by decide +kernel
theorem d_L_592 : decode code 592 = .ok (.iaload, 1) := by decide +kernel
theorem d_L_593 : decode code 593 = .ok (.invokevirtual 90, 3) := by decide +kernel
theorem d_L_596 : decode code 596 = .ok (.aload_n 2, 1) := by decide +kernel
theorem d_L_597 : decode code 597 = .ok (.aload_n 0, 1) := by decide +kernel
theorem d_L_598 : decode code 598 = .ok (.iload_n 3, 1) := by decide +kernel
theorem d_L_599 : decode code 599 = .ok (.iconst 1, 1) := by decide +kernel
theorem d_L_600 : decode code 600 = .ok (.iadd, 1) := by decide +kernel
theorem d_L_601 : decode code 601 = .ok (.iaload, 1) := by decide +kernel
theorem d_L_602 : decode code 602 = .ok (.aload_n 0, 1) := by decide +kernel
theorem d_L_603 : decode code 603 = .ok (.iload_n 3, 1) := by decide +kernel
theorem d_L_604 : decode code 604 = .ok (.iconst 2, 1) := by decide +kernel
theorem d_L_605 : decode code 605 = .ok (.iadd, 1) := by decide +kernel
theorem d_L_606 : decode code 606 = .ok (.iaload, 1) := by decide +kernel
theorem d_L_607 : decode code 607 = .ok (.invokevirtual 93, 3) := by decide +kernel
theorem d_L_610 : decode code 610 = .ok (.if_icmp .eq 49, 3) := by decide +kernel
theorem d_L_613 : decode code 613 = .ok (.iconst 0, 1) := by decide +kernel
theorem d_L_614 : decode code 614 = .ok (.ireturn, 1) := by decide +kernel
theorem d_L_615 : decode code 615 = .ok (.aload_n 1, 1) := by decide +kernel
theorem d_L_616 : decode code 616 = .ok (.aload_n 0, 1) := by decide +kernel
theorem d_L_617 : decode code 617 = .ok (.iload_n 3, 1) := by decide +kernel
theorem d_L_618 : decode code 618 = .ok (.iconst 1, 1) := by decide +kernel
theorem d_L_619 : decode code 619 = .ok (.iadd, 1) := by decide +kernel
theorem d_L_620 : decode code 620 = .ok (.iaload, 1) := by decide +kernel
theorem d_L_621 : decode code 621 = .ok (.aload_n 0, 1) := by decide +kernel
theorem d_L_622 : decode code 622 = .ok (.iload_n 3, 1) := by decide +kernel
theorem d_L_623 : decode code 623 = .ok (.iconst 2, 1) := by decide +kernel
theorem d_L_624 : decode code 624 = .ok (.iadd, 1) := by decide +kernel
theorem d_L_625 : decode code 625 = .ok (.iaload, 1) := by decide +kernel
theorem d_L_626 : decode code 626 = .ok (.aload_n 0, 1) := by decide +kernel
theorem d_L_627 : decode code 627 = .ok (.iload_n 3, 1) := by decide +kernel
theorem d_L_628 : decode code 628 = .ok (.iconst 3, 1) := by decide +kernel
theorem d_L_629 : decode code 629 = .ok (.iadd, 1) := by decide +kernel
theorem d_L_630 : decode code 630 = .ok (.iaload, 1) := by decide +kernel
theorem d_L_631 : decode code 631 = .ok (.invokevirtual 94, 3) := by decide +kernel
theorem d_L_634 : decode code 634 = .ok (.aload_n 2, 1) := by decide +kernel
theorem d_L_635 : decode code 635 = .ok (.aload_n 0, 1) := by decide +kernel
theorem d_L_636 : decode code 636 = .ok (.iload_n 3, 1) := by decide +kernel
theorem d_L_637 : decode code 637 = .ok (.iconst 1, 1) := by decide +kernel
theorem d_L_638 : decode code 638 = .ok (.iadd, 1) := by decide +kernel
theorem d_L_639 : decode code 639 = .ok (.iaload, 1) := by decide +kernel
theorem d_L_640 : decode code 640 = .ok (.aload_n 0, 1) := by decide +kernel
theorem d_L_641 : decode code 641 = .ok (.iload_n 3, 1) := by decide +kernel
theorem d_L_642 : decode code 642 = .ok (.iconst 2, 1) := by decide +kernel
theorem d_L_643 : decode code 643 = .ok (.iadd, 1) := by decide +kernel
theorem d_L_644 : decode code 644 = .ok (.iaload, 1) := by decide +kernel
theorem d_L_645 : decode code 645 = .ok (.aload_n 0, 1) := by decide +kernel
theorem d_L_646 : decode code 646 = .ok (.iload_n 3, 1) := by decide +kernel
theorem d_L_647 : decode code 647 = .ok (.iconst 3, 1) := by decide +kernel
theorem d_L_648 : decode code 648 = .ok (.iadd, 1) := by decide +kernel
theorem d_L_649 : decode code 649 = .ok (.iaload, 1) := by decide +kernel
theorem d_L_650 : decode code 650 = .ok (.invokevirtual 98, 3) := by decide +kernel
theorem d_L_653 : decode code 653 = .ok (.lcmp, 1) := by decide +kernel
theorem d_L_654 : decode code 654 = .ok (.ifCond .eq 5, 3) := by decide +kernel
theorem d_L_657 : decode code 657 = .ok (.iconst 0, 1) := by decide +kernel
theorem d_L_658 : decode code 658 = .ok (.ireturn, 1) := by decide +kernel
theorem d_L_659 : decode code 659 = .ok (.iinc 3 4, 3) := by decide +kernel
theorem d_L_662 : decode code 662 = .ok (.goto (-644), 3) := by decide +kernel
theorem d_L_665 : decode code 665 = .ok (.iconst 1, 1) := by decide +kernel
theorem d_L_666 : decode code 666 = .ok (.ireturn, 1) := by decide +kernel
