theorem dLaw_584g : (decode code 584 = .ok (.iload_n 3, 1)) ∧ (decode code 585 = .ok (.iconst 3, 1)) ∧ (decode code 586 = .ok (.iadd, 1)) ∧ (decode code 587 = .ok (.iaload, 1)) ∧ (decode code 588 = .ok (.aload_n 0, 1)) ∧ (decode code 589 = .ok (.iload_n 3, 1)) ∧ (decode code 590 = .ok (.iconst 4, 1)) ∧ (decode code 591 = .ok (.iadd, 1)) ∧ (decode code 592 = .ok (.iaload, 1)) ∧ (decode code 593 = .ok (.aload_n 0, 1)) := by decide +kernel
theorem dLaw_584 : decode code 584 = .ok (.iload_n 3, 1) := dLaw_584g.1
theorem dLaw_585 : decode code 585 = .ok (.iconst 3, 1) := dLaw_584g.2.1
theorem dLaw_586 : decode code 586 = .ok (.iadd, 1) := dLaw_584g.2.2.1
theorem dLaw_587 : decode code 587 = .ok (.iaload, 1) := dLaw_584g.2.2.2.1
theorem dLaw_588 : decode code 588 = .ok (.aload_n 0, 1) := dLaw_584g.2.2.2.2.1
theorem dLaw_589 : decode code 589 = .ok (.iload_n 3, 1) := dLaw_584g.2.2.2.2.2.1
theorem dLaw_590 : decode code 590 = .ok (.iconst 4, 1) := dLaw_584g.2.2.2.2.2.2.1
theorem dLaw_591 : decode code 591 = .ok (.iadd, 1) := dLaw_584g.2.2.2.2.2.2.2.1
theorem dLaw_592 : decode code 592 = .ok (.iaload, 1) := dLaw_584g.2.2.2.2.2.2.2.2.1
theorem dLaw_593 : decode code 593 = .ok (.aload_n 0, 1) := dLaw_584g.2.2.2.2.2.2.2.2.2
theorem dLaw_594g : (decode code 594 = .ok (.iload_n 3, 1)) ∧ (decode code 595 = .ok (.iconst 5, 1)) ∧ (decode code 596 = .ok (.iadd, 1)) ∧ (decode code 597 = .ok (.iaload, 1)) ∧ (decode code 598 = .ok (.invokevirtual 49, 3)) ∧ (decode code 601 = .ok (.pop, 1)) ∧ (decode code 602 = .ok (.aload_n 2, 1)) ∧ (decode code 603 = .ok (.aload_n 0, 1)) ∧ (decode code 604 = .ok (.iload_n 3, 1)) ∧ (decode code 605 = .ok (.iconst 1, 1)) := by decide +kernel
theorem dLaw_594 : decode code 594 = .ok (.iload_n 3, 1) := dLaw_594g.1
theorem dLaw_595 : decode code 595 = .ok (.iconst 5, 1) := dLaw_594g.2.1
theorem dLaw_596 : decode code 596 = .ok (.iadd, 1) := dLaw_594g.2.2.1
theorem dLaw_597 : decode code 597 = .ok (.iaload, 1) := dLaw_594g.2.2.2.1
theorem dLaw_598 : decode code 598 = .ok (.invokevirtual 49, 3) := dLaw_594g.2.2.2.2.1
theorem dLaw_601 : decode code 601 = .ok (.pop, 1) := dLaw_594g.2.2.2.2.2.1
theorem dLaw_602 : decode code 602 = .ok (.aload_n 2, 1) := dLaw_594g.2.2.2.2.2.2.1
theorem dLaw_603 : decode code 603 = .ok (.aload_n 0, 1) := dLaw_594g.2.2.2.2.2.2.2.1
theorem dLaw_604 : decode code 604 = .ok (.iload_n 3, 1) := dLaw_594g.2.2.2.2.2.2.2.2.1
theorem dLaw_605 : decode code 605 = .ok (.iconst 1, 1) := dLaw_594g.2.2.2.2.2.2.2.2.2
theorem dLaw_606g : (decode code 606 = .ok (.iadd, 1)) ∧ (decode code 607 = .ok (.iaload, 1)) ∧ (decode code 608 = .ok (.aload_n 0, 1)) ∧ (decode code 609 = .ok (.iload_n 3, 1)) ∧ (decode code 610 = .ok (.iconst 2, 1)) ∧ (decode code 611 = .ok (.iadd, 1)) ∧ (decode code 612 = .ok (.iaload, 1)) ∧ (decode code 613 = .ok (.aload_n 0, 1)) ∧ (decode code 614 = .ok (.iload_n 3, 1)) ∧ (decode code 615 = .ok (.iconst 3, 1)) := by decide +kernel
theorem dLaw_606 : decode code 606 = .ok (.iadd, 1) := dLaw_606g.1
theorem dLaw_607 : decode code 607 = .ok (.iaload, 1) := dLaw_606g.2.1
theorem dLaw_608 : decode code 608 = .ok (.aload_n 0, 1) := dLaw_606g.2.2.1
theorem dLaw_609 : decode code 609 = .ok (.iload_n 3, 1) := dLaw_606g.2.2.2.1
theorem dLaw_610 : decode code 610 = .ok (.iconst 2, 1) := dLaw_606g.2.2.2.2.1
theorem dLaw_611 : decode code 611 = .ok (.iadd, 1) := dLaw_606g.2.2.2.2.2.1
theorem dLaw_612 : decode code 612 = .ok (.iaload, 1) := dLaw_606g.2.2.2.2.2.2.1
theorem dLaw_613 : decode code 613 = .ok (.aload_n 0, 1) := dLaw_606g.2.2.2.2.2.2.2.1
theorem dLaw_614 : decode code 614 = .ok (.iload_n 3, 1) := dLaw_606g.2.2.2.2.2.2.2.2.1
theorem dLaw_615 : decode code 615 = .ok (.iconst 3, 1) := dLaw_606g.2.2.2.2.2.2.2.2.2
theorem dLaw_616g : (decode code 616 = .ok (.iadd, 1)) ∧ (decode code 617 = .ok (.iaload, 1)) ∧ (decode code 618 = .ok (.aload_n 0, 1)) ∧ (decode code 619 = .ok (.iload_n 3, 1)) ∧ (decode code 620 = .ok (.iconst 4, 1)) ∧ (decode code 621 = .ok (.iadd, 1)) ∧ (decode code 622 = .ok (.iaload, 1)) ∧ (decode code 623 = .ok (.aload_n 0, 1)) ∧ (decode code 624 = .ok (.iload_n 3, 1)) ∧ (decode code 625 = .ok (.iconst 5, 1)) := by decide +kernel
theorem dLaw_616 : decode code 616 = .ok (.iadd, 1) := dLaw_616g.1
theorem dLaw_617 : decode code 617 = .ok (.iaload, 1) := dLaw_616g.2.1
theorem dLaw_618 : decode code 618 = .ok (.aload_n 0, 1) := dLaw_616g.2.2.1
theorem dLaw_619 : decode code 619 = .ok (.iload_n 3, 1) := dLaw_616g.2.2.2.1
theorem dLaw_620 : decode code 620 = .ok (.iconst 4, 1) := dLaw_616g.2.2.2.2.1
theorem dLaw_621 : decode code 621 = .ok (.iadd, 1) := dLaw_616g.2.2.2.2.2.1
theorem dLaw_622 : decode code 622 = .ok (.iaload, 1) := dLaw_616g.2.2.2.2.2.2.1
theorem dLaw_623 : decode code 623 = .ok (.aload_n 0, 1) := dLaw_616g.2.2.2.2.2.2.2.1
theorem dLaw_624 : decode code 624 = .ok (.iload_n 3, 1) := dLaw_616g.2.2.2.2.2.2.2.2.1
theorem dLaw_625 : decode code 625 = .ok (.iconst 5, 1) := dLaw_616g.2.2.2.2.2.2.2.2.2
theorem dLaw_626g : (decode code 626 = .ok (.iadd, 1)) ∧ (decode code 627 = .ok (.iaload, 1)) ∧ (decode code 628 = .ok (.invokevirtual 53, 3)) ∧ (decode code 631 = .ok (.pop, 1)) ∧ (decode code 632 = .ok (.goto 1372, 3)) ∧ (decode code 635 = .ok (.aload_n 1, 1)) ∧ (decode code 636 = .ok (.aload_n 0, 1)) ∧ (decode code 637 = .ok (.iload_n 3, 1)) ∧ (decode code 638 = .ok (.iconst 1, 1)) ∧ (decode code 639 = .ok (.iadd, 1)) := by decide +kernel
theorem dLaw_626 : decode code 626 = .ok (.iadd, 1) := dLaw_626g.1
theorem dLaw_627 : decode code 627 = .ok (.iaload, 1) := dLaw_626g.2.1
theorem dLaw_628 : decode code 628 = .ok (.invokevirtual 53, 3) := dLaw_626g.2.2.1
theorem dLaw_631 : decode code 631 = .ok (.pop, 1) := dLaw_626g.2.2.2.1
theorem dLaw_632 : decode code 632 = .ok (.goto 1372, 3) := dLaw_626g.2.2.2.2.1
theorem dLaw_635 : decode code 635 = .ok (.aload_n 1, 1) := dLaw_626g.2.2.2.2.2.1
theorem dLaw_636 : decode code 636 = .ok (.aload_n 0, 1) := dLaw_626g.2.2.2.2.2.2.1
theorem dLaw_637 : decode code 637 = .ok (.iload_n 3, 1) := dLaw_626g.2.2.2.2.2.2.2.1
theorem dLaw_638 : decode code 638 = .ok (.iconst 1, 1) := dLaw_626g.2.2.2.2.2.2.2.2.1
theorem dLaw_639 : decode code 639 = .ok (.iadd, 1) := dLaw_626g.2.2.2.2.2.2.2.2.2
theorem dLaw_640g : (decode code 640 = .ok (.iaload, 1)) ∧ (decode code 641 = .ok (.invokevirtual 54, 3)) ∧ (decode code 644 = .ok (.pop, 1)) ∧ (decode code 645 = .ok (.aload_n 2, 1)) ∧ (decode code 646 = .ok (.aload_n 0, 1)) ∧ (decode code 647 = .ok (.iload_n 3, 1)) ∧ (decode code 648 = .ok (.iconst 1, 1)) ∧ (decode code 649 = .ok (.iadd, 1)) ∧ (decode code 650 = .ok (.iaload, 1)) ∧ (decode code 651 = .ok (.invokevirtual 57, 3)) := by decide +kernel
theorem dLaw_640 : decode code 640 = .ok (.iaload, 1) := dLaw_640g.1
theorem dLaw_641 : decode code 641 = .ok (.invokevirtual 54, 3) := dLaw_640g.2.1
theorem dLaw_644 : decode code 644 = .ok (.pop, 1) := dLaw_640g.2.2.1
theorem dLaw_645 : decode code 645 = .ok (.aload_n 2, 1) := dLaw_640g.2.2.2.1
theorem dLaw_646 : decode code 646 = .ok (.aload_n 0, 1) := dLaw_640g.2.2.2.2.1
theorem dLaw_647 : decode code 647 = .ok (.iload_n 3, 1) := dLaw_640g.2.2.2.2.2.1
theorem dLaw_648 : decode code 648 = .ok (.iconst 1, 1) := dLaw_640g.2.2.2.2.2.2.1
theorem dLaw_649 : decode code 649 = .ok (.iadd, 1) := dLaw_640g.2.2.2.2.2.2.2.1
theorem dLaw_650 : decode code 650 = .ok (.iaload, 1) := dLaw_640g.2.2.2.2.2.2.2.2.1
theorem dLaw_651 : decode code 651 = .ok (.invokevirtual 57, 3) := dLaw_640g.2.2.2.2.2.2.2.2.2
theorem dLaw_654g : (decode code 654 = .ok (.pop, 1)) ∧ (decode code 655 = .ok (.goto 1349, 3)) ∧ (decode code 658 = .ok (.aload_n 1, 1)) ∧ (decode code 659 = .ok (.invokevirtual 58, 3)) ∧ (decode code 662 = .ok (.pop, 1)) ∧ (decode code 663 = .ok (.aload_n 2, 1)) ∧ (decode code 664 = .ok (.invokevirtual 62, 3)) ∧ (decode code 667 = .ok (.pop, 1)) ∧ (decode code 668 = .ok (.goto 1336, 3)) ∧ (decode code 671 = .ok (.aload_n 1, 1)) := by decide +kernel
theorem dLaw_654 : decode code 654 = .ok (.pop, 1) := dLaw_654g.1
theorem dLaw_655 : decode code 655 = .ok (.goto 1349, 3) := dLaw_654g.2.1
theorem dLaw_658 : decode code 658 = .ok (.aload_n 1, 1) := dLaw_654g.2.2.1
theorem dLaw_659 : decode code 659 = .ok (.invokevirtual 58, 3) := dLaw_654g.2.2.2.1
theorem dLaw_662 : decode code 662 = .ok (.pop, 1) := dLaw_654g.2.2.2.2.1
theorem dLaw_663 : decode code 663 = .ok (.aload_n 2, 1) := dLaw_654g.2.2.2.2.2.1
theorem dLaw_664 : decode code 664 = .ok (.invokevirtual 62, 3) := dLaw_654g.2.2.2.2.2.2.1
theorem dLaw_667 : decode code 667 = .ok (.pop, 1) := dLaw_654g.2.2.2.2.2.2.2.1
theorem dLaw_668 : decode code 668 = .ok (.goto 1336, 3) := dLaw_654g.2.2.2.2.2.2.2.2.1
theorem dLaw_671 : decode code 671 = .ok (.aload_n 1, 1) := dLaw_654g.2.2.2.2.2.2.2.2.2
theorem dLaw_672g : (decode code 672 = .ok (.invokevirtual 63, 3)) ∧ (decode code 675 = .ok (.pop, 1)) ∧ (decode code 676 = .ok (.aload_n 2, 1)) ∧ (decode code 677 = .ok (.invokevirtual 66, 3)) ∧ (decode code 680 = .ok (.pop, 1)) ∧ (decode code 681 = .ok (.goto 1323, 3)) ∧ (decode code 684 = .ok (.aload_n 1, 1)) ∧ (decode code 685 = .ok (.invokevirtual 67, 3)) ∧ (decode code 688 = .ok (.pop, 1)) ∧ (decode code 689 = .ok (.aload_n 2, 1)) := by decide +kernel
theorem dLaw_672 : decode code 672 = .ok (.invokevirtual 63, 3) := dLaw_672g.1
theorem dLaw_675 : decode code 675 = .ok (.pop, 1) := dLaw_672g.2.1
theorem dLaw_676 : decode code 676 = .ok (.aload_n 2, 1) := dLaw_672g.2.2.1
theorem dLaw_677 : decode code 677 = .ok (.invokevirtual 66, 3) := dLaw_672g.2.2.2.1
theorem dLaw_680 : decode code 680 = .ok (.pop, 1) := dLaw_672g.2.2.2.2.1
theorem dLaw_681 : decode code 681 = .ok (.goto 1323, 3) := dLaw_672g.2.2.2.2.2.1
theorem dLaw_684 : decode code 684 = .ok (.aload_n 1, 1) := dLaw_672g.2.2.2.2.2.2.1
theorem dLaw_685 : decode code 685 = .ok (.invokevirtual 67, 3) := dLaw_672g.2.2.2.2.2.2.2.1
theorem dLaw_688 : decode code 688 = .ok (.pop, 1) := dLaw_672g.2.2.2.2.2.2.2.2.1
theorem dLaw_689 : decode code 689 = .ok (.aload_n 2, 1) := dLaw_672g.2.2.2.2.2.2.2.2.2
theorem dLaw_690g : (decode code 690 = .ok (.invokevirtual 70, 3)) ∧ (decode code 693 = .ok (.pop, 1)) ∧ (decode code 694 = .ok (.goto 1310, 3)) ∧ (decode code 697 = .ok (.aload_n 1, 1)) ∧ (decode code 698 = .ok (.invokevirtual 71, 3)) ∧ (decode code 701 = .ok (.pop, 1)) ∧ (decode code 702 = .ok (.aload_n 2, 1)) ∧ (decode code 703 = .ok (.invokevirtual 74, 3)) ∧ (decode code 706 = .ok (.pop, 1)) ∧ (decode code 707 = .ok (.goto 1297, 3)) := by decide +kernel
theorem dLaw_690 : decode code 690 = .ok (.invokevirtual 70, 3) := dLaw_690g.1
theorem dLaw_693 : decode code 693 = .ok (.pop, 1) := dLaw_690g.2.1
theorem dLaw_694 : decode code 694 = .ok (.goto 1310, 3) := dLaw_690g.2.2.1
theorem dLaw_697 : decode code 697 = .ok (.aload_n 1, 1) := dLaw_690g.2.2.2.1
theorem dLaw_698 : decode code 698 = .ok (.invokevirtual 71, 3) := dLaw_690g.2.2.2.2.1
theorem dLaw_701 : decode code 701 = .ok (.pop, 1) := dLaw_690g.2.2.2.2.2.1
theorem dLaw_702 : decode code 702 = .ok (.aload_n 2, 1) := dLaw_690g.2.2.2.2.2.2.1
theorem dLaw_703 : decode code 703 = .ok (.invokevirtual 74, 3) := dLaw_690g.2.2.2.2.2.2.2.1
theorem dLaw_706 : decode code 706 = .ok (.pop, 1) := dLaw_690g.2.2.2.2.2.2.2.2.1
theorem dLaw_707 : decode code 707 = .ok (.goto 1297, 3) := dLaw_690g.2.2.2.2.2.2.2.2.2
theorem dLaw_710g : (decode code 710 = .ok (.aload_n 1, 1)) ∧ (decode code 711 = .ok (.aload_n 0, 1)) ∧ (decode code 712 = .ok (.iload_n 3, 1)) ∧ (decode code 713 = .ok (.iconst 1, 1)) ∧ (decode code 714 = .ok (.iadd, 1)) ∧ (decode code 715 = .ok (.iaload, 1)) ∧ (decode code 716 = .ok (.invokevirtual 75, 3)) ∧ (decode code 719 = .ok (.pop, 1)) ∧ (decode code 720 = .ok (.aload_n 2, 1)) ∧ (decode code 721 = .ok (.aload_n 0, 1)) := by decide +kernel
theorem dLaw_710 : decode code 710 = .ok (.aload_n 1, 1) := dLaw_710g.1
theorem dLaw_711 : decode code 711 = .ok (.aload_n 0, 1) := dLaw_710g.2.1
theorem dLaw_712 : decode code 712 = .ok (.iload_n 3, 1) := dLaw_710g.2.2.1
theorem dLaw_713 : decode code 713 = .ok (.iconst 1, 1) := dLaw_710g.2.2.2.1
theorem dLaw_714 : decode code 714 = .ok (.iadd, 1) := dLaw_710g.2.2.2.2.1
theorem dLaw_715 : decode code 715 = .ok (.iaload, 1) := dLaw_710g.2.2.2.2.2.1
theorem dLaw_716 : decode code 716 = .ok (.invokevirtual 75, 3) := dLaw_710g.2.2.2.2.2.2.1
theorem dLaw_719 : decode code 719 = .ok (.pop, 1) := dLaw_710g.2.2.2.2.2.2.2.1
theorem dLaw_720 : decode code 720 = .ok (.aload_n 2, 1) := dLaw_710g.2.2.2.2.2.2.2.2.1
theorem dLaw_721 : decode code 721 = .ok (.aload_n 0, 1) := dLaw_710g.2.2.2.2.2.2.2.2.2
