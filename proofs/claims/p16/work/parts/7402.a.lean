theorem da9_dL_law_592 : (decode cL_law 592 = .ok (.aload_n 1, 1)) ∧ (decode cL_law 593 = .ok (.invokevirtual 81, 3)) ∧ (decode cL_law 596 = .ok (.pop, 1)) ∧ (decode cL_law 597 = .ok (.aload_n 2, 1)) ∧ (decode cL_law 598 = .ok (.invokevirtual 84, 3)) ∧ (decode cL_law 601 = .ok (.pop, 1)) ∧ (decode cL_law 602 = .ok (.goto 469, 3)) ∧ (decode cL_law 605 = .ok (.aload_n 1, 1)) ∧ (decode cL_law 606 = .ok (.invokevirtual 85, 3)) ∧ (decode cL_law 609 = .ok (.pop, 1)) ∧ (decode cL_law 610 = .ok (.aload_n 2, 1)) ∧ (decode cL_law 611 = .ok (.invokevirtual 88, 3)) ∧ (decode cL_law 614 = .ok (.pop, 1)) ∧ (decode cL_law 615 = .ok (.goto 456, 3)) ∧ (decode cL_law 618 = .ok (.aload_n 1, 1)) ∧ (decode cL_law 619 = .ok (.aload_n 0, 1)) := by decide +kernel
theorem dL_law_592 : decode cL_law 592 = .ok (.aload_n 1, 1) := da9_dL_law_592.1
theorem dL_law_593 : decode cL_law 593 = .ok (.invokevirtual 81, 3) := da9_dL_law_592.2.1
theorem dL_law_596 : decode cL_law 596 = .ok (.pop, 1) := da9_dL_law_592.2.2.1
theorem dL_law_597 : decode cL_law 597 = .ok (.aload_n 2, 1) := da9_dL_law_592.2.2.2.1
theorem dL_law_598 : decode cL_law 598 = .ok (.invokevirtual 84, 3) := da9_dL_law_592.2.2.2.2.1
theorem dL_law_601 : decode cL_law 601 = .ok (.pop, 1) := da9_dL_law_592.2.2.2.2.2.1
theorem dL_law_602 : decode cL_law 602 = .ok (.goto 469, 3) := da9_dL_law_592.2.2.2.2.2.2.1
theorem dL_law_605 : decode cL_law 605 = .ok (.aload_n 1, 1) := da9_dL_law_592.2.2.2.2.2.2.2.1
theorem dL_law_606 : decode cL_law 606 = .ok (.invokevirtual 85, 3) := da9_dL_law_592.2.2.2.2.2.2.2.2.1
theorem dL_law_609 : decode cL_law 609 = .ok (.pop, 1) := da9_dL_law_592.2.2.2.2.2.2.2.2.2.1
theorem dL_law_610 : decode cL_law 610 = .ok (.aload_n 2, 1) := da9_dL_law_592.2.2.2.2.2.2.2.2.2.2.1
theorem dL_law_611 : decode cL_law 611 = .ok (.invokevirtual 88, 3) := da9_dL_law_592.2.2.2.2.2.2.2.2.2.2.2.1
theorem dL_law_614 : decode cL_law 614 = .ok (.pop, 1) := da9_dL_law_592.2.2.2.2.2.2.2.2.2.2.2.2.1
theorem dL_law_615 : decode cL_law 615 = .ok (.goto 456, 3) := da9_dL_law_592.2.2.2.2.2.2.2.2.2.2.2.2.2.1
theorem dL_law_618 : decode cL_law 618 = .ok (.aload_n 1, 1) := da9_dL_law_592.2.2.2.2.2.2.2.2.2.2.2.2.2.2.1
theorem dL_law_619 : decode cL_law 619 = .ok (.aload_n 0, 1) := da9_dL_law_592.2.2.2.2.2.2.2.2.2.2.2.2.2.2.2
theorem da9_dL_law_620 : (decode cL_law 620 = .ok (.iload_n 3, 1)) ∧ (decode cL_law 621 = .ok (.iconst 1, 1)) ∧ (decode cL_law 622 = .ok (.iadd, 1)) ∧ (decode cL_law 623 = .ok (.iaload, 1)) ∧ (decode cL_law 624 = .ok (.invokevirtual 89, 3)) ∧ (decode cL_law 627 = .ok (.pop, 1)) ∧ (decode cL_law 628 = .ok (.aload_n 2, 1)) ∧ (decode cL_law 629 = .ok (.aload_n 0, 1)) ∧ (decode cL_law 630 = .ok (.iload_n 3, 1)) ∧ (decode cL_law 631 = .ok (.iconst 1, 1)) ∧ (decode cL_law 632 = .ok (.iadd, 1)) ∧ (decode cL_law 633 = .ok (.iaload, 1)) ∧ (decode cL_law 634 = .ok (.invokevirtual 92, 3)) ∧ (decode cL_law 637 = .ok (.pop, 1)) ∧ (decode cL_law 638 = .ok (.goto 433, 3)) ∧ (decode cL_law 641 = .ok (.aload_n 1, 1)) := by decide +kernel
theorem dL_law_620 : decode cL_law 620 = .ok (.iload_n 3, 1) := da9_dL_law_620.1
theorem dL_law_621 : decode cL_law 621 = .ok (.iconst 1, 1) := da9_dL_law_620.2.1
theorem dL_law_622 : decode cL_law 622 = .ok (.iadd, 1) := da9_dL_law_620.2.2.1
theorem dL_law_623 : decode cL_law 623 = .ok (.iaload, 1) := da9_dL_law_620.2.2.2.1
theorem dL_law_624 : decode cL_law 624 = .ok (.invokevirtual 89, 3) := da9_dL_law_620.2.2.2.2.1
theorem dL_law_627 : decode cL_law 627 = .ok (.pop, 1) := da9_dL_law_620.2.2.2.2.2.1
theorem dL_law_628 : decode cL_law 628 = .ok (.aload_n 2, 1) := da9_dL_law_620.2.2.2.2.2.2.1
theorem dL_law_629 : decode cL_law 629 = .ok (.aload_n 0, 1) := da9_dL_law_620.2.2.2.2.2.2.2.1
theorem dL_law_630 : decode cL_law 630 = .ok (.iload_n 3, 1) := da9_dL_law_620.2.2.2.2.2.2.2.2.1
theorem dL_law_631 : decode cL_law 631 = .ok (.iconst 1, 1) := da9_dL_law_620.2.2.2.2.2.2.2.2.2.1
theorem dL_law_632 : decode cL_law 632 = .ok (.iadd, 1) := da9_dL_law_620.2.2.2.2.2.2.2.2.2.2.1
theorem dL_law_633 : decode cL_law 633 = .ok (.iaload, 1) := da9_dL_law_620.2.2.2.2.2.2.2.2.2.2.2.1
theorem dL_law_634 : decode cL_law 634 = .ok (.invokevirtual 92, 3) := da9_dL_law_620.2.2.2.2.2.2.2.2.2.2.2.2.1
theorem dL_law_637 : decode cL_law 637 = .ok (.pop, 1) := da9_dL_law_620.2.2.2.2.2.2.2.2.2.2.2.2.2.1
theorem dL_law_638 : decode cL_law 638 = .ok (.goto 433, 3) := da9_dL_law_620.2.2.2.2.2.2.2.2.2.2.2.2.2.2.1
theorem dL_law_641 : decode cL_law 641 = .ok (.aload_n 1, 1) := da9_dL_law_620.2.2.2.2.2.2.2.2.2.2.2.2.2.2.2
theorem da9_dL_law_642 : (decode cL_law 642 = .ok (.invokevirtual 93, 3)) ∧ (decode cL_law 645 = .ok (.pop, 1)) ∧ (decode cL_law 646 = .ok (.aload_n 2, 1)) ∧ (decode cL_law 647 = .ok (.invokevirtual 96, 3)) ∧ (decode cL_law 650 = .ok (.pop, 1)) ∧ (decode cL_law 651 = .ok (.goto 420, 3)) ∧ (decode cL_law 654 = .ok (.aload_n 1, 1)) ∧ (decode cL_law 655 = .ok (.invokevirtual 97, 3)) ∧ (decode cL_law 658 = .ok (.pop, 1)) ∧ (decode cL_law 659 = .ok (.aload_n 2, 1)) ∧ (decode cL_law 660 = .ok (.invokevirtual 100, 3)) ∧ (decode cL_law 663 = .ok (.pop, 1)) ∧ (decode cL_law 664 = .ok (.goto 407, 3)) ∧ (decode cL_law 667 = .ok (.aload_n 1, 1)) ∧ (decode cL_law 668 = .ok (.aload_n 0, 1)) ∧ (decode cL_law 669 = .ok (.iload_n 3, 1)) := by decide +kernel
theorem dL_law_642 : decode cL_law 642 = .ok (.invokevirtual 93, 3) := da9_dL_law_642.1
theorem dL_law_645 : decode cL_law 645 = .ok (.pop, 1) := da9_dL_law_642.2.1
theorem dL_law_646 : decode cL_law 646 = .ok (.aload_n 2, 1) := da9_dL_law_642.2.2.1
theorem dL_law_647 : decode cL_law 647 = .ok (.invokevirtual 96, 3) := da9_dL_law_642.2.2.2.1
theorem dL_law_650 : decode cL_law 650 = .ok (.pop, 1) := da9_dL_law_642.2.2.2.2.1
theorem dL_law_651 : decode cL_law 651 = .ok (.goto 420, 3) := da9_dL_law_642.2.2.2.2.2.1
theorem dL_law_654 : decode cL_law 654 = .ok (.aload_n 1, 1) := da9_dL_law_642.2.2.2.2.2.2.1
theorem dL_law_655 : decode cL_law 655 = .ok (.invokevirtual 97, 3) := da9_dL_law_642.2.2.2.2.2.2.2.1
theorem dL_law_658 : decode cL_law 658 = .ok (.pop, 1) := da9_dL_law_642.2.2.2.2.2.2.2.2.1
theorem dL_law_659 : decode cL_law 659 = .ok (.aload_n 2, 1) := da9_dL_law_642.2.2.2.2.2.2.2.2.2.1
theorem dL_law_660 : decode cL_law 660 = .ok (.invokevirtual 100, 3) := da9_dL_law_642.2.2.2.2.2.2.2.2.2.2.1
theorem dL_law_663 : decode cL_law 663 = .ok (.pop, 1) := da9_dL_law_642.2.2.2.2.2.2.2.2.2.2.2.1
theorem dL_law_664 : decode cL_law 664 = .ok (.goto 407, 3) := da9_dL_law_642.2.2.2.2.2.2.2.2.2.2.2.2.1
theorem dL_law_667 : decode cL_law 667 = .ok (.aload_n 1, 1) := da9_dL_law_642.2.2.2.2.2.2.2.2.2.2.2.2.2.1
theorem dL_law_668 : decode cL_law 668 = .ok (.aload_n 0, 1) := da9_dL_law_642.2.2.2.2.2.2.2.2.2.2.2.2.2.2.1
theorem dL_law_669 : decode cL_law 669 = .ok (.iload_n 3, 1) := da9_dL_law_642.2.2.2.2.2.2.2.2.2.2.2.2.2.2.2
theorem da9_dL_law_670 : (decode cL_law 670 = .ok (.iconst 1, 1)) ∧ (decode cL_law 671 = .ok (.iadd, 1)) ∧ (decode cL_law 672 = .ok (.iaload, 1)) ∧ (decode cL_law 673 = .ok (.invokevirtual 101, 3)) ∧ (decode cL_law 676 = .ok (.pop, 1)) ∧ (decode cL_law 677 = .ok (.aload_n 2, 1)) ∧ (decode cL_law 678 = .ok (.aload_n 0, 1)) ∧ (decode cL_law 679 = .ok (.iload_n 3, 1)) ∧ (decode cL_law 680 = .ok (.iconst 1, 1)) ∧ (decode cL_law 681 = .ok (.iadd, 1)) ∧ (decode cL_law 682 = .ok (.iaload, 1)) ∧ (decode cL_law 683 = .ok (.invokevirtual 104, 3)) ∧ (decode cL_law 686 = .ok (.pop, 1)) ∧ (decode cL_law 687 = .ok (.goto 384, 3)) ∧ (decode cL_law 690 = .ok (.aload_n 1, 1)) ∧ (decode cL_law 691 = .ok (.invokevirtual 105, 3)) := by decide +kernel
theorem dL_law_670 : decode cL_law 670 = .ok (.iconst 1, 1) := da9_dL_law_670.1
theorem dL_law_671 : decode cL_law 671 = .ok (.iadd, 1) := da9_dL_law_670.2.1
theorem dL_law_672 : decode cL_law 672 = .ok (.iaload, 1) := da9_dL_law_670.2.2.1
theorem dL_law_673 : decode cL_law 673 = .ok (.invokevirtual 101, 3) := da9_dL_law_670.2.2.2.1
theorem dL_law_676 : decode cL_law 676 = .ok (.pop, 1) := da9_dL_law_670.2.2.2.2.1
theorem dL_law_677 : decode cL_law 677 = .ok (.aload_n 2, 1) := da9_dL_law_670.2.2.2.2.2.1
theorem dL_law_678 : decode cL_law 678 = .ok (.aload_n 0, 1) := da9_dL_law_670.2.2.2.2.2.2.1
theorem dL_law_679 : decode cL_law 679 = .ok (.iload_n 3, 1) := da9_dL_law_670.2.2.2.2.2.2.2.1
theorem dL_law_680 : decode cL_law 680 = .ok (.iconst 1, 1) := da9_dL_law_670.2.2.2.2.2.2.2.2.1
theorem dL_law_681 : decode cL_law 681 = .ok (.iadd, 1) := da9_dL_law_670.2.2.2.2.2.2.2.2.2.1
theorem dL_law_682 : decode cL_law 682 = .ok (.iaload, 1) := da9_dL_law_670.2.2.2.2.2.2.2.2.2.2.1
theorem dL_law_683 : decode cL_law 683 = .ok (.invokevirtual 104, 3) := da9_dL_law_670.2.2.2.2.2.2.2.2.2.2.2.1
theorem dL_law_686 : decode cL_law 686 = .ok (.pop, 1) := da9_dL_law_670.2.2.2.2.2.2.2.2.2.2.2.2.1
theorem dL_law_687 : decode cL_law 687 = .ok (.goto 384, 3) := da9_dL_law_670.2.2.2.2.2.2.2.2.2.2.2.2.2.1
theorem dL_law_690 : decode cL_law 690 = .ok (.aload_n 1, 1) := da9_dL_law_670.2.2.2.2.2.2.2.2.2.2.2.2.2.2.1
theorem dL_law_691 : decode cL_law 691 = .ok (.invokevirtual 105, 3) := da9_dL_law_670.2.2.2.2.2.2.2.2.2.2.2.2.2.2.2
theorem da9_dL_law_694 : (decode cL_law 694 = .ok (.pop, 1)) ∧ (decode cL_law 695 = .ok (.aload_n 2, 1)) ∧ (decode cL_law 696 = .ok (.invokevirtual 108, 3)) ∧ (decode cL_law 699 = .ok (.pop, 1)) ∧ (decode cL_law 700 = .ok (.goto 371, 3)) ∧ (decode cL_law 703 = .ok (.aload_n 1, 1)) ∧ (decode cL_law 704 = .ok (.invokevirtual 109, 3)) ∧ (decode cL_law 707 = .ok (.pop, 1)) ∧ (decode cL_law 708 = .ok (.aload_n 2, 1)) ∧ (decode cL_law 709 = .ok (.invokevirtual 112, 3)) ∧ (decode cL_law 712 = .ok (.pop, 1)) ∧ (decode cL_law 713 = .ok (.goto 358, 3)) := by decide +kernel
theorem dL_law_694 : decode cL_law 694 = .ok (.pop, 1) := da9_dL_law_694.1
theorem dL_law_695 : decode cL_law 695 = .ok (.aload_n 2, 1) := da9_dL_law_694.2.1
theorem dL_law_696 : decode cL_law 696 = .ok (.invokevirtual 108, 3) := da9_dL_law_694.2.2.1
theorem dL_law_699 : decode cL_law 699 = .ok (.pop, 1) := da9_dL_law_694.2.2.2.1
theorem dL_law_700 : decode cL_law 700 = .ok (.goto 371, 3) := da9_dL_law_694.2.2.2.2.1
theorem dL_law_703 : decode cL_law 703 = .ok (.aload_n 1, 1) := da9_dL_law_694.2.2.2.2.2.1
theorem dL_law_704 : decode cL_law 704 = .ok (.invokevirtual 109, 3) := da9_dL_law_694.2.2.2.2.2.2.1
theorem dL_law_707 : decode cL_law 707 = .ok (.pop, 1) := da9_dL_law_694.2.2.2.2.2.2.2.1
theorem dL_law_708 : decode cL_law 708 = .ok (.aload_n 2, 1) := da9_dL_law_694.2.2.2.2.2.2.2.2.1
theorem dL_law_709 : decode cL_law 709 = .ok (.invokevirtual 112, 3) := da9_dL_law_694.2.2.2.2.2.2.2.2.2.1
theorem dL_law_712 : decode cL_law 712 = .ok (.pop, 1) := da9_dL_law_694.2.2.2.2.2.2.2.2.2.2.1
theorem dL_law_713 : decode cL_law 713 = .ok (.goto 358, 3) := da9_dL_law_694.2.2.2.2.2.2.2.2.2.2.2
