theorem da9_dL_law_716 : (decode cL_law 716 = .ok (.aload_n 1, 1)) ∧ (decode cL_law 717 = .ok (.aload_n 0, 1)) ∧ (decode cL_law 718 = .ok (.iload_n 3, 1)) ∧ (decode cL_law 719 = .ok (.iconst 1, 1)) ∧ (decode cL_law 720 = .ok (.iadd, 1)) ∧ (decode cL_law 721 = .ok (.iaload, 1)) ∧ (decode cL_law 722 = .ok (.invokevirtual 113, 3)) ∧ (decode cL_law 725 = .ok (.pop, 1)) ∧ (decode cL_law 726 = .ok (.aload_n 2, 1)) ∧ (decode cL_law 727 = .ok (.aload_n 0, 1)) ∧ (decode cL_law 728 = .ok (.iload_n 3, 1)) ∧ (decode cL_law 729 = .ok (.iconst 1, 1)) ∧ (decode cL_law 730 = .ok (.iadd, 1)) ∧ (decode cL_law 731 = .ok (.iaload, 1)) ∧ (decode cL_law 732 = .ok (.invokevirtual 116, 3)) ∧ (decode cL_law 735 = .ok (.pop, 1)) := by decide +kernel
theorem dL_law_716 : decode cL_law 716 = .ok (.aload_n 1, 1) := da9_dL_law_716.1
theorem dL_law_717 : decode cL_law 717 = .ok (.aload_n 0, 1) := da9_dL_law_716.2.1
theorem dL_law_718 : decode cL_law 718 = .ok (.iload_n 3, 1) := da9_dL_law_716.2.2.1
theorem dL_law_719 : decode cL_law 719 = .ok (.iconst 1, 1) := da9_dL_law_716.2.2.2.1
theorem dL_law_720 : decode cL_law 720 = .ok (.iadd, 1) := da9_dL_law_716.2.2.2.2.1
theorem dL_law_721 : decode cL_law 721 = .ok (.iaload, 1) := da9_dL_law_716.2.2.2.2.2.1
theorem dL_law_722 : decode cL_law 722 = .ok (.invokevirtual 113, 3) := da9_dL_law_716.2.2.2.2.2.2.1
theorem dL_law_725 : decode cL_law 725 = .ok (.pop, 1) := da9_dL_law_716.2.2.2.2.2.2.2.1
theorem dL_law_726 : decode cL_law 726 = .ok (.aload_n 2, 1) := da9_dL_law_716.2.2.2.2.2.2.2.2.1
theorem dL_law_727 : decode cL_law 727 = .ok (.aload_n 0, 1) := da9_dL_law_716.2.2.2.2.2.2.2.2.2.1
theorem dL_law_728 : decode cL_law 728 = .ok (.iload_n 3, 1) := da9_dL_law_716.2.2.2.2.2.2.2.2.2.2.1
theorem dL_law_729 : decode cL_law 729 = .ok (.iconst 1, 1) := da9_dL_law_716.2.2.2.2.2.2.2.2.2.2.2.1
theorem dL_law_730 : decode cL_law 730 = .ok (.iadd, 1) := da9_dL_law_716.2.2.2.2.2.2.2.2.2.2.2.2.1
theorem dL_law_731 : decode cL_law 731 = .ok (.iaload, 1) := da9_dL_law_716.2.2.2.2.2.2.2.2.2.2.2.2.2.1
theorem dL_law_732 : decode cL_law 732 = .ok (.invokevirtual 116, 3) := da9_dL_law_716.2.2.2.2.2.2.2.2.2.2.2.2.2.2.1
theorem dL_law_735 : decode cL_law 735 = .ok (.pop, 1) := da9_dL_law_716.2.2.2.2.2.2.2.2.2.2.2.2.2.2.2
theorem da9_dL_law_736 : (decode cL_law 736 = .ok (.goto 335, 3)) ∧ (decode cL_law 739 = .ok (.aload_n 1, 1)) ∧ (decode cL_law 740 = .ok (.aload_n 0, 1)) ∧ (decode cL_law 741 = .ok (.iload_n 3, 1)) ∧ (decode cL_law 742 = .ok (.iconst 1, 1)) ∧ (decode cL_law 743 = .ok (.iadd, 1)) ∧ (decode cL_law 744 = .ok (.iaload, 1)) ∧ (decode cL_law 745 = .ok (.invokevirtual 117, 3)) ∧ (decode cL_law 748 = .ok (.pop, 1)) ∧ (decode cL_law 749 = .ok (.aload_n 2, 1)) ∧ (decode cL_law 750 = .ok (.aload_n 0, 1)) ∧ (decode cL_law 751 = .ok (.iload_n 3, 1)) ∧ (decode cL_law 752 = .ok (.iconst 1, 1)) ∧ (decode cL_law 753 = .ok (.iadd, 1)) ∧ (decode cL_law 754 = .ok (.iaload, 1)) ∧ (decode cL_law 755 = .ok (.invokevirtual 120, 3)) := by decide +kernel
theorem dL_law_736 : decode cL_law 736 = .ok (.goto 335, 3) := da9_dL_law_736.1
theorem dL_law_739 : decode cL_law 739 = .ok (.aload_n 1, 1) := da9_dL_law_736.2.1
theorem dL_law_740 : decode cL_law 740 = .ok (.aload_n 0, 1) := da9_dL_law_736.2.2.1
theorem dL_law_741 : decode cL_law 741 = .ok (.iload_n 3, 1) := da9_dL_law_736.2.2.2.1
theorem dL_law_742 : decode cL_law 742 = .ok (.iconst 1, 1) := da9_dL_law_736.2.2.2.2.1
theorem dL_law_743 : decode cL_law 743 = .ok (.iadd, 1) := da9_dL_law_736.2.2.2.2.2.1
theorem dL_law_744 : decode cL_law 744 = .ok (.iaload, 1) := da9_dL_law_736.2.2.2.2.2.2.1
theorem dL_law_745 : decode cL_law 745 = .ok (.invokevirtual 117, 3) := da9_dL_law_736.2.2.2.2.2.2.2.1
theorem dL_law_748 : decode cL_law 748 = .ok (.pop, 1) := da9_dL_law_736.2.2.2.2.2.2.2.2.1
theorem dL_law_749 : decode cL_law 749 = .ok (.aload_n 2, 1) := da9_dL_law_736.2.2.2.2.2.2.2.2.2.1
theorem dL_law_750 : decode cL_law 750 = .ok (.aload_n 0, 1) := da9_dL_law_736.2.2.2.2.2.2.2.2.2.2.1
theorem dL_law_751 : decode cL_law 751 = .ok (.iload_n 3, 1) := da9_dL_law_736.2.2.2.2.2.2.2.2.2.2.2.1
theorem dL_law_752 : decode cL_law 752 = .ok (.iconst 1, 1) := da9_dL_law_736.2.2.2.2.2.2.2.2.2.2.2.2.1
theorem dL_law_753 : decode cL_law 753 = .ok (.iadd, 1) := da9_dL_law_736.2.2.2.2.2.2.2.2.2.2.2.2.2.1
theorem dL_law_754 : decode cL_law 754 = .ok (.iaload, 1) := da9_dL_law_736.2.2.2.2.2.2.2.2.2.2.2.2.2.2.1
theorem dL_law_755 : decode cL_law 755 = .ok (.invokevirtual 120, 3) := da9_dL_law_736.2.2.2.2.2.2.2.2.2.2.2.2.2.2.2
theorem da9_dL_law_758 : (decode cL_law 758 = .ok (.pop, 1)) ∧ (decode cL_law 759 = .ok (.goto 312, 3)) ∧ (decode cL_law 762 = .ok (.aload_n 1, 1)) ∧ (decode cL_law 763 = .ok (.aload_n 0, 1)) ∧ (decode cL_law 764 = .ok (.iload_n 3, 1)) ∧ (decode cL_law 765 = .ok (.iconst 1, 1)) ∧ (decode cL_law 766 = .ok (.iadd, 1)) ∧ (decode cL_law 767 = .ok (.iaload, 1)) ∧ (decode cL_law 768 = .ok (.invokevirtual 121, 3)) ∧ (decode cL_law 771 = .ok (.pop, 1)) ∧ (decode cL_law 772 = .ok (.aload_n 2, 1)) ∧ (decode cL_law 773 = .ok (.aload_n 0, 1)) ∧ (decode cL_law 774 = .ok (.iload_n 3, 1)) ∧ (decode cL_law 775 = .ok (.iconst 1, 1)) ∧ (decode cL_law 776 = .ok (.iadd, 1)) ∧ (decode cL_law 777 = .ok (.iaload, 1)) := by decide +kernel
theorem dL_law_758 : decode cL_law 758 = .ok (.pop, 1) := da9_dL_law_758.1
theorem dL_law_759 : decode cL_law 759 = .ok (.goto 312, 3) := da9_dL_law_758.2.1
theorem dL_law_762 : decode cL_law 762 = .ok (.aload_n 1, 1) := da9_dL_law_758.2.2.1
theorem dL_law_763 : decode cL_law 763 = .ok (.aload_n 0, 1) := da9_dL_law_758.2.2.2.1
theorem dL_law_764 : decode cL_law 764 = .ok (.iload_n 3, 1) := da9_dL_law_758.2.2.2.2.1
theorem dL_law_765 : decode cL_law 765 = .ok (.iconst 1, 1) := da9_dL_law_758.2.2.2.2.2.1
theorem dL_law_766 : decode cL_law 766 = .ok (.iadd, 1) := da9_dL_law_758.2.2.2.2.2.2.1
theorem dL_law_767 : decode cL_law 767 = .ok (.iaload, 1) := da9_dL_law_758.2.2.2.2.2.2.2.1
theorem dL_law_768 : decode cL_law 768 = .ok (.invokevirtual 121, 3) := da9_dL_law_758.2.2.2.2.2.2.2.2.1
theorem dL_law_771 : decode cL_law 771 = .ok (.pop, 1) := da9_dL_law_758.2.2.2.2.2.2.2.2.2.1
theorem dL_law_772 : decode cL_law 772 = .ok (.aload_n 2, 1) := da9_dL_law_758.2.2.2.2.2.2.2.2.2.2.1
theorem dL_law_773 : decode cL_law 773 = .ok (.aload_n 0, 1) := da9_dL_law_758.2.2.2.2.2.2.2.2.2.2.2.1
theorem dL_law_774 : decode cL_law 774 = .ok (.iload_n 3, 1) := da9_dL_law_758.2.2.2.2.2.2.2.2.2.2.2.2.1
theorem dL_law_775 : decode cL_law 775 = .ok (.iconst 1, 1) := da9_dL_law_758.2.2.2.2.2.2.2.2.2.2.2.2.2.1
theorem dL_law_776 : decode cL_law 776 = .ok (.iadd, 1) := da9_dL_law_758.2.2.2.2.2.2.2.2.2.2.2.2.2.2.1
theorem dL_law_777 : decode cL_law 777 = .ok (.iaload, 1) := da9_dL_law_758.2.2.2.2.2.2.2.2.2.2.2.2.2.2.2
theorem da9_dL_law_778 : (decode cL_law 778 = .ok (.invokevirtual 124, 3)) ∧ (decode cL_law 781 = .ok (.pop, 1)) ∧ (decode cL_law 782 = .ok (.goto 289, 3)) ∧ (decode cL_law 785 = .ok (.aload_n 1, 1)) ∧ (decode cL_law 786 = .ok (.aload_n 0, 1)) ∧ (decode cL_law 787 = .ok (.iload_n 3, 1)) ∧ (decode cL_law 788 = .ok (.iconst 1, 1)) ∧ (decode cL_law 789 = .ok (.iadd, 1)) ∧ (decode cL_law 790 = .ok (.iaload, 1)) ∧ (decode cL_law 791 = .ok (.aload_n 0, 1)) ∧ (decode cL_law 792 = .ok (.iload_n 3, 1)) ∧ (decode cL_law 793 = .ok (.iconst 2, 1)) ∧ (decode cL_law 794 = .ok (.iadd, 1)) ∧ (decode cL_law 795 = .ok (.iaload, 1)) ∧ (decode cL_law 796 = .ok (.invokevirtual 125, 3)) ∧ (decode cL_law 799 = .ok (.pop, 1)) := by decide +kernel
theorem dL_law_778 : decode cL_law 778 = .ok (.invokevirtual 124, 3) := da9_dL_law_778.1
theorem dL_law_781 : decode cL_law 781 = .ok (.pop, 1) := da9_dL_law_778.2.1
theorem dL_law_782 : decode cL_law 782 = .ok (.goto 289, 3) := da9_dL_law_778.2.2.1
theorem dL_law_785 : decode cL_law 785 = .ok (.aload_n 1, 1) := da9_dL_law_778.2.2.2.1
theorem dL_law_786 : decode cL_law 786 = .ok (.aload_n 0, 1) := da9_dL_law_778.2.2.2.2.1
theorem dL_law_787 : decode cL_law 787 = .ok (.iload_n 3, 1) := da9_dL_law_778.2.2.2.2.2.1
theorem dL_law_788 : decode cL_law 788 = .ok (.iconst 1, 1) := da9_dL_law_778.2.2.2.2.2.2.1
theorem dL_law_789 : decode cL_law 789 = .ok (.iadd, 1) := da9_dL_law_778.2.2.2.2.2.2.2.1
theorem dL_law_790 : decode cL_law 790 = .ok (.iaload, 1) := da9_dL_law_778.2.2.2.2.2.2.2.2.1
theorem dL_law_791 : decode cL_law 791 = .ok (.aload_n 0, 1) := da9_dL_law_778.2.2.2.2.2.2.2.2.2.1
theorem dL_law_792 : decode cL_law 792 = .ok (.iload_n 3, 1) := da9_dL_law_778.2.2.2.2.2.2.2.2.2.2.1
theorem dL_law_793 : decode cL_law 793 = .ok (.iconst 2, 1) := da9_dL_law_778.2.2.2.2.2.2.2.2.2.2.2.1
theorem dL_law_794 : decode cL_law 794 = .ok (.iadd, 1) := da9_dL_law_778.2.2.2.2.2.2.2.2.2.2.2.2.1
theorem dL_law_795 : decode cL_law 795 = .ok (.iaload, 1) := da9_dL_law_778.2.2.2.2.2.2.2.2.2.2.2.2.2.1
theorem dL_law_796 : decode cL_law 796 = .ok (.invokevirtual 125, 3) := da9_dL_law_778.2.2.2.2.2.2.2.2.2.2.2.2.2.2.1
theorem dL_law_799 : decode cL_law 799 = .ok (.pop, 1) := da9_dL_law_778.2.2.2.2.2.2.2.2.2.2.2.2.2.2.2
theorem da9_dL_law_800 : (decode cL_law 800 = .ok (.aload_n 2, 1)) ∧ (decode cL_law 801 = .ok (.aload_n 0, 1)) ∧ (decode cL_law 802 = .ok (.iload_n 3, 1)) ∧ (decode cL_law 803 = .ok (.iconst 1, 1)) ∧ (decode cL_law 804 = .ok (.iadd, 1)) ∧ (decode cL_law 805 = .ok (.iaload, 1)) ∧ (decode cL_law 806 = .ok (.aload_n 0, 1)) ∧ (decode cL_law 807 = .ok (.iload_n 3, 1)) ∧ (decode cL_law 808 = .ok (.iconst 2, 1)) ∧ (decode cL_law 809 = .ok (.iadd, 1)) ∧ (decode cL_law 810 = .ok (.iaload, 1)) ∧ (decode cL_law 811 = .ok (.invokevirtual 128, 3)) ∧ (decode cL_law 814 = .ok (.pop, 1)) ∧ (decode cL_law 815 = .ok (.goto 256, 3)) ∧ (decode cL_law 818 = .ok (.aload_n 1, 1)) ∧ (decode cL_law 819 = .ok (.invokevirtual 129, 3)) := by decide +kernel
theorem dL_law_800 : decode cL_law 800 = .ok (.aload_n 2, 1) := da9_dL_law_800.1
theorem dL_law_801 : decode cL_law 801 = .ok (.aload_n 0, 1) := da9_dL_law_800.2.1
theorem dL_law_802 : decode cL_law 802 = .ok (.iload_n 3, 1) := da9_dL_law_800.2.2.1
theorem dL_law_803 : decode cL_law 803 = .ok (.iconst 1, 1) := da9_dL_law_800.2.2.2.1
theorem dL_law_804 : decode cL_law 804 = .ok (.iadd, 1) := da9_dL_law_800.2.2.2.2.1
theorem dL_law_805 : decode cL_law 805 = .ok (.iaload, 1) := da9_dL_law_800.2.2.2.2.2.1
theorem dL_law_806 : decode cL_law 806 = .ok (.aload_n 0, 1) := da9_dL_law_800.2.2.2.2.2.2.1
theorem dL_law_807 : decode cL_law 807 = .ok (.iload_n 3, 1) := da9_dL_law_800.2.2.2.2.2.2.2.1
theorem dL_law_808 : decode cL_law 808 = .ok (.iconst 2, 1) := da9_dL_law_800.2.2.2.2.2.2.2.2.1
theorem dL_law_809 : decode cL_law 809 = .ok (.iadd, 1) := da9_dL_law_800.2.2.2.2.2.2.2.2.2.1
theorem dL_law_810 : decode cL_law 810 = .ok (.iaload, 1) := da9_dL_law_800.2.2.2.2.2.2.2.2.2.2.1
theorem dL_law_811 : decode cL_law 811 = .ok (.invokevirtual 128, 3) := da9_dL_law_800.2.2.2.2.2.2.2.2.2.2.2.1
theorem dL_law_814 : decode cL_law 814 = .ok (.pop, 1) := da9_dL_law_800.2.2.2.2.2.2.2.2.2.2.2.2.1
theorem dL_law_815 : decode cL_law 815 = .ok (.goto 256, 3) := da9_dL_law_800.2.2.2.2.2.2.2.2.2.2.2.2.2.1
theorem dL_law_818 : decode cL_law 818 = .ok (.aload_n 1, 1) := da9_dL_law_800.2.2.2.2.2.2.2.2.2.2.2.2.2.2.1
theorem dL_law_819 : decode cL_law 819 = .ok (.invokevirtual 129, 3) := da9_dL_law_800.2.2.2.2.2.2.2.2.2.2.2.2.2.2.2
theorem da9_dL_law_822 : (decode cL_law 822 = .ok (.pop, 1)) ∧ (decode cL_law 823 = .ok (.aload_n 2, 1)) ∧ (decode cL_law 824 = .ok (.invokevirtual 132, 3)) ∧ (decode cL_law 827 = .ok (.pop, 1)) ∧ (decode cL_law 828 = .ok (.goto 243, 3)) ∧ (decode cL_law 831 = .ok (.aload_n 1, 1)) ∧ (decode cL_law 832 = .ok (.invokevirtual 133, 3)) ∧ (decode cL_law 835 = .ok (.pop, 1)) ∧ (decode cL_law 836 = .ok (.aload_n 2, 1)) ∧ (decode cL_law 837 = .ok (.invokevirtual 136, 3)) ∧ (decode cL_law 840 = .ok (.pop, 1)) ∧ (decode cL_law 841 = .ok (.goto 230, 3)) ∧ (decode cL_law 844 = .ok (.aload_n 1, 1)) ∧ (decode cL_law 845 = .ok (.aload_n 0, 1)) ∧ (decode cL_law 846 = .ok (.iload_n 3, 1)) ∧ (decode cL_law 847 = .ok (.iconst 1, 1)) := by decide +kernel
theorem dL_law_822 : decode cL_law 822 = .ok (.pop, 1) := da9_dL_law_822.1
theorem dL_law_823 : decode cL_law 823 = .ok (.aload_n 2, 1) := da9_dL_law_822.2.1
theorem dL_law_824 : decode cL_law 824 = .ok (.invokevirtual 132, 3) := da9_dL_law_822.2.2.1
theorem dL_law_827 : decode cL_law 827 = .ok (.pop, 1) := da9_dL_law_822.2.2.2.1
theorem dL_law_828 : decode cL_law 828 = .ok (.goto 243, 3) := da9_dL_law_822.2.2.2.2.1
theorem dL_law_831 : decode cL_law 831 = .ok (.aload_n 1, 1) := da9_dL_law_822.2.2.2.2.2.1
theorem dL_law_832 : decode cL_law 832 = .ok (.invokevirtual 133, 3) := da9_dL_law_822.2.2.2.2.2.2.1
theorem dL_law_835 : decode cL_law 835 = .ok (.pop, 1) := da9_dL_law_822.2.2.2.2.2.2.2.1
theorem dL_law_836 : decode cL_law 836 = .ok (.aload_n 2, 1) := da9_dL_law_822.2.2.2.2.2.2.2.2.1
theorem dL_law_837 : decode cL_law 837 = .ok (.invokevirtual 136, 3) := da9_dL_law_822.2.2.2.2.2.2.2.2.2.1
theorem dL_law_840 : decode cL_law 840 = .ok (.pop, 1) := da9_dL_law_822.2.2.2.2.2.2.2.2.2.2.1
theorem dL_law_841 : decode cL_law 841 = .ok (.goto 230, 3) := da9_dL_law_822.2.2.2.2.2.2.2.2.2.2.2.1
theorem dL_law_844 : decode cL_law 844 = .ok (.aload_n 1, 1) := da9_dL_law_822.2.2.2.2.2.2.2.2.2.2.2.2.1
theorem dL_law_845 : decode cL_law 845 = .ok (.aload_n 0, 1) := da9_dL_law_822.2.2.2.2.2.2.2.2.2.2.2.2.2.1
theorem dL_law_846 : decode cL_law 846 = .ok (.iload_n 3, 1) := da9_dL_law_822.2.2.2.2.2.2.2.2.2.2.2.2.2.2.1
theorem dL_law_847 : decode cL_law 847 = .ok (.iconst 1, 1) := da9_dL_law_822.2.2.2.2.2.2.2.2.2.2.2.2.2.2.2
theorem da9_dL_law_848 : (decode cL_law 848 = .ok (.iadd, 1)) ∧ (decode cL_law 849 = .ok (.iaload, 1)) ∧ (decode cL_law 850 = .ok (.invokevirtual 137, 3)) ∧ (decode cL_law 853 = .ok (.pop, 1)) ∧ (decode cL_law 854 = .ok (.aload_n 2, 1)) ∧ (decode cL_law 855 = .ok (.aload_n 0, 1)) ∧ (decode cL_law 856 = .ok (.iload_n 3, 1)) ∧ (decode cL_law 857 = .ok (.iconst 1, 1)) ∧ (decode cL_law 858 = .ok (.iadd, 1)) ∧ (decode cL_law 859 = .ok (.iaload, 1)) ∧ (decode cL_law 860 = .ok (.invokevirtual 140, 3)) ∧ (decode cL_law 863 = .ok (.pop, 1)) ∧ (decode cL_law 864 = .ok (.goto 207, 3)) ∧ (decode cL_law 867 = .ok (.aload_n 1, 1)) ∧ (decode cL_law 868 = .ok (.aload_n 0, 1)) ∧ (decode cL_law 869 = .ok (.iload_n 3, 1)) := by decide +kernel
theorem dL_law_848 : decode cL_law 848 = .ok (.iadd, 1) := da9_dL_law_848.1
theorem dL_law_849 : decode cL_law 849 = .ok (.iaload, 1) := da9_dL_law_848.2.1
theorem dL_law_850 : decode cL_law 850 = .ok (.invokevirtual 137, 3) := da9_dL_law_848.2.2.1
theorem dL_law_853 : decode cL_law 853 = .ok (.pop, 1) := da9_dL_law_848.2.2.2.1
theorem dL_law_854 : decode cL_law 854 = .ok (.aload_n 2, 1) := da9_dL_law_848.2.2.2.2.1
theorem dL_law_855 : decode cL_law 855 = .ok (.aload_n 0, 1) := da9_dL_law_848.2.2.2.2.2.1
theorem dL_law_856 : decode cL_law 856 = .ok (.iload_n 3, 1) := da9_dL_law_848.2.2.2.2.2.2.1
theorem dL_law_857 : decode cL_law 857 = .ok (.iconst 1, 1) := da9_dL_law_848.2.2.2.2.2.2.2.1
theorem dL_law_858 : decode cL_law 858 = .ok (.iadd, 1) := da9_dL_law_848.2.2.2.2.2.2.2.2.1
theorem dL_law_859 : decode cL_law 859 = .ok (.iaload, 1) := da9_dL_law_848.2.2.2.2.2.2.2.2.2.1
theorem dL_law_860 : decode cL_law 860 = .ok (.invokevirtual 140, 3) := da9_dL_law_848.2.2.2.2.2.2.2.2.2.2.1
theorem dL_law_863 : decode cL_law 863 = .ok (.pop, 1) := da9_dL_law_848.2.2.2.2.2.2.2.2.2.2.2.1
theorem dL_law_864 : decode cL_law 864 = .ok (.goto 207, 3) := da9_dL_law_848.2.2.2.2.2.2.2.2.2.2.2.2.1
theorem dL_law_867 : decode cL_law 867 = .ok (.aload_n 1, 1) := da9_dL_law_848.2.2.2.2.2.2.2.2.2.2.2.2.2.1
theorem dL_law_868 : decode cL_law 868 = .ok (.aload_n 0, 1) := da9_dL_law_848.2.2.2.2.2.2.2.2.2.2.2.2.2.2.1
theorem dL_law_869 : decode cL_law 869 = .ok (.iload_n 3, 1) := da9_dL_law_848.2.2.2.2.2.2.2.2.2.2.2.2.2.2.2
theorem da9_dL_law_870 : (decode cL_law 870 = .ok (.iconst 1, 1)) ∧ (decode cL_law 871 = .ok (.iadd, 1)) ∧ (decode cL_law 872 = .ok (.iaload, 1)) ∧ (decode cL_law 873 = .ok (.aload_n 0, 1)) ∧ (decode cL_law 874 = .ok (.iload_n 3, 1)) ∧ (decode cL_law 875 = .ok (.iconst 2, 1)) ∧ (decode cL_law 876 = .ok (.iadd, 1)) ∧ (decode cL_law 877 = .ok (.iaload, 1)) ∧ (decode cL_law 878 = .ok (.invokevirtual 141, 3)) ∧ (decode cL_law 881 = .ok (.pop2, 1)) ∧ (decode cL_law 882 = .ok (.aload_n 2, 1)) ∧ (decode cL_law 883 = .ok (.aload_n 0, 1)) ∧ (decode cL_law 884 = .ok (.iload_n 3, 1)) ∧ (decode cL_law 885 = .ok (.iconst 1, 1)) ∧ (decode cL_law 886 = .ok (.iadd, 1)) ∧ (decode cL_law 887 = .ok (.iaload, 1)) := by decide +kernel
theorem dL_law_870 : decode cL_law 870 = .ok (.iconst 1, 1) := da9_dL_law_870.1
theorem dL_law_871 : decode cL_law 871 = .ok (.iadd, 1) := da9_dL_law_870.2.1
theorem dL_law_872 : decode cL_law 872 = .ok (.iaload, 1) := da9_dL_law_870.2.2.1
theorem dL_law_873 : decode cL_law 873 = .ok (.aload_n 0, 1) := da9_dL_law_870.2.2.2.1
theorem dL_law_874 : decode cL_law 874 = .ok (.iload_n 3, 1) := da9_dL_law_870.2.2.2.2.1
theorem dL_law_875 : decode cL_law 875 = .ok (.iconst 2, 1) := da9_dL_law_870.2.2.2.2.2.1
theorem dL_law_876 : decode cL_law 876 = .ok (.iadd, 1) := da9_dL_law_870.2.2.2.2.2.2.1
theorem dL_law_877 : decode cL_law 877 = .ok (.iaload, 1) := da9_dL_law_870.2.2.2.2.2.2.2.1
theorem dL_law_878 : decode cL_law 878 = .ok (.invokevirtual 141, 3) := da9_dL_law_870.2.2.2.2.2.2.2.2.1
theorem dL_law_881 : decode cL_law 881 = .ok (.pop2, 1) := da9_dL_law_870.2.2.2.2.2.2.2.2.2.1
theorem dL_law_882 : decode cL_law 882 = .ok (.aload_n 2, 1) := da9_dL_law_870.2.2.2.2.2.2.2.2.2.2.1
theorem dL_law_883 : decode cL_law 883 = .ok (.aload_n 0, 1) := da9_dL_law_870.2.2.2.2.2.2.2.2.2.2.2.1
theorem dL_law_884 : decode cL_law 884 = .ok (.iload_n 3, 1) := da9_dL_law_870.2.2.2.2.2.2.2.2.2.2.2.2.1
theorem dL_law_885 : decode cL_law 885 = .ok (.iconst 1, 1) := da9_dL_law_870.2.2.2.2.2.2.2.2.2.2.2.2.2.1
theorem dL_law_886 : decode cL_law 886 = .ok (.iadd, 1) := da9_dL_law_870.2.2.2.2.2.2.2.2.2.2.2.2.2.2.1
theorem dL_law_887 : decode cL_law 887 = .ok (.iaload, 1) := da9_dL_law_870.2.2.2.2.2.2.2.2.2.2.2.2.2.2.2
theorem da9_dL_law_888 : (decode cL_law 888 = .ok (.aload_n 0, 1)) ∧ (decode cL_law 889 = .ok (.iload_n 3, 1)) ∧ (decode cL_law 890 = .ok (.iconst 2, 1)) ∧ (decode cL_law 891 = .ok (.iadd, 1)) ∧ (decode cL_law 892 = .ok (.iaload, 1)) ∧ (decode cL_law 893 = .ok (.invokevirtual 145, 3)) ∧ (decode cL_law 896 = .ok (.pop2, 1)) ∧ (decode cL_law 897 = .ok (.goto 174, 3)) := by decide +kernel
theorem dL_law_888 : decode cL_law 888 = .ok (.aload_n 0, 1) := da9_dL_law_888.1
theorem dL_law_889 : decode cL_law 889 = .ok (.iload_n 3, 1) := da9_dL_law_888.2.1
theorem dL_law_890 : decode cL_law 890 = .ok (.iconst 2, 1) := da9_dL_law_888.2.2.1
theorem dL_law_891 : decode cL_law 891 = .ok (.iadd, 1) := da9_dL_law_888.2.2.2.1
theorem dL_law_892 : decode cL_law 892 = .ok (.iaload, 1) := da9_dL_law_888.2.2.2.2.1
theorem dL_law_893 : decode cL_law 893 = .ok (.invokevirtual 145, 3) := da9_dL_law_888.2.2.2.2.2.1
theorem dL_law_896 : decode cL_law 896 = .ok (.pop2, 1) := da9_dL_law_888.2.2.2.2.2.2.1
theorem dL_law_897 : decode cL_law 897 = .ok (.goto 174, 3) := da9_dL_law_888.2.2.2.2.2.2.2
