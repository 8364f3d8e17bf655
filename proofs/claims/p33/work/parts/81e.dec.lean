theorem dLaw_722g : (decode code 722 = .ok (.iload_n 3, 1)) ∧ (decode code 723 = .ok (.iconst 1, 1)) ∧ (decode code 724 = .ok (.iadd, 1)) ∧ (decode code 725 = .ok (.iaload, 1)) ∧ (decode code 726 = .ok (.invokevirtual 78, 3)) ∧ (decode code 729 = .ok (.pop, 1)) ∧ (decode code 730 = .ok (.goto 1274, 3)) ∧ (decode code 733 = .ok (.aload_n 1, 1)) ∧ (decode code 734 = .ok (.aload_n 0, 1)) ∧ (decode code 735 = .ok (.iload_n 3, 1)) := by decide +kernel
theorem dLaw_722 : decode code 722 = .ok (.iload_n 3, 1) := dLaw_722g.1
theorem dLaw_723 : decode code 723 = .ok (.iconst 1, 1) := dLaw_722g.2.1
theorem dLaw_724 : decode code 724 = .ok (.iadd, 1) := dLaw_722g.2.2.1
theorem dLaw_725 : decode code 725 = .ok (.iaload, 1) := dLaw_722g.2.2.2.1
theorem dLaw_726 : decode code 726 = .ok (.invokevirtual 78, 3) := dLaw_722g.2.2.2.2.1
theorem dLaw_729 : decode code 729 = .ok (.pop, 1) := dLaw_722g.2.2.2.2.2.1
theorem dLaw_730 : decode code 730 = .ok (.goto 1274, 3) := dLaw_722g.2.2.2.2.2.2.1
theorem dLaw_733 : decode code 733 = .ok (.aload_n 1, 1) := dLaw_722g.2.2.2.2.2.2.2.1
theorem dLaw_734 : decode code 734 = .ok (.aload_n 0, 1) := dLaw_722g.2.2.2.2.2.2.2.2.1
theorem dLaw_735 : decode code 735 = .ok (.iload_n 3, 1) := dLaw_722g.2.2.2.2.2.2.2.2.2
theorem dLaw_736g : (decode code 736 = .ok (.iconst 1, 1)) ∧ (decode code 737 = .ok (.iadd, 1)) ∧ (decode code 738 = .ok (.iaload, 1)) ∧ (decode code 739 = .ok (.aload_n 0, 1)) ∧ (decode code 740 = .ok (.iload_n 3, 1)) ∧ (decode code 741 = .ok (.iconst 2, 1)) ∧ (decode code 742 = .ok (.iadd, 1)) ∧ (decode code 743 = .ok (.iaload, 1)) ∧ (decode code 744 = .ok (.invokevirtual 79, 3)) ∧ (decode code 747 = .ok (.pop, 1)) := by decide +kernel
theorem dLaw_736 : decode code 736 = .ok (.iconst 1, 1) := dLaw_736g.1
theorem dLaw_737 : decode code 737 = .ok (.iadd, 1) := dLaw_736g.2.1
theorem dLaw_738 : decode code 738 = .ok (.iaload, 1) := dLaw_736g.2.2.1
theorem dLaw_739 : decode code 739 = .ok (.aload_n 0, 1) := dLaw_736g.2.2.2.1
theorem dLaw_740 : decode code 740 = .ok (.iload_n 3, 1) := dLaw_736g.2.2.2.2.1
theorem dLaw_741 : decode code 741 = .ok (.iconst 2, 1) := dLaw_736g.2.2.2.2.2.1
theorem dLaw_742 : decode code 742 = .ok (.iadd, 1) := dLaw_736g.2.2.2.2.2.2.1
theorem dLaw_743 : decode code 743 = .ok (.iaload, 1) := dLaw_736g.2.2.2.2.2.2.2.1
theorem dLaw_744 : decode code 744 = .ok (.invokevirtual 79, 3) := dLaw_736g.2.2.2.2.2.2.2.2.1
theorem dLaw_747 : decode code 747 = .ok (.pop, 1) := dLaw_736g.2.2.2.2.2.2.2.2.2
theorem dLaw_748g : (decode code 748 = .ok (.aload_n 2, 1)) ∧ (decode code 749 = .ok (.aload_n 0, 1)) ∧ (decode code 750 = .ok (.iload_n 3, 1)) ∧ (decode code 751 = .ok (.iconst 1, 1)) ∧ (decode code 752 = .ok (.iadd, 1)) ∧ (decode code 753 = .ok (.iaload, 1)) ∧ (decode code 754 = .ok (.aload_n 0, 1)) ∧ (decode code 755 = .ok (.iload_n 3, 1)) ∧ (decode code 756 = .ok (.iconst 2, 1)) ∧ (decode code 757 = .ok (.iadd, 1)) := by decide +kernel
theorem dLaw_748 : decode code 748 = .ok (.aload_n 2, 1) := dLaw_748g.1
theorem dLaw_749 : decode code 749 = .ok (.aload_n 0, 1) := dLaw_748g.2.1
theorem dLaw_750 : decode code 750 = .ok (.iload_n 3, 1) := dLaw_748g.2.2.1
theorem dLaw_751 : decode code 751 = .ok (.iconst 1, 1) := dLaw_748g.2.2.2.1
theorem dLaw_752 : decode code 752 = .ok (.iadd, 1) := dLaw_748g.2.2.2.2.1
theorem dLaw_753 : decode code 753 = .ok (.iaload, 1) := dLaw_748g.2.2.2.2.2.1
theorem dLaw_754 : decode code 754 = .ok (.aload_n 0, 1) := dLaw_748g.2.2.2.2.2.2.1
theorem dLaw_755 : decode code 755 = .ok (.iload_n 3, 1) := dLaw_748g.2.2.2.2.2.2.2.1
theorem dLaw_756 : decode code 756 = .ok (.iconst 2, 1) := dLaw_748g.2.2.2.2.2.2.2.2.1
theorem dLaw_757 : decode code 757 = .ok (.iadd, 1) := dLaw_748g.2.2.2.2.2.2.2.2.2
theorem dLaw_758g : (decode code 758 = .ok (.iaload, 1)) ∧ (decode code 759 = .ok (.invokevirtual 82, 3)) ∧ (decode code 762 = .ok (.pop, 1)) ∧ (decode code 763 = .ok (.goto 1241, 3)) ∧ (decode code 766 = .ok (.aload_n 1, 1)) ∧ (decode code 767 = .ok (.aload_n 0, 1)) ∧ (decode code 768 = .ok (.iload_n 3, 1)) ∧ (decode code 769 = .ok (.iconst 1, 1)) ∧ (decode code 770 = .ok (.iadd, 1)) ∧ (decode code 771 = .ok (.iaload, 1)) := by decide +kernel
theorem dLaw_758 : decode code 758 = .ok (.iaload, 1) := dLaw_758g.1
theorem dLaw_759 : decode code 759 = .ok (.invokevirtual 82, 3) := dLaw_758g.2.1
theorem dLaw_762 : decode code 762 = .ok (.pop, 1) := dLaw_758g.2.2.1
theorem dLaw_763 : decode code 763 = .ok (.goto 1241, 3) := dLaw_758g.2.2.2.1
theorem dLaw_766 : decode code 766 = .ok (.aload_n 1, 1) := dLaw_758g.2.2.2.2.1
theorem dLaw_767 : decode code 767 = .ok (.aload_n 0, 1) := dLaw_758g.2.2.2.2.2.1
theorem dLaw_768 : decode code 768 = .ok (.iload_n 3, 1) := dLaw_758g.2.2.2.2.2.2.1
theorem dLaw_769 : decode code 769 = .ok (.iconst 1, 1) := dLaw_758g.2.2.2.2.2.2.2.1
theorem dLaw_770 : decode code 770 = .ok (.iadd, 1) := dLaw_758g.2.2.2.2.2.2.2.2.1
theorem dLaw_771 : decode code 771 = .ok (.iaload, 1) := dLaw_758g.2.2.2.2.2.2.2.2.2
theorem dLaw_772g : (decode code 772 = .ok (.aload_n 0, 1)) ∧ (decode code 773 = .ok (.iload_n 3, 1)) ∧ (decode code 774 = .ok (.iconst 2, 1)) ∧ (decode code 775 = .ok (.iadd, 1)) ∧ (decode code 776 = .ok (.iaload, 1)) ∧ (decode code 777 = .ok (.aload_n 0, 1)) ∧ (decode code 778 = .ok (.iload_n 3, 1)) ∧ (decode code 779 = .ok (.iconst 3, 1)) ∧ (decode code 780 = .ok (.iadd, 1)) ∧ (decode code 781 = .ok (.iaload, 1)) := by decide +kernel
theorem dLaw_772 : decode code 772 = .ok (.aload_n 0, 1) := dLaw_772g.1
theorem dLaw_773 : decode code 773 = .ok (.iload_n 3, 1) := dLaw_772g.2.1
theorem dLaw_774 : decode code 774 = .ok (.iconst 2, 1) := dLaw_772g.2.2.1
theorem dLaw_775 : decode code 775 = .ok (.iadd, 1) := dLaw_772g.2.2.2.1
theorem dLaw_776 : decode code 776 = .ok (.iaload, 1) := dLaw_772g.2.2.2.2.1
theorem dLaw_777 : decode code 777 = .ok (.aload_n 0, 1) := dLaw_772g.2.2.2.2.2.1
theorem dLaw_778 : decode code 778 = .ok (.iload_n 3, 1) := dLaw_772g.2.2.2.2.2.2.1
theorem dLaw_779 : decode code 779 = .ok (.iconst 3, 1) := dLaw_772g.2.2.2.2.2.2.2.1
theorem dLaw_780 : decode code 780 = .ok (.iadd, 1) := dLaw_772g.2.2.2.2.2.2.2.2.1
theorem dLaw_781 : decode code 781 = .ok (.iaload, 1) := dLaw_772g.2.2.2.2.2.2.2.2.2
theorem dLaw_782g : (decode code 782 = .ok (.invokevirtual 83, 3)) ∧ (decode code 785 = .ok (.pop, 1)) ∧ (decode code 786 = .ok (.aload_n 2, 1)) ∧ (decode code 787 = .ok (.aload_n 0, 1)) ∧ (decode code 788 = .ok (.iload_n 3, 1)) ∧ (decode code 789 = .ok (.iconst 1, 1)) ∧ (decode code 790 = .ok (.iadd, 1)) ∧ (decode code 791 = .ok (.iaload, 1)) ∧ (decode code 792 = .ok (.aload_n 0, 1)) ∧ (decode code 793 = .ok (.iload_n 3, 1)) := by decide +kernel
theorem dLaw_782 : decode code 782 = .ok (.invokevirtual 83, 3) := dLaw_782g.1
theorem dLaw_785 : decode code 785 = .ok (.pop, 1) := dLaw_782g.2.1
theorem dLaw_786 : decode code 786 = .ok (.aload_n 2, 1) := dLaw_782g.2.2.1
theorem dLaw_787 : decode code 787 = .ok (.aload_n 0, 1) := dLaw_782g.2.2.2.1
theorem dLaw_788 : decode code 788 = .ok (.iload_n 3, 1) := dLaw_782g.2.2.2.2.1
theorem dLaw_789 : decode code 789 = .ok (.iconst 1, 1) := dLaw_782g.2.2.2.2.2.1
theorem dLaw_790 : decode code 790 = .ok (.iadd, 1) := dLaw_782g.2.2.2.2.2.2.1
theorem dLaw_791 : decode code 791 = .ok (.iaload, 1) := dLaw_782g.2.2.2.2.2.2.2.1
theorem dLaw_792 : decode code 792 = .ok (.aload_n 0, 1) := dLaw_782g.2.2.2.2.2.2.2.2.1
theorem dLaw_793 : decode code 793 = .ok (.iload_n 3, 1) := dLaw_782g.2.2.2.2.2.2.2.2.2
theorem dLaw_794g : (decode code 794 = .ok (.iconst 2, 1)) ∧ (decode code 795 = .ok (.iadd, 1)) ∧ (decode code 796 = .ok (.iaload, 1)) ∧ (decode code 797 = .ok (.aload_n 0, 1)) ∧ (decode code 798 = .ok (.iload_n 3, 1)) ∧ (decode code 799 = .ok (.iconst 3, 1)) ∧ (decode code 800 = .ok (.iadd, 1)) ∧ (decode code 801 = .ok (.iaload, 1)) ∧ (decode code 802 = .ok (.invokevirtual 86, 3)) ∧ (decode code 805 = .ok (.pop, 1)) := by decide +kernel
theorem dLaw_794 : decode code 794 = .ok (.iconst 2, 1) := dLaw_794g.1
theorem dLaw_795 : decode code 795 = .ok (.iadd, 1) := dLaw_794g.2.1
theorem dLaw_796 : decode code 796 = .ok (.iaload, 1) := dLaw_794g.2.2.1
theorem dLaw_797 : decode code 797 = .ok (.aload_n 0, 1) := dLaw_794g.2.2.2.1
theorem dLaw_798 : decode code 798 = .ok (.iload_n 3, 1) := dLaw_794g.2.2.2.2.1
theorem dLaw_799 : decode code 799 = .ok (.iconst 3, 1) := dLaw_794g.2.2.2.2.2.1
theorem dLaw_800 : decode code 800 = .ok (.iadd, 1) := dLaw_794g.2.2.2.2.2.2.1
theorem dLaw_801 : decode code 801 = .ok (.iaload, 1) := dLaw_794g.2.2.2.2.2.2.2.1
theorem dLaw_802 : decode code 802 = .ok (.invokevirtual 86, 3) := dLaw_794g.2.2.2.2.2.2.2.2.1
theorem dLaw_805 : decode code 805 = .ok (.pop, 1) := dLaw_794g.2.2.2.2.2.2.2.2.2
theorem dLaw_806g : (decode code 806 = .ok (.goto 1198, 3)) ∧ (decode code 809 = .ok (.aload_n 1, 1)) ∧ (decode code 810 = .ok (.aload_n 0, 1)) ∧ (decode code 811 = .ok (.iload_n 3, 1)) ∧ (decode code 812 = .ok (.iconst 1, 1)) ∧ (decode code 813 = .ok (.iadd, 1)) ∧ (decode code 814 = .ok (.iaload, 1)) ∧ (decode code 815 = .ok (.aload_n 0, 1)) ∧ (decode code 816 = .ok (.iload_n 3, 1)) ∧ (decode code 817 = .ok (.iconst 2, 1)) := by decide +kernel
theorem dLaw_806 : decode code 806 = .ok (.goto 1198, 3) := dLaw_806g.1
theorem dLaw_809 : decode code 809 = .ok (.aload_n 1, 1) := dLaw_806g.2.1
theorem dLaw_810 : decode code 810 = .ok (.aload_n 0, 1) := dLaw_806g.2.2.1
theorem dLaw_811 : decode code 811 = .ok (.iload_n 3, 1) := dLaw_806g.2.2.2.1
theorem dLaw_812 : decode code 812 = .ok (.iconst 1, 1) := dLaw_806g.2.2.2.2.1
theorem dLaw_813 : decode code 813 = .ok (.iadd, 1) := dLaw_806g.2.2.2.2.2.1
theorem dLaw_814 : decode code 814 = .ok (.iaload, 1) := dLaw_806g.2.2.2.2.2.2.1
theorem dLaw_815 : decode code 815 = .ok (.aload_n 0, 1) := dLaw_806g.2.2.2.2.2.2.2.1
theorem dLaw_816 : decode code 816 = .ok (.iload_n 3, 1) := dLaw_806g.2.2.2.2.2.2.2.2.1
theorem dLaw_817 : decode code 817 = .ok (.iconst 2, 1) := dLaw_806g.2.2.2.2.2.2.2.2.2
theorem dLaw_818g : (decode code 818 = .ok (.iadd, 1)) ∧ (decode code 819 = .ok (.iaload, 1)) ∧ (decode code 820 = .ok (.aload_n 0, 1)) ∧ (decode code 821 = .ok (.iload_n 3, 1)) ∧ (decode code 822 = .ok (.iconst 3, 1)) ∧ (decode code 823 = .ok (.iadd, 1)) ∧ (decode code 824 = .ok (.iaload, 1)) ∧ (decode code 825 = .ok (.invokevirtual 87, 3)) ∧ (decode code 828 = .ok (.pop, 1)) ∧ (decode code 829 = .ok (.aload_n 2, 1)) := by decide +kernel
theorem dLaw_818 : decode code 818 = .ok (.iadd, 1) := dLaw_818g.1
theorem dLaw_819 : decode code 819 = .ok (.iaload, 1) := dLaw_818g.2.1
theorem dLaw_820 : decode code 820 = .ok (.aload_n 0, 1) := dLaw_818g.2.2.1
theorem dLaw_821 : decode code 821 = .ok (.iload_n 3, 1) := dLaw_818g.2.2.2.1
theorem dLaw_822 : decode code 822 = .ok (.iconst 3, 1) := dLaw_818g.2.2.2.2.1
theorem dLaw_823 : decode code 823 = .ok (.iadd, 1) := dLaw_818g.2.2.2.2.2.1
theorem dLaw_824 : decode code 824 = .ok (.iaload, 1) := dLaw_818g.2.2.2.2.2.2.1
theorem dLaw_825 : decode code 825 = .ok (.invokevirtual 87, 3) := dLaw_818g.2.2.2.2.2.2.2.1
theorem dLaw_828 : decode code 828 = .ok (.pop, 1) := dLaw_818g.2.2.2.2.2.2.2.2.1
theorem dLaw_829 : decode code 829 = .ok (.aload_n 2, 1) := dLaw_818g.2.2.2.2.2.2.2.2.2
theorem dLaw_830g : (decode code 830 = .ok (.aload_n 0, 1)) ∧ (decode code 831 = .ok (.iload_n 3, 1)) ∧ (decode code 832 = .ok (.iconst 1, 1)) ∧ (decode code 833 = .ok (.iadd, 1)) ∧ (decode code 834 = .ok (.iaload, 1)) ∧ (decode code 835 = .ok (.aload_n 0, 1)) ∧ (decode code 836 = .ok (.iload_n 3, 1)) ∧ (decode code 837 = .ok (.iconst 2, 1)) ∧ (decode code 838 = .ok (.iadd, 1)) ∧ (decode code 839 = .ok (.iaload, 1)) := by decide +kernel
theorem dLaw_830 : decode code 830 = .ok (.aload_n 0, 1) := dLaw_830g.1
theorem dLaw_831 : decode code 831 = .ok (.iload_n 3, 1) := dLaw_830g.2.1
theorem dLaw_832 : decode code 832 = .ok (.iconst 1, 1) := dLaw_830g.2.2.1
theorem dLaw_833 : decode code 833 = .ok (.iadd, 1) := dLaw_830g.2.2.2.1
theorem dLaw_834 : decode code 834 = .ok (.iaload, 1) := dLaw_830g.2.2.2.2.1
theorem dLaw_835 : decode code 835 = .ok (.aload_n 0, 1) := dLaw_830g.2.2.2.2.2.1
theorem dLaw_836 : decode code 836 = .ok (.iload_n 3, 1) := dLaw_830g.2.2.2.2.2.2.1
theorem dLaw_837 : decode code 837 = .ok (.iconst 2, 1) := dLaw_830g.2.2.2.2.2.2.2.1
theorem dLaw_838 : decode code 838 = .ok (.iadd, 1) := dLaw_830g.2.2.2.2.2.2.2.2.1
theorem dLaw_839 : decode code 839 = .ok (.iaload, 1) := dLaw_830g.2.2.2.2.2.2.2.2.2
