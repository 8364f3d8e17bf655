theorem dLaw_840g : (decode code 840 = .ok (.aload_n 0, 1)) ∧ (decode code 841 = .ok (.iload_n 3, 1)) ∧ (decode code 842 = .ok (.iconst 3, 1)) ∧ (decode code 843 = .ok (.iadd, 1)) ∧ (decode code 844 = .ok (.iaload, 1)) ∧ (decode code 845 = .ok (.invokevirtual 90, 3)) ∧ (decode code 848 = .ok (.pop, 1)) ∧ (decode code 849 = .ok (.goto 1155, 3)) ∧ (decode code 852 = .ok (.aload_n 1, 1)) ∧ (decode code 853 = .ok (.aload_n 0, 1)) := by decide +kernel
theorem dLaw_840 : decode code 840 = .ok (.aload_n 0, 1) := dLaw_840g.1
theorem dLaw_841 : decode code 841 = .ok (.iload_n 3, 1) := dLaw_840g.2.1
theorem dLaw_842 : decode code 842 = .ok (.iconst 3, 1) := dLaw_840g.2.2.1
theorem dLaw_843 : decode code 843 = .ok (.iadd, 1) := dLaw_840g.2.2.2.1
theorem dLaw_844 : decode code 844 = .ok (.iaload, 1) := dLaw_840g.2.2.2.2.1
theorem dLaw_845 : decode code 845 = .ok (.invokevirtual 90, 3) := dLaw_840g.2.2.2.2.2.1
theorem dLaw_848 : decode code 848 = .ok (.pop, 1) := dLaw_840g.2.2.2.2.2.2.1
theorem dLaw_849 : decode code 849 = .ok (.goto 1155, 3) := dLaw_840g.2.2.2.2.2.2.2.1
theorem dLaw_852 : decode code 852 = .ok (.aload_n 1, 1) := dLaw_840g.2.2.2.2.2.2.2.2.1
theorem dLaw_853 : decode code 853 = .ok (.aload_n 0, 1) := dLaw_840g.2.2.2.2.2.2.2.2.2
theorem dLaw_854g : (decode code 854 = .ok (.iload_n 3, 1)) ∧ (decode code 855 = .ok (.iconst 1, 1)) ∧ (decode code 856 = .ok (.iadd, 1)) ∧ (decode code 857 = .ok (.iaload, 1)) ∧ (decode code 858 = .ok (.aload_n 0, 1)) ∧ (decode code 859 = .ok (.iload_n 3, 1)) ∧ (decode code 860 = .ok (.iconst 2, 1)) ∧ (decode code 861 = .ok (.iadd, 1)) ∧ (decode code 862 = .ok (.iaload, 1)) ∧ (decode code 863 = .ok (.aload_n 0, 1)) := by decide +kernel
theorem dLaw_854 : decode code 854 = .ok (.iload_n 3, 1) := dLaw_854g.1
theorem dLaw_855 : decode code 855 = .ok (.iconst 1, 1) := dLaw_854g.2.1
theorem dLaw_856 : decode code 856 = .ok (.iadd, 1) := dLaw_854g.2.2.1
theorem dLaw_857 : decode code 857 = .ok (.iaload, 1) := dLaw_854g.2.2.2.1
theorem dLaw_858 : decode code 858 = .ok (.aload_n 0, 1) := dLaw_854g.2.2.2.2.1
theorem dLaw_859 : decode code 859 = .ok (.iload_n 3, 1) := dLaw_854g.2.2.2.2.2.1
theorem dLaw_860 : decode code 860 = .ok (.iconst 2, 1) := dLaw_854g.2.2.2.2.2.2.1
theorem dLaw_861 : decode code 861 = .ok (.iadd, 1) := dLaw_854g.2.2.2.2.2.2.2.1
theorem dLaw_862 : decode code 862 = .ok (.iaload, 1) := dLaw_854g.2.2.2.2.2.2.2.2.1
theorem dLaw_863 : decode code 863 = .ok (.aload_n 0, 1) := dLaw_854g.2.2.2.2.2.2.2.2.2
theorem dLaw_864g : (decode code 864 = .ok (.iload_n 3, 1)) ∧ (decode code 865 = .ok (.iconst 3, 1)) ∧ (decode code 866 = .ok (.iadd, 1)) ∧ (decode code 867 = .ok (.iaload, 1)) ∧ (decode code 868 = .ok (.invokevirtual 91, 3)) ∧ (decode code 871 = .ok (.pop, 1)) ∧ (decode code 872 = .ok (.aload_n 2, 1)) ∧ (decode code 873 = .ok (.aload_n 0, 1)) ∧ (decode code 874 = .ok (.iload_n 3, 1)) ∧ (decode code 875 = .ok (.iconst 1, 1)) := by decide +kernel
theorem dLaw_864 : decode code 864 = .ok (.iload_n 3, 1) := dLaw_864g.1
theorem dLaw_865 : decode code 865 = .ok (.iconst 3, 1) := dLaw_864g.2.1
theorem dLaw_866 : decode code 866 = .ok (.iadd, 1) := dLaw_864g.2.2.1
theorem dLaw_867 : decode code 867 = .ok (.iaload, 1) := dLaw_864g.2.2.2.1
theorem dLaw_868 : decode code 868 = .ok (.invokevirtual 91, 3) := dLaw_864g.2.2.2.2.1
theorem dLaw_871 : decode code 871 = .ok (.pop, 1) := dLaw_864g.2.2.2.2.2.1
theorem dLaw_872 : decode code 872 = .ok (.aload_n 2, 1) := dLaw_864g.2.2.2.2.2.2.1
theorem dLaw_873 : decode code 873 = .ok (.aload_n 0, 1) := dLaw_864g.2.2.2.2.2.2.2.1
theorem dLaw_874 : decode code 874 = .ok (.iload_n 3, 1) := dLaw_864g.2.2.2.2.2.2.2.2.1
theorem dLaw_875 : decode code 875 = .ok (.iconst 1, 1) := dLaw_864g.2.2.2.2.2.2.2.2.2
theorem dLaw_876g : (decode code 876 = .ok (.iadd, 1)) ∧ (decode code 877 = .ok (.iaload, 1)) ∧ (decode code 878 = .ok (.aload_n 0, 1)) ∧ (decode code 879 = .ok (.iload_n 3, 1)) ∧ (decode code 880 = .ok (.iconst 2, 1)) ∧ (decode code 881 = .ok (.iadd, 1)) ∧ (decode code 882 = .ok (.iaload, 1)) ∧ (decode code 883 = .ok (.aload_n 0, 1)) ∧ (decode code 884 = .ok (.iload_n 3, 1)) ∧ (decode code 885 = .ok (.iconst 3, 1)) := by decide +kernel
theorem dLaw_876 : decode code 876 = .ok (.iadd, 1) := dLaw_876g.1
theorem dLaw_877 : decode code 877 = .ok (.iaload, 1) := dLaw_876g.2.1
theorem dLaw_878 : decode code 878 = .ok (.aload_n 0, 1) := dLaw_876g.2.2.1
theorem dLaw_879 : decode code 879 = .ok (.iload_n 3, 1) := dLaw_876g.2.2.2.1
theorem dLaw_880 : decode code 880 = .ok (.iconst 2, 1) := dLaw_876g.2.2.2.2.1
theorem dLaw_881 : decode code 881 = .ok (.iadd, 1) := dLaw_876g.2.2.2.2.2.1
theorem dLaw_882 : decode code 882 = .ok (.iaload, 1) := dLaw_876g.2.2.2.2.2.2.1
theorem dLaw_883 : decode code 883 = .ok (.aload_n 0, 1) := dLaw_876g.2.2.2.2.2.2.2.1
theorem dLaw_884 : decode code 884 = .ok (.iload_n 3, 1) := dLaw_876g.2.2.2.2.2.2.2.2.1
theorem dLaw_885 : decode code 885 = .ok (.iconst 3, 1) := dLaw_876g.2.2.2.2.2.2.2.2.2
theorem dLaw_886g : (decode code 886 = .ok (.iadd, 1)) ∧ (decode code 887 = .ok (.iaload, 1)) ∧ (decode code 888 = .ok (.invokevirtual 94, 3)) ∧ (decode code 891 = .ok (.pop, 1)) ∧ (decode code 892 = .ok (.goto 1112, 3)) ∧ (decode code 895 = .ok (.aload_n 1, 1)) ∧ (decode code 896 = .ok (.aload_n 0, 1)) ∧ (decode code 897 = .ok (.iload_n 3, 1)) ∧ (decode code 898 = .ok (.iconst 1, 1)) ∧ (decode code 899 = .ok (.iadd, 1)) := by decide +kernel
theorem dLaw_886 : decode code 886 = .ok (.iadd, 1) := dLaw_886g.1
theorem dLaw_887 : decode code 887 = .ok (.iaload, 1) := dLaw_886g.2.1
theorem dLaw_888 : decode code 888 = .ok (.invokevirtual 94, 3) := dLaw_886g.2.2.1
theorem dLaw_891 : decode code 891 = .ok (.pop, 1) := dLaw_886g.2.2.2.1
theorem dLaw_892 : decode code 892 = .ok (.goto 1112, 3) := dLaw_886g.2.2.2.2.1
theorem dLaw_895 : decode code 895 = .ok (.aload_n 1, 1) := dLaw_886g.2.2.2.2.2.1
theorem dLaw_896 : decode code 896 = .ok (.aload_n 0, 1) := dLaw_886g.2.2.2.2.2.2.1
theorem dLaw_897 : decode code 897 = .ok (.iload_n 3, 1) := dLaw_886g.2.2.2.2.2.2.2.1
theorem dLaw_898 : decode code 898 = .ok (.iconst 1, 1) := dLaw_886g.2.2.2.2.2.2.2.2.1
theorem dLaw_899 : decode code 899 = .ok (.iadd, 1) := dLaw_886g.2.2.2.2.2.2.2.2.2
theorem dLaw_900g : (decode code 900 = .ok (.iaload, 1)) ∧ (decode code 901 = .ok (.aload_n 0, 1)) ∧ (decode code 902 = .ok (.iload_n 3, 1)) ∧ (decode code 903 = .ok (.iconst 2, 1)) ∧ (decode code 904 = .ok (.iadd, 1)) ∧ (decode code 905 = .ok (.iaload, 1)) ∧ (decode code 906 = .ok (.aload_n 0, 1)) ∧ (decode code 907 = .ok (.iload_n 3, 1)) ∧ (decode code 908 = .ok (.iconst 3, 1)) ∧ (decode code 909 = .ok (.iadd, 1)) := by decide +kernel
theorem dLaw_900 : decode code 900 = .ok (.iaload, 1) := dLaw_900g.1
theorem dLaw_901 : decode code 901 = .ok (.aload_n 0, 1) := dLaw_900g.2.1
theorem dLaw_902 : decode code 902 = .ok (.iload_n 3, 1) := dLaw_900g.2.2.1
theorem dLaw_903 : decode code 903 = .ok (.iconst 2, 1) := dLaw_900g.2.2.2.1
theorem dLaw_904 : decode code 904 = .ok (.iadd, 1) := dLaw_900g.2.2.2.2.1
theorem dLaw_905 : decode code 905 = .ok (.iaload, 1) := dLaw_900g.2.2.2.2.2.1
theorem dLaw_906 : decode code 906 = .ok (.aload_n 0, 1) := dLaw_900g.2.2.2.2.2.2.1
theorem dLaw_907 : decode code 907 = .ok (.iload_n 3, 1) := dLaw_900g.2.2.2.2.2.2.2.1
theorem dLaw_908 : decode code 908 = .ok (.iconst 3, 1) := dLaw_900g.2.2.2.2.2.2.2.2.1
theorem dLaw_909 : decode code 909 = .ok (.iadd, 1) := dLaw_900g.2.2.2.2.2.2.2.2.2
theorem dLaw_910g : (decode code 910 = .ok (.iaload, 1)) ∧ (decode code 911 = .ok (.invokevirtual 95, 3)) ∧ (decode code 914 = .ok (.pop, 1)) ∧ (decode code 915 = .ok (.aload_n 2, 1)) ∧ (decode code 916 = .ok (.aload_n 0, 1)) ∧ (decode code 917 = .ok (.iload_n 3, 1)) ∧ (decode code 918 = .ok (.iconst 1, 1)) ∧ (decode code 919 = .ok (.iadd, 1)) ∧ (decode code 920 = .ok (.iaload, 1)) ∧ (decode code 921 = .ok (.aload_n 0, 1)) := by decide +kernel
theorem dLaw_910 : decode code 910 = .ok (.iaload, 1) := dLaw_910g.1
theorem dLaw_911 : decode code 911 = .ok (.invokevirtual 95, 3) := dLaw_910g.2.1
theorem dLaw_914 : decode code 914 = .ok (.pop, 1) := dLaw_910g.2.2.1
theorem dLaw_915 : decode code 915 = .ok (.aload_n 2, 1) := dLaw_910g.2.2.2.1
theorem dLaw_916 : decode code 916 = .ok (.aload_n 0, 1) := dLaw_910g.2.2.2.2.1
theorem dLaw_917 : decode code 917 = .ok (.iload_n 3, 1) := dLaw_910g.2.2.2.2.2.1
theorem dLaw_918 : decode code 918 = .ok (.iconst 1, 1) := dLaw_910g.2.2.2.2.2.2.1
theorem dLaw_919 : decode code 919 = .ok (.iadd, 1) := dLaw_910g.2.2.2.2.2.2.2.1
theorem dLaw_920 : decode code 920 = .ok (.iaload, 1) := dLaw_910g.2.2.2.2.2.2.2.2.1
theorem dLaw_921 : decode code 921 = .ok (.aload_n 0, 1) := dLaw_910g.2.2.2.2.2.2.2.2.2
theorem dLaw_922g : (decode code 922 = .ok (.iload_n 3, 1)) ∧ (decode code 923 = .ok (.iconst 2, 1)) ∧ (decode code 924 = .ok (.iadd, 1)) ∧ (decode code 925 = .ok (.iaload, 1)) ∧ (decode code 926 = .ok (.aload_n 0, 1)) ∧ (decode code 927 = .ok (.iload_n 3, 1)) ∧ (decode code 928 = .ok (.iconst 3, 1)) ∧ (decode code 929 = .ok (.iadd, 1)) ∧ (decode code 930 = .ok (.iaload, 1)) ∧ (decode code 931 = .ok (.invokevirtual 98, 3)) := by decide +kernel
theorem dLaw_922 : decode code 922 = .ok (.iload_n 3, 1) := dLaw_922g.1
theorem dLaw_923 : decode code 923 = .ok (.iconst 2, 1) := dLaw_922g.2.1
theorem dLaw_924 : decode code 924 = .ok (.iadd, 1) := dLaw_922g.2.2.1
theorem dLaw_925 : decode code 925 = .ok (.iaload, 1) := dLaw_922g.2.2.2.1
theorem dLaw_926 : decode code 926 = .ok (.aload_n 0, 1) := dLaw_922g.2.2.2.2.1
theorem dLaw_927 : decode code 927 = .ok (.iload_n 3, 1) := dLaw_922g.2.2.2.2.2.1
theorem dLaw_928 : decode code 928 = .ok (.iconst 3, 1) := dLaw_922g.2.2.2.2.2.2.1
theorem dLaw_929 : decode code 929 = .ok (.iadd, 1) := dLaw_922g.2.2.2.2.2.2.2.1
theorem dLaw_930 : decode code 930 = .ok (.iaload, 1) := dLaw_922g.2.2.2.2.2.2.2.2.1
theorem dLaw_931 : decode code 931 = .ok (.invokevirtual 98, 3) := dLaw_922g.2.2.2.2.2.2.2.2.2
theorem dLaw_934g : (decode code 934 = .ok (.pop, 1)) ∧ (decode code 935 = .ok (.goto 1069, 3)) ∧ (decode code 938 = .ok (.aload_n 1, 1)) ∧ (decode code 939 = .ok (.aload_n 0, 1)) ∧ (decode code 940 = .ok (.iload_n 3, 1)) ∧ (decode code 941 = .ok (.iconst 1, 1)) ∧ (decode code 942 = .ok (.iadd, 1)) ∧ (decode code 943 = .ok (.iaload, 1)) ∧ (decode code 944 = .ok (.aload_n 0, 1)) ∧ (decode code 945 = .ok (.iload_n 3, 1)) := by decide +kernel
theorem dLaw_934 : decode code 934 = .ok (.pop, 1) := dLaw_934g.1
theorem dLaw_935 : decode code 935 = .ok (.goto 1069, 3) := dLaw_934g.2.1
theorem dLaw_938 : decode code 938 = .ok (.aload_n 1, 1) := dLaw_934g.2.2.1
theorem dLaw_939 : decode code 939 = .ok (.aload_n 0, 1) := dLaw_934g.2.2.2.1
theorem dLaw_940 : decode code 940 = .ok (.iload_n 3, 1) := dLaw_934g.2.2.2.2.1
theorem dLaw_941 : decode code 941 = .ok (.iconst 1, 1) := dLaw_934g.2.2.2.2.2.1
theorem dLaw_942 : decode code 942 = .ok (.iadd, 1) := dLaw_934g.2.2.2.2.2.2.1
theorem dLaw_943 : decode code 943 = .ok (.iaload, 1) := dLaw_934g.2.2.2.2.2.2.2.1
theorem dLaw_944 : decode code 944 = .ok (.aload_n 0, 1) := dLaw_934g.2.2.2.2.2.2.2.2.1
theorem dLaw_945 : decode code 945 = .ok (.iload_n 3, 1) := dLaw_934g.2.2.2.2.2.2.2.2.2
theorem dLaw_946g : (decode code 946 = .ok (.iconst 2, 1)) ∧ (decode code 947 = .ok (.iadd, 1)) ∧ (decode code 948 = .ok (.iaload, 1)) ∧ (decode code 949 = .ok (.invokevirtual 99, 3)) ∧ (decode code 952 = .ok (.pop, 1)) ∧ (decode code 953 = .ok (.aload_n 2, 1)) ∧ (decode code 954 = .ok (.aload_n 0, 1)) ∧ (decode code 955 = .ok (.iload_n 3, 1)) ∧ (decode code 956 = .ok (.iconst 1, 1)) ∧ (decode code 957 = .ok (.iadd, 1)) := by decide +kernel
theorem dLaw_946 : decode code 946 = .ok (.iconst 2, 1) := dLaw_946g.1
theorem dLaw_947 : decode code 947 = .ok (.iadd, 1) := dLaw_946g.2.1
theorem dLaw_948 : decode code 948 = .ok (.iaload, 1) := dLaw_946g.2.2.1
theorem dLaw_949 : decode code 949 = .ok (.invokevirtual 99, 3) := dLaw_946g.2.2.2.1
theorem dLaw_952 : decode code 952 = .ok (.pop, 1) := dLaw_946g.2.2.2.2.1
theorem dLaw_953 : decode code 953 = .ok (.aload_n 2, 1) := dLaw_946g.2.2.2.2.2.1
theorem dLaw_954 : decode code 954 = .ok (.aload_n 0, 1) := dLaw_946g.2.2.2.2.2.2.1
theorem dLaw_955 : decode code 955 = .ok (.iload_n 3, 1) := dLaw_946g.2.2.2.2.2.2.2.1
theorem dLaw_956 : decode code 956 = .ok (.iconst 1, 1) := dLaw_946g.2.2.2.2.2.2.2.2.1
theorem dLaw_957 : decode code 957 = .ok (.iadd, 1) := dLaw_946g.2.2.2.2.2.2.2.2.2
