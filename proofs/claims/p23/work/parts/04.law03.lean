theorem dL_law_735 : decode cL_law 735 = .ok (.aload_n 3, 1) := by decide +kernel
theorem dL_law_736 : decode cL_law 736 = .ok (.iload 14, 2) := by decide +kernel
theorem dL_law_738 : decode cL_law 738 = .ok (.iconst 3, 1) := by decide +kernel
theorem dL_law_739 : decode cL_law 739 = .ok (.iadd, 1) := by decide +kernel
theorem dL_law_740 : decode cL_law 740 = .ok (.aload_n 3, 1) := by decide +kernel
theorem dL_law_741 : decode cL_law 741 = .ok (.iload 14, 2) := by decide +kernel
theorem dL_law_743 : decode cL_law 743 = .ok (.iaload, 1) := by decide +kernel
theorem dL_law_744 : decode cL_law 744 = .ok (.ifCond .ne 7, 3) := by decide +kernel
theorem dL_law_747 : decode cL_law 747 = .ok (.iconst 0, 1) := by decide +kernel
theorem dL_law_748 : decode cL_law 748 = .ok (.goto 4, 3) := by decide +kernel
theorem dL_law_751 : decode cL_law 751 = .ok (.iconst 1, 1) := by decide +kernel
theorem dL_law_752 : decode cL_law 752 = .ok (.iastore, 1) := by decide +kernel
theorem dL_law_753 : decode cL_law 753 = .ok (.goto 692, 3) := by decide +kernel
theorem dL_law_756 : decode cL_law 756 = .ok (.iload 10, 2) := by decide +kernel
theorem dL_law_758 : decode cL_law 758 = .ok (.bipush 22, 2) := by decide +kernel
theorem dL_law_760 : decode cL_law 760 = .ok (.if_icmp .ge 117, 3) := by decide +kernel
theorem dL_law_763 : decode cL_law 763 = .ok (.iload 10, 2) := by decide +kernel
theorem dL_law_765 : decode cL_law 765 = .ok (.bipush 18, 2) := by decide +kernel
theorem dL_law_767 : decode cL_law 767 = .ok (.if_icmp .le 110, 3) := by decide +kernel
theorem dL_law_770 : decode cL_law 770 = .ok (.aload_n 2, 1) := by decide +kernel
theorem dL_law_771 : decode cL_law 771 = .ok (.iconst 1, 1) := by decide +kernel
theorem dL_law_772 : decode cL_law 772 = .ok (.iaload, 1) := by decide +kernel
theorem dL_law_773 : decode cL_law 773 = .ok (.iconst 1, 1) := by decide +kernel
theorem dL_law_774 : decode cL_law 774 = .ok (.if_icmp .le 103, 3) := by decide +kernel
theorem dL_law_777 : decode cL_law 777 = .ok (.iload 12, 2) := by decide +kernel
theorem dL_law_779 : decode cL_law 779 = .ok (.iconst 1, 1) := by decide +kernel
theorem dL_law_780 : decode cL_law 780 = .ok (.iadd, 1) := by decide +kernel
theorem dL_law_781 : decode cL_law 781 = .ok (.iload 13, 2) := by decide +kernel
theorem dL_law_783 : decode cL_law 783 = .ok (.aload_n 2, 1) := by decide +kernel
theorem dL_law_784 : decode cL_law 784 = .ok (.iconst 1, 1) := by decide +kernel
theorem dL_law_785 : decode cL_law 785 = .ok (.iaload, 1) := by decide +kernel
theorem dL_law_786 : decode cL_law 786 = .ok (.iconst 1, 1) := by decide +kernel
theorem dL_law_787 : decode cL_law 787 = .ok (.isub, 1) := by decide +kernel
theorem dL_law_788 : decode cL_law 788 = .ok (.irem, 1) := by decide +kernel
theorem dL_law_789 : decode cL_law 789 = .ok (.iadd, 1) := by decide +kernel
theorem dL_law_790 : decode cL_law 790 = .ok (.aload_n 2, 1) := by decide +kernel
theorem dL_law_791 : decode cL_law 791 = .ok (.iconst 1, 1) := by decide +kernel
theorem dL_law_792 : decode cL_law 792 = .ok (.iaload, 1) := by decide +kernel
theorem dL_law_793 : decode cL_law 793 = .ok (.irem, 1) := by decide +kernel
theorem dL_law_794 : decode cL_law 794 = .ok (.istore 14, 2) := by decide +kernel
theorem dL_law_796 : decode cL_law 796 = .ok (.aload_n 1, 1) := by decide +kernel
theorem dL_law_797 : decode cL_law 797 = .ok (.bipush 6, 2) := by decide +kernel
theorem dL_law_799 : decode cL_law 799 = .ok (.iload 12, 2) := by decide +kernel
theorem dL_law_801 : decode cL_law 801 = .ok (.iload 14, 2) := by decide +kernel
theorem dL_law_803 : decode cL_law 803 = .ok (.iload 13, 2) := by decide +kernel
theorem dL_law_805 : decode cL_law 805 = .ok (.bipush 9, 2) := by decide +kernel
theorem dL_law_807 : decode cL_law 807 = .ok (.idiv, 1) := by decide +kernel
theorem dL_law_808 : decode cL_law 808 = .ok (.iconst 4, 1) := by decide +kernel
theorem dL_law_809 : decode cL_law 809 = .ok (.irem, 1) := by decide +kernel
theorem dL_law_810 : decode cL_law 810 = .ok (.iload 13, 2) := by decide +kernel
theorem dL_law_812 : decode cL_law 812 = .ok (.bipush 36, 2) := by decide +kernel
theorem dL_law_814 : decode cL_law 814 = .ok (.idiv, 1) := by decide +kernel
theorem dL_law_815 : decode cL_law 815 = .ok (.iconst 3, 1) := by decide +kernel
theorem dL_law_816 : decode cL_law 816 = .ok (.irem, 1) := by decide +kernel
theorem dL_law_817 : decode cL_law 817 = .ok (.invokestatic 88, 3) := by decide +kernel
theorem dL_law_820 : decode cL_law 820 = .ok (.istore 15, 2) := by decide +kernel
theorem dL_law_822 : decode cL_law 822 = .ok (.iload 15, 2) := by decide +kernel
theorem dL_law_824 : decode cL_law 824 = .ok (.ifCond .lt 47, 3) := by decide +kernel
theorem dL_law_827 : decode cL_law 827 = .ok (.iload 15, 2) := by decide +kernel
theorem dL_law_829 : decode cL_law 829 = .ok (.iconst 3, 1) := by decide +kernel
theorem dL_law_830 : decode cL_law 830 = .ok (.if_icmp .ge 41, 3) := by decide +kernel
theorem dL_law_833 : decode cL_law 833 = .ok (.aload_n 1, 1) := by decide +kernel
theorem dL_law_834 : decode cL_law 834 = .ok (.bipush 6, 2) := by decide +kernel
theorem dL_law_836 : decode cL_law 836 = .ok (.iload 12, 2) := by decide +kernel
theorem dL_law_838 : decode cL_law 838 = .ok (.iload 14, 2) := by decide +kernel
theorem dL_law_840 : decode cL_law 840 = .ok (.iload 13, 2) := by decide +kernel
theorem dL_law_842 : decode cL_law 842 = .ok (.bipush 9, 2) := by decide +kernel
theorem dL_law_844 : decode cL_law 844 = .ok (.idiv, 1) := by decide +kernel
theorem dL_law_845 : decode cL_law 845 = .ok (.iconst 4, 1) := by decide +kernel
theorem dL_law_846 : decode cL_law 846 = .ok (.irem, 1) := by decide +kernel
theorem dL_law_847 : decode cL_law 847 = .ok (.iload 13, 2) := by decide +kernel
theorem dL_law_849 : decode cL_law 849 = .ok (.bipush 36, 2) := by decide +kernel
theorem dL_law_851 : decode cL_law 851 = .ok (.idiv, 1) := by decide +kernel
theorem dL_law_852 : decode cL_law 852 = .ok (.iconst 3, 1) := by decide +kernel
theorem dL_law_853 : decode cL_law 853 = .ok (.irem, 1) := by decide +kernel
theorem dL_law_854 : decode cL_law 854 = .ok (.invokestatic 88, 3) := by decide +kernel
theorem dL_law_857 : decode cL_law 857 = .ok (.iload 13, 2) := by decide +kernel
theorem dL_law_859 : decode cL_law 859 = .ok (.bipush 36, 2) := by decide +kernel
theorem dL_law_861 : decode cL_law 861 = .ok (.idiv, 1) := by decide +kernel
theorem dL_law_862 : decode cL_law 862 = .ok (.iconst 3, 1) := by decide +kernel
theorem dL_law_863 : decode cL_law 863 = .ok (.irem, 1) := by decide +kernel
theorem dL_law_864 : decode cL_law 864 = .ok (.if_icmp .ne 7, 3) := by decide +kernel
theorem dL_law_867 : decode cL_law 867 = .ok (.iconst 1, 1) := by decide +kernel
theorem dL_law_868 : decode cL_law 868 = .ok (.goto 4, 3) := by decide +kernel
theorem dL_law_871 : decode cL_law 871 = .ok (.iconst 0, 1) := by decide +kernel
theorem dL_law_872 : decode cL_law 872 = .ok (.istore 7, 2) := by decide +kernel
theorem dL_law_874 : decode cL_law 874 = .ok (.goto 571, 3) := by decide +kernel
theorem dL_law_877 : decode cL_law 877 = .ok (.iload 10, 2) := by decide +kernel
theorem dL_law_879 : decode cL_law 879 = .ok (.bipush 22, 2) := by decide +kernel
theorem dL_law_881 : decode cL_law 881 = .ok (.if_icmp .ne 34, 3) := by decide +kernel
theorem dL_law_884 : decode cL_law 884 = .ok (.aload_n 1, 1) := by decide +kernel
theorem dL_law_885 : decode cL_law 885 = .ok (.invokevirtual 112, 3) := by decide +kernel
theorem dL_law_888 : decode cL_law 888 = .ok (.aload_n 2, 1) := by decide +kernel
theorem dL_law_889 : decode cL_law 889 = .ok (.iconst 4, 1) := by decide +kernel
theorem dL_law_890 : decode cL_law 890 = .ok (.iaload, 1) := by decide +kernel
theorem dL_law_891 : decode cL_law 891 = .ok (.if_icmp .ne 14, 3) := by decide +kernel
theorem dL_law_894 : decode cL_law 894 = .ok (.aload_n 1, 1) := by decide +kernel
theorem dL_law_895 : decode cL_law 895 = .ok (.invokevirtual 83, 3) := by decide +kernel
theorem dL_law_898 : decode cL_law 898 = .ok (.ifCond .ne 7, 3) := by decide +kernel
theorem dL_law_901 : decode cL_law 901 = .ok (.iconst 1, 1) := by decide +kernel
theorem dL_law_902 : decode cL_law 902 = .ok (.goto 4, 3) := by decide +kernel
theorem dL_law_905 : decode cL_law 905 = .ok (.iconst 0, 1) := by decide +kernel
theorem dL_law_906 : decode cL_law 906 = .ok (.istore 7, 2) := by decide +kernel
theorem dL_law_908 : decode cL_law 908 = .ok (.aload_n 2, 1) := by decide +kernel
theorem dL_law_909 : decode cL_law 909 = .ok (.iconst 4, 1) := by decide +kernel
theorem dL_law_910 : decode cL_law 910 = .ok (.iconst 0, 1) := by decide +kernel
theorem dL_law_911 : decode cL_law 911 = .ok (.iastore, 1) := by decide +kernel
theorem dL_law_912 : decode cL_law 912 = .ok (.goto 533, 3) := by decide +kernel
theorem dL_law_915 : decode cL_law 915 = .ok (.iload 10, 2) := by decide +kernel
theorem dL_law_917 : decode cL_law 917 = .ok (.bipush 25, 2) := by decide +kernel
theorem dL_law_919 : decode cL_law 919 = .ok (.if_icmp .ge 69, 3) := by decide +kernel
theorem dL_law_922 : decode cL_law 922 = .ok (.iload 10, 2) := by decide +kernel
theorem dL_law_924 : decode cL_law 924 = .ok (.bipush 22, 2) := by decide +kernel
theorem dL_law_926 : decode cL_law 926 = .ok (.if_icmp .le 62, 3) := by decide +kernel
theorem dL_law_929 : decode cL_law 929 = .ok (.aload_n 1, 1) := by decide +kernel
theorem dL_law_930 : decode cL_law 930 = .ok (.bipush 8, 2) := by decide +kernel
theorem dL_law_932 : decode cL_law 932 = .ok (.iconst 0, 1) := by decide +kernel
theorem dL_law_933 : decode cL_law 933 = .ok (.iconst 0, 1) := by decide +kernel
theorem dL_law_934 : decode cL_law 934 = .ok (.iconst 0, 1) := by decide +kernel
theorem dL_law_935 : decode cL_law 935 = .ok (.iconst 0, 1) := by decide +kernel
theorem dL_law_936 : decode cL_law 936 = .ok (.invokestatic 88, 3) := by decide +kernel
theorem dL_law_939 : decode cL_law 939 = .ok (.istore 14, 2) := by decide +kernel
theorem dL_law_941 : decode cL_law 941 = .ok (.iload 14, 2) := by decide +kernel
theorem dL_law_943 : decode cL_law 943 = .ok (.aload_n 2, 1) := by decide +kernel
theorem dL_law_944 : decode cL_law 944 = .ok (.iconst 2, 1) := by decide +kernel
theorem dL_law_945 : decode cL_law 945 = .ok (.iaload, 1) := by decide +kernel
theorem dL_law_946 : decode cL_law 946 = .ok (.bipush 6, 2) := by decide +kernel
theorem dL_law_948 : decode cL_law 948 = .ok (.if_icmp .ne 8, 3) := by decide +kernel
theorem dL_law_951 : decode cL_law 951 = .ok (.ldc 82, 2) := by decide +kernel
theorem dL_law_953 : decode cL_law 953 = .ok (.goto 6, 3) := by decide +kernel
theorem dL_law_956 : decode cL_law 956 = .ok (.aload_n 2, 1) := by decide +kernel
theorem dL_law_957 : decode cL_law 957 = .ok (.iconst 2, 1) := by decide +kernel
theorem dL_law_958 : decode cL_law 958 = .ok (.iaload, 1) := by decide +kernel
theorem dL_law_959 : decode cL_law 959 = .ok (.if_icmp .ne 7, 3) := by decide +kernel
theorem dL_law_962 : decode cL_law 962 = .ok (.iconst 1, 1) := by decide +kernel
theorem dL_law_963 : decode cL_law 963 = .ok (.goto 4, 3) := by decide +kernel
theorem dL_law_966 : decode cL_law 966 = .ok (.iconst 0, 1) := by decide +kernel
theorem dL_law_967 : decode cL_law 967 = .ok (.istore 7, 2) := by decide +kernel
theorem dL_law_969 : decode cL_law 969 = .ok (.aload_n 2, 1) := by decide +kernel
theorem dL_law_970 : decode cL_law 970 = .ok (.iconst 2, 1) := by decide +kernel
theorem dL_law_971 : decode cL_law 971 = .ok (.dup2, 1) := by decide +kernel
theorem dL_law_972 : decode cL_law 972 = .ok (.iaload, 1) := by decide +kernel
theorem dL_law_973 : decode cL_law 973 = .ok (.iload 14, 2) := by decide +kernel
theorem dL_law_975 : decode cL_law 975 = .ok (.ifCond .ge 7, 3) := by decide +kernel
theorem dL_law_978 : decode cL_law 978 = .ok (.iconst 0, 1) := by decide +kernel
theorem dL_law_979 : decode cL_law 979 = .ok (.goto 4, 3) := by decide +kernel
theorem dL_law_982 : decode cL_law 982 = .ok (.iconst 1, 1) := by decide +kernel
theorem dL_law_983 : decode cL_law 983 = .ok (.iadd, 1) := by decide +kernel
theorem dL_law_984 : decode cL_law 984 = .ok (.iastore, 1) := by decide +kernel
theorem dL_law_985 : decode cL_law 985 = .ok (.goto 460, 3) := by decide +kernel
