theorem dL_refused_752 : decode cL_refused 752 = .ok (.iconst 0, 1) := by decide +kernel
theorem dL_refused_753 : decode cL_refused 753 = .ok (.invokestatic 160, 3) := by decide +kernel
theorem dL_refused_756 : decode cL_refused 756 = .ok (.sipush (-2053), 3) := by decide +kernel
theorem dL_refused_759 : decode cL_refused 759 = .ok (.if_icmp .ne 97, 3) := by decide +kernel
theorem dL_refused_762 : decode cL_refused 762 = .ok (.aload_n 0, 1) := by decide +kernel
theorem dL_refused_763 : decode cL_refused 763 = .ok (.iconst 0, 1) := by decide +kernel
theorem dL_refused_764 : decode cL_refused 764 = .ok (.iconst 0, 1) := by decide +kernel
theorem dL_refused_765 : decode cL_refused 765 = .ok (.invokestatic 160, 3) := by decide +kernel
theorem dL_refused_768 : decode cL_refused 768 = .ok (.sipush (-2051), 3) := by decide +kernel
theorem dL_refused_771 : decode cL_refused 771 = .ok (.if_icmp .ne 85, 3) := by decide +kernel
theorem dL_refused_774 : decode cL_refused 774 = .ok (.aload_n 0, 1) := by decide +kernel
theorem dL_refused_775 : decode cL_refused 775 = .ok (.iconst 0, 1) := by decide +kernel
theorem dL_refused_776 : decode cL_refused 776 = .ok (.sipush 201, 3) := by decide +kernel
theorem dL_refused_779 : decode cL_refused 779 = .ok (.invokestatic 162, 3) := by decide +kernel
theorem dL_refused_782 : decode cL_refused 782 = .ok (.sipush (-2051), 3) := by decide +kernel
theorem dL_refused_785 : decode cL_refused 785 = .ok (.if_icmp .ne 71, 3) := by decide +kernel
theorem dL_refused_788 : decode cL_refused 788 = .ok (.aload_n 0, 1) := by decide +kernel
theorem dL_refused_789 : decode cL_refused 789 = .ok (.iconst 0, 1) := by decide +kernel
theorem dL_refused_790 : decode cL_refused 790 = .ok (.bipush 9, 2) := by decide +kernel
theorem dL_refused_792 : decode cL_refused 792 = .ok (.iconst 1, 1) := by decide +kernel
theorem dL_refused_793 : decode cL_refused 793 = .ok (.invokestatic 164, 3) := by decide +kernel
theorem dL_refused_796 : decode cL_refused 796 = .ok (.sipush (-2051), 3) := by decide +kernel
theorem dL_refused_799 : decode cL_refused 799 = .ok (.if_icmp .ne 57, 3) := by decide +kernel
theorem dL_refused_802 : decode cL_refused 802 = .ok (.aload_n 0, 1) := by decide +kernel
theorem dL_refused_803 : decode cL_refused 803 = .ok (.iload_n 3, 1) := by decide +kernel
theorem dL_refused_804 : decode cL_refused 804 = .ok (.bipush 9, 2) := by decide +kernel
theorem dL_refused_806 : decode cL_refused 806 = .ok (.iconst 1, 1) := by decide +kernel
theorem dL_refused_807 : decode cL_refused 807 = .ok (.invokestatic 164, 3) := by decide +kernel
theorem dL_refused_810 : decode cL_refused 810 = .ok (.sipush (-2053), 3) := by decide +kernel
theorem dL_refused_813 : decode cL_refused 813 = .ok (.if_icmp .ne 43, 3) := by decide +kernel
theorem dL_refused_816 : decode cL_refused 816 = .ok (.aload_n 0, 1) := by decide +kernel
theorem dL_refused_817 : decode cL_refused 817 = .ok (.iconst 0, 1) := by decide +kernel
theorem dL_refused_818 : decode cL_refused 818 = .ok (.invokestatic 167, 3) := by decide +kernel
theorem dL_refused_821 : decode cL_refused 821 = .ok (.sipush (-2051), 3) := by decide +kernel
theorem dL_refused_824 : decode cL_refused 824 = .ok (.if_icmp .ne 32, 3) := by decide +kernel
theorem dL_refused_827 : decode cL_refused 827 = .ok (.aload_n 0, 1) := by decide +kernel
theorem dL_refused_828 : decode cL_refused 828 = .ok (.iconst 0, 1) := by decide +kernel
theorem dL_refused_829 : decode cL_refused 829 = .ok (.sipush 201, 3) := by decide +kernel
theorem dL_refused_832 : decode cL_refused 832 = .ok (.invokestatic 169, 3) := by decide +kernel
theorem dL_refused_835 : decode cL_refused 835 = .ok (.sipush (-2051), 3) := by decide +kernel
theorem dL_refused_838 : decode cL_refused 838 = .ok (.if_icmp .ne 18, 3) := by decide +kernel
theorem dL_refused_841 : decode cL_refused 841 = .ok (.aload_n 0, 1) := by decide +kernel
theorem dL_refused_842 : decode cL_refused 842 = .ok (.iconst 0, 1) := by decide +kernel
theorem dL_refused_843 : decode cL_refused 843 = .ok (.invokestatic 171, 3) := by decide +kernel
theorem dL_refused_846 : decode cL_refused 846 = .ok (.sipush (-2051), 3) := by decide +kernel
theorem dL_refused_849 : decode cL_refused 849 = .ok (.if_icmp .ne 7, 3) := by decide +kernel
theorem dL_refused_852 : decode cL_refused 852 = .ok (.iconst 1, 1) := by decide +kernel
theorem dL_refused_853 : decode cL_refused 853 = .ok (.goto 4, 3) := by decide +kernel
theorem dL_refused_856 : decode cL_refused 856 = .ok (.iconst 0, 1) := by decide +kernel
theorem dL_refused_857 : decode cL_refused 857 = .ok (.istore 5, 2) := by decide +kernel
theorem dL_refused_859 : decode cL_refused 859 = .ok (.iload 5, 2) := by decide +kernel
theorem dL_refused_861 : decode cL_refused 861 = .ok (.ifCond .eq 95, 3) := by decide +kernel
theorem dL_refused_864 : decode cL_refused 864 = .ok (.aload_n 0, 1) := by decide +kernel
theorem dL_refused_865 : decode cL_refused 865 = .ok (.bipush 12, 2) := by decide +kernel
theorem dL_refused_867 : decode cL_refused 867 = .ok (.invokestatic 103, 3) := by decide +kernel
theorem dL_refused_870 : decode cL_refused 870 = .ok (.bipush 8, 2) := by decide +kernel
theorem dL_refused_872 : decode cL_refused 872 = .ok (.if_icmp .lt 18, 3) := by decide +kernel
theorem dL_refused_875 : decode cL_refused 875 = .ok (.aload_n 0, 1) := by decide +kernel
theorem dL_refused_876 : decode cL_refused 876 = .ok (.iconst 0, 1) := by decide +kernel
theorem dL_refused_877 : decode cL_refused 877 = .ok (.iconst 0, 1) := by decide +kernel
theorem dL_refused_878 : decode cL_refused 878 = .ok (.iconst 1, 1) := by decide +kernel
theorem dL_refused_879 : decode cL_refused 879 = .ok (.iconst 0, 1) := by decide +kernel
theorem dL_refused_880 : decode cL_refused 880 = .ok (.iconst 1, 1) := by decide +kernel
theorem dL_refused_881 : decode cL_refused 881 = .ok (.invokestatic 138, 3) := by decide +kernel
theorem dL_refused_884 : decode cL_refused 884 = .ok (.sipush (-2052), 3) := by decide +kernel
theorem dL_refused_887 : decode cL_refused 887 = .ok (.if_icmp .ne 69, 3) := by decide +kernel
theorem dL_refused_890 : decode cL_refused 890 = .ok (.aload_n 0, 1) := by decide +kernel
theorem dL_refused_891 : decode cL_refused 891 = .ok (.bipush 13, 2) := by decide +kernel
theorem dL_refused_893 : decode cL_refused 893 = .ok (.invokestatic 103, 3) := by decide +kernel
theorem dL_refused_896 : decode cL_refused 896 = .ok (.bipush 8, 2) := by decide +kernel
theorem dL_refused_898 : decode cL_refused 898 = .ok (.if_icmp .lt 17, 3) := by decide +kernel
theorem dL_refused_901 : decode cL_refused 901 = .ok (.aload_n 0, 1) := by decide +kernel
theorem dL_refused_902 : decode cL_refused 902 = .ok (.iconst 0, 1) := by decide +kernel
theorem dL_refused_903 : decode cL_refused 903 = .ok (.iconst 0, 1) := by decide +kernel
theorem dL_refused_904 : decode cL_refused 904 = .ok (.iconst 0, 1) := by decide +kernel
theorem dL_refused_905 : decode cL_refused 905 = .ok (.iconst 0, 1) := by decide +kernel
theorem dL_refused_906 : decode cL_refused 906 = .ok (.invokestatic 145, 3) := by decide +kernel
theorem dL_refused_909 : decode cL_refused 909 = .ok (.sipush (-2052), 3) := by decide +kernel
theorem dL_refused_912 : decode cL_refused 912 = .ok (.if_icmp .ne 44, 3) := by decide +kernel
theorem dL_refused_915 : decode cL_refused 915 = .ok (.aload_n 0, 1) := by decide +kernel
theorem dL_refused_916 : decode cL_refused 916 = .ok (.bipush 14, 2) := by decide +kernel
theorem dL_refused_918 : decode cL_refused 918 = .ok (.invokestatic 103, 3) := by decide +kernel
theorem dL_refused_921 : decode cL_refused 921 = .ok (.bipush 20, 2) := by decide +kernel
theorem dL_refused_923 : decode cL_refused 923 = .ok (.if_icmp .lt 20, 3) := by decide +kernel
theorem dL_refused_926 : decode cL_refused 926 = .ok (.aload_n 0, 1) := by decide +kernel
theorem dL_refused_927 : decode cL_refused 927 = .ok (.iload 4, 2) := by decide +kernel
theorem dL_refused_929 : decode cL_refused 929 = .ok (.iconst 1, 1) := by decide +kernel
theorem dL_refused_930 : decode cL_refused 930 = .ok (.iadd, 1) := by decide +kernel
theorem dL_refused_931 : decode cL_refused 931 = .ok (.iconst 4, 1) := by decide +kernel
theorem dL_refused_932 : decode cL_refused 932 = .ok (.iconst 0, 1) := by decide +kernel
theorem dL_refused_933 : decode cL_refused 933 = .ok (.iconst 0, 1) := by decide +kernel
theorem dL_refused_934 : decode cL_refused 934 = .ok (.invokestatic 150, 3) := by decide +kernel
theorem dL_refused_937 : decode cL_refused 937 = .ok (.sipush (-2052), 3) := by decide +kernel
theorem dL_refused_940 : decode cL_refused 940 = .ok (.if_icmp .ne 16, 3) := by decide +kernel
theorem dL_refused_943 : decode cL_refused 943 = .ok (.aload_n 0, 1) := by decide +kernel
theorem dL_refused_944 : decode cL_refused 944 = .ok (.invokestatic 117, 3) := by decide +kernel
theorem dL_refused_947 : decode cL_refused 947 = .ok (.lload_n 1, 1) := by decide +kernel
theorem dL_refused_948 : decode cL_refused 948 = .ok (.lcmp, 1) := by decide +kernel
theorem dL_refused_949 : decode cL_refused 949 = .ok (.ifCond .ne 7, 3) := by decide +kernel
theorem dL_refused_952 : decode cL_refused 952 = .ok (.iconst 1, 1) := by decide +kernel
theorem dL_refused_953 : decode cL_refused 953 = .ok (.goto 4, 3) := by decide +kernel
theorem dL_refused_956 : decode cL_refused 956 = .ok (.iconst 0, 1) := by decide +kernel
theorem dL_refused_957 : decode cL_refused 957 = .ok (.ireturn, 1) := by decide +kernel
