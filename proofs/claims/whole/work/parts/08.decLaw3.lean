theorem d_L_law_791 : decode code 791 = .ok (.lcmp, 1) := by decide +kernel
theorem d_L_law_792 : decode code 792 = .ok (.ifCond .eq 5, 3) := by decide +kernel
theorem d_L_law_795 : decode code 795 = .ok (.iconst 0, 1) := by decide +kernel
theorem d_L_law_796 : decode code 796 = .ok (.ireturn, 1) := by decide +kernel
theorem d_L_law_797 : decode code 797 = .ok (.goto 666, 3) := by decide +kernel
theorem d_L_law_800 : decode code 800 = .ok (.aload_n 1, 1) := by decide +kernel
theorem d_L_law_801 : decode code 801 = .ok (.aload_n 0, 1) := by decide +kernel
theorem d_L_law_802 : decode code 802 = .ok (.iload 4, 2) := by decide +kernel
theorem d_L_law_804 : decode code 804 = .ok (.iconst 1, 1) := by decide +kernel
theorem d_L_law_805 : decode code 805 = .ok (.iadd, 1) := by decide +kernel
theorem d_L_law_806 : decode code 806 = .ok (.iaload, 1) := by decide +kernel
theorem d_L_law_807 : decode code 807 = .ok (.aload_n 0, 1) := by decide +kernel
theorem d_L_law_808 : decode code 808 = .ok (.iload 4, 2) := by decide +kernel
theorem d_L_law_810 : decode code 810 = .ok (.iconst 2, 1) := by decide +kernel
theorem d_L_law_811 : decode code 811 = .ok (.iadd, 1) := by decide +kernel
theorem d_L_law_812 : decode code 812 = .ok (.iaload, 1) := by decide +kernel
theorem d_L_law_813 : decode code 813 = .ok (.aload_n 3, 1) := by decide +kernel
theorem d_L_law_814 : decode code 814 = .ok (.invokestatic 123, 3) := by decide +kernel
theorem d_L_law_817 : decode code 817 = .ok (.istore 5, 2) := by decide +kernel
theorem d_L_law_819 : decode code 819 = .ok (.aload_n 2, 1) := by decide +kernel
theorem d_L_law_820 : decode code 820 = .ok (.aload_n 0, 1) := by decide +kernel
theorem d_L_law_821 : decode code 821 = .ok (.iload 4, 2) := by decide +kernel
theorem d_L_law_823 : decode code 823 = .ok (.iconst 1, 1) := by decide +kernel
theorem d_L_law_824 : decode code 824 = .ok (.iadd, 1) := by decide +kernel
theorem d_L_law_825 : decode code 825 = .ok (.iaload, 1) := by decide +kernel
theorem d_L_law_826 : decode code 826 = .ok (.aload_n 0, 1) := by decide +kernel
theorem d_L_law_827 : decode code 827 = .ok (.iload 4, 2) := by decide +kernel
theorem d_L_law_829 : decode code 829 = .ok (.iconst 2, 1) := by decide +kernel
theorem d_L_law_830 : decode code 830 = .ok (.iadd, 1) := by decide +kernel
theorem d_L_law_831 : decode code 831 = .ok (.iaload, 1) := by decide +kernel
theorem d_L_law_832 : decode code 832 = .ok (.invokevirtual 125, 3) := by decide +kernel
theorem d_L_law_835 : decode code 835 = .ok (.istore 6, 2) := by decide +kernel
theorem d_L_law_837 : decode code 837 = .ok (.aload_n 2, 1) := by decide +kernel
theorem d_L_law_838 : decode code 838 = .ok (.invokevirtual 90, 3) := by decide +kernel
theorem d_L_law_841 : decode code 841 = .ok (.iload 5, 2) := by decide +kernel
theorem d_L_law_843 : decode code 843 = .ok (.if_icmp .eq 5, 3) := by decide +kernel
theorem d_L_law_846 : decode code 846 = .ok (.iconst 0, 1) := by decide +kernel
theorem d_L_law_847 : decode code 847 = .ok (.ireturn, 1) := by decide +kernel
theorem d_L_law_848 : decode code 848 = .ok (.iload 5, 2) := by decide +kernel
theorem d_L_law_850 : decode code 850 = .ok (.ifCond .ne 15, 3) := by decide +kernel
theorem d_L_law_853 : decode code 853 = .ok (.aload_n 3, 1) := by decide +kernel
theorem d_L_law_854 : decode code 854 = .ok (.iconst 0, 1) := by decide +kernel
theorem d_L_law_855 : decode code 855 = .ok (.laload, 1) := by decide +kernel
theorem d_L_law_856 : decode code 856 = .ok (.iload 6, 2) := by decide +kernel
theorem d_L_law_858 : decode code 858 = .ok (.i2l, 1) := by decide +kernel
theorem d_L_law_859 : decode code 859 = .ok (.lcmp, 1) := by decide +kernel
theorem d_L_law_860 : decode code 860 = .ok (.ifCond .eq 5, 3) := by decide +kernel
theorem d_L_law_863 : decode code 863 = .ok (.iconst 0, 1) := by decide +kernel
theorem d_L_law_864 : decode code 864 = .ok (.ireturn, 1) := by decide +kernel
theorem d_L_law_865 : decode code 865 = .ok (.goto 598, 3) := by decide +kernel
theorem d_L_law_868 : decode code 868 = .ok (.aload_n 1, 1) := by decide +kernel
theorem d_L_law_869 : decode code 869 = .ok (.aload_n 0, 1) := by decide +kernel
theorem d_L_law_870 : decode code 870 = .ok (.iload 4, 2) := by decide +kernel
theorem d_L_law_872 : decode code 872 = .ok (.iconst 1, 1) := by decide +kernel
theorem d_L_law_873 : decode code 873 = .ok (.iadd, 1) := by decide +kernel
theorem d_L_law_874 : decode code 874 = .ok (.iaload, 1) := by decide +kernel
theorem d_L_law_875 : decode code 875 = .ok (.aload_n 0, 1) := by decide +kernel
theorem d_L_law_876 : decode code 876 = .ok (.iload 4, 2) := by decide +kernel
theorem d_L_law_878 : decode code 878 = .ok (.iconst 2, 1) := by decide +kernel
theorem d_L_law_879 : decode code 879 = .ok (.iadd, 1) := by decide +kernel
theorem d_L_law_880 : decode code 880 = .ok (.iaload, 1) := by decide +kernel
theorem d_L_law_881 : decode code 881 = .ok (.aload_n 3, 1) := by decide +kernel
theorem d_L_law_882 : decode code 882 = .ok (.invokestatic 126, 3) := by decide +kernel
theorem d_L_law_885 : decode code 885 = .ok (.istore 5, 2) := by decide +kernel
theorem d_L_law_887 : decode code 887 = .ok (.aload_n 2, 1) := by decide +kernel
theorem d_L_law_888 : decode code 888 = .ok (.aload_n 0, 1) := by decide +kernel
theorem d_L_law_889 : decode code 889 = .ok (.iload 4, 2) := by decide +kernel
theorem d_L_law_891 : decode code 891 = .ok (.iconst 1, 1) := by decide +kernel
theorem d_L_law_892 : decode code 892 = .ok (.iadd, 1) := by decide +kernel
theorem d_L_law_893 : decode code 893 = .ok (.iaload, 1) := by decide +kernel
theorem d_L_law_894 : decode code 894 = .ok (.aload_n 0, 1) := by decide +kernel
theorem d_L_law_895 : decode code 895 = .ok (.iload 4, 2) := by decide +kernel
theorem d_L_law_897 : decode code 897 = .ok (.iconst 2, 1) := by decide +kernel
theorem d_L_law_898 : decode code 898 = .ok (.iadd, 1) := by decide +kernel
theorem d_L_law_899 : decode code 899 = .ok (.iaload, 1) := by decide +kernel
theorem d_L_law_900 : decode code 900 = .ok (.invokevirtual 128, 3) := by decide +kernel
theorem d_L_law_903 : decode code 903 = .ok (.istore 6, 2) := by decide +kernel
theorem d_L_law_905 : decode code 905 = .ok (.aload_n 2, 1) := by decide +kernel
theorem d_L_law_906 : decode code 906 = .ok (.invokevirtual 90, 3) := by decide +kernel
theorem d_L_law_909 : decode code 909 = .ok (.iload 5, 2) := by decide +kernel
theorem d_L_law_911 : decode code 911 = .ok (.if_icmp .eq 5, 3) := by decide +kernel
theorem d_L_law_914 : decode code 914 = .ok (.iconst 0, 1) := by decide +kernel
theorem d_L_law_915 : decode code 915 = .ok (.ireturn, 1) := by decide +kernel
theorem d_L_law_916 : decode code 916 = .ok (.iload 5, 2) := by decide +kernel
theorem d_L_law_918 : decode code 918 = .ok (.ifCond .ne 15, 3) := by decide +kernel
theorem d_L_law_921 : decode code 921 = .ok (.aload_n 3, 1) := by decide +kernel
theorem d_L_law_922 : decode code 922 = .ok (.iconst 0, 1) := by decide +kernel
theorem d_L_law_923 : decode code 923 = .ok (.laload, 1) := by decide +kernel
theorem d_L_law_924 : decode code 924 = .ok (.iload 6, 2) := by decide +kernel
theorem d_L_law_926 : decode code 926 = .ok (.i2l, 1) := by decide +kernel
theorem d_L_law_927 : decode code 927 = .ok (.lcmp, 1) := by decide +kernel
theorem d_L_law_928 : decode code 928 = .ok (.ifCond .eq 5, 3) := by decide +kernel
theorem d_L_law_931 : decode code 931 = .ok (.iconst 0, 1) := by decide +kernel
theorem d_L_law_932 : decode code 932 = .ok (.ireturn, 1) := by decide +kernel
theorem d_L_law_933 : decode code 933 = .ok (.goto 530, 3) := by decide +kernel
theorem d_L_law_936 : decode code 936 = .ok (.aload_n 1, 1) := by decide +kernel
theorem d_L_law_937 : decode code 937 = .ok (.aload_n 0, 1) := by decide +kernel
theorem d_L_law_938 : decode code 938 = .ok (.iload 4, 2) := by decide +kernel
theorem d_L_law_940 : decode code 940 = .ok (.iconst 1, 1) := by decide +kernel
theorem d_L_law_941 : decode code 941 = .ok (.iadd, 1) := by decide +kernel
theorem d_L_law_942 : decode code 942 = .ok (.iaload, 1) := by decide +kernel
theorem d_L_law_943 : decode code 943 = .ok (.aload_n 0, 1) := by decide +kernel
theorem d_L_law_944 : decode code 944 = .ok (.iload 4, 2) := by decide +kernel
theorem d_L_law_946 : decode code 946 = .ok (.iconst 2, 1) := by decide +kernel
theorem d_L_law_947 : decode code 947 = .ok (.iadd, 1) := by decide +kernel
theorem d_L_law_948 : decode code 948 = .ok (.iaload, 1) := by decide +kernel
theorem d_L_law_949 : decode code 949 = .ok (.ifCond .eq 7, 3) := by decide +kernel
theorem d_L_law_952 : decode code 952 = .ok (.iconst 1, 1) := by decide +kernel
theorem d_L_law_953 : decode code 953 = .ok (.goto 4, 3) := by decide +kernel
theorem d_L_law_956 : decode code 956 = .ok (.iconst 0, 1) := by decide +kernel
theorem d_L_law_957 : decode code 957 = .ok (.aload_n 3, 1) := by decide +kernel
theorem d_L_law_958 : decode code 958 = .ok (.invokestatic 129, 3) := by decide +kernel
theorem d_L_law_961 : decode code 961 = .ok (.istore 5, 2) := by decide +kernel
theorem d_L_law_963 : decode code 963 = .ok (.aload_n 2, 1) := by decide +kernel
theorem d_L_law_964 : decode code 964 = .ok (.aload_n 0, 1) := by decide +kernel
theorem d_L_law_965 : decode code 965 = .ok (.iload 4, 2) := by decide +kernel
theorem d_L_law_967 : decode code 967 = .ok (.iconst 1, 1) := by decide +kernel
theorem d_L_law_968 : decode code 968 = .ok (.iadd, 1) := by decide +kernel
theorem d_L_law_969 : decode code 969 = .ok (.iaload, 1) := by decide +kernel
theorem d_L_law_970 : decode code 970 = .ok (.aload_n 0, 1) := by decide +kernel
theorem d_L_law_971 : decode code 971 = .ok (.iload 4, 2) := by decide +kernel
theorem d_L_law_973 : decode code 973 = .ok (.iconst 2, 1) := by decide +kernel
theorem d_L_law_974 : decode code 974 = .ok (.iadd, 1) := by decide +kernel
theorem d_L_law_975 : decode code 975 = .ok (.iaload, 1) := by decide +kernel
theorem d_L_law_976 : decode code 976 = .ok (.ifCond .eq 7, 3) := by decide +kernel
theorem d_L_law_979 : decode code 979 = .ok (.iconst 1, 1) := by decide +kernel
theorem d_L_law_980 : decode code 980 = .ok (.goto 4, 3) := by decide +kernel
theorem d_L_law_983 : decode code 983 = .ok (.iconst 0, 1) := by decide +kernel
theorem d_L_law_984 : decode code 984 = .ok (.invokevirtual 132, 3) := by decide +kernel
theorem d_L_law_987 : decode code 987 = .ok (.istore 6, 2) := by decide +kernel
theorem d_L_law_989 : decode code 989 = .ok (.aload_n 2, 1) := by decide +kernel
theorem d_L_law_990 : decode code 990 = .ok (.invokevirtual 90, 3) := by decide +kernel
theorem d_L_law_993 : decode code 993 = .ok (.iload 5, 2) := by decide +kernel
theorem d_L_law_995 : decode code 995 = .ok (.if_icmp .eq 5, 3) := by decide +kernel
theorem d_L_law_998 : decode code 998 = .ok (.iconst 0, 1) := by decide +kernel
theorem d_L_law_999 : decode code 999 = .ok (.ireturn, 1) := by decide +kernel
theorem d_L_law_1000 : decode code 1000 = .ok (.iload 5, 2) := by decide +kernel
theorem d_L_law_1002 : decode code 1002 = .ok (.ifCond .ne 22, 3) := by decide +kernel
theorem d_L_law_1005 : decode code 1005 = .ok (.aload_n 3, 1) := by decide +kernel
theorem d_L_law_1006 : decode code 1006 = .ok (.iconst 0, 1) := by decide +kernel
theorem d_L_law_1007 : decode code 1007 = .ok (.laload, 1) := by decide +kernel
theorem d_L_law_1008 : decode code 1008 = .ok (.iload 6, 2) := by decide +kernel
theorem d_L_law_1010 : decode code 1010 = .ok (.ifCond .eq 7, 3) := by decide +kernel
theorem d_L_law_1013 : decode code 1013 = .ok (.lconst 1, 1) := by decide +kernel
theorem d_L_law_1014 : decode code 1014 = .ok (.goto 4, 3) := by decide +kernel
theorem d_L_law_1017 : decode code 1017 = .ok (.lconst 0, 1) := by decide +kernel
theorem d_L_law_1018 : decode code 1018 = .ok (.lcmp, 1) := by decide +kernel
theorem d_L_law_1019 : decode code 1019 = .ok (.ifCond .eq 5, 3) := by decide +kernel
theorem d_L_law_1022 : decode code 1022 = .ok (.iconst 0, 1) := by decide +kernel
theorem d_L_law_1023 : decode code 1023 = .ok (.ireturn, 1) := by decide +kernel
