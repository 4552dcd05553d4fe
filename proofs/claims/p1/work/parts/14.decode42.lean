theorem d_AckBookLaw_law_725 : decode c_AckBookLaw_law 725 = .ok (.iconst (1), 1) := by decide +kernel
theorem d_AckBookLaw_law_726 : decode c_AckBookLaw_law 726 = .ok (.goto (4), 3) := by decide +kernel
theorem d_AckBookLaw_law_822 : decode c_AckBookLaw_law 822 = .ok (.aload_n 1, 1) := by decide +kernel
theorem d_AckBookLaw_law_823 : decode c_AckBookLaw_law 823 = .ok (.aload_n 0, 1) := by decide +kernel
theorem d_AckBookLaw_law_824 : decode c_AckBookLaw_law 824 = .ok (.iload 4, 2) := by decide +kernel
theorem d_AckBookLaw_law_826 : decode c_AckBookLaw_law 826 = .ok (.iconst (1), 1) := by decide +kernel
theorem d_AckBookLaw_law_827 : decode c_AckBookLaw_law 827 = .ok (.iadd, 1) := by decide +kernel
theorem d_AckBookLaw_law_828 : decode c_AckBookLaw_law 828 = .ok (.iaload, 1) := by decide +kernel
theorem d_AckBookLaw_law_829 : decode c_AckBookLaw_law 829 = .ok (.aload_n 3, 1) := by decide +kernel
theorem d_AckBookLaw_law_830 : decode c_AckBookLaw_law 830 = .ok (.invokestatic 113, 3) := by decide +kernel
theorem d_AckBookLaw_law_833 : decode c_AckBookLaw_law 833 = .ok (.istore 5, 2) := by decide +kernel
theorem d_AckBookLaw_law_835 : decode c_AckBookLaw_law 835 = .ok (.aload_n 2, 1) := by decide +kernel
theorem d_AckBookLaw_law_836 : decode c_AckBookLaw_law 836 = .ok (.aload_n 0, 1) := by decide +kernel
theorem d_AckBookLaw_law_837 : decode c_AckBookLaw_law 837 = .ok (.iload 4, 2) := by decide +kernel
theorem d_AckBookLaw_law_839 : decode c_AckBookLaw_law 839 = .ok (.iconst (1), 1) := by decide +kernel
theorem d_AckBookLaw_law_840 : decode c_AckBookLaw_law 840 = .ok (.iadd, 1) := by decide +kernel
theorem d_AckBookLaw_law_841 : decode c_AckBookLaw_law 841 = .ok (.iaload, 1) := by decide +kernel
theorem d_AckBookLaw_law_842 : decode c_AckBookLaw_law 842 = .ok (.invokevirtual 116, 3) := by decide +kernel
theorem d_AckBookLaw_law_845 : decode c_AckBookLaw_law 845 = .ok (.istore 6, 2) := by decide +kernel
theorem d_AckBookLaw_law_847 : decode c_AckBookLaw_law 847 = .ok (.aload_n 2, 1) := by decide +kernel
theorem d_AckBookLaw_law_848 : decode c_AckBookLaw_law 848 = .ok (.invokevirtual 71, 3) := by decide +kernel
theorem d_AckBookLaw_law_851 : decode c_AckBookLaw_law 851 = .ok (.iload 5, 2) := by decide +kernel
theorem d_AckBookLaw_law_853 : decode c_AckBookLaw_law 853 = .ok (.if_icmp .eq (5), 3) := by decide +kernel
theorem d_AckBookLaw_law_858 : decode c_AckBookLaw_law 858 = .ok (.iload 5, 2) := by decide +kernel
theorem d_AckBookLaw_law_860 : decode c_AckBookLaw_law 860 = .ok (.ifCond .ne (22), 3) := by decide +kernel
theorem d_AckBookLaw_law_863 : decode c_AckBookLaw_law 863 = .ok (.aload_n 3, 1) := by decide +kernel
theorem d_AckBookLaw_law_864 : decode c_AckBookLaw_law 864 = .ok (.iconst (0), 1) := by decide +kernel
theorem d_AckBookLaw_law_865 : decode c_AckBookLaw_law 865 = .ok (.laload, 1) := by decide +kernel
theorem d_AckBookLaw_law_866 : decode c_AckBookLaw_law 866 = .ok (.iload 6, 2) := by decide +kernel
theorem d_AckBookLaw_law_868 : decode c_AckBookLaw_law 868 = .ok (.ifCond .eq (7), 3) := by decide +kernel
theorem d_AckBookLaw_law_875 : decode c_AckBookLaw_law 875 = .ok (.lconst 0, 1) := by decide +kernel
theorem d_AckBookLaw_law_871 : decode c_AckBookLaw_law 871 = .ok (.lconst 1, 1) := by decide +kernel
theorem d_AckBookLaw_law_872 : decode c_AckBookLaw_law 872 = .ok (.goto (4), 3) := by decide +kernel
theorem d_AckBookLaw_law_856 : decode c_AckBookLaw_law 856 = .ok (.iconst (0), 1) := by decide +kernel
theorem d_AckBookLaw_law_857 : decode c_AckBookLaw_law 857 = .ok (.ireturn, 1) := by decide +kernel
theorem d_AckBookLaw_law_885 : decode c_AckBookLaw_law 885 = .ok (.aload_n 1, 1) := by decide +kernel
theorem d_AckBookLaw_law_886 : decode c_AckBookLaw_law 886 = .ok (.aload_n 0, 1) := by decide +kernel
theorem d_AckBookLaw_law_887 : decode c_AckBookLaw_law 887 = .ok (.iload 4, 2) := by decide +kernel
theorem d_AckBookLaw_law_889 : decode c_AckBookLaw_law 889 = .ok (.iconst (1), 1) := by decide +kernel
theorem d_AckBookLaw_law_890 : decode c_AckBookLaw_law 890 = .ok (.iadd, 1) := by decide +kernel
theorem d_AckBookLaw_law_891 : decode c_AckBookLaw_law 891 = .ok (.iaload, 1) := by decide +kernel
theorem d_AckBookLaw_law_892 : decode c_AckBookLaw_law 892 = .ok (.aload_n 3, 1) := by decide +kernel
theorem d_AckBookLaw_law_893 : decode c_AckBookLaw_law 893 = .ok (.invokestatic 117, 3) := by decide +kernel
theorem d_AckBookLaw_law_896 : decode c_AckBookLaw_law 896 = .ok (.istore 5, 2) := by decide +kernel
theorem d_AckBookLaw_law_898 : decode c_AckBookLaw_law 898 = .ok (.aload_n 2, 1) := by decide +kernel
theorem d_AckBookLaw_law_899 : decode c_AckBookLaw_law 899 = .ok (.aload_n 0, 1) := by decide +kernel
theorem d_AckBookLaw_law_900 : decode c_AckBookLaw_law 900 = .ok (.iload 4, 2) := by decide +kernel
theorem d_AckBookLaw_law_902 : decode c_AckBookLaw_law 902 = .ok (.iconst (1), 1) := by decide +kernel
theorem d_AckBookLaw_law_903 : decode c_AckBookLaw_law 903 = .ok (.iadd, 1) := by decide +kernel
theorem d_AckBookLaw_law_904 : decode c_AckBookLaw_law 904 = .ok (.iaload, 1) := by decide +kernel
theorem d_AckBookLaw_law_905 : decode c_AckBookLaw_law 905 = .ok (.invokevirtual 119, 3) := by decide +kernel
theorem d_AckBookLaw_law_908 : decode c_AckBookLaw_law 908 = .ok (.istore 6, 2) := by decide +kernel
theorem d_AckBookLaw_law_910 : decode c_AckBookLaw_law 910 = .ok (.aload_n 2, 1) := by decide +kernel
theorem d_AckBookLaw_law_911 : decode c_AckBookLaw_law 911 = .ok (.invokevirtual 71, 3) := by decide +kernel
theorem d_AckBookLaw_law_914 : decode c_AckBookLaw_law 914 = .ok (.iload 5, 2) := by decide +kernel
theorem d_AckBookLaw_law_916 : decode c_AckBookLaw_law 916 = .ok (.if_icmp .eq (5), 3) := by decide +kernel
theorem d_AckBookLaw_law_921 : decode c_AckBookLaw_law 921 = .ok (.iload 5, 2) := by decide +kernel
theorem d_AckBookLaw_law_923 : decode c_AckBookLaw_law 923 = .ok (.ifCond .ne (15), 3) := by decide +kernel
theorem d_AckBookLaw_law_926 : decode c_AckBookLaw_law 926 = .ok (.aload_n 3, 1) := by decide +kernel
theorem d_AckBookLaw_law_927 : decode c_AckBookLaw_law 927 = .ok (.iconst (0), 1) := by decide +kernel
theorem d_AckBookLaw_law_928 : decode c_AckBookLaw_law 928 = .ok (.laload, 1) := by decide +kernel
theorem d_AckBookLaw_law_929 : decode c_AckBookLaw_law 929 = .ok (.iload 6, 2) := by decide +kernel
theorem d_AckBookLaw_law_931 : decode c_AckBookLaw_law 931 = .ok (.i2l, 1) := by decide +kernel
theorem d_AckBookLaw_law_932 : decode c_AckBookLaw_law 932 = .ok (.lcmp, 1) := by decide +kernel
theorem d_AckBookLaw_law_933 : decode c_AckBookLaw_law 933 = .ok (.ifCond .eq (5), 3) := by decide +kernel
theorem d_AckBookLaw_law_938 : decode c_AckBookLaw_law 938 = .ok (.goto (221), 3) := by decide +kernel
theorem d_AckBookLaw_law_936 : decode c_AckBookLaw_law 936 = .ok (.iconst (0), 1) := by decide +kernel
theorem d_AckBookLaw_law_937 : decode c_AckBookLaw_law 937 = .ok (.ireturn, 1) := by decide +kernel
theorem d_AckBookLaw_law_919 : decode c_AckBookLaw_law 919 = .ok (.iconst (0), 1) := by decide +kernel
theorem d_AckBookLaw_law_920 : decode c_AckBookLaw_law 920 = .ok (.ireturn, 1) := by decide +kernel
theorem d_AckBookLaw_law_941 : decode c_AckBookLaw_law 941 = .ok (.aload_n 1, 1) := by decide +kernel
theorem d_AckBookLaw_law_942 : decode c_AckBookLaw_law 942 = .ok (.aload_n 0, 1) := by decide +kernel
theorem d_AckBookLaw_law_943 : decode c_AckBookLaw_law 943 = .ok (.iload 4, 2) := by decide +kernel
theorem d_AckBookLaw_law_945 : decode c_AckBookLaw_law 945 = .ok (.iconst (1), 1) := by decide +kernel
theorem d_AckBookLaw_law_946 : decode c_AckBookLaw_law 946 = .ok (.iadd, 1) := by decide +kernel
theorem d_AckBookLaw_law_947 : decode c_AckBookLaw_law 947 = .ok (.iaload, 1) := by decide +kernel
theorem d_AckBookLaw_law_948 : decode c_AckBookLaw_law 948 = .ok (.aload_n 0, 1) := by decide +kernel
theorem d_AckBookLaw_law_949 : decode c_AckBookLaw_law 949 = .ok (.iload 4, 2) := by decide +kernel
theorem d_AckBookLaw_law_951 : decode c_AckBookLaw_law 951 = .ok (.iconst (2), 1) := by decide +kernel
theorem d_AckBookLaw_law_952 : decode c_AckBookLaw_law 952 = .ok (.iadd, 1) := by decide +kernel
theorem d_AckBookLaw_law_953 : decode c_AckBookLaw_law 953 = .ok (.iaload, 1) := by decide +kernel
theorem d_AckBookLaw_law_954 : decode c_AckBookLaw_law 954 = .ok (.aload_n 0, 1) := by decide +kernel
theorem d_AckBookLaw_law_955 : decode c_AckBookLaw_law 955 = .ok (.iload 4, 2) := by decide +kernel
theorem d_AckBookLaw_law_957 : decode c_AckBookLaw_law 957 = .ok (.iconst (3), 1) := by decide +kernel
theorem d_AckBookLaw_law_958 : decode c_AckBookLaw_law 958 = .ok (.iadd, 1) := by decide +kernel
theorem d_AckBookLaw_law_959 : decode c_AckBookLaw_law 959 = .ok (.iaload, 1) := by decide +kernel
theorem d_AckBookLaw_law_960 : decode c_AckBookLaw_law 960 = .ok (.ifCond .eq (7), 3) := by decide +kernel
theorem d_AckBookLaw_law_967 : decode c_AckBookLaw_law 967 = .ok (.iconst (0), 1) := by decide +kernel
theorem d_AckBookLaw_law_963 : decode c_AckBookLaw_law 963 = .ok (.iconst (1), 1) := by decide +kernel
theorem d_AckBookLaw_law_964 : decode c_AckBookLaw_law 964 = .ok (.goto (4), 3) := by decide +kernel
theorem d_AckBookLaw_law_1036 : decode c_AckBookLaw_law 1036 = .ok (.aload_n 1, 1) := by decide +kernel
theorem d_AckBookLaw_law_1037 : decode c_AckBookLaw_law 1037 = .ok (.aload_n 0, 1) := by decide +kernel
theorem d_AckBookLaw_law_1038 : decode c_AckBookLaw_law 1038 = .ok (.iload 4, 2) := by decide +kernel
theorem d_AckBookLaw_law_1040 : decode c_AckBookLaw_law 1040 = .ok (.iconst (1), 1) := by decide +kernel
theorem d_AckBookLaw_law_1041 : decode c_AckBookLaw_law 1041 = .ok (.iadd, 1) := by decide +kernel
theorem d_AckBookLaw_law_1042 : decode c_AckBookLaw_law 1042 = .ok (.iaload, 1) := by decide +kernel
theorem d_AckBookLaw_law_1043 : decode c_AckBookLaw_law 1043 = .ok (.aload_n 3, 1) := by decide +kernel
theorem d_AckBookLaw_law_1044 : decode c_AckBookLaw_law 1044 = .ok (.invokestatic 124, 3) := by decide +kernel
theorem d_AckBookLaw_law_1047 : decode c_AckBookLaw_law 1047 = .ok (.istore 5, 2) := by decide +kernel
theorem d_AckBookLaw_law_1049 : decode c_AckBookLaw_law 1049 = .ok (.aload_n 2, 1) := by decide +kernel
theorem d_AckBookLaw_law_1050 : decode c_AckBookLaw_law 1050 = .ok (.aload_n 0, 1) := by decide +kernel
theorem d_AckBookLaw_law_1051 : decode c_AckBookLaw_law 1051 = .ok (.iload 4, 2) := by decide +kernel
theorem d_AckBookLaw_law_1053 : decode c_AckBookLaw_law 1053 = .ok (.iconst (1), 1) := by decide +kernel
theorem d_AckBookLaw_law_1054 : decode c_AckBookLaw_law 1054 = .ok (.iadd, 1) := by decide +kernel
theorem d_AckBookLaw_law_1055 : decode c_AckBookLaw_law 1055 = .ok (.iaload, 1) := by decide +kernel
theorem d_AckBookLaw_law_1056 : decode c_AckBookLaw_law 1056 = .ok (.invokevirtual 126, 3) := by decide +kernel
theorem d_AckBookLaw_law_1059 : decode c_AckBookLaw_law 1059 = .ok (.istore 6, 2) := by decide +kernel
theorem d_AckBookLaw_law_1061 : decode c_AckBookLaw_law 1061 = .ok (.aload_n 2, 1) := by decide +kernel
theorem d_AckBookLaw_law_1062 : decode c_AckBookLaw_law 1062 = .ok (.invokevirtual 71, 3) := by decide +kernel
theorem d_AckBookLaw_law_1065 : decode c_AckBookLaw_law 1065 = .ok (.iload 5, 2) := by decide +kernel
theorem d_AckBookLaw_law_1067 : decode c_AckBookLaw_law 1067 = .ok (.if_icmp .eq (5), 3) := by decide +kernel
theorem d_AckBookLaw_law_1072 : decode c_AckBookLaw_law 1072 = .ok (.iload 5, 2) := by decide +kernel
theorem d_AckBookLaw_law_1074 : decode c_AckBookLaw_law 1074 = .ok (.ifCond .ne (15), 3) := by decide +kernel
theorem d_AckBookLaw_law_1077 : decode c_AckBookLaw_law 1077 = .ok (.aload_n 3, 1) := by decide +kernel
theorem d_AckBookLaw_law_1078 : decode c_AckBookLaw_law 1078 = .ok (.iconst (0), 1) := by decide +kernel
theorem d_AckBookLaw_law_1079 : decode c_AckBookLaw_law 1079 = .ok (.laload, 1) := by decide +kernel
theorem d_AckBookLaw_law_1080 : decode c_AckBookLaw_law 1080 = .ok (.iload 6, 2) := by decide +kernel
theorem d_AckBookLaw_law_1082 : decode c_AckBookLaw_law 1082 = .ok (.i2l, 1) := by decide +kernel
theorem d_AckBookLaw_law_1083 : decode c_AckBookLaw_law 1083 = .ok (.lcmp, 1) := by decide +kernel
theorem d_AckBookLaw_law_1084 : decode c_AckBookLaw_law 1084 = .ok (.ifCond .eq (5), 3) := by decide +kernel
