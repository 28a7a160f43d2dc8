theorem d_L_law_865 : decode b_L_law 865 = .ok (.iadd, 1) := by decide +kernel
theorem d_L_law_866 : decode b_L_law 866 = .ok (.iaload, 1) := by decide +kernel
theorem d_L_law_867 : decode b_L_law 867 = .ok (.invokevirtual 114, 3) := by decide +kernel
theorem d_L_law_870 : decode b_L_law 870 = .ok (.istore 6, 2) := by decide +kernel
theorem d_L_law_872 : decode b_L_law 872 = .ok (.aload_n 2, 1) := by decide +kernel
theorem d_L_law_873 : decode b_L_law 873 = .ok (.invokevirtual 77, 3) := by decide +kernel
theorem d_L_law_876 : decode b_L_law 876 = .ok (.iload 5, 2) := by decide +kernel
theorem d_L_law_878 : decode b_L_law 878 = .ok (.if_icmp .eq 5, 3) := by decide +kernel
theorem d_L_law_881 : decode b_L_law 881 = .ok (.iconst 0, 1) := by decide +kernel
theorem d_L_law_882 : decode b_L_law 882 = .ok (.ireturn, 1) := by decide +kernel
theorem d_L_law_883 : decode b_L_law 883 = .ok (.iload 5, 2) := by decide +kernel
theorem d_L_law_885 : decode b_L_law 885 = .ok (.ifCond .ne 15, 3) := by decide +kernel
theorem d_L_law_888 : decode b_L_law 888 = .ok (.aload_n 3, 1) := by decide +kernel
theorem d_L_law_889 : decode b_L_law 889 = .ok (.iconst 0, 1) := by decide +kernel
theorem d_L_law_890 : decode b_L_law 890 = .ok (.laload, 1) := by decide +kernel
theorem d_L_law_891 : decode b_L_law 891 = .ok (.iload 6, 2) := by decide +kernel
theorem d_L_law_893 : decode b_L_law 893 = .ok (.i2l, 1) := by decide +kernel
theorem d_L_law_894 : decode b_L_law 894 = .ok (.lcmp, 1) := by decide +kernel
theorem d_L_law_895 : decode b_L_law 895 = .ok (.ifCond .eq 5, 3) := by decide +kernel
theorem d_L_law_898 : decode b_L_law 898 = .ok (.iconst 0, 1) := by decide +kernel
theorem d_L_law_899 : decode b_L_law 899 = .ok (.ireturn, 1) := by decide +kernel
theorem d_L_law_900 : decode b_L_law 900 = .ok (.goto 318, 3) := by decide +kernel
theorem d_L_law_903 : decode b_L_law 903 = .ok (.aload_n 1, 1) := by decide +kernel
theorem d_L_law_904 : decode b_L_law 904 = .ok (.aload_n 0, 1) := by decide +kernel
theorem d_L_law_905 : decode b_L_law 905 = .ok (.iload 4, 2) := by decide +kernel
theorem d_L_law_907 : decode b_L_law 907 = .ok (.iconst 1, 1) := by decide +kernel
theorem d_L_law_908 : decode b_L_law 908 = .ok (.iadd, 1) := by decide +kernel
theorem d_L_law_909 : decode b_L_law 909 = .ok (.iaload, 1) := by decide +kernel
theorem d_L_law_910 : decode b_L_law 910 = .ok (.aload_n 0, 1) := by decide +kernel
theorem d_L_law_911 : decode b_L_law 911 = .ok (.iload 4, 2) := by decide +kernel
theorem d_L_law_913 : decode b_L_law 913 = .ok (.iconst 2, 1) := by decide +kernel
theorem d_L_law_914 : decode b_L_law 914 = .ok (.iadd, 1) := by decide +kernel
theorem d_L_law_915 : decode b_L_law 915 = .ok (.iaload, 1) := by decide +kernel
theorem d_L_law_916 : decode b_L_law 916 = .ok (.aload_n 3, 1) := by decide +kernel
theorem d_L_law_917 : decode b_L_law 917 = .ok (.invokestatic 115, 3) := by decide +kernel
theorem d_L_law_920 : decode b_L_law 920 = .ok (.istore 5, 2) := by decide +kernel
theorem d_L_law_922 : decode b_L_law 922 = .ok (.aload_n 2, 1) := by decide +kernel
theorem d_L_law_923 : decode b_L_law 923 = .ok (.aload_n 0, 1) := by decide +kernel
theorem d_L_law_924 : decode b_L_law 924 = .ok (.iload 4, 2) := by decide +kernel
theorem d_L_law_926 : decode b_L_law 926 = .ok (.iconst 1, 1) := by decide +kernel
theorem d_L_law_927 : decode b_L_law 927 = .ok (.iadd, 1) := by decide +kernel
theorem d_L_law_928 : decode b_L_law 928 = .ok (.iaload, 1) := by decide +kernel
theorem d_L_law_929 : decode b_L_law 929 = .ok (.aload_n 0, 1) := by decide +kernel
theorem d_L_law_930 : decode b_L_law 930 = .ok (.iload 4, 2) := by decide +kernel
theorem d_L_law_932 : decode b_L_law 932 = .ok (.iconst 2, 1) := by decide +kernel
theorem d_L_law_933 : decode b_L_law 933 = .ok (.iadd, 1) := by decide +kernel
theorem d_L_law_934 : decode b_L_law 934 = .ok (.iaload, 1) := by decide +kernel
theorem d_L_law_935 : decode b_L_law 935 = .ok (.invokevirtual 117, 3) := by decide +kernel
theorem d_L_law_938 : decode b_L_law 938 = .ok (.istore 6, 2) := by decide +kernel
theorem d_L_law_940 : decode b_L_law 940 = .ok (.aload_n 2, 1) := by decide +kernel
theorem d_L_law_941 : decode b_L_law 941 = .ok (.invokevirtual 77, 3) := by decide +kernel
theorem d_L_law_944 : decode b_L_law 944 = .ok (.iload 5, 2) := by decide +kernel
theorem d_L_law_946 : decode b_L_law 946 = .ok (.if_icmp .eq 5, 3) := by decide +kernel
theorem d_L_law_949 : decode b_L_law 949 = .ok (.iconst 0, 1) := by decide +kernel
theorem d_L_law_950 : decode b_L_law 950 = .ok (.ireturn, 1) := by decide +kernel
theorem d_L_law_951 : decode b_L_law 951 = .ok (.iload 5, 2) := by decide +kernel
theorem d_L_law_953 : decode b_L_law 953 = .ok (.ifCond .ne 15, 3) := by decide +kernel
theorem d_L_law_956 : decode b_L_law 956 = .ok (.aload_n 3, 1) := by decide +kernel
theorem d_L_law_957 : decode b_L_law 957 = .ok (.iconst 0, 1) := by decide +kernel
theorem d_L_law_958 : decode b_L_law 958 = .ok (.laload, 1) := by decide +kernel
theorem d_L_law_959 : decode b_L_law 959 = .ok (.iload 6, 2) := by decide +kernel
theorem d_L_law_961 : decode b_L_law 961 = .ok (.i2l, 1) := by decide +kernel
theorem d_L_law_962 : decode b_L_law 962 = .ok (.lcmp, 1) := by decide +kernel
theorem d_L_law_963 : decode b_L_law 963 = .ok (.ifCond .eq 5, 3) := by decide +kernel
theorem d_L_law_966 : decode b_L_law 966 = .ok (.iconst 0, 1) := by decide +kernel
theorem d_L_law_967 : decode b_L_law 967 = .ok (.ireturn, 1) := by decide +kernel
theorem d_L_law_968 : decode b_L_law 968 = .ok (.goto 250, 3) := by decide +kernel
theorem d_L_law_971 : decode b_L_law 971 = .ok (.aload_n 1, 1) := by decide +kernel
theorem d_L_law_972 : decode b_L_law 972 = .ok (.aload_n 0, 1) := by decide +kernel
theorem d_L_law_973 : decode b_L_law 973 = .ok (.iload 4, 2) := by decide +kernel
theorem d_L_law_975 : decode b_L_law 975 = .ok (.iconst 1, 1) := by decide +kernel
theorem d_L_law_976 : decode b_L_law 976 = .ok (.iadd, 1) := by decide +kernel
theorem d_L_law_977 : decode b_L_law 977 = .ok (.iaload, 1) := by decide +kernel
theorem d_L_law_978 : decode b_L_law 978 = .ok (.aload_n 0, 1) := by decide +kernel
theorem d_L_law_979 : decode b_L_law 979 = .ok (.iload 4, 2) := by decide +kernel
theorem d_L_law_981 : decode b_L_law 981 = .ok (.iconst 2, 1) := by decide +kernel
theorem d_L_law_982 : decode b_L_law 982 = .ok (.iadd, 1) := by decide +kernel
theorem d_L_law_983 : decode b_L_law 983 = .ok (.iaload, 1) := by decide +kernel
theorem d_L_law_984 : decode b_L_law 984 = .ok (.aload_n 3, 1) := by decide +kernel
theorem d_L_law_985 : decode b_L_law 985 = .ok (.invokestatic 118, 3) := by decide +kernel
theorem d_L_law_988 : decode b_L_law 988 = .ok (.istore 5, 2) := by decide +kernel
theorem d_L_law_990 : decode b_L_law 990 = .ok (.aload_n 2, 1) := by decide +kernel
theorem d_L_law_991 : decode b_L_law 991 = .ok (.aload_n 0, 1) := by decide +kernel
theorem d_L_law_992 : decode b_L_law 992 = .ok (.iload 4, 2) := by decide +kernel
theorem d_L_law_994 : decode b_L_law 994 = .ok (.iconst 1, 1) := by decide +kernel
theorem d_L_law_995 : decode b_L_law 995 = .ok (.iadd, 1) := by decide +kernel
theorem d_L_law_996 : decode b_L_law 996 = .ok (.iaload, 1) := by decide +kernel
theorem d_L_law_997 : decode b_L_law 997 = .ok (.aload_n 0, 1) := by decide +kernel
theorem d_L_law_998 : decode b_L_law 998 = .ok (.iload 4, 2) := by decide +kernel
theorem d_L_law_1000 : decode b_L_law 1000 = .ok (.iconst 2, 1) := by decide +kernel
theorem d_L_law_1001 : decode b_L_law 1001 = .ok (.iadd, 1) := by decide +kernel
theorem d_L_law_1002 : decode b_L_law 1002 = .ok (.iaload, 1) := by decide +kernel
theorem d_L_law_1003 : decode b_L_law 1003 = .ok (.invokevirtual 120, 3) := by decide +kernel
theorem d_L_law_1006 : decode b_L_law 1006 = .ok (.istore 6, 2) := by decide +kernel
theorem d_L_law_1008 : decode b_L_law 1008 = .ok (.aload_n 2, 1) := by decide +kernel
theorem d_L_law_1009 : decode b_L_law 1009 = .ok (.invokevirtual 77, 3) := by decide +kernel
theorem d_L_law_1012 : decode b_L_law 1012 = .ok (.iload 5, 2) := by decide +kernel
theorem d_L_law_1014 : decode b_L_law 1014 = .ok (.if_icmp .eq 5, 3) := by decide +kernel
theorem d_L_law_1017 : decode b_L_law 1017 = .ok (.iconst 0, 1) := by decide +kernel
theorem d_L_law_1018 : decode b_L_law 1018 = .ok (.ireturn, 1) := by decide +kernel
theorem d_L_law_1019 : decode b_L_law 1019 = .ok (.iload 5, 2) := by decide +kernel
theorem d_L_law_1021 : decode b_L_law 1021 = .ok (.ifCond .ne 15, 3) := by decide +kernel
theorem d_L_law_1024 : decode b_L_law 1024 = .ok (.aload_n 3, 1) := by decide +kernel
theorem d_L_law_1025 : decode b_L_law 1025 = .ok (.iconst 0, 1) := by decide +kernel
theorem d_L_law_1026 : decode b_L_law 1026 = .ok (.laload, 1) := by decide +kernel
theorem d_L_law_1027 : decode b_L_law 1027 = .ok (.iload 6, 2) := by decide +kernel
theorem d_L_law_1029 : decode b_L_law 1029 = .ok (.i2l, 1) := by decide +kernel
theorem d_L_law_1030 : decode b_L_law 1030 = .ok (.lcmp, 1) := by decide +kernel
theorem d_L_law_1031 : decode b_L_law 1031 = .ok (.ifCond .eq 5, 3) := by decide +kernel
theorem d_L_law_1034 : decode b_L_law 1034 = .ok (.iconst 0, 1) := by decide +kernel
theorem d_L_law_1035 : decode b_L_law 1035 = .ok (.ireturn, 1) := by decide +kernel
theorem d_L_law_1036 : decode b_L_law 1036 = .ok (.goto 182, 3) := by decide +kernel
theorem d_L_law_1039 : decode b_L_law 1039 = .ok (.aload_n 1, 1) := by decide +kernel
theorem d_L_law_1040 : decode b_L_law 1040 = .ok (.aload_n 0, 1) := by decide +kernel
theorem d_L_law_1041 : decode b_L_law 1041 = .ok (.iload 4, 2) := by decide +kernel
theorem d_L_law_1043 : decode b_L_law 1043 = .ok (.iconst 1, 1) := by decide +kernel
theorem d_L_law_1044 : decode b_L_law 1044 = .ok (.iadd, 1) := by decide +kernel
theorem d_L_law_1045 : decode b_L_law 1045 = .ok (.iaload, 1) := by decide +kernel
theorem d_L_law_1046 : decode b_L_law 1046 = .ok (.aload_n 0, 1) := by decide +kernel
theorem d_L_law_1047 : decode b_L_law 1047 = .ok (.iload 4, 2) := by decide +kernel
theorem d_L_law_1049 : decode b_L_law 1049 = .ok (.iconst 2, 1) := by decide +kernel
theorem d_L_law_1050 : decode b_L_law 1050 = .ok (.iadd, 1) := by decide +kernel
theorem d_L_law_1051 : decode b_L_law 1051 = .ok (.iaload, 1) := by decide +kernel
theorem d_L_law_1052 : decode b_L_law 1052 = .ok (.aload_n 3, 1) := by decide +kernel
theorem d_L_law_1053 : decode b_L_law 1053 = .ok (.invokestatic 121, 3) := by decide +kernel
theorem d_L_law_1056 : decode b_L_law 1056 = .ok (.istore 5, 2) := by decide +kernel
theorem d_L_law_1058 : decode b_L_law 1058 = .ok (.aload_n 2, 1) := by decide +kernel
theorem d_L_law_1059 : decode b_L_law 1059 = .ok (.aload_n 0, 1) := by decide +kernel
theorem d_L_law_1060 : decode b_L_law 1060 = .ok (.iload 4, 2) := by decide +kernel
theorem d_L_law_1062 : decode b_L_law 1062 = .ok (.iconst 1, 1) := by decide +kernel
