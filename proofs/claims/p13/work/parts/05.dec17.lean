theorem d_Law_law_928 : decode b_Law_law 928 = .ok (.lstore 6, 2) := by decide +kernel
theorem d_Law_law_930 : decode b_Law_law 930 = .ok (.aload_n 2, 1) := by decide +kernel
theorem d_Law_law_931 : decode b_Law_law 931 = .ok (.invokevirtual 81, 3) := by decide +kernel
theorem d_Law_law_934 : decode b_Law_law 934 = .ok (.iload 5, 2) := by decide +kernel
theorem d_Law_law_936 : decode b_Law_law 936 = .ok (.if_icmp .eq 5, 3) := by decide +kernel
theorem d_Law_law_939 : decode b_Law_law 939 = .ok (.iconst 0, 1) := by decide +kernel
theorem d_Law_law_940 : decode b_Law_law 940 = .ok (.ireturn, 1) := by decide +kernel
theorem d_Law_law_941 : decode b_Law_law 941 = .ok (.iload 5, 2) := by decide +kernel
theorem d_Law_law_943 : decode b_Law_law 943 = .ok (.ifCond .ne 14, 3) := by decide +kernel
theorem d_Law_law_946 : decode b_Law_law 946 = .ok (.aload_n 3, 1) := by decide +kernel
theorem d_Law_law_947 : decode b_Law_law 947 = .ok (.iconst 0, 1) := by decide +kernel
theorem d_Law_law_948 : decode b_Law_law 948 = .ok (.laload, 1) := by decide +kernel
theorem d_Law_law_949 : decode b_Law_law 949 = .ok (.lload 6, 2) := by decide +kernel
theorem d_Law_law_951 : decode b_Law_law 951 = .ok (.lcmp, 1) := by decide +kernel
theorem d_Law_law_952 : decode b_Law_law 952 = .ok (.ifCond .eq 5, 3) := by decide +kernel
theorem d_Law_law_955 : decode b_Law_law 955 = .ok (.iconst 0, 1) := by decide +kernel
theorem d_Law_law_956 : decode b_Law_law 956 = .ok (.ireturn, 1) := by decide +kernel
theorem d_Law_law_957 : decode b_Law_law 957 = .ok (.goto 73, 3) := by decide +kernel
theorem d_Law_law_960 : decode b_Law_law 960 = .ok (.aload_n 1, 1) := by decide +kernel
theorem d_Law_law_961 : decode b_Law_law 961 = .ok (.aload_n 0, 1) := by decide +kernel
theorem d_Law_law_962 : decode b_Law_law 962 = .ok (.iload 4, 2) := by decide +kernel
theorem d_Law_law_964 : decode b_Law_law 964 = .ok (.iconst 1, 1) := by decide +kernel
theorem d_Law_law_965 : decode b_Law_law 965 = .ok (.iadd, 1) := by decide +kernel
theorem d_Law_law_966 : decode b_Law_law 966 = .ok (.iaload, 1) := by decide +kernel
theorem d_Law_law_967 : decode b_Law_law 967 = .ok (.i2l, 1) := by decide +kernel
theorem d_Law_law_968 : decode b_Law_law 968 = .ok (.bipush 32, 2) := by decide +kernel
theorem d_Law_law_970 : decode b_Law_law 970 = .ok (.lshl, 1) := by decide +kernel
theorem d_Law_law_971 : decode b_Law_law 971 = .ok (.aload_n 0, 1) := by decide +kernel
theorem d_Law_law_972 : decode b_Law_law 972 = .ok (.iload 4, 2) := by decide +kernel
theorem d_Law_law_974 : decode b_Law_law 974 = .ok (.iconst 2, 1) := by decide +kernel
theorem d_Law_law_975 : decode b_Law_law 975 = .ok (.iadd, 1) := by decide +kernel
theorem d_Law_law_976 : decode b_Law_law 976 = .ok (.iaload, 1) := by decide +kernel
theorem d_Law_law_977 : decode b_Law_law 977 = .ok (.i2l, 1) := by decide +kernel
theorem d_Law_law_978 : decode b_Law_law 978 = .ok (.ldc2_w 19, 3) := by decide +kernel
theorem d_Law_law_981 : decode b_Law_law 981 = .ok (.land, 1) := by decide +kernel
theorem d_Law_law_982 : decode b_Law_law 982 = .ok (.lor, 1) := by decide +kernel
theorem d_Law_law_983 : decode b_Law_law 983 = .ok (.invokevirtual 84, 3) := by decide +kernel
theorem d_Law_law_986 : decode b_Law_law 986 = .ok (.pop, 1) := by decide +kernel
theorem d_Law_law_987 : decode b_Law_law 987 = .ok (.aload_n 2, 1) := by decide +kernel
theorem d_Law_law_988 : decode b_Law_law 988 = .ok (.aload_n 0, 1) := by decide +kernel
theorem d_Law_law_989 : decode b_Law_law 989 = .ok (.iload 4, 2) := by decide +kernel
theorem d_Law_law_991 : decode b_Law_law 991 = .ok (.iconst 1, 1) := by decide +kernel
theorem d_Law_law_992 : decode b_Law_law 992 = .ok (.iadd, 1) := by decide +kernel
theorem d_Law_law_993 : decode b_Law_law 993 = .ok (.iaload, 1) := by decide +kernel
theorem d_Law_law_994 : decode b_Law_law 994 = .ok (.i2l, 1) := by decide +kernel
theorem d_Law_law_995 : decode b_Law_law 995 = .ok (.bipush 32, 2) := by decide +kernel
theorem d_Law_law_997 : decode b_Law_law 997 = .ok (.lshl, 1) := by decide +kernel
theorem d_Law_law_998 : decode b_Law_law 998 = .ok (.aload_n 0, 1) := by decide +kernel
theorem d_Law_law_999 : decode b_Law_law 999 = .ok (.iload 4, 2) := by decide +kernel
theorem d_Law_law_1001 : decode b_Law_law 1001 = .ok (.iconst 2, 1) := by decide +kernel
theorem d_Law_law_1002 : decode b_Law_law 1002 = .ok (.iadd, 1) := by decide +kernel
theorem d_Law_law_1003 : decode b_Law_law 1003 = .ok (.iaload, 1) := by decide +kernel
theorem d_Law_law_1004 : decode b_Law_law 1004 = .ok (.i2l, 1) := by decide +kernel
theorem d_Law_law_1005 : decode b_Law_law 1005 = .ok (.ldc2_w 19, 3) := by decide +kernel
theorem d_Law_law_1008 : decode b_Law_law 1008 = .ok (.land, 1) := by decide +kernel
theorem d_Law_law_1009 : decode b_Law_law 1009 = .ok (.lor, 1) := by decide +kernel
theorem d_Law_law_1010 : decode b_Law_law 1010 = .ok (.invokevirtual 87, 3) := by decide +kernel
theorem d_Law_law_1013 : decode b_Law_law 1013 = .ok (.pop, 1) := by decide +kernel
theorem d_Law_law_1014 : decode b_Law_law 1014 = .ok (.goto 16, 3) := by decide +kernel
theorem d_Law_law_1017 : decode b_Law_law 1017 = .ok (.aload_n 1, 1) := by decide +kernel
theorem d_Law_law_1018 : decode b_Law_law 1018 = .ok (.invokevirtual 88, 3) := by decide +kernel
theorem d_Law_law_1021 : decode b_Law_law 1021 = .ok (.pop, 1) := by decide +kernel
theorem d_Law_law_1022 : decode b_Law_law 1022 = .ok (.aload_n 2, 1) := by decide +kernel
theorem d_Law_law_1023 : decode b_Law_law 1023 = .ok (.invokevirtual 91, 3) := by decide +kernel
theorem d_Law_law_1026 : decode b_Law_law 1026 = .ok (.pop, 1) := by decide +kernel
theorem d_Law_law_1027 : decode b_Law_law 1027 = .ok (.goto 3, 3) := by decide +kernel
theorem d_Law_law_1030 : decode b_Law_law 1030 = .ok (.iinc 4 7, 3) := by decide +kernel
theorem d_Law_law_1033 : decode b_Law_law 1033 = .ok (.goto (-1010), 3) := by decide +kernel
theorem d_Law_law_1036 : decode b_Law_law 1036 = .ok (.iconst 1, 1) := by decide +kernel
theorem d_Law_law_1037 : decode b_Law_law 1037 = .ok (.ireturn, 1) := by decide +kernel
