theorem d_Law_law_934 : decode b_Law_law 934 = .ok (.aload_n 0, 1) := by decide +kernel
theorem d_Law_law_935 : decode b_Law_law 935 = .ok (.iload 4, 2) := by decide +kernel
theorem d_Law_law_937 : decode b_Law_law 937 = .ok (.iconst 1, 1) := by decide +kernel
theorem d_Law_law_938 : decode b_Law_law 938 = .ok (.iadd, 1) := by decide +kernel
theorem d_Law_law_939 : decode b_Law_law 939 = .ok (.iaload, 1) := by decide +kernel
theorem d_Law_law_940 : decode b_Law_law 940 = .ok (.i2l, 1) := by decide +kernel
theorem d_Law_law_941 : decode b_Law_law 941 = .ok (.bipush 32, 2) := by decide +kernel
theorem d_Law_law_943 : decode b_Law_law 943 = .ok (.lshl, 1) := by decide +kernel
theorem d_Law_law_944 : decode b_Law_law 944 = .ok (.aload_n 0, 1) := by decide +kernel
theorem d_Law_law_945 : decode b_Law_law 945 = .ok (.iload 4, 2) := by decide +kernel
theorem d_Law_law_947 : decode b_Law_law 947 = .ok (.iconst 2, 1) := by decide +kernel
theorem d_Law_law_948 : decode b_Law_law 948 = .ok (.iadd, 1) := by decide +kernel
theorem d_Law_law_949 : decode b_Law_law 949 = .ok (.iaload, 1) := by decide +kernel
theorem d_Law_law_950 : decode b_Law_law 950 = .ok (.i2l, 1) := by decide +kernel
theorem d_Law_law_951 : decode b_Law_law 951 = .ok (.ldc2_w 19, 3) := by decide +kernel
theorem d_Law_law_954 : decode b_Law_law 954 = .ok (.land, 1) := by decide +kernel
theorem d_Law_law_955 : decode b_Law_law 955 = .ok (.lor, 1) := by decide +kernel
theorem d_Law_law_956 : decode b_Law_law 956 = .ok (.invokevirtual 81, 3) := by decide +kernel
theorem d_Law_law_959 : decode b_Law_law 959 = .ok (.pop, 1) := by decide +kernel
theorem d_Law_law_960 : decode b_Law_law 960 = .ok (.aload_n 2, 1) := by decide +kernel
theorem d_Law_law_961 : decode b_Law_law 961 = .ok (.aload_n 0, 1) := by decide +kernel
theorem d_Law_law_962 : decode b_Law_law 962 = .ok (.iload 4, 2) := by decide +kernel
theorem d_Law_law_964 : decode b_Law_law 964 = .ok (.iconst 1, 1) := by decide +kernel
theorem d_Law_law_965 : decode b_Law_law 965 = .ok (.iadd, 1) := by decide +kernel
theorem d_Law_law_966 : decode b_Law_law 966 = .ok (.iaload, 1) := by decide +kernel
theorem d_Law_law_967 : decode b_Law_law 967 = .ok (.i2l, 1) := by decide +kernel
theorem d_Law_law_968 : decode b_Law_law 968 = .ok (.bipush 32, 2) := by decide +kernel
theorem d_Law_law_970 : decode b_Law_law 970 = .ok (.lshl, 1) := by decide +kernel
theorem d_Law_law_971 : decode b_Law_law 971 = .ok (.aload_n 0, 1) := by decide +kernel
theorem d_Law_law_972 : decode b_Law_law 972 = .ok (.iload 4, 2) := by decide +kernel
theorem d_Law_law_974 : decode b_Law_law 974 = .ok (.iconst 2, 1) := by decide +kernel
theorem d_Law_law_975 : decode b_Law_law 975 = .ok (.iadd, 1) := by decide +kernel
theorem d_Law_law_976 : decode b_Law_law 976 = .ok (.iaload, 1) := by decide +kernel
theorem d_Law_law_977 : decode b_Law_law 977 = .ok (.i2l, 1) := by decide +kernel
theorem d_Law_law_978 : decode b_Law_law 978 = .ok (.ldc2_w 19, 3) := by decide +kernel
theorem d_Law_law_981 : decode b_Law_law 981 = .ok (.land, 1) := by decide +kernel
theorem d_Law_law_982 : decode b_Law_law 982 = .ok (.lor, 1) := by decide +kernel
theorem d_Law_law_983 : decode b_Law_law 983 = .ok (.invokevirtual 84, 3) := by decide +kernel
theorem d_Law_law_986 : decode b_Law_law 986 = .ok (.pop, 1) := by decide +kernel
theorem d_Law_law_987 : decode b_Law_law 987 = .ok (.goto 16, 3) := by decide +kernel
theorem d_Law_law_990 : decode b_Law_law 990 = .ok (.aload_n 1, 1) := by decide +kernel
theorem d_Law_law_991 : decode b_Law_law 991 = .ok (.invokevirtual 85, 3) := by decide +kernel
theorem d_Law_law_994 : decode b_Law_law 994 = .ok (.pop, 1) := by decide +kernel
theorem d_Law_law_995 : decode b_Law_law 995 = .ok (.aload_n 2, 1) := by decide +kernel
theorem d_Law_law_996 : decode b_Law_law 996 = .ok (.invokevirtual 88, 3) := by decide +kernel
theorem d_Law_law_999 : decode b_Law_law 999 = .ok (.pop, 1) := by decide +kernel
theorem d_Law_law_1000 : decode b_Law_law 1000 = .ok (.goto 3, 3) := by decide +kernel
theorem d_Law_law_1003 : decode b_Law_law 1003 = .ok (.iinc 4 7, 3) := by decide +kernel
theorem d_Law_law_1006 : decode b_Law_law 1006 = .ok (.goto (-983), 3) := by decide +kernel
theorem d_Law_law_1009 : decode b_Law_law 1009 = .ok (.iconst 1, 1) := by decide +kernel
theorem d_Law_law_1010 : decode b_Law_law 1010 = .ok (.ireturn, 1) := by decide +kernel
