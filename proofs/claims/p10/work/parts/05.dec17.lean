theorem d_Law_law_934 : decode b_Law_law 934 = .ok (.aload_n 1, 1) := by decide +kernel
theorem d_Law_law_935 : decode b_Law_law 935 = .ok (.aload_n 0, 1) := by decide +kernel
theorem d_Law_law_936 : decode b_Law_law 936 = .ok (.iload 4, 2) := by decide +kernel
theorem d_Law_law_938 : decode b_Law_law 938 = .ok (.iconst 1, 1) := by decide +kernel
theorem d_Law_law_939 : decode b_Law_law 939 = .ok (.iadd, 1) := by decide +kernel
theorem d_Law_law_940 : decode b_Law_law 940 = .ok (.iaload, 1) := by decide +kernel
theorem d_Law_law_941 : decode b_Law_law 941 = .ok (.i2l, 1) := by decide +kernel
theorem d_Law_law_942 : decode b_Law_law 942 = .ok (.bipush 32, 2) := by decide +kernel
theorem d_Law_law_944 : decode b_Law_law 944 = .ok (.lshl, 1) := by decide +kernel
theorem d_Law_law_945 : decode b_Law_law 945 = .ok (.aload_n 0, 1) := by decide +kernel
theorem d_Law_law_946 : decode b_Law_law 946 = .ok (.iload 4, 2) := by decide +kernel
theorem d_Law_law_948 : decode b_Law_law 948 = .ok (.iconst 2, 1) := by decide +kernel
theorem d_Law_law_949 : decode b_Law_law 949 = .ok (.iadd, 1) := by decide +kernel
theorem d_Law_law_950 : decode b_Law_law 950 = .ok (.iaload, 1) := by decide +kernel
theorem d_Law_law_951 : decode b_Law_law 951 = .ok (.i2l, 1) := by decide +kernel
theorem d_Law_law_952 : decode b_Law_law 952 = .ok (.ldc2_w 19, 3) := by decide +kernel
theorem d_Law_law_955 : decode b_Law_law 955 = .ok (.land, 1) := by decide +kernel
theorem d_Law_law_956 : decode b_Law_law 956 = .ok (.lor, 1) := by decide +kernel
theorem d_Law_law_957 : decode b_Law_law 957 = .ok (.invokevirtual 81, 3) := by decide +kernel
theorem d_Law_law_960 : decode b_Law_law 960 = .ok (.pop, 1) := by decide +kernel
theorem d_Law_law_961 : decode b_Law_law 961 = .ok (.aload_n 2, 1) := by decide +kernel
theorem d_Law_law_962 : decode b_Law_law 962 = .ok (.aload_n 0, 1) := by decide +kernel
theorem d_Law_law_963 : decode b_Law_law 963 = .ok (.iload 4, 2) := by decide +kernel
theorem d_Law_law_965 : decode b_Law_law 965 = .ok (.iconst 1, 1) := by decide +kernel
theorem d_Law_law_966 : decode b_Law_law 966 = .ok (.iadd, 1) := by decide +kernel
theorem d_Law_law_967 : decode b_Law_law 967 = .ok (.iaload, 1) := by decide +kernel
theorem d_Law_law_968 : decode b_Law_law 968 = .ok (.i2l, 1) := by decide +kernel
theorem d_Law_law_969 : decode b_Law_law 969 = .ok (.bipush 32, 2) := by decide +kernel
theorem d_Law_law_971 : decode b_Law_law 971 = .ok (.lshl, 1) := by decide +kernel
theorem d_Law_law_972 : decode b_Law_law 972 = .ok (.aload_n 0, 1) := by decide +kernel
theorem d_Law_law_973 : decode b_Law_law 973 = .ok (.iload 4, 2) := by decide +kernel
theorem d_Law_law_975 : decode b_Law_law 975 = .ok (.iconst 2, 1) := by decide +kernel
theorem d_Law_law_976 : decode b_Law_law 976 = .ok (.iadd, 1) := by decide +kernel
theorem d_Law_law_977 : decode b_Law_law 977 = .ok (.iaload, 1) := by decide +kernel
theorem d_Law_law_978 : decode b_Law_law 978 = .ok (.i2l, 1) := by decide +kernel
theorem d_Law_law_979 : decode b_Law_law 979 = .ok (.ldc2_w 19, 3) := by decide +kernel
theorem d_Law_law_982 : decode b_Law_law 982 = .ok (.land, 1) := by decide +kernel
theorem d_Law_law_983 : decode b_Law_law 983 = .ok (.lor, 1) := by decide +kernel
theorem d_Law_law_984 : decode b_Law_law 984 = .ok (.invokevirtual 84, 3) := by decide +kernel
theorem d_Law_law_987 : decode b_Law_law 987 = .ok (.pop, 1) := by decide +kernel
theorem d_Law_law_988 : decode b_Law_law 988 = .ok (.goto 16, 3) := by decide +kernel
theorem d_Law_law_991 : decode b_Law_law 991 = .ok (.aload_n 1, 1) := by decide +kernel
theorem d_Law_law_992 : decode b_Law_law 992 = .ok (.invokevirtual 85, 3) := by decide +kernel
theorem d_Law_law_995 : decode b_Law_law 995 = .ok (.pop, 1) := by decide +kernel
theorem d_Law_law_996 : decode b_Law_law 996 = .ok (.aload_n 2, 1) := by decide +kernel
theorem d_Law_law_997 : decode b_Law_law 997 = .ok (.invokevirtual 88, 3) := by decide +kernel
theorem d_Law_law_1000 : decode b_Law_law 1000 = .ok (.pop, 1) := by decide +kernel
theorem d_Law_law_1001 : decode b_Law_law 1001 = .ok (.goto 3, 3) := by decide +kernel
theorem d_Law_law_1004 : decode b_Law_law 1004 = .ok (.iinc 4 7, 3) := by decide +kernel
theorem d_Law_law_1007 : decode b_Law_law 1007 = .ok (.goto (-984), 3) := by decide +kernel
theorem d_Law_law_1010 : decode b_Law_law 1010 = .ok (.iconst 1, 1) := by decide +kernel
theorem d_Law_law_1011 : decode b_Law_law 1011 = .ok (.ireturn, 1) := by decide +kernel
