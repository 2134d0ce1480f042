theorem d_X_isWithin_0 : decode b_X_isWithin 0 = .ok (.lload_n 0, 1) := by decide +kernel
theorem d_X_isWithin_1 : decode b_X_isWithin 1 = .ok (.lload_n 2, 1) := by decide +kernel
theorem d_X_isWithin_2 : decode b_X_isWithin 2 = .ok (.lcmp, 1) := by decide +kernel
theorem d_X_isWithin_3 : decode b_X_isWithin 3 = .ok (.ifCond .lt 14, 3) := by decide +kernel
theorem d_X_isWithin_6 : decode b_X_isWithin 6 = .ok (.lload_n 0, 1) := by decide +kernel
theorem d_X_isWithin_7 : decode b_X_isWithin 7 = .ok (.lload 4, 2) := by decide +kernel
theorem d_X_isWithin_9 : decode b_X_isWithin 9 = .ok (.lcmp, 1) := by decide +kernel
theorem d_X_isWithin_10 : decode b_X_isWithin 10 = .ok (.ifCond .gt 7, 3) := by decide +kernel
theorem d_X_isWithin_13 : decode b_X_isWithin 13 = .ok (.iconst 1, 1) := by decide +kernel
theorem d_X_isWithin_14 : decode b_X_isWithin 14 = .ok (.goto 4, 3) := by decide +kernel
theorem d_X_isWithin_17 : decode b_X_isWithin 17 = .ok (.iconst 0, 1) := by decide +kernel
theorem d_X_isWithin_18 : decode b_X_isWithin 18 = .ok (.ireturn, 1) := by decide +kernel
theorem d_Ck_init_0 : decode b_Ck_init 0 = .ok (.aload_n 0, 1) := by decide +kernel
theorem d_Ck_init_1 : decode b_Ck_init 1 = .ok (.invokespecial 1, 3) := by decide +kernel
theorem d_Ck_init_4 : decode b_Ck_init 4 = .ok (.aload_n 0, 1) := by decide +kernel
theorem d_Ck_init_5 : decode b_Ck_init 5 = .ok (.ldc2_w 9, 3) := by decide +kernel
theorem d_Ck_init_8 : decode b_Ck_init 8 = .ok (.putfield 11, 3) := by decide +kernel
theorem d_Ck_init_11 : decode b_Ck_init 11 = .ok (.return_, 1) := by decide +kernel
theorem d_Ck_canTell_0 : decode b_Ck_canTell 0 = .ok (.lload_n 1, 1) := by decide +kernel
theorem d_Ck_canTell_1 : decode b_Ck_canTell 1 = .ok (.aload_n 0, 1) := by decide +kernel
theorem d_Ck_canTell_2 : decode b_Ck_canTell 2 = .ok (.getfield 11, 3) := by decide +kernel
theorem d_Ck_canTell_5 : decode b_Ck_canTell 5 = .ok (.ldc2_w 17, 3) := by decide +kernel
theorem d_Ck_canTell_8 : decode b_Ck_canTell 8 = .ok (.invokestatic 19, 3) := by decide +kernel
theorem d_Ck_canTell_11 : decode b_Ck_canTell 11 = .ok (.ireturn, 1) := by decide +kernel
theorem d_Ck_tell_0 : decode b_Ck_tell 0 = .ok (.aload_n 0, 1) := by decide +kernel
theorem d_Ck_tell_1 : decode b_Ck_tell 1 = .ok (.lload_n 1, 1) := by decide +kernel
theorem d_Ck_tell_2 : decode b_Ck_tell 2 = .ok (.putfield 11, 3) := by decide +kernel
theorem d_Ck_tell_5 : decode b_Ck_tell 5 = .ok (.return_, 1) := by decide +kernel
theorem d_Pi_init_0 : decode b_Pi_init 0 = .ok (.aload_n 0, 1) := by decide +kernel
theorem d_Pi_init_1 : decode b_Pi_init 1 = .ok (.invokespecial 1, 3) := by decide +kernel
theorem d_Pi_init_4 : decode b_Pi_init 4 = .ok (.aload_n 0, 1) := by decide +kernel
theorem d_Pi_init_5 : decode b_Pi_init 5 = .ok (.iconst 0, 1) := by decide +kernel
theorem d_Pi_init_6 : decode b_Pi_init 6 = .ok (.putfield 7, 3) := by decide +kernel
theorem d_Pi_init_9 : decode b_Pi_init 9 = .ok (.aload_n 0, 1) := by decide +kernel
theorem d_Pi_init_10 : decode b_Pi_init 10 = .ok (.lconst 0, 1) := by decide +kernel
theorem d_Pi_init_11 : decode b_Pi_init 11 = .ok (.putfield 13, 3) := by decide +kernel
theorem d_Pi_init_14 : decode b_Pi_init 14 = .ok (.return_, 1) := by decide +kernel
theorem d_Pi_levelOf_0 : decode b_Pi_levelOf 0 = .ok (.lload_n 0, 1) := by decide +kernel
theorem d_Pi_levelOf_1 : decode b_Pi_levelOf 1 = .ok (.ldc2_w 41, 3) := by decide +kernel
theorem d_Pi_levelOf_4 : decode b_Pi_levelOf 4 = .ok (.lcmp, 1) := by decide +kernel
theorem d_Pi_levelOf_5 : decode b_Pi_levelOf 5 = .ok (.ifCond .ne 5, 3) := by decide +kernel
theorem d_Pi_levelOf_8 : decode b_Pi_levelOf 8 = .ok (.iconst 0, 1) := by decide +kernel
theorem d_Pi_levelOf_9 : decode b_Pi_levelOf 9 = .ok (.ireturn, 1) := by decide +kernel
theorem d_Pi_levelOf_10 : decode b_Pi_levelOf 10 = .ok (.lload_n 0, 1) := by decide +kernel
theorem d_Pi_levelOf_11 : decode b_Pi_levelOf 11 = .ok (.ldc2_w 43, 3) := by decide +kernel
theorem d_Pi_levelOf_14 : decode b_Pi_levelOf 14 = .ok (.lcmp, 1) := by decide +kernel
theorem d_Pi_levelOf_15 : decode b_Pi_levelOf 15 = .ok (.ifCond .ne 5, 3) := by decide +kernel
theorem d_Pi_levelOf_18 : decode b_Pi_levelOf 18 = .ok (.iconst 1, 1) := by decide +kernel
theorem d_Pi_levelOf_19 : decode b_Pi_levelOf 19 = .ok (.ireturn, 1) := by decide +kernel
theorem d_Pi_levelOf_20 : decode b_Pi_levelOf 20 = .ok (.lload_n 0, 1) := by decide +kernel
theorem d_Pi_levelOf_21 : decode b_Pi_levelOf 21 = .ok (.ldc2_w 45, 3) := by decide +kernel
theorem d_Pi_levelOf_24 : decode b_Pi_levelOf 24 = .ok (.lcmp, 1) := by decide +kernel
theorem d_Pi_levelOf_25 : decode b_Pi_levelOf 25 = .ok (.ifCond .ne 5, 3) := by decide +kernel
theorem d_Pi_levelOf_28 : decode b_Pi_levelOf 28 = .ok (.iconst 2, 1) := by decide +kernel
theorem d_Pi_levelOf_29 : decode b_Pi_levelOf 29 = .ok (.ireturn, 1) := by decide +kernel
theorem d_Pi_levelOf_30 : decode b_Pi_levelOf 30 = .ok (.lload_n 0, 1) := by decide +kernel
theorem d_Pi_levelOf_31 : decode b_Pi_levelOf 31 = .ok (.ldc2_w 47, 3) := by decide +kernel
theorem d_Pi_levelOf_34 : decode b_Pi_levelOf 34 = .ok (.lcmp, 1) := by decide +kernel
theorem d_Pi_levelOf_35 : decode b_Pi_levelOf 35 = .ok (.ifCond .ne 5, 3) := by decide +kernel
theorem d_Pi_levelOf_38 : decode b_Pi_levelOf 38 = .ok (.iconst 3, 1) := by decide +kernel
theorem d_Pi_levelOf_39 : decode b_Pi_levelOf 39 = .ok (.ireturn, 1) := by decide +kernel
theorem d_Pi_levelOf_40 : decode b_Pi_levelOf 40 = .ok (.lload_n 0, 1) := by decide +kernel
theorem d_Pi_levelOf_41 : decode b_Pi_levelOf 41 = .ok (.lconst 0, 1) := by decide +kernel
theorem d_Pi_levelOf_42 : decode b_Pi_levelOf 42 = .ok (.lcmp, 1) := by decide +kernel
theorem d_Pi_levelOf_43 : decode b_Pi_levelOf 43 = .ok (.ifCond .ne 5, 3) := by decide +kernel
theorem d_Pi_levelOf_46 : decode b_Pi_levelOf 46 = .ok (.iconst 4, 1) := by decide +kernel
theorem d_Pi_levelOf_47 : decode b_Pi_levelOf 47 = .ok (.ireturn, 1) := by decide +kernel
theorem d_Pi_levelOf_48 : decode b_Pi_levelOf 48 = .ok (.lload_n 0, 1) := by decide +kernel
theorem d_Pi_levelOf_49 : decode b_Pi_levelOf 49 = .ok (.ldc2_w 49, 3) := by decide +kernel
theorem d_Pi_levelOf_52 : decode b_Pi_levelOf 52 = .ok (.lcmp, 1) := by decide +kernel
theorem d_Pi_levelOf_53 : decode b_Pi_levelOf 53 = .ok (.ifCond .ne 7, 3) := by decide +kernel
theorem d_Pi_levelOf_56 : decode b_Pi_levelOf 56 = .ok (.iconst 5, 1) := by decide +kernel
theorem d_Pi_levelOf_57 : decode b_Pi_levelOf 57 = .ok (.goto 5, 3) := by decide +kernel
theorem d_Pi_levelOf_60 : decode b_Pi_levelOf 60 = .ok (.bipush 6, 2) := by decide +kernel
theorem d_Pi_levelOf_62 : decode b_Pi_levelOf 62 = .ok (.ireturn, 1) := by decide +kernel
theorem d_Pi_tenthsFor_0 : decode b_Pi_tenthsFor 0 = .ok (.iload_n 0, 1) := by decide +kernel
theorem d_Pi_tenthsFor_1 : decode b_Pi_tenthsFor 1 = .ok (.bipush 80, 2) := by decide +kernel
theorem d_Pi_tenthsFor_3 : decode b_Pi_tenthsFor 3 = .ok (.if_icmp .lt 10, 3) := by decide +kernel
theorem d_Pi_tenthsFor_6 : decode b_Pi_tenthsFor 6 = .ok (.iload_n 0, 1) := by decide +kernel
theorem d_Pi_tenthsFor_7 : decode b_Pi_tenthsFor 7 = .ok (.sipush 970, 3) := by decide +kernel
theorem d_Pi_tenthsFor_10 : decode b_Pi_tenthsFor 10 = .ok (.if_icmp .le 5, 3) := by decide +kernel
theorem d_Pi_tenthsFor_13 : decode b_Pi_tenthsFor 13 = .ok (.iconst 0, 1) := by decide +kernel
theorem d_Pi_tenthsFor_14 : decode b_Pi_tenthsFor 14 = .ok (.ireturn, 1) := by decide +kernel
theorem d_Pi_tenthsFor_15 : decode b_Pi_tenthsFor 15 = .ok (.iload_n 0, 1) := by decide +kernel
theorem d_Pi_tenthsFor_16 : decode b_Pi_tenthsFor 16 = .ok (.bipush 100, 2) := by decide +kernel
theorem d_Pi_tenthsFor_18 : decode b_Pi_tenthsFor 18 = .ok (.if_icmp .ge 6, 3) := by decide +kernel
theorem d_Pi_tenthsFor_21 : decode b_Pi_tenthsFor 21 = .ok (.bipush 60, 2) := by decide +kernel
theorem d_Pi_tenthsFor_23 : decode b_Pi_tenthsFor 23 = .ok (.ireturn, 1) := by decide +kernel
theorem d_Pi_tenthsFor_24 : decode b_Pi_tenthsFor 24 = .ok (.iload_n 0, 1) := by decide +kernel
theorem d_Pi_tenthsFor_25 : decode b_Pi_tenthsFor 25 = .ok (.sipush 850, 3) := by decide +kernel
theorem d_Pi_tenthsFor_28 : decode b_Pi_tenthsFor 28 = .ok (.if_icmp .gt 11, 3) := by decide +kernel
theorem d_Pi_tenthsFor_31 : decode b_Pi_tenthsFor 31 = .ok (.bipush 6, 2) := by decide +kernel
theorem d_Pi_tenthsFor_33 : decode b_Pi_tenthsFor 33 = .ok (.iload_n 0, 1) := by decide +kernel
theorem d_Pi_tenthsFor_34 : decode b_Pi_tenthsFor 34 = .ok (.imul, 1) := by decide +kernel
theorem d_Pi_tenthsFor_35 : decode b_Pi_tenthsFor 35 = .ok (.bipush 10, 2) := by decide +kernel
theorem d_Pi_tenthsFor_37 : decode b_Pi_tenthsFor 37 = .ok (.idiv, 1) := by decide +kernel
theorem d_Pi_tenthsFor_38 : decode b_Pi_tenthsFor 38 = .ok (.ireturn, 1) := by decide +kernel
theorem d_Pi_tenthsFor_39 : decode b_Pi_tenthsFor 39 = .ok (.iload_n 0, 1) := by decide +kernel
theorem d_Pi_tenthsFor_40 : decode b_Pi_tenthsFor 40 = .ok (.sipush 960, 3) := by decide +kernel
theorem d_Pi_tenthsFor_43 : decode b_Pi_tenthsFor 43 = .ok (.if_icmp .gt 17, 3) := by decide +kernel
theorem d_Pi_tenthsFor_46 : decode b_Pi_tenthsFor 46 = .ok (.bipush 25, 2) := by decide +kernel
theorem d_Pi_tenthsFor_48 : decode b_Pi_tenthsFor 48 = .ok (.iload_n 0, 1) := by decide +kernel
theorem d_Pi_tenthsFor_49 : decode b_Pi_tenthsFor 49 = .ok (.sipush 640, 3) := by decide +kernel
theorem d_Pi_tenthsFor_52 : decode b_Pi_tenthsFor 52 = .ok (.isub, 1) := by decide +kernel
theorem d_Pi_tenthsFor_53 : decode b_Pi_tenthsFor 53 = .ok (.imul, 1) := by decide +kernel
theorem d_Pi_tenthsFor_54 : decode b_Pi_tenthsFor 54 = .ok (.bipush 10, 2) := by decide +kernel
theorem d_Pi_tenthsFor_56 : decode b_Pi_tenthsFor 56 = .ok (.idiv, 1) := by decide +kernel
theorem d_Pi_tenthsFor_57 : decode b_Pi_tenthsFor 57 = .ok (.goto 6, 3) := by decide +kernel
theorem d_Pi_tenthsFor_60 : decode b_Pi_tenthsFor 60 = .ok (.sipush 800, 3) := by decide +kernel
theorem d_Pi_tenthsFor_63 : decode b_Pi_tenthsFor 63 = .ok (.ireturn, 1) := by decide +kernel
theorem d_Pi_set_0 : decode b_Pi_set 0 = .ok (.aload_n 0, 1) := by decide +kernel
theorem d_Pi_set_1 : decode b_Pi_set 1 = .ok (.lload_n 1, 1) := by decide +kernel
theorem d_Pi_set_2 : decode b_Pi_set 2 = .ok (.putfield 13, 3) := by decide +kernel
theorem d_Pi_set_5 : decode b_Pi_set 5 = .ok (.aload_n 0, 1) := by decide +kernel
theorem d_Pi_set_6 : decode b_Pi_set 6 = .ok (.lload_n 1, 1) := by decide +kernel
theorem d_Pi_set_7 : decode b_Pi_set 7 = .ok (.lconst 0, 1) := by decide +kernel
theorem d_Pi_set_8 : decode b_Pi_set 8 = .ok (.ldc2_w 17, 3) := by decide +kernel
theorem d_Pi_set_11 : decode b_Pi_set 11 = .ok (.invokestatic 19, 3) := by decide +kernel
theorem d_Pi_set_14 : decode b_Pi_set 14 = .ok (.ifCond .eq 10, 3) := by decide +kernel
theorem d_Pi_set_17 : decode b_Pi_set 17 = .ok (.lload_n 3, 1) := by decide +kernel
theorem d_Pi_set_18 : decode b_Pi_set 18 = .ok (.invokestatic 25, 3) := by decide +kernel
theorem d_Pi_set_21 : decode b_Pi_set 21 = .ok (.goto 5, 3) := by decide +kernel
theorem d_Pi_set_24 : decode b_Pi_set 24 = .ok (.bipush 6, 2) := by decide +kernel
theorem d_Pi_set_26 : decode b_Pi_set 26 = .ok (.putfield 7, 3) := by decide +kernel
theorem d_Pi_set_29 : decode b_Pi_set 29 = .ok (.return_, 1) := by decide +kernel
theorem d_Pi_isConnected_0 : decode b_Pi_isConnected 0 = .ok (.aload_n 0, 1) := by decide +kernel
theorem d_Pi_isConnected_1 : decode b_Pi_isConnected 1 = .ok (.getfield 7, 3) := by decide +kernel
theorem d_Pi_isConnected_4 : decode b_Pi_isConnected 4 = .ok (.iconst 1, 1) := by decide +kernel
theorem d_Pi_isConnected_5 : decode b_Pi_isConnected 5 = .ok (.if_icmp .lt 15, 3) := by decide +kernel
theorem d_Pi_isConnected_8 : decode b_Pi_isConnected 8 = .ok (.aload_n 0, 1) := by decide +kernel
theorem d_Pi_isConnected_9 : decode b_Pi_isConnected 9 = .ok (.getfield 7, 3) := by decide +kernel
theorem d_Pi_isConnected_12 : decode b_Pi_isConnected 12 = .ok (.iconst 3, 1) := by decide +kernel
theorem d_Pi_isConnected_13 : decode b_Pi_isConnected 13 = .ok (.if_icmp .gt 7, 3) := by decide +kernel
theorem d_Pi_isConnected_16 : decode b_Pi_isConnected 16 = .ok (.iconst 1, 1) := by decide +kernel
theorem d_Pi_isConnected_17 : decode b_Pi_isConnected 17 = .ok (.goto 4, 3) := by decide +kernel
theorem d_Pi_isConnected_20 : decode b_Pi_isConnected 20 = .ok (.iconst 0, 1) := by decide +kernel
theorem d_Pi_isConnected_21 : decode b_Pi_isConnected 21 = .ok (.ireturn, 1) := by decide +kernel
theorem d_Pi_isDigital_0 : decode b_Pi_isDigital 0 = .ok (.aload_n 0, 1) := by decide +kernel
theorem d_Pi_isDigital_1 : decode b_Pi_isDigital 1 = .ok (.invokevirtual 29, 3) := by decide +kernel
theorem d_Pi_isDigital_4 : decode b_Pi_isDigital 4 = .ok (.ifCond .eq 23, 3) := by decide +kernel
theorem d_Pi_isDigital_7 : decode b_Pi_isDigital 7 = .ok (.aload_n 0, 1) := by decide +kernel
theorem d_Pi_isDigital_8 : decode b_Pi_isDigital 8 = .ok (.getfield 13, 3) := by decide +kernel
theorem d_Pi_isDigital_11 : decode b_Pi_isDigital 11 = .ok (.ldc2_w 33, 3) := by decide +kernel
theorem d_Pi_isDigital_14 : decode b_Pi_isDigital 14 = .ok (.ldc2_w 35, 3) := by decide +kernel
theorem d_Pi_isDigital_17 : decode b_Pi_isDigital 17 = .ok (.invokestatic 19, 3) := by decide +kernel
theorem d_Pi_isDigital_20 : decode b_Pi_isDigital 20 = .ok (.ifCond .eq 7, 3) := by decide +kernel
theorem d_Pi_isDigital_23 : decode b_Pi_isDigital 23 = .ok (.iconst 1, 1) := by decide +kernel
theorem d_Pi_isDigital_24 : decode b_Pi_isDigital 24 = .ok (.goto 4, 3) := by decide +kernel
theorem d_Pi_isDigital_27 : decode b_Pi_isDigital 27 = .ok (.iconst 0, 1) := by decide +kernel
theorem d_Pi_isDigital_28 : decode b_Pi_isDigital 28 = .ok (.ireturn, 1) := by decide +kernel
theorem d_Pi_tenthsOfAmpere_0 : decode b_Pi_tenthsOfAmpere 0 = .ok (.aload_n 0, 1) := by decide +kernel
theorem d_Pi_tenthsOfAmpere_1 : decode b_Pi_tenthsOfAmpere 1 = .ok (.invokevirtual 29, 3) := by decide +kernel
theorem d_Pi_tenthsOfAmpere_4 : decode b_Pi_tenthsOfAmpere 4 = .ok (.ifCond .eq 14, 3) := by decide +kernel
theorem d_Pi_tenthsOfAmpere_7 : decode b_Pi_tenthsOfAmpere 7 = .ok (.aload_n 0, 1) := by decide +kernel
theorem d_Pi_tenthsOfAmpere_8 : decode b_Pi_tenthsOfAmpere 8 = .ok (.getfield 13, 3) := by decide +kernel
theorem d_Pi_tenthsOfAmpere_11 : decode b_Pi_tenthsOfAmpere 11 = .ok (.l2i, 1) := by decide +kernel
theorem d_Pi_tenthsOfAmpere_12 : decode b_Pi_tenthsOfAmpere 12 = .ok (.invokestatic 37, 3) := by decide +kernel
theorem d_Pi_tenthsOfAmpere_15 : decode b_Pi_tenthsOfAmpere 15 = .ok (.goto 4, 3) := by decide +kernel
theorem d_Pi_tenthsOfAmpere_18 : decode b_Pi_tenthsOfAmpere 18 = .ok (.iconst 0, 1) := by decide +kernel
theorem d_Pi_tenthsOfAmpere_19 : decode b_Pi_tenthsOfAmpere 19 = .ok (.ireturn, 1) := by decide +kernel
