theorem d_Tf_addSpan_5 : decode b_Tf_addSpan 5 = .ok (.istore 4, 2) := by decide +kernel
theorem d_Tf_addSpan_7 : decode b_Tf_addSpan 7 = .ok (.iload 4, 2) := by decide +kernel
theorem d_Tf_addSpan_9 : decode b_Tf_addSpan 9 = .ok (.iload_n 2, 1) := by decide +kernel
theorem d_Tf_addSpan_10 : decode b_Tf_addSpan 10 = .ok (.if_icmp .ge 25, 3) := by decide +kernel
theorem d_Tf_addSpan_13 : decode b_Tf_addSpan 13 = .ok (.iload 4, 2) := by decide +kernel
theorem d_Tf_addSpan_15 : decode b_Tf_addSpan 15 = .ok (.sipush 1440, 3) := by decide +kernel
theorem d_Tf_addSpan_18 : decode b_Tf_addSpan 18 = .ok (.if_icmp .ge 17, 3) := by decide +kernel
theorem d_Tf_addSpan_21 : decode b_Tf_addSpan 21 = .ok (.aload_n 0, 1) := by decide +kernel
theorem d_Tf_addSpan_22 : decode b_Tf_addSpan 22 = .ok (.getfield 9, 3) := by decide +kernel
theorem d_Tf_addSpan_25 : decode b_Tf_addSpan 25 = .ok (.iload 4, 2) := by decide +kernel
theorem d_Tf_addSpan_27 : decode b_Tf_addSpan 27 = .ok (.iload_n 3, 1) := by decide +kernel
theorem d_Tf_addSpan_28 : decode b_Tf_addSpan 28 = .ok (.iastore, 1) := by decide +kernel
theorem d_Tf_addSpan_29 : decode b_Tf_addSpan 29 = .ok (.iinc 4 1, 3) := by decide +kernel
theorem d_Tf_addSpan_32 : decode b_Tf_addSpan 32 = .ok (.goto (-25), 3) := by decide +kernel
theorem d_Tf_addSpan_35 : decode b_Tf_addSpan 35 = .ok (.aload_n 0, 1) := by decide +kernel
theorem d_Tf_addSpan_36 : decode b_Tf_addSpan 36 = .ok (.dup, 1) := by decide +kernel
theorem d_Tf_addSpan_37 : decode b_Tf_addSpan 37 = .ok (.getfield 20, 3) := by decide +kernel
theorem d_Tf_addSpan_40 : decode b_Tf_addSpan 40 = .ok (.iconst 1, 1) := by decide +kernel
theorem d_Tf_addSpan_41 : decode b_Tf_addSpan 41 = .ok (.iadd, 1) := by decide +kernel
theorem d_Tf_addSpan_42 : decode b_Tf_addSpan 42 = .ok (.putfield 20, 3) := by decide +kernel
theorem d_Tf_addSpan_45 : decode b_Tf_addSpan 45 = .ok (.aload_n 0, 1) := by decide +kernel
theorem d_Tf_addSpan_46 : decode b_Tf_addSpan 46 = .ok (.getfield 20, 3) := by decide +kernel
theorem d_Tf_addSpan_49 : decode b_Tf_addSpan 49 = .ok (.ireturn, 1) := by decide +kernel
theorem d_Tf_unitsIn_0 : decode b_Tf_unitsIn 0 = .ok (.lload_n 1, 1) := by decide +kernel
theorem d_Tf_unitsIn_1 : decode b_Tf_unitsIn 1 = .ok (.lconst 0, 1) := by decide +kernel
theorem d_Tf_unitsIn_2 : decode b_Tf_unitsIn 2 = .ok (.lcmp, 1) := by decide +kernel
theorem d_Tf_unitsIn_3 : decode b_Tf_unitsIn 3 = .ok (.ifCond .lt 21, 3) := by decide +kernel
theorem d_Tf_unitsIn_6 : decode b_Tf_unitsIn 6 = .ok (.lload_n 1, 1) := by decide +kernel
theorem d_Tf_unitsIn_7 : decode b_Tf_unitsIn 7 = .ok (.ldc2_w 34, 3) := by decide +kernel
theorem d_Tf_unitsIn_10 : decode b_Tf_unitsIn 10 = .ok (.lcmp, 1) := by decide +kernel
theorem d_Tf_unitsIn_11 : decode b_Tf_unitsIn 11 = .ok (.ifCond .ge 13, 3) := by decide +kernel
theorem d_Tf_unitsIn_14 : decode b_Tf_unitsIn 14 = .ok (.aload_n 0, 1) := by decide +kernel
theorem d_Tf_unitsIn_15 : decode b_Tf_unitsIn 15 = .ok (.getfield 13, 3) := by decide +kernel
theorem d_Tf_unitsIn_18 : decode b_Tf_unitsIn 18 = .ok (.lload_n 1, 1) := by decide +kernel
theorem d_Tf_unitsIn_19 : decode b_Tf_unitsIn 19 = .ok (.l2i, 1) := by decide +kernel
theorem d_Tf_unitsIn_20 : decode b_Tf_unitsIn 20 = .ok (.iaload, 1) := by decide +kernel
theorem d_Tf_unitsIn_21 : decode b_Tf_unitsIn 21 = .ok (.goto 4, 3) := by decide +kernel
theorem d_Tf_unitsIn_24 : decode b_Tf_unitsIn 24 = .ok (.iconst 0, 1) := by decide +kernel
theorem d_Tf_unitsIn_25 : decode b_Tf_unitsIn 25 = .ok (.ireturn, 1) := by decide +kernel
theorem d_Tf_measureRoom_0 : decode b_Tf_measureRoom 0 = .ok (.iconst 0, 1) := by decide +kernel
theorem d_Tf_measureRoom_1 : decode b_Tf_measureRoom 1 = .ok (.istore_n 3, 1) := by decide +kernel
theorem d_Tf_measureRoom_2 : decode b_Tf_measureRoom 2 = .ok (.iload_n 3, 1) := by decide +kernel
theorem d_Tf_measureRoom_3 : decode b_Tf_measureRoom 3 = .ok (.sipush 1000, 3) := by decide +kernel
theorem d_Tf_measureRoom_6 : decode b_Tf_measureRoom 6 = .ok (.if_icmp .gt 16, 3) := by decide +kernel
theorem d_Tf_measureRoom_9 : decode b_Tf_measureRoom 9 = .ok (.aload_n 0, 1) := by decide +kernel
theorem d_Tf_measureRoom_10 : decode b_Tf_measureRoom 10 = .ok (.getfield 16, 3) := by decide +kernel
theorem d_Tf_measureRoom_13 : decode b_Tf_measureRoom 13 = .ok (.iload_n 3, 1) := by decide +kernel
theorem d_Tf_measureRoom_14 : decode b_Tf_measureRoom 14 = .ok (.lconst 0, 1) := by decide +kernel
theorem d_Tf_measureRoom_15 : decode b_Tf_measureRoom 15 = .ok (.lastore, 1) := by decide +kernel
theorem d_Tf_measureRoom_16 : decode b_Tf_measureRoom 16 = .ok (.iinc 3 1, 3) := by decide +kernel
theorem d_Tf_measureRoom_19 : decode b_Tf_measureRoom 19 = .ok (.goto (-17), 3) := by decide +kernel
theorem d_Tf_measureRoom_22 : decode b_Tf_measureRoom 22 = .ok (.iconst 0, 1) := by decide +kernel
theorem d_Tf_measureRoom_23 : decode b_Tf_measureRoom 23 = .ok (.istore_n 3, 1) := by decide +kernel
theorem d_Tf_measureRoom_24 : decode b_Tf_measureRoom 24 = .ok (.iload_n 3, 1) := by decide +kernel
theorem d_Tf_measureRoom_25 : decode b_Tf_measureRoom 25 = .ok (.iload_n 1, 1) := by decide +kernel
theorem d_Tf_measureRoom_26 : decode b_Tf_measureRoom 26 = .ok (.if_icmp .ge 44, 3) := by decide +kernel
theorem d_Tf_measureRoom_29 : decode b_Tf_measureRoom 29 = .ok (.iload_n 3, 1) := by decide +kernel
theorem d_Tf_measureRoom_30 : decode b_Tf_measureRoom 30 = .ok (.sipush 1440, 3) := by decide +kernel
theorem d_Tf_measureRoom_33 : decode b_Tf_measureRoom 33 = .ok (.if_icmp .ge 37, 3) := by decide +kernel
theorem d_Tf_measureRoom_36 : decode b_Tf_measureRoom 36 = .ok (.aload_n 0, 1) := by decide +kernel
theorem d_Tf_measureRoom_37 : decode b_Tf_measureRoom 37 = .ok (.getfield 9, 3) := by decide +kernel
theorem d_Tf_measureRoom_40 : decode b_Tf_measureRoom 40 = .ok (.iload_n 3, 1) := by decide +kernel
theorem d_Tf_measureRoom_41 : decode b_Tf_measureRoom 41 = .ok (.iaload, 1) := by decide +kernel
theorem d_Tf_measureRoom_42 : decode b_Tf_measureRoom 42 = .ok (.istore 4, 2) := by decide +kernel
theorem d_Tf_measureRoom_44 : decode b_Tf_measureRoom 44 = .ok (.iload 4, 2) := by decide +kernel
theorem d_Tf_measureRoom_46 : decode b_Tf_measureRoom 46 = .ok (.invokestatic 47, 3) := by decide +kernel
theorem d_Tf_measureRoom_49 : decode b_Tf_measureRoom 49 = .ok (.ifCond .eq 15, 3) := by decide +kernel
theorem d_Tf_measureRoom_52 : decode b_Tf_measureRoom 52 = .ok (.aload_n 0, 1) := by decide +kernel
theorem d_Tf_measureRoom_53 : decode b_Tf_measureRoom 53 = .ok (.getfield 16, 3) := by decide +kernel
theorem d_Tf_measureRoom_56 : decode b_Tf_measureRoom 56 = .ok (.iload 4, 2) := by decide +kernel
theorem d_Tf_measureRoom_58 : decode b_Tf_measureRoom 58 = .ok (.dup2, 1) := by decide +kernel
theorem d_Tf_measureRoom_59 : decode b_Tf_measureRoom 59 = .ok (.laload, 1) := by decide +kernel
theorem d_Tf_measureRoom_60 : decode b_Tf_measureRoom 60 = .ok (.iload_n 2, 1) := by decide +kernel
theorem d_Tf_measureRoom_61 : decode b_Tf_measureRoom 61 = .ok (.i2l, 1) := by decide +kernel
theorem d_Tf_measureRoom_62 : decode b_Tf_measureRoom 62 = .ok (.ladd, 1) := by decide +kernel
theorem d_Tf_measureRoom_63 : decode b_Tf_measureRoom 63 = .ok (.lastore, 1) := by decide +kernel
theorem d_Tf_measureRoom_64 : decode b_Tf_measureRoom 64 = .ok (.iinc 3 1, 3) := by decide +kernel
theorem d_Tf_measureRoom_67 : decode b_Tf_measureRoom 67 = .ok (.goto (-43), 3) := by decide +kernel
theorem d_Tf_measureRoom_70 : decode b_Tf_measureRoom 70 = .ok (.return_, 1) := by decide +kernel
theorem d_Tf_buyCheapest_0 : decode b_Tf_buyCheapest 0 = .ok (.lload_n 1, 1) := by decide +kernel
theorem d_Tf_buyCheapest_1 : decode b_Tf_buyCheapest 1 = .ok (.lstore_n 3, 1) := by decide +kernel
theorem d_Tf_buyCheapest_2 : decode b_Tf_buyCheapest 2 = .ok (.lconst 0, 1) := by decide +kernel
theorem d_Tf_buyCheapest_3 : decode b_Tf_buyCheapest 3 = .ok (.lstore 5, 2) := by decide +kernel
theorem d_Tf_buyCheapest_5 : decode b_Tf_buyCheapest 5 = .ok (.iconst 0, 1) := by decide +kernel
theorem d_Tf_buyCheapest_6 : decode b_Tf_buyCheapest 6 = .ok (.istore 7, 2) := by decide +kernel
theorem d_Tf_buyCheapest_8 : decode b_Tf_buyCheapest 8 = .ok (.iload 7, 2) := by decide +kernel
theorem d_Tf_buyCheapest_10 : decode b_Tf_buyCheapest 10 = .ok (.sipush 1000, 3) := by decide +kernel
theorem d_Tf_buyCheapest_13 : decode b_Tf_buyCheapest 13 = .ok (.if_icmp .gt 47, 3) := by decide +kernel
theorem d_Tf_buyCheapest_16 : decode b_Tf_buyCheapest 16 = .ok (.lload_n 3, 1) := by decide +kernel
theorem d_Tf_buyCheapest_17 : decode b_Tf_buyCheapest 17 = .ok (.aload_n 0, 1) := by decide +kernel
theorem d_Tf_buyCheapest_18 : decode b_Tf_buyCheapest 18 = .ok (.getfield 16, 3) := by decide +kernel
theorem d_Tf_buyCheapest_21 : decode b_Tf_buyCheapest 21 = .ok (.iload 7, 2) := by decide +kernel
theorem d_Tf_buyCheapest_23 : decode b_Tf_buyCheapest 23 = .ok (.laload, 1) := by decide +kernel
theorem d_Tf_buyCheapest_24 : decode b_Tf_buyCheapest 24 = .ok (.invokestatic 51, 3) := by decide +kernel
theorem d_Tf_buyCheapest_27 : decode b_Tf_buyCheapest 27 = .ok (.lstore 8, 2) := by decide +kernel
theorem d_Tf_buyCheapest_29 : decode b_Tf_buyCheapest 29 = .ok (.aload_n 0, 1) := by decide +kernel
theorem d_Tf_buyCheapest_30 : decode b_Tf_buyCheapest 30 = .ok (.getfield 16, 3) := by decide +kernel
theorem d_Tf_buyCheapest_33 : decode b_Tf_buyCheapest 33 = .ok (.iload 7, 2) := by decide +kernel
theorem d_Tf_buyCheapest_35 : decode b_Tf_buyCheapest 35 = .ok (.lload 8, 2) := by decide +kernel
theorem d_Tf_buyCheapest_37 : decode b_Tf_buyCheapest 37 = .ok (.lastore, 1) := by decide +kernel
theorem d_Tf_buyCheapest_38 : decode b_Tf_buyCheapest 38 = .ok (.lload_n 3, 1) := by decide +kernel
theorem d_Tf_buyCheapest_39 : decode b_Tf_buyCheapest 39 = .ok (.lload 8, 2) := by decide +kernel
theorem d_Tf_buyCheapest_41 : decode b_Tf_buyCheapest 41 = .ok (.lsub, 1) := by decide +kernel
theorem d_Tf_buyCheapest_42 : decode b_Tf_buyCheapest 42 = .ok (.lstore_n 3, 1) := by decide +kernel
theorem d_Tf_buyCheapest_43 : decode b_Tf_buyCheapest 43 = .ok (.lload 5, 2) := by decide +kernel
theorem d_Tf_buyCheapest_45 : decode b_Tf_buyCheapest 45 = .ok (.lload 8, 2) := by decide +kernel
theorem d_Tf_buyCheapest_47 : decode b_Tf_buyCheapest 47 = .ok (.iload 7, 2) := by decide +kernel
theorem d_Tf_buyCheapest_49 : decode b_Tf_buyCheapest 49 = .ok (.i2l, 1) := by decide +kernel
theorem d_Tf_buyCheapest_50 : decode b_Tf_buyCheapest 50 = .ok (.lmul, 1) := by decide +kernel
theorem d_Tf_buyCheapest_51 : decode b_Tf_buyCheapest 51 = .ok (.ladd, 1) := by decide +kernel
theorem d_Tf_buyCheapest_52 : decode b_Tf_buyCheapest 52 = .ok (.lstore 5, 2) := by decide +kernel
theorem d_Tf_buyCheapest_54 : decode b_Tf_buyCheapest 54 = .ok (.iinc 7 1, 3) := by decide +kernel
theorem d_Tf_buyCheapest_57 : decode b_Tf_buyCheapest 57 = .ok (.goto (-49), 3) := by decide +kernel
theorem d_Tf_buyCheapest_60 : decode b_Tf_buyCheapest 60 = .ok (.aload_n 0, 1) := by decide +kernel
theorem d_Tf_buyCheapest_61 : decode b_Tf_buyCheapest 61 = .ok (.lload_n 3, 1) := by decide +kernel
theorem d_Tf_buyCheapest_62 : decode b_Tf_buyCheapest 62 = .ok (.putfield 24, 3) := by decide +kernel
theorem d_Tf_buyCheapest_65 : decode b_Tf_buyCheapest 65 = .ok (.lload 5, 2) := by decide +kernel
theorem d_Tf_buyCheapest_67 : decode b_Tf_buyCheapest 67 = .ok (.lreturn, 1) := by decide +kernel
theorem d_Tf_spread_0 : decode b_Tf_spread 0 = .ok (.iconst 0, 1) := by decide +kernel
theorem d_Tf_spread_1 : decode b_Tf_spread 1 = .ok (.istore_n 3, 1) := by decide +kernel
theorem d_Tf_spread_2 : decode b_Tf_spread 2 = .ok (.iload_n 3, 1) := by decide +kernel
theorem d_Tf_spread_3 : decode b_Tf_spread 3 = .ok (.sipush 1440, 3) := by decide +kernel
theorem d_Tf_spread_6 : decode b_Tf_spread 6 = .ok (.if_icmp .ge 69, 3) := by decide +kernel
theorem d_Tf_spread_9 : decode b_Tf_spread 9 = .ok (.aload_n 0, 1) := by decide +kernel
theorem d_Tf_spread_10 : decode b_Tf_spread 10 = .ok (.getfield 9, 3) := by decide +kernel
theorem d_Tf_spread_13 : decode b_Tf_spread 13 = .ok (.iload_n 3, 1) := by decide +kernel
theorem d_Tf_spread_14 : decode b_Tf_spread 14 = .ok (.iaload, 1) := by decide +kernel
theorem d_Tf_spread_15 : decode b_Tf_spread 15 = .ok (.istore 4, 2) := by decide +kernel
theorem d_Tf_spread_17 : decode b_Tf_spread 17 = .ok (.iconst 0, 1) := by decide +kernel
theorem d_Tf_spread_18 : decode b_Tf_spread 18 = .ok (.istore 5, 2) := by decide +kernel
theorem d_Tf_spread_20 : decode b_Tf_spread 20 = .ok (.iload_n 3, 1) := by decide +kernel
theorem d_Tf_spread_21 : decode b_Tf_spread 21 = .ok (.iload_n 1, 1) := by decide +kernel
theorem d_Tf_spread_22 : decode b_Tf_spread 22 = .ok (.if_icmp .ge 39, 3) := by decide +kernel
theorem d_Tf_spread_25 : decode b_Tf_spread 25 = .ok (.iload 4, 2) := by decide +kernel
theorem d_Tf_spread_27 : decode b_Tf_spread 27 = .ok (.invokestatic 47, 3) := by decide +kernel
theorem d_Tf_spread_30 : decode b_Tf_spread 30 = .ok (.ifCond .eq 31, 3) := by decide +kernel
theorem d_Tf_spread_33 : decode b_Tf_spread 33 = .ok (.iload_n 2, 1) := by decide +kernel
theorem d_Tf_spread_34 : decode b_Tf_spread 34 = .ok (.i2l, 1) := by decide +kernel
theorem d_Tf_spread_35 : decode b_Tf_spread 35 = .ok (.aload_n 0, 1) := by decide +kernel
theorem d_Tf_spread_36 : decode b_Tf_spread 36 = .ok (.getfield 16, 3) := by decide +kernel
theorem d_Tf_spread_39 : decode b_Tf_spread 39 = .ok (.iload 4, 2) := by decide +kernel
theorem d_Tf_spread_41 : decode b_Tf_spread 41 = .ok (.laload, 1) := by decide +kernel
theorem d_Tf_spread_42 : decode b_Tf_spread 42 = .ok (.invokestatic 51, 3) := by decide +kernel
theorem d_Tf_spread_45 : decode b_Tf_spread 45 = .ok (.l2i, 1) := by decide +kernel
theorem d_Tf_spread_46 : decode b_Tf_spread 46 = .ok (.istore 5, 2) := by decide +kernel
theorem d_Tf_spread_48 : decode b_Tf_spread 48 = .ok (.aload_n 0, 1) := by decide +kernel
theorem d_Tf_spread_49 : decode b_Tf_spread 49 = .ok (.getfield 16, 3) := by decide +kernel
theorem d_Tf_spread_52 : decode b_Tf_spread 52 = .ok (.iload 4, 2) := by decide +kernel
theorem d_Tf_spread_54 : decode b_Tf_spread 54 = .ok (.dup2, 1) := by decide +kernel
theorem d_Tf_spread_55 : decode b_Tf_spread 55 = .ok (.laload, 1) := by decide +kernel
theorem d_Tf_spread_56 : decode b_Tf_spread 56 = .ok (.iload 5, 2) := by decide +kernel
theorem d_Tf_spread_58 : decode b_Tf_spread 58 = .ok (.i2l, 1) := by decide +kernel
theorem d_Tf_spread_59 : decode b_Tf_spread 59 = .ok (.lsub, 1) := by decide +kernel
theorem d_Tf_spread_60 : decode b_Tf_spread 60 = .ok (.lastore, 1) := by decide +kernel
theorem d_Tf_spread_61 : decode b_Tf_spread 61 = .ok (.aload_n 0, 1) := by decide +kernel
theorem d_Tf_spread_62 : decode b_Tf_spread 62 = .ok (.getfield 13, 3) := by decide +kernel
theorem d_Tf_spread_65 : decode b_Tf_spread 65 = .ok (.iload_n 3, 1) := by decide +kernel
theorem d_Tf_spread_66 : decode b_Tf_spread 66 = .ok (.iload 5, 2) := by decide +kernel
theorem d_Tf_spread_68 : decode b_Tf_spread 68 = .ok (.iastore, 1) := by decide +kernel
theorem d_Tf_spread_69 : decode b_Tf_spread 69 = .ok (.iinc 3 1, 3) := by decide +kernel
