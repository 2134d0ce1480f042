theorem d_Mo_message_23 : decode b_Mo_message 23 = .ok (.lload_n 2, 1) := by decide +kernel
theorem d_Mo_message_24 : decode b_Mo_message 24 = .ok (.ldc2_w 85, 3) := by decide +kernel
theorem d_Mo_message_27 : decode b_Mo_message 27 = .ok (.lcmp, 1) := by decide +kernel
theorem d_Mo_message_28 : decode b_Mo_message 28 = .ok (.ifCond .gt 12, 3) := by decide +kernel
theorem d_Mo_message_31 : decode b_Mo_message 31 = .ok (.aload_n 0, 1) := by decide +kernel
theorem d_Mo_message_32 : decode b_Mo_message 32 = .ok (.lload 4, 2) := by decide +kernel
theorem d_Mo_message_34 : decode b_Mo_message 34 = .ok (.invokevirtual 87, 3) := by decide +kernel
theorem d_Mo_message_37 : decode b_Mo_message 37 = .ok (.ifCond .ne 6, 3) := by decide +kernel
theorem d_Mo_message_40 : decode b_Mo_message 40 = .ok (.bipush (-2), 2) := by decide +kernel
theorem d_Mo_message_42 : decode b_Mo_message 42 = .ok (.ireturn, 1) := by decide +kernel
theorem d_Mo_message_43 : decode b_Mo_message 43 = .ok (.aload_n 0, 1) := by decide +kernel
theorem d_Mo_message_44 : decode b_Mo_message 44 = .ok (.lload 4, 2) := by decide +kernel
theorem d_Mo_message_46 : decode b_Mo_message 46 = .ok (.putfield 59, 3) := by decide +kernel
theorem d_Mo_message_49 : decode b_Mo_message 49 = .ok (.aload_n 0, 1) := by decide +kernel
theorem d_Mo_message_50 : decode b_Mo_message 50 = .ok (.getfield 52, 3) := by decide +kernel
theorem d_Mo_message_53 : decode b_Mo_message 53 = .ok (.ifCond .le 21, 3) := by decide +kernel
theorem d_Mo_message_56 : decode b_Mo_message 56 = .ok (.lload 4, 2) := by decide +kernel
theorem d_Mo_message_58 : decode b_Mo_message 58 = .ok (.aload_n 0, 1) := by decide +kernel
theorem d_Mo_message_59 : decode b_Mo_message 59 = .ok (.getfield 91, 3) := by decide +kernel
theorem d_Mo_message_62 : decode b_Mo_message 62 = .ok (.lsub, 1) := by decide +kernel
theorem d_Mo_message_63 : decode b_Mo_message 63 = .ok (.ldc2_w 69, 3) := by decide +kernel
theorem d_Mo_message_66 : decode b_Mo_message 66 = .ok (.lcmp, 1) := by decide +kernel
theorem d_Mo_message_67 : decode b_Mo_message 67 = .ok (.ifCond .le 7, 3) := by decide +kernel
theorem d_Mo_message_70 : decode b_Mo_message 70 = .ok (.iconst (-1), 1) := by decide +kernel
theorem d_Mo_message_71 : decode b_Mo_message 71 = .ok (.goto 11, 3) := by decide +kernel
theorem d_Mo_message_74 : decode b_Mo_message 74 = .ok (.aload_n 0, 1) := by decide +kernel
theorem d_Mo_message_75 : decode b_Mo_message 75 = .ok (.iload_n 1, 1) := by decide +kernel
theorem d_Mo_message_76 : decode b_Mo_message 76 = .ok (.lload_n 2, 1) := by decide +kernel
theorem d_Mo_message_77 : decode b_Mo_message 77 = .ok (.lload 4, 2) := by decide +kernel
theorem d_Mo_message_79 : decode b_Mo_message 79 = .ok (.invokevirtual 94, 3) := by decide +kernel
theorem d_Mo_message_82 : decode b_Mo_message 82 = .ok (.istore 6, 2) := by decide +kernel
theorem d_Mo_message_84 : decode b_Mo_message 84 = .ok (.iload 6, 2) := by decide +kernel
theorem d_Mo_message_86 : decode b_Mo_message 86 = .ok (.ifCond .ge 11, 3) := by decide +kernel
theorem d_Mo_message_89 : decode b_Mo_message 89 = .ok (.aload_n 0, 1) := by decide +kernel
theorem d_Mo_message_90 : decode b_Mo_message 90 = .ok (.iconst 0, 1) := by decide +kernel
theorem d_Mo_message_91 : decode b_Mo_message 91 = .ok (.putfield 52, 3) := by decide +kernel
theorem d_Mo_message_94 : decode b_Mo_message 94 = .ok (.bipush (-3), 2) := by decide +kernel
theorem d_Mo_message_96 : decode b_Mo_message 96 = .ok (.ireturn, 1) := by decide +kernel
theorem d_Mo_message_97 : decode b_Mo_message 97 = .ok (.iload_n 1, 1) := by decide +kernel
theorem d_Mo_message_98 : decode b_Mo_message 98 = .ok (.ifCond .ne 8, 3) := by decide +kernel
theorem d_Mo_message_101 : decode b_Mo_message 101 = .ok (.aload_n 0, 1) := by decide +kernel
theorem d_Mo_message_102 : decode b_Mo_message 102 = .ok (.lconst 0, 1) := by decide +kernel
theorem d_Mo_message_103 : decode b_Mo_message 103 = .ok (.putfield 98, 3) := by decide +kernel
theorem d_Mo_message_106 : decode b_Mo_message 106 = .ok (.iload_n 1, 1) := by decide +kernel
theorem d_Mo_message_107 : decode b_Mo_message 107 = .ok (.iconst 1, 1) := by decide +kernel
theorem d_Mo_message_108 : decode b_Mo_message 108 = .ok (.if_icmp .ne 18, 3) := by decide +kernel
theorem d_Mo_message_111 : decode b_Mo_message 111 = .ok (.aload_n 0, 1) := by decide +kernel
theorem d_Mo_message_112 : decode b_Mo_message 112 = .ok (.lload_n 2, 1) := by decide +kernel
theorem d_Mo_message_113 : decode b_Mo_message 113 = .ok (.lconst 1, 1) := by decide +kernel
theorem d_Mo_message_114 : decode b_Mo_message 114 = .ok (.lcmp, 1) := by decide +kernel
theorem d_Mo_message_115 : decode b_Mo_message 115 = .ok (.ifCond .ne 7, 3) := by decide +kernel
theorem d_Mo_message_118 : decode b_Mo_message 118 = .ok (.iconst 1, 1) := by decide +kernel
theorem d_Mo_message_119 : decode b_Mo_message 119 = .ok (.goto 4, 3) := by decide +kernel
theorem d_Mo_message_122 : decode b_Mo_message 122 = .ok (.iconst 0, 1) := by decide +kernel
theorem d_Mo_message_123 : decode b_Mo_message 123 = .ok (.putfield 71, 3) := by decide +kernel
theorem d_Mo_message_126 : decode b_Mo_message 126 = .ok (.iload_n 1, 1) := by decide +kernel
theorem d_Mo_message_127 : decode b_Mo_message 127 = .ok (.iconst 3, 1) := by decide +kernel
theorem d_Mo_message_128 : decode b_Mo_message 128 = .ok (.if_icmp .eq 9, 3) := by decide +kernel
theorem d_Mo_message_131 : decode b_Mo_message 131 = .ok (.iload_n 1, 1) := by decide +kernel
theorem d_Mo_message_132 : decode b_Mo_message 132 = .ok (.bipush 8, 2) := by decide +kernel
theorem d_Mo_message_134 : decode b_Mo_message 134 = .ok (.if_icmp .ne 8, 3) := by decide +kernel
theorem d_Mo_message_137 : decode b_Mo_message 137 = .ok (.aload_n 0, 1) := by decide +kernel
theorem d_Mo_message_138 : decode b_Mo_message 138 = .ok (.lload_n 2, 1) := by decide +kernel
theorem d_Mo_message_139 : decode b_Mo_message 139 = .ok (.putfield 80, 3) := by decide +kernel
theorem d_Mo_message_142 : decode b_Mo_message 142 = .ok (.iload_n 1, 1) := by decide +kernel
theorem d_Mo_message_143 : decode b_Mo_message 143 = .ok (.bipush 7, 2) := by decide +kernel
theorem d_Mo_message_145 : decode b_Mo_message 145 = .ok (.if_icmp .ne 26, 3) := by decide +kernel
theorem d_Mo_message_148 : decode b_Mo_message 148 = .ok (.aload_n 0, 1) := by decide +kernel
theorem d_Mo_message_149 : decode b_Mo_message 149 = .ok (.dup, 1) := by decide +kernel
theorem d_Mo_message_150 : decode b_Mo_message 150 = .ok (.getfield 101, 3) := by decide +kernel
theorem d_Mo_message_153 : decode b_Mo_message 153 = .ok (.lload_n 2, 1) := by decide +kernel
theorem d_Mo_message_154 : decode b_Mo_message 154 = .ok (.lload 4, 2) := by decide +kernel
theorem d_Mo_message_156 : decode b_Mo_message 156 = .ok (.aload_n 0, 1) := by decide +kernel
theorem d_Mo_message_157 : decode b_Mo_message 157 = .ok (.getfield 91, 3) := by decide +kernel
theorem d_Mo_message_160 : decode b_Mo_message 160 = .ok (.lsub, 1) := by decide +kernel
theorem d_Mo_message_161 : decode b_Mo_message 161 = .ok (.lmul, 1) := by decide +kernel
theorem d_Mo_message_162 : decode b_Mo_message 162 = .ok (.ladd, 1) := by decide +kernel
theorem d_Mo_message_163 : decode b_Mo_message 163 = .ok (.putfield 101, 3) := by decide +kernel
theorem d_Mo_message_166 : decode b_Mo_message 166 = .ok (.aload_n 0, 1) := by decide +kernel
theorem d_Mo_message_167 : decode b_Mo_message 167 = .ok (.lload_n 2, 1) := by decide +kernel
theorem d_Mo_message_168 : decode b_Mo_message 168 = .ok (.putfield 98, 3) := by decide +kernel
theorem d_Mo_message_171 : decode b_Mo_message 171 = .ok (.aload_n 0, 1) := by decide +kernel
theorem d_Mo_message_172 : decode b_Mo_message 172 = .ok (.lload 4, 2) := by decide +kernel
theorem d_Mo_message_174 : decode b_Mo_message 174 = .ok (.putfield 91, 3) := by decide +kernel
theorem d_Mo_message_177 : decode b_Mo_message 177 = .ok (.aload_n 0, 1) := by decide +kernel
theorem d_Mo_message_178 : decode b_Mo_message 178 = .ok (.iload 6, 2) := by decide +kernel
theorem d_Mo_message_180 : decode b_Mo_message 180 = .ok (.putfield 52, 3) := by decide +kernel
theorem d_Mo_message_183 : decode b_Mo_message 183 = .ok (.aload_n 0, 1) := by decide +kernel
theorem d_Mo_message_184 : decode b_Mo_message 184 = .ok (.getfield 52, 3) := by decide +kernel
theorem d_Mo_message_187 : decode b_Mo_message 187 = .ok (.ireturn, 1) := by decide +kernel
theorem d_Mo_plug_0 : decode b_Mo_plug 0 = .ok (.aload_n 0, 1) := by decide +kernel
theorem d_Mo_plug_1 : decode b_Mo_plug 1 = .ok (.iconst 0, 1) := by decide +kernel
theorem d_Mo_plug_2 : decode b_Mo_plug 2 = .ok (.putfield 26, 3) := by decide +kernel
theorem d_Mo_plug_5 : decode b_Mo_plug 5 = .ok (.iload_n 1, 1) := by decide +kernel
theorem d_Mo_plug_6 : decode b_Mo_plug 6 = .ok (.ifCond .ne 20, 3) := by decide +kernel
theorem d_Mo_plug_9 : decode b_Mo_plug 9 = .ok (.aload_n 0, 1) := by decide +kernel
theorem d_Mo_plug_10 : decode b_Mo_plug 10 = .ok (.getfield 52, 3) := by decide +kernel
theorem d_Mo_plug_13 : decode b_Mo_plug 13 = .ok (.ifCond .le 13, 3) := by decide +kernel
theorem d_Mo_plug_16 : decode b_Mo_plug 16 = .ok (.aload_n 0, 1) := by decide +kernel
theorem d_Mo_plug_17 : decode b_Mo_plug 17 = .ok (.getfield 65, 3) := by decide +kernel
theorem d_Mo_plug_20 : decode b_Mo_plug 20 = .ok (.ifCond .eq 6, 3) := by decide +kernel
theorem d_Mo_plug_23 : decode b_Mo_plug 23 = .ok (.bipush (-3), 2) := by decide +kernel
theorem d_Mo_plug_25 : decode b_Mo_plug 25 = .ok (.ireturn, 1) := by decide +kernel
theorem d_Mo_plug_26 : decode b_Mo_plug 26 = .ok (.aload_n 0, 1) := by decide +kernel
theorem d_Mo_plug_27 : decode b_Mo_plug 27 = .ok (.getfield 65, 3) := by decide +kernel
theorem d_Mo_plug_30 : decode b_Mo_plug 30 = .ok (.iload_n 1, 1) := by decide +kernel
theorem d_Mo_plug_31 : decode b_Mo_plug 31 = .ok (.if_icmp .eq 7, 3) := by decide +kernel
theorem d_Mo_plug_34 : decode b_Mo_plug 34 = .ok (.iconst 1, 1) := by decide +kernel
theorem d_Mo_plug_35 : decode b_Mo_plug 35 = .ok (.goto 4, 3) := by decide +kernel
theorem d_Mo_plug_38 : decode b_Mo_plug 38 = .ok (.iconst 0, 1) := by decide +kernel
theorem d_Mo_plug_39 : decode b_Mo_plug 39 = .ok (.istore_n 2, 1) := by decide +kernel
theorem d_Mo_plug_40 : decode b_Mo_plug 40 = .ok (.aload_n 0, 1) := by decide +kernel
theorem d_Mo_plug_41 : decode b_Mo_plug 41 = .ok (.iload_n 1, 1) := by decide +kernel
theorem d_Mo_plug_42 : decode b_Mo_plug 42 = .ok (.putfield 65, 3) := by decide +kernel
theorem d_Mo_plug_45 : decode b_Mo_plug 45 = .ok (.iload_n 2, 1) := by decide +kernel
theorem d_Mo_plug_46 : decode b_Mo_plug 46 = .ok (.ifCond .eq 7, 3) := by decide +kernel
theorem d_Mo_plug_49 : decode b_Mo_plug 49 = .ok (.iconst 1, 1) := by decide +kernel
theorem d_Mo_plug_50 : decode b_Mo_plug 50 = .ok (.goto 4, 3) := by decide +kernel
theorem d_Mo_plug_53 : decode b_Mo_plug 53 = .ok (.iconst 0, 1) := by decide +kernel
theorem d_Mo_plug_54 : decode b_Mo_plug 54 = .ok (.ireturn, 1) := by decide +kernel
theorem d_Mo_meter_0 : decode b_Mo_meter 0 = .ok (.aload_n 0, 1) := by decide +kernel
theorem d_Mo_meter_1 : decode b_Mo_meter 1 = .ok (.iconst 0, 1) := by decide +kernel
theorem d_Mo_meter_2 : decode b_Mo_meter 2 = .ok (.putfield 26, 3) := by decide +kernel
theorem d_Mo_meter_5 : decode b_Mo_meter 5 = .ok (.lload_n 1, 1) := by decide +kernel
theorem d_Mo_meter_6 : decode b_Mo_meter 6 = .ok (.lconst 0, 1) := by decide +kernel
theorem d_Mo_meter_7 : decode b_Mo_meter 7 = .ok (.lcmp, 1) := by decide +kernel
theorem d_Mo_meter_8 : decode b_Mo_meter 8 = .ok (.ifCond .lt 11, 3) := by decide +kernel
theorem d_Mo_meter_11 : decode b_Mo_meter 11 = .ok (.lload_n 1, 1) := by decide +kernel
theorem d_Mo_meter_12 : decode b_Mo_meter 12 = .ok (.ldc2_w 104, 3) := by decide +kernel
theorem d_Mo_meter_15 : decode b_Mo_meter 15 = .ok (.lcmp, 1) := by decide +kernel
theorem d_Mo_meter_16 : decode b_Mo_meter 16 = .ok (.ifCond .le 8, 3) := by decide +kernel
theorem d_Mo_meter_19 : decode b_Mo_meter 19 = .ok (.bipush (-2), 2) := by decide +kernel
theorem d_Mo_meter_21 : decode b_Mo_meter 21 = .ok (.goto 14, 3) := by decide +kernel
theorem d_Mo_meter_24 : decode b_Mo_meter 24 = .ok (.lload_n 1, 1) := by decide +kernel
theorem d_Mo_meter_25 : decode b_Mo_meter 25 = .ok (.aload_n 0, 1) := by decide +kernel
theorem d_Mo_meter_26 : decode b_Mo_meter 26 = .ok (.getfield 101, 3) := by decide +kernel
theorem d_Mo_meter_29 : decode b_Mo_meter 29 = .ok (.ldc2_w 106, 3) := by decide +kernel
theorem d_Mo_meter_32 : decode b_Mo_meter 32 = .ok (.ldiv, 1) := by decide +kernel
theorem d_Mo_meter_33 : decode b_Mo_meter 33 = .ok (.lsub, 1) := by decide +kernel
theorem d_Mo_meter_34 : decode b_Mo_meter 34 = .ok (.l2i, 1) := by decide +kernel
theorem d_Mo_meter_35 : decode b_Mo_meter 35 = .ok (.ireturn, 1) := by decide +kernel
theorem d_Mo_priceOf_0 : decode b_Mo_priceOf 0 = .ok (.aload_n 0, 1) := by decide +kernel
theorem d_Mo_priceOf_1 : decode b_Mo_priceOf 1 = .ok (.getfield 108, 3) := by decide +kernel
theorem d_Mo_priceOf_4 : decode b_Mo_priceOf 4 = .ok (.iconst 1, 1) := by decide +kernel
theorem d_Mo_priceOf_5 : decode b_Mo_priceOf 5 = .ok (.isub, 1) := by decide +kernel
theorem d_Mo_priceOf_6 : decode b_Mo_priceOf 6 = .ok (.istore_n 2, 1) := by decide +kernel
theorem d_Mo_priceOf_7 : decode b_Mo_priceOf 7 = .ok (.iload_n 2, 1) := by decide +kernel
theorem d_Mo_priceOf_8 : decode b_Mo_priceOf 8 = .ok (.ifCond .lt 36, 3) := by decide +kernel
theorem d_Mo_priceOf_11 : decode b_Mo_priceOf 11 = .ok (.iload_n 1, 1) := by decide +kernel
theorem d_Mo_priceOf_12 : decode b_Mo_priceOf 12 = .ok (.aload_n 0, 1) := by decide +kernel
theorem d_Mo_priceOf_13 : decode b_Mo_priceOf 13 = .ok (.getfield 7, 3) := by decide +kernel
theorem d_Mo_priceOf_16 : decode b_Mo_priceOf 16 = .ok (.iload_n 2, 1) := by decide +kernel
theorem d_Mo_priceOf_17 : decode b_Mo_priceOf 17 = .ok (.iaload, 1) := by decide +kernel
theorem d_Mo_priceOf_18 : decode b_Mo_priceOf 18 = .ok (.if_icmp .lt 20, 3) := by decide +kernel
theorem d_Mo_priceOf_21 : decode b_Mo_priceOf 21 = .ok (.iload_n 1, 1) := by decide +kernel
theorem d_Mo_priceOf_22 : decode b_Mo_priceOf 22 = .ok (.aload_n 0, 1) := by decide +kernel
theorem d_Mo_priceOf_23 : decode b_Mo_priceOf 23 = .ok (.getfield 13, 3) := by decide +kernel
theorem d_Mo_priceOf_26 : decode b_Mo_priceOf 26 = .ok (.iload_n 2, 1) := by decide +kernel
theorem d_Mo_priceOf_27 : decode b_Mo_priceOf 27 = .ok (.iaload, 1) := by decide +kernel
theorem d_Mo_priceOf_28 : decode b_Mo_priceOf 28 = .ok (.if_icmp .ge 10, 3) := by decide +kernel
