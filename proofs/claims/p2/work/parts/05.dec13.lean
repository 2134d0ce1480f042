theorem d_Mo_lost_13 : decode b_Mo_lost 13 = .ok (.bipush (-2), 2) := by decide +kernel
theorem d_Mo_lost_15 : decode b_Mo_lost 15 = .ok (.ireturn, 1) := by decide +kernel
theorem d_Mo_lost_16 : decode b_Mo_lost 16 = .ok (.aload_n 0, 1) := by decide +kernel
theorem d_Mo_lost_17 : decode b_Mo_lost 17 = .ok (.lload_n 1, 1) := by decide +kernel
theorem d_Mo_lost_18 : decode b_Mo_lost 18 = .ok (.putfield 59, 3) := by decide +kernel
theorem d_Mo_lost_21 : decode b_Mo_lost 21 = .ok (.aload_n 0, 1) := by decide +kernel
theorem d_Mo_lost_22 : decode b_Mo_lost 22 = .ok (.getfield 52, 3) := by decide +kernel
theorem d_Mo_lost_25 : decode b_Mo_lost 25 = .ok (.istore_n 3, 1) := by decide +kernel
theorem d_Mo_lost_26 : decode b_Mo_lost 26 = .ok (.aload_n 0, 1) := by decide +kernel
theorem d_Mo_lost_27 : decode b_Mo_lost 27 = .ok (.iconst 0, 1) := by decide +kernel
theorem d_Mo_lost_28 : decode b_Mo_lost 28 = .ok (.putfield 52, 3) := by decide +kernel
theorem d_Mo_lost_31 : decode b_Mo_lost 31 = .ok (.iload_n 3, 1) := by decide +kernel
theorem d_Mo_lost_32 : decode b_Mo_lost 32 = .ok (.ireturn, 1) := by decide +kernel
theorem d_Mo_state_0 : decode b_Mo_state 0 = .ok (.aload_n 0, 1) := by decide +kernel
theorem d_Mo_state_1 : decode b_Mo_state 1 = .ok (.iconst 0, 1) := by decide +kernel
theorem d_Mo_state_2 : decode b_Mo_state 2 = .ok (.putfield 26, 3) := by decide +kernel
theorem d_Mo_state_5 : decode b_Mo_state 5 = .ok (.aload_n 0, 1) := by decide +kernel
theorem d_Mo_state_6 : decode b_Mo_state 6 = .ok (.getfield 52, 3) := by decide +kernel
theorem d_Mo_state_9 : decode b_Mo_state 9 = .ok (.ireturn, 1) := by decide +kernel
