theorem d_Sb_init_0 : decode b_Sb_init 0 = .ok (.aload_n 0, 1) := by decide +kernel
theorem d_Sb_init_1 : decode b_Sb_init 1 = .ok (.bipush 16, 2) := by decide +kernel
theorem d_Sb_init_3 : decode b_Sb_init 3 = .ok (.invokespecial 1, 3) := by decide +kernel
theorem d_Sb_init_6 : decode b_Sb_init 6 = .ok (.return_, 1) := by decide +kernel
theorem d_Sb_setLength_0 : decode b_Sb_setLength 0 = .ok (.aload_n 0, 1) := by decide +kernel
theorem d_Sb_setLength_1 : decode b_Sb_setLength 1 = .ok (.iload_n 1, 1) := by decide +kernel
theorem d_Sb_setLength_2 : decode b_Sb_setLength 2 = .ok (.invokespecial 333, 3) := by decide +kernel
theorem d_Sb_setLength_5 : decode b_Sb_setLength 5 = .ok (.return_, 1) := by decide +kernel
theorem d_Sb_append1_0 : decode b_Sb_append1 0 = .ok (.aload_n 0, 1) := by decide +kernel
theorem d_Sb_append1_1 : decode b_Sb_append1 1 = .ok (.iload_n 1, 1) := by decide +kernel
theorem d_Sb_append1_2 : decode b_Sb_append1 2 = .ok (.invokespecial 53, 3) := by decide +kernel
theorem d_Sb_append1_5 : decode b_Sb_append1 5 = .ok (.pop, 1) := by decide +kernel
theorem d_Sb_append1_6 : decode b_Sb_append1 6 = .ok (.aload_n 0, 1) := by decide +kernel
theorem d_Sb_append1_7 : decode b_Sb_append1 7 = .ok (.areturn, 1) := by decide +kernel
theorem d_Sb_append2_0 : decode b_Sb_append2 0 = .ok (.aload_n 0, 1) := by decide +kernel
theorem d_Sb_append2_1 : decode b_Sb_append2 1 = .ok (.iload_n 1, 1) := by decide +kernel
theorem d_Sb_append2_2 : decode b_Sb_append2 2 = .ok (.invokespecial 50, 3) := by decide +kernel
theorem d_Sb_append2_5 : decode b_Sb_append2 5 = .ok (.pop, 1) := by decide +kernel
theorem d_Sb_append2_6 : decode b_Sb_append2 6 = .ok (.aload_n 0, 1) := by decide +kernel
theorem d_Sb_append2_7 : decode b_Sb_append2 7 = .ok (.areturn, 1) := by decide +kernel
theorem d_Sb_length_0 : decode b_Sb_length 0 = .ok (.aload_n 0, 1) := by decide +kernel
theorem d_Sb_length_1 : decode b_Sb_length 1 = .ok (.invokespecial 343, 3) := by decide +kernel
theorem d_Sb_length_4 : decode b_Sb_length 4 = .ok (.ireturn, 1) := by decide +kernel
theorem d_Sb_charAt_0 : decode b_Sb_charAt 0 = .ok (.aload_n 0, 1) := by decide +kernel
theorem d_Sb_charAt_1 : decode b_Sb_charAt 1 = .ok (.iload_n 1, 1) := by decide +kernel
theorem d_Sb_charAt_2 : decode b_Sb_charAt 2 = .ok (.invokespecial 329, 3) := by decide +kernel
theorem d_Sb_charAt_5 : decode b_Sb_charAt 5 = .ok (.ireturn, 1) := by decide +kernel
