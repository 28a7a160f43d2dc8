theorem d_T_init_0 : decode b_T_init 0 = .ok (.aload_n 0, 1) := by decide +kernel
theorem d_T_init_1 : decode b_T_init 1 = .ok (.invokespecial 3, 3) := by decide +kernel
theorem d_T_init_4 : decode b_T_init 4 = .ok (.aload_n 0, 1) := by decide +kernel
theorem d_T_init_5 : decode b_T_init 5 = .ok (.bipush 12, 2) := by decide +kernel
theorem d_T_init_7 : decode b_T_init 7 = .ok (.newarray .int, 2) := by decide +kernel
theorem d_T_init_9 : decode b_T_init 9 = .ok (.putfield 9, 3) := by decide +kernel
theorem d_T_init_12 : decode b_T_init 12 = .ok (.aload_n 0, 1) := by decide +kernel
theorem d_T_init_13 : decode b_T_init 13 = .ok (.iconst 0, 1) := by decide +kernel
theorem d_T_init_14 : decode b_T_init 14 = .ok (.putfield 15, 3) := by decide +kernel
theorem d_T_init_17 : decode b_T_init 17 = .ok (.aload_n 0, 1) := by decide +kernel
theorem d_T_init_18 : decode b_T_init 18 = .ok (.iconst (-1), 1) := by decide +kernel
theorem d_T_init_19 : decode b_T_init 19 = .ok (.putfield 19, 3) := by decide +kernel
theorem d_T_init_22 : decode b_T_init 22 = .ok (.aload_n 0, 1) := by decide +kernel
theorem d_T_init_23 : decode b_T_init 23 = .ok (.iconst 0, 1) := by decide +kernel
theorem d_T_init_24 : decode b_T_init 24 = .ok (.putfield 22, 3) := by decide +kernel
theorem d_T_init_27 : decode b_T_init 27 = .ok (.return_, 1) := by decide +kernel
