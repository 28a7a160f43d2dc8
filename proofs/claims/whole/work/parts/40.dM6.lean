theorem d_M_step_326 : decode b_M_step 326 = .ok (.getfield 60, 3) := by decide +kernel
theorem d_M_step_329 : decode b_M_step 329 = .ok (.iload_n 2, 1) := by decide +kernel
theorem d_M_step_330 : decode b_M_step 330 = .ok (.aload_n 0, 1) := by decide +kernel
theorem d_M_step_331 : decode b_M_step 331 = .ok (.getfield 69, 3) := by decide +kernel
theorem d_M_step_334 : decode b_M_step 334 = .ok (.iload_n 2, 1) := by decide +kernel
theorem d_M_step_335 : decode b_M_step 335 = .ok (.laload, 1) := by decide +kernel
theorem d_M_step_336 : decode b_M_step 336 = .ok (.lastore, 1) := by decide +kernel
theorem d_M_step_337 : decode b_M_step 337 = .ok (.iinc 2 1, 3) := by decide +kernel
theorem d_M_step_340 : decode b_M_step 340 = .ok (.goto (-20), 3) := by decide +kernel
theorem d_M_step_343 : decode b_M_step 343 = .ok (.iload_n 1, 1) := by decide +kernel
theorem d_M_step_344 : decode b_M_step 344 = .ok (.ireturn, 1) := by decide +kernel
theorem d_M_steps_0 : decode b_M_steps 0 = .ok (.aload_n 0, 1) := by decide +kernel
theorem d_M_steps_1 : decode b_M_steps 1 = .ok (.iload_n 1, 1) := by decide +kernel
theorem d_M_steps_2 : decode b_M_steps 2 = .ok (.i2l, 1) := by decide +kernel
theorem d_M_steps_3 : decode b_M_steps 3 = .ok (.lconst 1, 1) := by decide +kernel
theorem d_M_steps_4 : decode b_M_steps 4 = .ok (.ldc2_w 182, 3) := by decide +kernel
theorem d_M_steps_7 : decode b_M_steps 7 = .ok (.invokestatic 79, 3) := by decide +kernel
theorem d_M_steps_10 : decode b_M_steps 10 = .ok (.ifCond .eq 7, 3) := by decide +kernel
theorem d_M_steps_13 : decode b_M_steps 13 = .ok (.iconst 0, 1) := by decide +kernel
theorem d_M_steps_14 : decode b_M_steps 14 = .ok (.goto 4, 3) := by decide +kernel
theorem d_M_steps_17 : decode b_M_steps 17 = .ok (.iconst 1, 1) := by decide +kernel
theorem d_M_steps_18 : decode b_M_steps 18 = .ok (.putfield 72, 3) := by decide +kernel
theorem d_M_steps_21 : decode b_M_steps 21 = .ok (.aload_n 0, 1) := by decide +kernel
theorem d_M_steps_22 : decode b_M_steps 22 = .ok (.getfield 72, 3) := by decide +kernel
theorem d_M_steps_25 : decode b_M_steps 25 = .ok (.ifCond .gt 10, 3) := by decide +kernel
theorem d_M_steps_28 : decode b_M_steps 28 = .ok (.aload_n 0, 1) := by decide +kernel
theorem d_M_steps_29 : decode b_M_steps 29 = .ok (.invokevirtual 155, 3) := by decide +kernel
theorem d_M_steps_32 : decode b_M_steps 32 = .ok (.ifCond .ne 5, 3) := by decide +kernel
theorem d_M_steps_35 : decode b_M_steps 35 = .ok (.iconst 0, 1) := by decide +kernel
theorem d_M_steps_36 : decode b_M_steps 36 = .ok (.ireturn, 1) := by decide +kernel
theorem d_M_steps_37 : decode b_M_steps 37 = .ok (.iconst 0, 1) := by decide +kernel
theorem d_M_steps_38 : decode b_M_steps 38 = .ok (.istore_n 2, 1) := by decide +kernel
theorem d_M_steps_39 : decode b_M_steps 39 = .ok (.iload_n 2, 1) := by decide +kernel
theorem d_M_steps_40 : decode b_M_steps 40 = .ok (.iload_n 1, 1) := by decide +kernel
theorem d_M_steps_41 : decode b_M_steps 41 = .ok (.if_icmp .ge 16, 3) := by decide +kernel
theorem d_M_steps_44 : decode b_M_steps 44 = .ok (.aload_n 0, 1) := by decide +kernel
theorem d_M_steps_45 : decode b_M_steps 45 = .ok (.invokevirtual 184, 3) := by decide +kernel
theorem d_M_steps_48 : decode b_M_steps 48 = .ok (.ifCond .eq 9, 3) := by decide +kernel
theorem d_M_steps_51 : decode b_M_steps 51 = .ok (.iinc 2 1, 3) := by decide +kernel
theorem d_M_steps_54 : decode b_M_steps 54 = .ok (.goto (-15), 3) := by decide +kernel
theorem d_M_steps_57 : decode b_M_steps 57 = .ok (.iload_n 2, 1) := by decide +kernel
theorem d_M_steps_58 : decode b_M_steps 58 = .ok (.ireturn, 1) := by decide +kernel
theorem d_M_gone_0 : decode b_M_gone 0 = .ok (.aload_n 0, 1) := by decide +kernel
theorem d_M_gone_1 : decode b_M_gone 1 = .ok (.iload_n 1, 1) := by decide +kernel
theorem d_M_gone_2 : decode b_M_gone 2 = .ok (.i2l, 1) := by decide +kernel
theorem d_M_gone_3 : decode b_M_gone 3 = .ok (.ldc2_w 83, 3) := by decide +kernel
theorem d_M_gone_6 : decode b_M_gone 6 = .ok (.ldc2_w 91, 3) := by decide +kernel
theorem d_M_gone_9 : decode b_M_gone 9 = .ok (.invokestatic 79, 3) := by decide +kernel
theorem d_M_gone_12 : decode b_M_gone 12 = .ok (.ifCond .eq 7, 3) := by decide +kernel
theorem d_M_gone_15 : decode b_M_gone 15 = .ok (.iconst 0, 1) := by decide +kernel
theorem d_M_gone_16 : decode b_M_gone 16 = .ok (.goto 4, 3) := by decide +kernel
theorem d_M_gone_19 : decode b_M_gone 19 = .ok (.iconst 1, 1) := by decide +kernel
theorem d_M_gone_20 : decode b_M_gone 20 = .ok (.putfield 72, 3) := by decide +kernel
theorem d_M_gone_23 : decode b_M_gone 23 = .ok (.aload_n 0, 1) := by decide +kernel
theorem d_M_gone_24 : decode b_M_gone 24 = .ok (.getfield 72, 3) := by decide +kernel
theorem d_M_gone_27 : decode b_M_gone 27 = .ok (.ifCond .le 7, 3) := by decide +kernel
theorem d_M_gone_30 : decode b_M_gone 30 = .ok (.lconst 0, 1) := by decide +kernel
theorem d_M_gone_31 : decode b_M_gone 31 = .ok (.goto 11, 3) := by decide +kernel
theorem d_M_gone_34 : decode b_M_gone 34 = .ok (.aload_n 0, 1) := by decide +kernel
theorem d_M_gone_35 : decode b_M_gone 35 = .ok (.getfield 60, 3) := by decide +kernel
theorem d_M_gone_38 : decode b_M_gone 38 = .ok (.iload_n 1, 1) := by decide +kernel
theorem d_M_gone_39 : decode b_M_gone 39 = .ok (.iconst 4, 1) := by decide +kernel
theorem d_M_gone_40 : decode b_M_gone 40 = .ok (.iadd, 1) := by decide +kernel
theorem d_M_gone_41 : decode b_M_gone 41 = .ok (.laload, 1) := by decide +kernel
theorem d_M_gone_42 : decode b_M_gone 42 = .ok (.lreturn, 1) := by decide +kernel
