theorem d_P_isWithin_7 : decode b_P_isWithin 7 = .ok (.if_icmp .gt 7, 3) := by decide +kernel
theorem d_P_isWithin_10 : decode b_P_isWithin 10 = .ok (.iconst 1, 1) := by decide +kernel
theorem d_P_isWithin_11 : decode b_P_isWithin 11 = .ok (.goto 4, 3) := by decide +kernel
theorem d_P_isWithin_14 : decode b_P_isWithin 14 = .ok (.iconst 0, 1) := by decide +kernel
theorem d_P_isWithin_15 : decode b_P_isWithin 15 = .ok (.ireturn, 1) := by decide +kernel
theorem d_P_isWarmth_0 : decode b_P_isWarmth 0 = .ok (.iload_n 0, 1) := by decide +kernel
theorem d_P_isWarmth_1 : decode b_P_isWarmth 1 = .ok (.sipush (-1000), 3) := by decide +kernel
theorem d_P_isWarmth_4 : decode b_P_isWarmth 4 = .ok (.sipush 1000, 3) := by decide +kernel
theorem d_P_isWarmth_7 : decode b_P_isWarmth 7 = .ok (.invokestatic 52, 3) := by decide +kernel
theorem d_P_isWarmth_10 : decode b_P_isWarmth 10 = .ok (.ireturn, 1) := by decide +kernel
theorem d_P_isSide_0 : decode b_P_isSide 0 = .ok (.iload_n 0, 1) := by decide +kernel
theorem d_P_isSide_1 : decode b_P_isSide 1 = .ok (.bipush (-4), 2) := by decide +kernel
theorem d_P_isSide_3 : decode b_P_isSide 3 = .ok (.iconst (-1), 1) := by decide +kernel
theorem d_P_isSide_4 : decode b_P_isSide 4 = .ok (.invokestatic 52, 3) := by decide +kernel
theorem d_P_isSide_7 : decode b_P_isSide 7 = .ok (.ireturn, 1) := by decide +kernel
theorem d_P_isZone_0 : decode b_P_isZone 0 = .ok (.iload_n 1, 1) := by decide +kernel
theorem d_P_isZone_1 : decode b_P_isZone 1 = .ok (.iconst 0, 1) := by decide +kernel
theorem d_P_isZone_2 : decode b_P_isZone 2 = .ok (.aload_n 0, 1) := by decide +kernel
theorem d_P_isZone_3 : decode b_P_isZone 3 = .ok (.getfield 12, 3) := by decide +kernel
theorem d_P_isZone_6 : decode b_P_isZone 6 = .ok (.getfield 60, 3) := by decide +kernel
theorem d_P_isZone_9 : decode b_P_isZone 9 = .ok (.iconst 1, 1) := by decide +kernel
theorem d_P_isZone_10 : decode b_P_isZone 10 = .ok (.isub, 1) := by decide +kernel
theorem d_P_isZone_11 : decode b_P_isZone 11 = .ok (.invokestatic 52, 3) := by decide +kernel
theorem d_P_isZone_14 : decode b_P_isZone 14 = .ok (.ireturn, 1) := by decide +kernel
theorem d_P_isPlace_0 : decode b_P_isPlace 0 = .ok (.iload_n 1, 1) := by decide +kernel
theorem d_P_isPlace_1 : decode b_P_isPlace 1 = .ok (.invokestatic 70, 3) := by decide +kernel
theorem d_P_isPlace_4 : decode b_P_isPlace 4 = .ok (.ifCond .ne 11, 3) := by decide +kernel
theorem d_P_isPlace_7 : decode b_P_isPlace 7 = .ok (.aload_n 0, 1) := by decide +kernel
theorem d_P_isPlace_8 : decode b_P_isPlace 8 = .ok (.iload_n 1, 1) := by decide +kernel
theorem d_P_isPlace_9 : decode b_P_isPlace 9 = .ok (.invokevirtual 136, 3) := by decide +kernel
theorem d_P_isPlace_12 : decode b_P_isPlace 12 = .ok (.ifCond .eq 7, 3) := by decide +kernel
theorem d_P_isPlace_15 : decode b_P_isPlace 15 = .ok (.iconst 1, 1) := by decide +kernel
theorem d_P_isPlace_16 : decode b_P_isPlace 16 = .ok (.goto 4, 3) := by decide +kernel
theorem d_P_isPlace_19 : decode b_P_isPlace 19 = .ok (.iconst 0, 1) := by decide +kernel
theorem d_P_isPlace_20 : decode b_P_isPlace 20 = .ok (.ireturn, 1) := by decide +kernel
theorem d_P_canJoin_0 : decode b_P_canJoin 0 = .ok (.aload_n 0, 1) := by decide +kernel
theorem d_P_canJoin_1 : decode b_P_canJoin 1 = .ok (.iload_n 1, 1) := by decide +kernel
theorem d_P_canJoin_2 : decode b_P_canJoin 2 = .ok (.invokevirtual 80, 3) := by decide +kernel
theorem d_P_canJoin_5 : decode b_P_canJoin 5 = .ok (.ifCond .eq 34, 3) := by decide +kernel
theorem d_P_canJoin_8 : decode b_P_canJoin 8 = .ok (.aload_n 0, 1) := by decide +kernel
theorem d_P_canJoin_9 : decode b_P_canJoin 9 = .ok (.iload_n 2, 1) := by decide +kernel
theorem d_P_canJoin_10 : decode b_P_canJoin 10 = .ok (.invokevirtual 80, 3) := by decide +kernel
theorem d_P_canJoin_13 : decode b_P_canJoin 13 = .ok (.ifCond .eq 26, 3) := by decide +kernel
theorem d_P_canJoin_16 : decode b_P_canJoin 16 = .ok (.iload_n 1, 1) := by decide +kernel
theorem d_P_canJoin_17 : decode b_P_canJoin 17 = .ok (.iload_n 2, 1) := by decide +kernel
theorem d_P_canJoin_18 : decode b_P_canJoin 18 = .ok (.if_icmp .eq 21, 3) := by decide +kernel
theorem d_P_canJoin_21 : decode b_P_canJoin 21 = .ok (.iload_n 1, 1) := by decide +kernel
theorem d_P_canJoin_22 : decode b_P_canJoin 22 = .ok (.invokestatic 70, 3) := by decide +kernel
theorem d_P_canJoin_25 : decode b_P_canJoin 25 = .ok (.ifCond .eq 10, 3) := by decide +kernel
theorem d_P_canJoin_28 : decode b_P_canJoin 28 = .ok (.iload_n 2, 1) := by decide +kernel
theorem d_P_canJoin_29 : decode b_P_canJoin 29 = .ok (.invokestatic 70, 3) := by decide +kernel
theorem d_P_canJoin_32 : decode b_P_canJoin 32 = .ok (.ifCond .ne 7, 3) := by decide +kernel
theorem d_P_canJoin_35 : decode b_P_canJoin 35 = .ok (.iconst 1, 1) := by decide +kernel
theorem d_P_canJoin_36 : decode b_P_canJoin 36 = .ok (.goto 4, 3) := by decide +kernel
theorem d_P_canJoin_39 : decode b_P_canJoin 39 = .ok (.iconst 0, 1) := by decide +kernel
theorem d_P_canJoin_40 : decode b_P_canJoin 40 = .ok (.ireturn, 1) := by decide +kernel
theorem d_P_isLeak_0 : decode b_P_isLeak 0 = .ok (.iload_n 1, 1) := by decide +kernel
theorem d_P_isLeak_1 : decode b_P_isLeak 1 = .ok (.iconst 0, 1) := by decide +kernel
theorem d_P_isLeak_2 : decode b_P_isLeak 2 = .ok (.aload_n 0, 1) := by decide +kernel
theorem d_P_isLeak_3 : decode b_P_isLeak 3 = .ok (.getfield 12, 3) := by decide +kernel
theorem d_P_isLeak_6 : decode b_P_isLeak 6 = .ok (.getfield 90, 3) := by decide +kernel
theorem d_P_isLeak_9 : decode b_P_isLeak 9 = .ok (.iconst 1, 1) := by decide +kernel
theorem d_P_isLeak_10 : decode b_P_isLeak 10 = .ok (.isub, 1) := by decide +kernel
theorem d_P_isLeak_11 : decode b_P_isLeak 11 = .ok (.invokestatic 52, 3) := by decide +kernel
theorem d_P_isLeak_14 : decode b_P_isLeak 14 = .ok (.ireturn, 1) := by decide +kernel
theorem d_P_rowOf_0 : decode b_P_rowOf 0 = .ok (.iload_n 0, 1) := by decide +kernel
theorem d_P_rowOf_1 : decode b_P_rowOf 1 = .ok (.iconst 4, 1) := by decide +kernel
theorem d_P_rowOf_2 : decode b_P_rowOf 2 = .ok (.iadd, 1) := by decide +kernel
theorem d_P_rowOf_3 : decode b_P_rowOf 3 = .ok (.ireturn, 1) := by decide +kernel
theorem d_P_ductOfFan_0 : decode b_P_ductOfFan 0 = .ok (.bipush 20, 2) := by decide +kernel
theorem d_P_ductOfFan_2 : decode b_P_ductOfFan 2 = .ok (.iload_n 0, 1) := by decide +kernel
theorem d_P_ductOfFan_3 : decode b_P_ductOfFan 3 = .ok (.iadd, 1) := by decide +kernel
theorem d_P_ductOfFan_4 : decode b_P_ductOfFan 4 = .ok (.ireturn, 1) := by decide +kernel
