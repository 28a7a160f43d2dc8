theorem d_L_zone_0 : decode b_L_zone 0 = .ok (.aload_n 3, 1) := by decide +kernel
theorem d_L_zone_1 : decode b_L_zone 1 = .ok (.iconst 0, 1) := by decide +kernel
theorem d_L_zone_2 : decode b_L_zone 2 = .ok (.aload_n 0, 1) := by decide +kernel
theorem d_L_zone_3 : decode b_L_zone 3 = .ok (.iload_n 1, 1) := by decide +kernel
theorem d_L_zone_4 : decode b_L_zone 4 = .ok (.iload_n 2, 1) := by decide +kernel
theorem d_L_zone_5 : decode b_L_zone 5 = .ok (.invokevirtual 7, 3) := by decide +kernel
theorem d_L_zone_8 : decode b_L_zone 8 = .ok (.i2l, 1) := by decide +kernel
theorem d_L_zone_9 : decode b_L_zone 9 = .ok (.lastore, 1) := by decide +kernel
theorem d_L_zone_10 : decode b_L_zone 10 = .ok (.goto 11, 3) := by decide +kernel
theorem d_L_zone_13 : decode b_L_zone 13 = .ok (.astore 4, 2) := by decide +kernel
theorem d_L_zone_15 : decode b_L_zone 15 = .ok (.iconst 1, 1) := by decide +kernel
theorem d_L_zone_16 : decode b_L_zone 16 = .ok (.ireturn, 1) := by decide +kernel
theorem d_L_zone_17 : decode b_L_zone 17 = .ok (.astore 4, 2) := by decide +kernel
theorem d_L_zone_19 : decode b_L_zone 19 = .ok (.iconst 2, 1) := by decide +kernel
theorem d_L_zone_20 : decode b_L_zone 20 = .ok (.ireturn, 1) := by decide +kernel
theorem d_L_zone_21 : decode b_L_zone 21 = .ok (.iconst 0, 1) := by decide +kernel
theorem d_L_zone_22 : decode b_L_zone 22 = .ok (.ireturn, 1) := by decide +kernel
theorem d_L_wind_0 : decode b_L_wind 0 = .ok (.aload_n 3, 1) := by decide +kernel
theorem d_L_wind_1 : decode b_L_wind 1 = .ok (.iconst 0, 1) := by decide +kernel
theorem d_L_wind_2 : decode b_L_wind 2 = .ok (.aload_n 0, 1) := by decide +kernel
theorem d_L_wind_3 : decode b_L_wind 3 = .ok (.iload_n 1, 1) := by decide +kernel
theorem d_L_wind_4 : decode b_L_wind 4 = .ok (.iload_n 2, 1) := by decide +kernel
theorem d_L_wind_5 : decode b_L_wind 5 = .ok (.invokevirtual 17, 3) := by decide +kernel
theorem d_L_wind_8 : decode b_L_wind 8 = .ok (.i2l, 1) := by decide +kernel
theorem d_L_wind_9 : decode b_L_wind 9 = .ok (.lastore, 1) := by decide +kernel
theorem d_L_wind_10 : decode b_L_wind 10 = .ok (.goto 7, 3) := by decide +kernel
theorem d_L_wind_13 : decode b_L_wind 13 = .ok (.astore 4, 2) := by decide +kernel
theorem d_L_wind_15 : decode b_L_wind 15 = .ok (.iconst 1, 1) := by decide +kernel
theorem d_L_wind_16 : decode b_L_wind 16 = .ok (.ireturn, 1) := by decide +kernel
theorem d_L_wind_17 : decode b_L_wind 17 = .ok (.iconst 0, 1) := by decide +kernel
theorem d_L_wind_18 : decode b_L_wind 18 = .ok (.ireturn, 1) := by decide +kernel
theorem d_L_warmth_0 : decode b_L_warmth 0 = .ok (.aload_n 3, 1) := by decide +kernel
theorem d_L_warmth_1 : decode b_L_warmth 1 = .ok (.iconst 0, 1) := by decide +kernel
theorem d_L_warmth_2 : decode b_L_warmth 2 = .ok (.aload_n 0, 1) := by decide +kernel
theorem d_L_warmth_3 : decode b_L_warmth 3 = .ok (.iload_n 1, 1) := by decide +kernel
theorem d_L_warmth_4 : decode b_L_warmth 4 = .ok (.iload_n 2, 1) := by decide +kernel
theorem d_L_warmth_5 : decode b_L_warmth 5 = .ok (.invokevirtual 20, 3) := by decide +kernel
theorem d_L_warmth_8 : decode b_L_warmth 8 = .ok (.i2l, 1) := by decide +kernel
theorem d_L_warmth_9 : decode b_L_warmth 9 = .ok (.lastore, 1) := by decide +kernel
theorem d_L_warmth_10 : decode b_L_warmth 10 = .ok (.goto 7, 3) := by decide +kernel
theorem d_L_warmth_13 : decode b_L_warmth 13 = .ok (.astore 4, 2) := by decide +kernel
theorem d_L_warmth_15 : decode b_L_warmth 15 = .ok (.iconst 1, 1) := by decide +kernel
theorem d_L_warmth_16 : decode b_L_warmth 16 = .ok (.ireturn, 1) := by decide +kernel
theorem d_L_warmth_17 : decode b_L_warmth 17 = .ok (.iconst 0, 1) := by decide +kernel
theorem d_L_warmth_18 : decode b_L_warmth 18 = .ok (.ireturn, 1) := by decide +kernel
theorem d_L_leak_0 : decode b_L_leak 0 = .ok (.aload 6, 2) := by decide +kernel
theorem d_L_leak_2 : decode b_L_leak 2 = .ok (.iconst 0, 1) := by decide +kernel
theorem d_L_leak_3 : decode b_L_leak 3 = .ok (.aload_n 0, 1) := by decide +kernel
theorem d_L_leak_4 : decode b_L_leak 4 = .ok (.iload_n 1, 1) := by decide +kernel
theorem d_L_leak_5 : decode b_L_leak 5 = .ok (.iload_n 2, 1) := by decide +kernel
theorem d_L_leak_6 : decode b_L_leak 6 = .ok (.iload_n 3, 1) := by decide +kernel
theorem d_L_leak_7 : decode b_L_leak 7 = .ok (.iload 4, 2) := by decide +kernel
theorem d_L_leak_9 : decode b_L_leak 9 = .ok (.iload 5, 2) := by decide +kernel
theorem d_L_leak_11 : decode b_L_leak 11 = .ok (.invokevirtual 23, 3) := by decide +kernel
theorem d_L_leak_14 : decode b_L_leak 14 = .ok (.i2l, 1) := by decide +kernel
theorem d_L_leak_15 : decode b_L_leak 15 = .ok (.lastore, 1) := by decide +kernel
theorem d_L_leak_16 : decode b_L_leak 16 = .ok (.goto 11, 3) := by decide +kernel
theorem d_L_leak_19 : decode b_L_leak 19 = .ok (.astore 7, 2) := by decide +kernel
theorem d_L_leak_21 : decode b_L_leak 21 = .ok (.iconst 1, 1) := by decide +kernel
theorem d_L_leak_22 : decode b_L_leak 22 = .ok (.ireturn, 1) := by decide +kernel
theorem d_L_leak_23 : decode b_L_leak 23 = .ok (.astore 7, 2) := by decide +kernel
theorem d_L_leak_25 : decode b_L_leak 25 = .ok (.iconst 2, 1) := by decide +kernel
theorem d_L_leak_26 : decode b_L_leak 26 = .ok (.ireturn, 1) := by decide +kernel
theorem d_L_leak_27 : decode b_L_leak 27 = .ok (.iconst 0, 1) := by decide +kernel
theorem d_L_leak_28 : decode b_L_leak 28 = .ok (.ireturn, 1) := by decide +kernel
theorem d_L_shut_0 : decode b_L_shut 0 = .ok (.aload_n 3, 1) := by decide +kernel
theorem d_L_shut_1 : decode b_L_shut 1 = .ok (.iconst 0, 1) := by decide +kernel
theorem d_L_shut_2 : decode b_L_shut 2 = .ok (.aload_n 0, 1) := by decide +kernel
theorem d_L_shut_3 : decode b_L_shut 3 = .ok (.iload_n 1, 1) := by decide +kernel
theorem d_L_shut_4 : decode b_L_shut 4 = .ok (.iload_n 2, 1) := by decide +kernel
theorem d_L_shut_5 : decode b_L_shut 5 = .ok (.invokevirtual 27, 3) := by decide +kernel
theorem d_L_shut_8 : decode b_L_shut 8 = .ok (.ifCond .eq 7, 3) := by decide +kernel
theorem d_L_shut_11 : decode b_L_shut 11 = .ok (.lconst 1, 1) := by decide +kernel
theorem d_L_shut_12 : decode b_L_shut 12 = .ok (.goto 4, 3) := by decide +kernel
theorem d_L_shut_15 : decode b_L_shut 15 = .ok (.lconst 0, 1) := by decide +kernel
theorem d_L_shut_16 : decode b_L_shut 16 = .ok (.lastore, 1) := by decide +kernel
theorem d_L_shut_17 : decode b_L_shut 17 = .ok (.goto 7, 3) := by decide +kernel
theorem d_L_shut_20 : decode b_L_shut 20 = .ok (.astore 4, 2) := by decide +kernel
theorem d_L_shut_22 : decode b_L_shut 22 = .ok (.iconst 1, 1) := by decide +kernel
theorem d_L_shut_23 : decode b_L_shut 23 = .ok (.ireturn, 1) := by decide +kernel
theorem d_L_shut_24 : decode b_L_shut 24 = .ok (.iconst 0, 1) := by decide +kernel
theorem d_L_shut_25 : decode b_L_shut 25 = .ok (.ireturn, 1) := by decide +kernel
theorem d_L_fan_0 : decode b_L_fan 0 = .ok (.aload 5, 2) := by decide +kernel
theorem d_L_fan_2 : decode b_L_fan 2 = .ok (.iconst 0, 1) := by decide +kernel
theorem d_L_fan_3 : decode b_L_fan 3 = .ok (.aload_n 0, 1) := by decide +kernel
theorem d_L_fan_4 : decode b_L_fan 4 = .ok (.iload_n 1, 1) := by decide +kernel
theorem d_L_fan_5 : decode b_L_fan 5 = .ok (.iload_n 2, 1) := by decide +kernel
theorem d_L_fan_6 : decode b_L_fan 6 = .ok (.iload_n 3, 1) := by decide +kernel
theorem d_L_fan_7 : decode b_L_fan 7 = .ok (.iload 4, 2) := by decide +kernel
theorem d_L_fan_9 : decode b_L_fan 9 = .ok (.invokevirtual 31, 3) := by decide +kernel
theorem d_L_fan_12 : decode b_L_fan 12 = .ok (.i2l, 1) := by decide +kernel
theorem d_L_fan_13 : decode b_L_fan 13 = .ok (.lastore, 1) := by decide +kernel
theorem d_L_fan_14 : decode b_L_fan 14 = .ok (.goto 11, 3) := by decide +kernel
theorem d_L_fan_17 : decode b_L_fan 17 = .ok (.astore 6, 2) := by decide +kernel
theorem d_L_fan_19 : decode b_L_fan 19 = .ok (.iconst 1, 1) := by decide +kernel
theorem d_L_fan_20 : decode b_L_fan 20 = .ok (.ireturn, 1) := by decide +kernel
theorem d_L_fan_21 : decode b_L_fan 21 = .ok (.astore 6, 2) := by decide +kernel
theorem d_L_fan_23 : decode b_L_fan 23 = .ok (.iconst 2, 1) := by decide +kernel
theorem d_L_fan_24 : decode b_L_fan 24 = .ok (.ireturn, 1) := by decide +kernel
theorem d_L_fan_25 : decode b_L_fan 25 = .ok (.iconst 0, 1) := by decide +kernel
theorem d_L_fan_26 : decode b_L_fan 26 = .ok (.ireturn, 1) := by decide +kernel
theorem d_L_pressure_0 : decode b_L_pressure 0 = .ok (.aload_n 2, 1) := by decide +kernel
theorem d_L_pressure_1 : decode b_L_pressure 1 = .ok (.iconst 0, 1) := by decide +kernel
theorem d_L_pressure_2 : decode b_L_pressure 2 = .ok (.aload_n 0, 1) := by decide +kernel
theorem d_L_pressure_3 : decode b_L_pressure 3 = .ok (.iload_n 1, 1) := by decide +kernel
theorem d_L_pressure_4 : decode b_L_pressure 4 = .ok (.invokevirtual 35, 3) := by decide +kernel
theorem d_L_pressure_7 : decode b_L_pressure 7 = .ok (.i2l, 1) := by decide +kernel
theorem d_L_pressure_8 : decode b_L_pressure 8 = .ok (.lastore, 1) := by decide +kernel
theorem d_L_pressure_9 : decode b_L_pressure 9 = .ok (.goto 6, 3) := by decide +kernel
theorem d_L_pressure_12 : decode b_L_pressure 12 = .ok (.astore_n 3, 1) := by decide +kernel
theorem d_L_pressure_13 : decode b_L_pressure 13 = .ok (.iconst 1, 1) := by decide +kernel
theorem d_L_pressure_14 : decode b_L_pressure 14 = .ok (.ireturn, 1) := by decide +kernel
theorem d_L_pressure_15 : decode b_L_pressure 15 = .ok (.iconst 0, 1) := by decide +kernel
theorem d_L_pressure_16 : decode b_L_pressure 16 = .ok (.ireturn, 1) := by decide +kernel
theorem d_L_told_0 : decode b_L_told 0 = .ok (.aload_n 3, 1) := by decide +kernel
theorem d_L_told_1 : decode b_L_told 1 = .ok (.iconst 0, 1) := by decide +kernel
theorem d_L_told_2 : decode b_L_told 2 = .ok (.aload_n 0, 1) := by decide +kernel
theorem d_L_told_3 : decode b_L_told 3 = .ok (.iload_n 1, 1) := by decide +kernel
theorem d_L_told_4 : decode b_L_told 4 = .ok (.iload_n 2, 1) := by decide +kernel
theorem d_L_told_5 : decode b_L_told 5 = .ok (.invokevirtual 39, 3) := by decide +kernel
theorem d_L_told_8 : decode b_L_told 8 = .ok (.i2l, 1) := by decide +kernel
theorem d_L_told_9 : decode b_L_told 9 = .ok (.lastore, 1) := by decide +kernel
theorem d_L_told_10 : decode b_L_told 10 = .ok (.goto 7, 3) := by decide +kernel
theorem d_L_told_13 : decode b_L_told 13 = .ok (.astore 4, 2) := by decide +kernel
theorem d_L_told_15 : decode b_L_told 15 = .ok (.iconst 1, 1) := by decide +kernel
theorem d_L_told_16 : decode b_L_told 16 = .ok (.ireturn, 1) := by decide +kernel
theorem d_L_told_17 : decode b_L_told 17 = .ok (.iconst 0, 1) := by decide +kernel
theorem d_L_told_18 : decode b_L_told 18 = .ok (.ireturn, 1) := by decide +kernel
theorem d_L_blows_0 : decode b_L_blows 0 = .ok (.aload_n 2, 1) := by decide +kernel
theorem d_L_blows_1 : decode b_L_blows 1 = .ok (.iconst 0, 1) := by decide +kernel
theorem d_L_blows_2 : decode b_L_blows 2 = .ok (.aload_n 0, 1) := by decide +kernel
theorem d_L_blows_3 : decode b_L_blows 3 = .ok (.iload_n 1, 1) := by decide +kernel
theorem d_L_blows_4 : decode b_L_blows 4 = .ok (.invokevirtual 42, 3) := by decide +kernel
theorem d_L_blows_7 : decode b_L_blows 7 = .ok (.i2l, 1) := by decide +kernel
theorem d_L_blows_8 : decode b_L_blows 8 = .ok (.lastore, 1) := by decide +kernel
theorem d_L_blows_9 : decode b_L_blows 9 = .ok (.goto 6, 3) := by decide +kernel
theorem d_L_blows_12 : decode b_L_blows 12 = .ok (.astore_n 3, 1) := by decide +kernel
theorem d_L_blows_13 : decode b_L_blows 13 = .ok (.iconst 1, 1) := by decide +kernel
theorem d_L_blows_14 : decode b_L_blows 14 = .ok (.ireturn, 1) := by decide +kernel
theorem d_L_blows_15 : decode b_L_blows 15 = .ok (.iconst 0, 1) := by decide +kernel
theorem d_L_blows_16 : decode b_L_blows 16 = .ok (.ireturn, 1) := by decide +kernel
theorem d_L_gain_0 : decode b_L_gain 0 = .ok (.aload_n 2, 1) := by decide +kernel
theorem d_L_gain_1 : decode b_L_gain 1 = .ok (.iconst 0, 1) := by decide +kernel
theorem d_L_gain_2 : decode b_L_gain 2 = .ok (.aload_n 0, 1) := by decide +kernel
theorem d_L_gain_3 : decode b_L_gain 3 = .ok (.iload_n 1, 1) := by decide +kernel
theorem d_L_gain_4 : decode b_L_gain 4 = .ok (.invokevirtual 45, 3) := by decide +kernel
theorem d_L_gain_7 : decode b_L_gain 7 = .ok (.i2l, 1) := by decide +kernel
theorem d_L_gain_8 : decode b_L_gain 8 = .ok (.lastore, 1) := by decide +kernel
theorem d_L_gain_9 : decode b_L_gain 9 = .ok (.goto 6, 3) := by decide +kernel
theorem d_L_gain_12 : decode b_L_gain 12 = .ok (.astore_n 3, 1) := by decide +kernel
theorem d_L_gain_13 : decode b_L_gain 13 = .ok (.iconst 1, 1) := by decide +kernel
theorem d_L_gain_14 : decode b_L_gain 14 = .ok (.ireturn, 1) := by decide +kernel
theorem d_L_gain_15 : decode b_L_gain 15 = .ok (.iconst 0, 1) := by decide +kernel
theorem d_L_gain_16 : decode b_L_gain 16 = .ok (.ireturn, 1) := by decide +kernel
theorem d_L_caseOf_0 : decode b_L_caseOf 0 = .ok (.aload_n 2, 1) := by decide +kernel
theorem d_L_caseOf_1 : decode b_L_caseOf 1 = .ok (.iconst 0, 1) := by decide +kernel
theorem d_L_caseOf_2 : decode b_L_caseOf 2 = .ok (.aload_n 0, 1) := by decide +kernel
theorem d_L_caseOf_3 : decode b_L_caseOf 3 = .ok (.iload_n 1, 1) := by decide +kernel
theorem d_L_caseOf_4 : decode b_L_caseOf 4 = .ok (.invokevirtual 48, 3) := by decide +kernel
theorem d_L_caseOf_7 : decode b_L_caseOf 7 = .ok (.i2l, 1) := by decide +kernel
theorem d_L_caseOf_8 : decode b_L_caseOf 8 = .ok (.lastore, 1) := by decide +kernel
theorem d_L_caseOf_9 : decode b_L_caseOf 9 = .ok (.goto 9, 3) := by decide +kernel
theorem d_L_caseOf_12 : decode b_L_caseOf 12 = .ok (.astore_n 3, 1) := by decide +kernel
theorem d_L_caseOf_13 : decode b_L_caseOf 13 = .ok (.iconst 1, 1) := by decide +kernel
theorem d_L_caseOf_14 : decode b_L_caseOf 14 = .ok (.ireturn, 1) := by decide +kernel
theorem d_L_caseOf_15 : decode b_L_caseOf 15 = .ok (.astore_n 3, 1) := by decide +kernel
theorem d_L_caseOf_16 : decode b_L_caseOf 16 = .ok (.iconst 2, 1) := by decide +kernel
theorem d_L_caseOf_17 : decode b_L_caseOf 17 = .ok (.ireturn, 1) := by decide +kernel
theorem d_L_caseOf_18 : decode b_L_caseOf 18 = .ok (.iconst 0, 1) := by decide +kernel
theorem d_L_caseOf_19 : decode b_L_caseOf 19 = .ok (.ireturn, 1) := by decide +kernel
theorem d_L_worst_0 : decode b_L_worst 0 = .ok (.aload_n 3, 1) := by decide +kernel
theorem d_L_worst_1 : decode b_L_worst 1 = .ok (.iconst 0, 1) := by decide +kernel
theorem d_L_worst_2 : decode b_L_worst 2 = .ok (.aload_n 0, 1) := by decide +kernel
theorem d_L_worst_3 : decode b_L_worst 3 = .ok (.iload_n 1, 1) := by decide +kernel
theorem d_L_worst_4 : decode b_L_worst 4 = .ok (.iload_n 2, 1) := by decide +kernel
theorem d_L_worst_5 : decode b_L_worst 5 = .ok (.invokevirtual 51, 3) := by decide +kernel
theorem d_L_worst_8 : decode b_L_worst 8 = .ok (.i2l, 1) := by decide +kernel
theorem d_L_worst_9 : decode b_L_worst 9 = .ok (.lastore, 1) := by decide +kernel
theorem d_L_worst_10 : decode b_L_worst 10 = .ok (.goto 7, 3) := by decide +kernel
theorem d_L_worst_13 : decode b_L_worst 13 = .ok (.astore 4, 2) := by decide +kernel
theorem d_L_worst_15 : decode b_L_worst 15 = .ok (.iconst 1, 1) := by decide +kernel
theorem d_L_worst_16 : decode b_L_worst 16 = .ok (.ireturn, 1) := by decide +kernel
theorem d_L_worst_17 : decode b_L_worst 17 = .ok (.iconst 0, 1) := by decide +kernel
theorem d_L_worst_18 : decode b_L_worst 18 = .ok (.ireturn, 1) := by decide +kernel
theorem d_L_put_0 : decode b_L_put 0 = .ok (.aload_n 3, 1) := by decide +kernel
theorem d_L_put_1 : decode b_L_put 1 = .ok (.iconst 0, 1) := by decide +kernel
theorem d_L_put_2 : decode b_L_put 2 = .ok (.aload_n 0, 1) := by decide +kernel
theorem d_L_put_3 : decode b_L_put 3 = .ok (.iload_n 1, 1) := by decide +kernel
theorem d_L_put_4 : decode b_L_put 4 = .ok (.iload_n 2, 1) := by decide +kernel
theorem d_L_put_5 : decode b_L_put 5 = .ok (.invokevirtual 54, 3) := by decide +kernel
theorem d_L_put_8 : decode b_L_put 8 = .ok (.i2l, 1) := by decide +kernel
theorem d_L_put_9 : decode b_L_put 9 = .ok (.lastore, 1) := by decide +kernel
theorem d_L_put_10 : decode b_L_put 10 = .ok (.goto 7, 3) := by decide +kernel
theorem d_L_put_13 : decode b_L_put 13 = .ok (.astore 4, 2) := by decide +kernel
theorem d_L_put_15 : decode b_L_put 15 = .ok (.iconst 1, 1) := by decide +kernel
theorem d_L_put_16 : decode b_L_put 16 = .ok (.ireturn, 1) := by decide +kernel
theorem d_L_put_17 : decode b_L_put 17 = .ok (.iconst 0, 1) := by decide +kernel
theorem d_L_put_18 : decode b_L_put 18 = .ok (.ireturn, 1) := by decide +kernel
theorem d_L_source_0 : decode b_L_source 0 = .ok (.aload_n 3, 1) := by decide +kernel
theorem d_L_source_1 : decode b_L_source 1 = .ok (.iconst 0, 1) := by decide +kernel
theorem d_L_source_2 : decode b_L_source 2 = .ok (.aload_n 0, 1) := by decide +kernel
theorem d_L_source_3 : decode b_L_source 3 = .ok (.iload_n 1, 1) := by decide +kernel
theorem d_L_source_4 : decode b_L_source 4 = .ok (.iload_n 2, 1) := by decide +kernel
theorem d_L_source_5 : decode b_L_source 5 = .ok (.invokevirtual 57, 3) := by decide +kernel
theorem d_L_source_8 : decode b_L_source 8 = .ok (.i2l, 1) := by decide +kernel
theorem d_L_source_9 : decode b_L_source 9 = .ok (.lastore, 1) := by decide +kernel
theorem d_L_source_10 : decode b_L_source 10 = .ok (.goto 7, 3) := by decide +kernel
theorem d_L_source_13 : decode b_L_source 13 = .ok (.astore 4, 2) := by decide +kernel
theorem d_L_source_15 : decode b_L_source 15 = .ok (.iconst 1, 1) := by decide +kernel
theorem d_L_source_16 : decode b_L_source 16 = .ok (.ireturn, 1) := by decide +kernel
theorem d_L_source_17 : decode b_L_source 17 = .ok (.iconst 0, 1) := by decide +kernel
theorem d_L_source_18 : decode b_L_source 18 = .ok (.ireturn, 1) := by decide +kernel
theorem d_L_steps_0 : decode b_L_steps 0 = .ok (.aload_n 2, 1) := by decide +kernel
theorem d_L_steps_1 : decode b_L_steps 1 = .ok (.iconst 0, 1) := by decide +kernel
theorem d_L_steps_2 : decode b_L_steps 2 = .ok (.aload_n 0, 1) := by decide +kernel
theorem d_L_steps_3 : decode b_L_steps 3 = .ok (.iload_n 1, 1) := by decide +kernel
theorem d_L_steps_4 : decode b_L_steps 4 = .ok (.invokevirtual 60, 3) := by decide +kernel
theorem d_L_steps_7 : decode b_L_steps 7 = .ok (.i2l, 1) := by decide +kernel
theorem d_L_steps_8 : decode b_L_steps 8 = .ok (.lastore, 1) := by decide +kernel
theorem d_L_steps_9 : decode b_L_steps 9 = .ok (.goto 6, 3) := by decide +kernel
theorem d_L_steps_12 : decode b_L_steps 12 = .ok (.astore_n 3, 1) := by decide +kernel
theorem d_L_steps_13 : decode b_L_steps 13 = .ok (.iconst 1, 1) := by decide +kernel
theorem d_L_steps_14 : decode b_L_steps 14 = .ok (.ireturn, 1) := by decide +kernel
theorem d_L_steps_15 : decode b_L_steps 15 = .ok (.iconst 0, 1) := by decide +kernel
theorem d_L_steps_16 : decode b_L_steps 16 = .ok (.ireturn, 1) := by decide +kernel
theorem d_L_gone_0 : decode b_L_gone 0 = .ok (.aload_n 2, 1) := by decide +kernel
theorem d_L_gone_1 : decode b_L_gone 1 = .ok (.iconst 0, 1) := by decide +kernel
theorem d_L_gone_2 : decode b_L_gone 2 = .ok (.aload_n 0, 1) := by decide +kernel
theorem d_L_gone_3 : decode b_L_gone 3 = .ok (.iload_n 1, 1) := by decide +kernel
theorem d_L_gone_4 : decode b_L_gone 4 = .ok (.invokevirtual 63, 3) := by decide +kernel
theorem d_L_gone_7 : decode b_L_gone 7 = .ok (.lastore, 1) := by decide +kernel
theorem d_L_gone_8 : decode b_L_gone 8 = .ok (.goto 6, 3) := by decide +kernel
theorem d_L_gone_11 : decode b_L_gone 11 = .ok (.astore_n 3, 1) := by decide +kernel
theorem d_L_gone_12 : decode b_L_gone 12 = .ok (.iconst 1, 1) := by decide +kernel
theorem d_L_gone_13 : decode b_L_gone 13 = .ok (.ireturn, 1) := by decide +kernel
theorem d_L_gone_14 : decode b_L_gone 14 = .ok (.iconst 0, 1) := by decide +kernel
theorem d_L_gone_15 : decode b_L_gone 15 = .ok (.ireturn, 1) := by decide +kernel
