theorem d_P_init_0 : decode b_P_init 0 = .ok (.aload_n 0, 1) := by decide +kernel
theorem d_P_init_1 : decode b_P_init 1 = .ok (.invokespecial 3, 3) := by decide +kernel
theorem d_P_init_4 : decode b_P_init 4 = .ok (.aload_n 0, 1) := by decide +kernel
theorem d_P_init_5 : decode b_P_init 5 = .ok (.new 9, 3) := by decide +kernel
theorem d_P_init_8 : decode b_P_init 8 = .ok (.dup, 1) := by decide +kernel
theorem d_P_init_9 : decode b_P_init 9 = .ok (.invokespecial 11, 3) := by decide +kernel
theorem d_P_init_12 : decode b_P_init 12 = .ok (.putfield 12, 3) := by decide +kernel
theorem d_P_init_15 : decode b_P_init 15 = .ok (.aload_n 0, 1) := by decide +kernel
theorem d_P_init_16 : decode b_P_init 16 = .ok (.new 16, 3) := by decide +kernel
theorem d_P_init_19 : decode b_P_init 19 = .ok (.dup, 1) := by decide +kernel
theorem d_P_init_20 : decode b_P_init 20 = .ok (.aload_n 0, 1) := by decide +kernel
theorem d_P_init_21 : decode b_P_init 21 = .ok (.getfield 12, 3) := by decide +kernel
theorem d_P_init_24 : decode b_P_init 24 = .ok (.invokespecial 18, 3) := by decide +kernel
theorem d_P_init_27 : decode b_P_init 27 = .ok (.putfield 21, 3) := by decide +kernel
theorem d_P_init_30 : decode b_P_init 30 = .ok (.aload_n 0, 1) := by decide +kernel
theorem d_P_init_31 : decode b_P_init 31 = .ok (.new 25, 3) := by decide +kernel
theorem d_P_init_34 : decode b_P_init 34 = .ok (.dup, 1) := by decide +kernel
theorem d_P_init_35 : decode b_P_init 35 = .ok (.aload_n 0, 1) := by decide +kernel
theorem d_P_init_36 : decode b_P_init 36 = .ok (.getfield 12, 3) := by decide +kernel
theorem d_P_init_39 : decode b_P_init 39 = .ok (.invokespecial 27, 3) := by decide +kernel
theorem d_P_init_42 : decode b_P_init 42 = .ok (.putfield 28, 3) := by decide +kernel
theorem d_P_init_45 : decode b_P_init 45 = .ok (.aload_n 0, 1) := by decide +kernel
theorem d_P_init_46 : decode b_P_init 46 = .ok (.new 32, 3) := by decide +kernel
theorem d_P_init_49 : decode b_P_init 49 = .ok (.dup, 1) := by decide +kernel
theorem d_P_init_50 : decode b_P_init 50 = .ok (.invokespecial 34, 3) := by decide +kernel
theorem d_P_init_53 : decode b_P_init 53 = .ok (.putfield 35, 3) := by decide +kernel
theorem d_P_init_56 : decode b_P_init 56 = .ok (.aload_n 0, 1) := by decide +kernel
theorem d_P_init_57 : decode b_P_init 57 = .ok (.bipush 8, 2) := by decide +kernel
theorem d_P_init_59 : decode b_P_init 59 = .ok (.anewarray 32, 3) := by decide +kernel
theorem d_P_init_62 : decode b_P_init 62 = .ok (.putfield 39, 3) := by decide +kernel
theorem d_P_init_65 : decode b_P_init 65 = .ok (.aload_n 0, 1) := by decide +kernel
theorem d_P_init_66 : decode b_P_init 66 = .ok (.iconst 0, 1) := by decide +kernel
theorem d_P_init_67 : decode b_P_init 67 = .ok (.putfield 43, 3) := by decide +kernel
theorem d_P_init_70 : decode b_P_init 70 = .ok (.iconst 0, 1) := by decide +kernel
theorem d_P_init_71 : decode b_P_init 71 = .ok (.istore_n 1, 1) := by decide +kernel
theorem d_P_init_72 : decode b_P_init 72 = .ok (.iload_n 1, 1) := by decide +kernel
theorem d_P_init_73 : decode b_P_init 73 = .ok (.bipush 8, 2) := by decide +kernel
theorem d_P_init_75 : decode b_P_init 75 = .ok (.if_icmp .ge 22, 3) := by decide +kernel
theorem d_P_init_78 : decode b_P_init 78 = .ok (.aload_n 0, 1) := by decide +kernel
theorem d_P_init_79 : decode b_P_init 79 = .ok (.getfield 39, 3) := by decide +kernel
theorem d_P_init_82 : decode b_P_init 82 = .ok (.iload_n 1, 1) := by decide +kernel
theorem d_P_init_83 : decode b_P_init 83 = .ok (.new 32, 3) := by decide +kernel
theorem d_P_init_86 : decode b_P_init 86 = .ok (.dup, 1) := by decide +kernel
theorem d_P_init_87 : decode b_P_init 87 = .ok (.invokespecial 34, 3) := by decide +kernel
theorem d_P_init_90 : decode b_P_init 90 = .ok (.aastore, 1) := by decide +kernel
theorem d_P_init_91 : decode b_P_init 91 = .ok (.iinc 1 1, 3) := by decide +kernel
theorem d_P_init_94 : decode b_P_init 94 = .ok (.goto (-22), 3) := by decide +kernel
theorem d_P_init_97 : decode b_P_init 97 = .ok (.return_, 1) := by decide +kernel
theorem d_P_zone_0 : decode b_P_zone 0 = .ok (.iload_n 1, 1) := by decide +kernel
theorem d_P_zone_1 : decode b_P_zone 1 = .ok (.invokestatic 47, 3) := by decide +kernel
theorem d_P_zone_4 : decode b_P_zone 4 = .ok (.ifCond .eq 17, 3) := by decide +kernel
theorem d_P_zone_7 : decode b_P_zone 7 = .ok (.iload_n 2, 1) := by decide +kernel
theorem d_P_zone_8 : decode b_P_zone 8 = .ok (.iconst 1, 1) := by decide +kernel
theorem d_P_zone_9 : decode b_P_zone 9 = .ok (.ldc 51, 2) := by decide +kernel
theorem d_P_zone_11 : decode b_P_zone 11 = .ok (.invokestatic 52, 3) := by decide +kernel
theorem d_P_zone_14 : decode b_P_zone 14 = .ok (.ifCond .eq 7, 3) := by decide +kernel
theorem d_P_zone_17 : decode b_P_zone 17 = .ok (.iconst 1, 1) := by decide +kernel
theorem d_P_zone_18 : decode b_P_zone 18 = .ok (.goto 4, 3) := by decide +kernel
theorem d_P_zone_21 : decode b_P_zone 21 = .ok (.iconst 0, 1) := by decide +kernel
theorem d_P_zone_22 : decode b_P_zone 22 = .ok (.invokestatic 56, 3) := by decide +kernel
theorem d_P_zone_25 : decode b_P_zone 25 = .ok (.aload_n 0, 1) := by decide +kernel
theorem d_P_zone_26 : decode b_P_zone 26 = .ok (.getfield 12, 3) := by decide +kernel
theorem d_P_zone_29 : decode b_P_zone 29 = .ok (.getfield 60, 3) := by decide +kernel
theorem d_P_zone_32 : decode b_P_zone 32 = .ok (.bipush 8, 2) := by decide +kernel
theorem d_P_zone_34 : decode b_P_zone 34 = .ok (.if_icmp .ge 7, 3) := by decide +kernel
theorem d_P_zone_37 : decode b_P_zone 37 = .ok (.iconst 1, 1) := by decide +kernel
theorem d_P_zone_38 : decode b_P_zone 38 = .ok (.goto 4, 3) := by decide +kernel
theorem d_P_zone_41 : decode b_P_zone 41 = .ok (.iconst 0, 1) := by decide +kernel
theorem d_P_zone_42 : decode b_P_zone 42 = .ok (.invokestatic 63, 3) := by decide +kernel
theorem d_P_zone_45 : decode b_P_zone 45 = .ok (.aload_n 0, 1) := by decide +kernel
theorem d_P_zone_46 : decode b_P_zone 46 = .ok (.getfield 12, 3) := by decide +kernel
theorem d_P_zone_49 : decode b_P_zone 49 = .ok (.iload_n 1, 1) := by decide +kernel
theorem d_P_zone_50 : decode b_P_zone 50 = .ok (.iload_n 2, 1) := by decide +kernel
theorem d_P_zone_51 : decode b_P_zone 51 = .ok (.invokevirtual 66, 3) := by decide +kernel
theorem d_P_zone_54 : decode b_P_zone 54 = .ok (.ireturn, 1) := by decide +kernel
theorem d_P_wind_0 : decode b_P_wind 0 = .ok (.iload_n 1, 1) := by decide +kernel
theorem d_P_wind_1 : decode b_P_wind 1 = .ok (.invokestatic 70, 3) := by decide +kernel
theorem d_P_wind_4 : decode b_P_wind 4 = .ok (.ifCond .eq 20, 3) := by decide +kernel
theorem d_P_wind_7 : decode b_P_wind 7 = .ok (.iload_n 2, 1) := by decide +kernel
theorem d_P_wind_8 : decode b_P_wind 8 = .ok (.sipush (-1000), 3) := by decide +kernel
theorem d_P_wind_11 : decode b_P_wind 11 = .ok (.sipush 1000, 3) := by decide +kernel
theorem d_P_wind_14 : decode b_P_wind 14 = .ok (.invokestatic 52, 3) := by decide +kernel
theorem d_P_wind_17 : decode b_P_wind 17 = .ok (.ifCond .eq 7, 3) := by decide +kernel
theorem d_P_wind_20 : decode b_P_wind 20 = .ok (.iconst 1, 1) := by decide +kernel
theorem d_P_wind_21 : decode b_P_wind 21 = .ok (.goto 4, 3) := by decide +kernel
theorem d_P_wind_24 : decode b_P_wind 24 = .ok (.iconst 0, 1) := by decide +kernel
theorem d_P_wind_25 : decode b_P_wind 25 = .ok (.invokestatic 56, 3) := by decide +kernel
theorem d_P_wind_28 : decode b_P_wind 28 = .ok (.aload_n 0, 1) := by decide +kernel
theorem d_P_wind_29 : decode b_P_wind 29 = .ok (.getfield 12, 3) := by decide +kernel
theorem d_P_wind_32 : decode b_P_wind 32 = .ok (.iload_n 1, 1) := by decide +kernel
theorem d_P_wind_33 : decode b_P_wind 33 = .ok (.invokestatic 73, 3) := by decide +kernel
theorem d_P_wind_36 : decode b_P_wind 36 = .ok (.iload_n 2, 1) := by decide +kernel
theorem d_P_wind_37 : decode b_P_wind 37 = .ok (.invokevirtual 77, 3) := by decide +kernel
theorem d_P_wind_40 : decode b_P_wind 40 = .ok (.ireturn, 1) := by decide +kernel
theorem d_P_warmth_0 : decode b_P_warmth 0 = .ok (.aload_n 0, 1) := by decide +kernel
theorem d_P_warmth_1 : decode b_P_warmth 1 = .ok (.iload_n 1, 1) := by decide +kernel
theorem d_P_warmth_2 : decode b_P_warmth 2 = .ok (.invokevirtual 80, 3) := by decide +kernel
theorem d_P_warmth_5 : decode b_P_warmth 5 = .ok (.ifCond .eq 14, 3) := by decide +kernel
theorem d_P_warmth_8 : decode b_P_warmth 8 = .ok (.iload_n 2, 1) := by decide +kernel
theorem d_P_warmth_9 : decode b_P_warmth 9 = .ok (.invokestatic 47, 3) := by decide +kernel
theorem d_P_warmth_12 : decode b_P_warmth 12 = .ok (.ifCond .eq 7, 3) := by decide +kernel
theorem d_P_warmth_15 : decode b_P_warmth 15 = .ok (.iconst 1, 1) := by decide +kernel
theorem d_P_warmth_16 : decode b_P_warmth 16 = .ok (.goto 4, 3) := by decide +kernel
theorem d_P_warmth_19 : decode b_P_warmth 19 = .ok (.iconst 0, 1) := by decide +kernel
theorem d_P_warmth_20 : decode b_P_warmth 20 = .ok (.invokestatic 56, 3) := by decide +kernel
theorem d_P_warmth_23 : decode b_P_warmth 23 = .ok (.aload_n 0, 1) := by decide +kernel
theorem d_P_warmth_24 : decode b_P_warmth 24 = .ok (.getfield 12, 3) := by decide +kernel
theorem d_P_warmth_27 : decode b_P_warmth 27 = .ok (.iload_n 1, 1) := by decide +kernel
theorem d_P_warmth_28 : decode b_P_warmth 28 = .ok (.invokestatic 73, 3) := by decide +kernel
theorem d_P_warmth_31 : decode b_P_warmth 31 = .ok (.iload_n 2, 1) := by decide +kernel
theorem d_P_warmth_32 : decode b_P_warmth 32 = .ok (.invokevirtual 83, 3) := by decide +kernel
theorem d_P_warmth_35 : decode b_P_warmth 35 = .ok (.ireturn, 1) := by decide +kernel
theorem d_P_leak_0 : decode b_P_leak 0 = .ok (.aload_n 0, 1) := by decide +kernel
theorem d_P_leak_1 : decode b_P_leak 1 = .ok (.iload_n 1, 1) := by decide +kernel
theorem d_P_leak_2 : decode b_P_leak 2 = .ok (.iload_n 2, 1) := by decide +kernel
theorem d_P_leak_3 : decode b_P_leak 3 = .ok (.invokevirtual 86, 3) := by decide +kernel
theorem d_P_leak_6 : decode b_P_leak 6 = .ok (.ifCond .eq 39, 3) := by decide +kernel
theorem d_P_leak_9 : decode b_P_leak 9 = .ok (.iload_n 3, 1) := by decide +kernel
theorem d_P_leak_10 : decode b_P_leak 10 = .ok (.iconst 0, 1) := by decide +kernel
theorem d_P_leak_11 : decode b_P_leak 11 = .ok (.bipush 100, 2) := by decide +kernel
theorem d_P_leak_13 : decode b_P_leak 13 = .ok (.invokestatic 52, 3) := by decide +kernel
theorem d_P_leak_16 : decode b_P_leak 16 = .ok (.ifCond .eq 29, 3) := by decide +kernel
theorem d_P_leak_19 : decode b_P_leak 19 = .ok (.iload 4, 2) := by decide +kernel
theorem d_P_leak_21 : decode b_P_leak 21 = .ok (.iconst 1, 1) := by decide +kernel
theorem d_P_leak_22 : decode b_P_leak 22 = .ok (.sipush 1000, 3) := by decide +kernel
theorem d_P_leak_25 : decode b_P_leak 25 = .ok (.invokestatic 52, 3) := by decide +kernel
theorem d_P_leak_28 : decode b_P_leak 28 = .ok (.ifCond .eq 17, 3) := by decide +kernel
theorem d_P_leak_31 : decode b_P_leak 31 = .ok (.iload 5, 2) := by decide +kernel
theorem d_P_leak_33 : decode b_P_leak 33 = .ok (.iconst 0, 1) := by decide +kernel
theorem d_P_leak_34 : decode b_P_leak 34 = .ok (.iconst 1, 1) := by decide +kernel
theorem d_P_leak_35 : decode b_P_leak 35 = .ok (.invokestatic 52, 3) := by decide +kernel
theorem d_P_leak_38 : decode b_P_leak 38 = .ok (.ifCond .eq 7, 3) := by decide +kernel
theorem d_P_leak_41 : decode b_P_leak 41 = .ok (.iconst 1, 1) := by decide +kernel
theorem d_P_leak_42 : decode b_P_leak 42 = .ok (.goto 4, 3) := by decide +kernel
theorem d_P_leak_45 : decode b_P_leak 45 = .ok (.iconst 0, 1) := by decide +kernel
theorem d_P_leak_46 : decode b_P_leak 46 = .ok (.invokestatic 56, 3) := by decide +kernel
theorem d_P_leak_49 : decode b_P_leak 49 = .ok (.aload_n 0, 1) := by decide +kernel
theorem d_P_leak_50 : decode b_P_leak 50 = .ok (.getfield 12, 3) := by decide +kernel
theorem d_P_leak_53 : decode b_P_leak 53 = .ok (.getfield 90, 3) := by decide +kernel
theorem d_P_leak_56 : decode b_P_leak 56 = .ok (.bipush 20, 2) := by decide +kernel
theorem d_P_leak_58 : decode b_P_leak 58 = .ok (.if_icmp .ge 7, 3) := by decide +kernel
theorem d_P_leak_61 : decode b_P_leak 61 = .ok (.iconst 1, 1) := by decide +kernel
theorem d_P_leak_62 : decode b_P_leak 62 = .ok (.goto 4, 3) := by decide +kernel
theorem d_P_leak_65 : decode b_P_leak 65 = .ok (.iconst 0, 1) := by decide +kernel
theorem d_P_leak_66 : decode b_P_leak 66 = .ok (.invokestatic 63, 3) := by decide +kernel
theorem d_P_leak_69 : decode b_P_leak 69 = .ok (.aload_n 0, 1) := by decide +kernel
theorem d_P_leak_70 : decode b_P_leak 70 = .ok (.getfield 12, 3) := by decide +kernel
theorem d_P_leak_73 : decode b_P_leak 73 = .ok (.iload_n 1, 1) := by decide +kernel
theorem d_P_leak_74 : decode b_P_leak 74 = .ok (.invokestatic 73, 3) := by decide +kernel
theorem d_P_leak_77 : decode b_P_leak 77 = .ok (.iload_n 2, 1) := by decide +kernel
theorem d_P_leak_78 : decode b_P_leak 78 = .ok (.invokestatic 73, 3) := by decide +kernel
theorem d_P_leak_81 : decode b_P_leak 81 = .ok (.iload_n 3, 1) := by decide +kernel
theorem d_P_leak_82 : decode b_P_leak 82 = .ok (.iload 4, 2) := by decide +kernel
theorem d_P_leak_84 : decode b_P_leak 84 = .ok (.iload 5, 2) := by decide +kernel
theorem d_P_leak_86 : decode b_P_leak 86 = .ok (.invokevirtual 93, 3) := by decide +kernel
theorem d_P_leak_89 : decode b_P_leak 89 = .ok (.ireturn, 1) := by decide +kernel
theorem d_P_shut_0 : decode b_P_shut 0 = .ok (.aload_n 0, 1) := by decide +kernel
theorem d_P_shut_1 : decode b_P_shut 1 = .ok (.iload_n 1, 1) := by decide +kernel
theorem d_P_shut_2 : decode b_P_shut 2 = .ok (.invokevirtual 97, 3) := by decide +kernel
theorem d_P_shut_5 : decode b_P_shut 5 = .ok (.invokestatic 56, 3) := by decide +kernel
theorem d_P_shut_8 : decode b_P_shut 8 = .ok (.iconst 1, 1) := by decide +kernel
theorem d_P_shut_9 : decode b_P_shut 9 = .ok (.iload_n 1, 1) := by decide +kernel
theorem d_P_shut_10 : decode b_P_shut 10 = .ok (.ishl, 1) := by decide +kernel
theorem d_P_shut_11 : decode b_P_shut 11 = .ok (.istore_n 3, 1) := by decide +kernel
theorem d_P_shut_12 : decode b_P_shut 12 = .ok (.aload_n 0, 1) := by decide +kernel
theorem d_P_shut_13 : decode b_P_shut 13 = .ok (.getfield 35, 3) := by decide +kernel
theorem d_P_shut_16 : decode b_P_shut 16 = .ok (.getfield 100, 3) := by decide +kernel
theorem d_P_shut_19 : decode b_P_shut 19 = .ok (.iload_n 3, 1) := by decide +kernel
theorem d_P_shut_20 : decode b_P_shut 20 = .ok (.iand, 1) := by decide +kernel
theorem d_P_shut_21 : decode b_P_shut 21 = .ok (.ifCond .eq 7, 3) := by decide +kernel
theorem d_P_shut_24 : decode b_P_shut 24 = .ok (.iconst 1, 1) := by decide +kernel
theorem d_P_shut_25 : decode b_P_shut 25 = .ok (.goto 4, 3) := by decide +kernel
theorem d_P_shut_28 : decode b_P_shut 28 = .ok (.iconst 0, 1) := by decide +kernel
theorem d_P_shut_29 : decode b_P_shut 29 = .ok (.istore 4, 2) := by decide +kernel
theorem d_P_shut_31 : decode b_P_shut 31 = .ok (.iload 4, 2) := by decide +kernel
theorem d_P_shut_33 : decode b_P_shut 33 = .ok (.iload_n 2, 1) := by decide +kernel
theorem d_P_shut_34 : decode b_P_shut 34 = .ok (.if_icmp .eq 24, 3) := by decide +kernel
theorem d_P_shut_37 : decode b_P_shut 37 = .ok (.aload_n 0, 1) := by decide +kernel
theorem d_P_shut_38 : decode b_P_shut 38 = .ok (.getfield 35, 3) := by decide +kernel
theorem d_P_shut_41 : decode b_P_shut 41 = .ok (.dup, 1) := by decide +kernel
theorem d_P_shut_42 : decode b_P_shut 42 = .ok (.getfield 100, 3) := by decide +kernel
theorem d_P_shut_45 : decode b_P_shut 45 = .ok (.iload_n 3, 1) := by decide +kernel
theorem d_P_shut_46 : decode b_P_shut 46 = .ok (.ixor, 1) := by decide +kernel
theorem d_P_shut_47 : decode b_P_shut 47 = .ok (.putfield 100, 3) := by decide +kernel
theorem d_P_shut_50 : decode b_P_shut 50 = .ok (.aload_n 0, 1) := by decide +kernel
theorem d_P_shut_51 : decode b_P_shut 51 = .ok (.getfield 35, 3) := by decide +kernel
theorem d_P_shut_54 : decode b_P_shut 54 = .ok (.iconst (-1), 1) := by decide +kernel
theorem d_P_shut_55 : decode b_P_shut 55 = .ok (.putfield 103, 3) := by decide +kernel
theorem d_P_shut_58 : decode b_P_shut 58 = .ok (.iload 4, 2) := by decide +kernel
theorem d_P_shut_60 : decode b_P_shut 60 = .ok (.ireturn, 1) := by decide +kernel
theorem d_P_fan_0 : decode b_P_fan 0 = .ok (.aload_n 0, 1) := by decide +kernel
theorem d_P_fan_1 : decode b_P_fan 1 = .ok (.iload_n 1, 1) := by decide +kernel
theorem d_P_fan_2 : decode b_P_fan 2 = .ok (.iload_n 2, 1) := by decide +kernel
theorem d_P_fan_3 : decode b_P_fan 3 = .ok (.invokevirtual 86, 3) := by decide +kernel
theorem d_P_fan_6 : decode b_P_fan 6 = .ok (.ifCond .eq 29, 3) := by decide +kernel
theorem d_P_fan_9 : decode b_P_fan 9 = .ok (.iload_n 3, 1) := by decide +kernel
theorem d_P_fan_10 : decode b_P_fan 10 = .ok (.iconst 0, 1) := by decide +kernel
theorem d_P_fan_11 : decode b_P_fan 11 = .ok (.sipush 10000, 3) := by decide +kernel
theorem d_P_fan_14 : decode b_P_fan 14 = .ok (.invokestatic 52, 3) := by decide +kernel
theorem d_P_fan_17 : decode b_P_fan 17 = .ok (.ifCond .eq 18, 3) := by decide +kernel
theorem d_P_fan_20 : decode b_P_fan 20 = .ok (.iload 4, 2) := by decide +kernel
theorem d_P_fan_22 : decode b_P_fan 22 = .ok (.iconst 0, 1) := by decide +kernel
theorem d_P_fan_23 : decode b_P_fan 23 = .ok (.bipush 100, 2) := by decide +kernel
theorem d_P_fan_25 : decode b_P_fan 25 = .ok (.invokestatic 52, 3) := by decide +kernel
theorem d_P_fan_28 : decode b_P_fan 28 = .ok (.ifCond .eq 7, 3) := by decide +kernel
theorem d_P_fan_31 : decode b_P_fan 31 = .ok (.iconst 1, 1) := by decide +kernel
theorem d_P_fan_32 : decode b_P_fan 32 = .ok (.goto 4, 3) := by decide +kernel
theorem d_P_fan_35 : decode b_P_fan 35 = .ok (.iconst 0, 1) := by decide +kernel
theorem d_P_fan_36 : decode b_P_fan 36 = .ok (.invokestatic 56, 3) := by decide +kernel
theorem d_P_fan_39 : decode b_P_fan 39 = .ok (.aload_n 0, 1) := by decide +kernel
theorem d_P_fan_40 : decode b_P_fan 40 = .ok (.getfield 12, 3) := by decide +kernel
theorem d_P_fan_43 : decode b_P_fan 43 = .ok (.getfield 106, 3) := by decide +kernel
theorem d_P_fan_46 : decode b_P_fan 46 = .ok (.iconst 4, 1) := by decide +kernel
theorem d_P_fan_47 : decode b_P_fan 47 = .ok (.if_icmp .ge 7, 3) := by decide +kernel
theorem d_P_fan_50 : decode b_P_fan 50 = .ok (.iconst 1, 1) := by decide +kernel
theorem d_P_fan_51 : decode b_P_fan 51 = .ok (.goto 4, 3) := by decide +kernel
theorem d_P_fan_54 : decode b_P_fan 54 = .ok (.iconst 0, 1) := by decide +kernel
theorem d_P_fan_55 : decode b_P_fan 55 = .ok (.invokestatic 63, 3) := by decide +kernel
theorem d_P_fan_58 : decode b_P_fan 58 = .ok (.aload_n 0, 1) := by decide +kernel
theorem d_P_fan_59 : decode b_P_fan 59 = .ok (.getfield 12, 3) := by decide +kernel
theorem d_P_fan_62 : decode b_P_fan 62 = .ok (.iload_n 1, 1) := by decide +kernel
theorem d_P_fan_63 : decode b_P_fan 63 = .ok (.invokestatic 73, 3) := by decide +kernel
theorem d_P_fan_66 : decode b_P_fan 66 = .ok (.iload_n 2, 1) := by decide +kernel
theorem d_P_fan_67 : decode b_P_fan 67 = .ok (.invokestatic 73, 3) := by decide +kernel
theorem d_P_fan_70 : decode b_P_fan 70 = .ok (.iload_n 3, 1) := by decide +kernel
theorem d_P_fan_71 : decode b_P_fan 71 = .ok (.iload 4, 2) := by decide +kernel
theorem d_P_fan_73 : decode b_P_fan 73 = .ok (.invokevirtual 109, 3) := by decide +kernel
theorem d_P_fan_76 : decode b_P_fan 76 = .ok (.ireturn, 1) := by decide +kernel
theorem d_P_pressure_0 : decode b_P_pressure 0 = .ok (.aload_n 0, 1) := by decide +kernel
theorem d_P_pressure_1 : decode b_P_pressure 1 = .ok (.iload_n 1, 1) := by decide +kernel
theorem d_P_pressure_2 : decode b_P_pressure 2 = .ok (.invokevirtual 80, 3) := by decide +kernel
theorem d_P_pressure_5 : decode b_P_pressure 5 = .ok (.invokestatic 56, 3) := by decide +kernel
theorem d_P_pressure_8 : decode b_P_pressure 8 = .ok (.iload_n 1, 1) := by decide +kernel
theorem d_P_pressure_9 : decode b_P_pressure 9 = .ok (.invokestatic 70, 3) := by decide +kernel
theorem d_P_pressure_12 : decode b_P_pressure 12 = .ok (.ifCond .eq 16, 3) := by decide +kernel
theorem d_P_pressure_15 : decode b_P_pressure 15 = .ok (.aload_n 0, 1) := by decide +kernel
theorem d_P_pressure_16 : decode b_P_pressure 16 = .ok (.getfield 12, 3) := by decide +kernel
theorem d_P_pressure_19 : decode b_P_pressure 19 = .ok (.getfield 113, 3) := by decide +kernel
theorem d_P_pressure_22 : decode b_P_pressure 22 = .ok (.iload_n 1, 1) := by decide +kernel
theorem d_P_pressure_23 : decode b_P_pressure 23 = .ok (.invokestatic 73, 3) := by decide +kernel
theorem d_P_pressure_26 : decode b_P_pressure 26 = .ok (.iaload, 1) := by decide +kernel
theorem d_P_pressure_27 : decode b_P_pressure 27 = .ok (.ireturn, 1) := by decide +kernel
theorem d_P_pressure_28 : decode b_P_pressure 28 = .ok (.aload_n 0, 1) := by decide +kernel
theorem d_P_pressure_29 : decode b_P_pressure 29 = .ok (.getfield 21, 3) := by decide +kernel
theorem d_P_pressure_32 : decode b_P_pressure 32 = .ok (.aload_n 0, 1) := by decide +kernel
theorem d_P_pressure_33 : decode b_P_pressure 33 = .ok (.getfield 35, 3) := by decide +kernel
theorem d_P_pressure_36 : decode b_P_pressure 36 = .ok (.invokevirtual 117, 3) := by decide +kernel
theorem d_P_pressure_39 : decode b_P_pressure 39 = .ok (.ifCond .eq 18, 3) := by decide +kernel
theorem d_P_pressure_42 : decode b_P_pressure 42 = .ok (.aload_n 0, 1) := by decide +kernel
theorem d_P_pressure_43 : decode b_P_pressure 43 = .ok (.getfield 35, 3) := by decide +kernel
theorem d_P_pressure_46 : decode b_P_pressure 46 = .ok (.getfield 121, 3) := by decide +kernel
theorem d_P_pressure_49 : decode b_P_pressure 49 = .ok (.iload_n 1, 1) := by decide +kernel
theorem d_P_pressure_50 : decode b_P_pressure 50 = .ok (.invokestatic 73, 3) := by decide +kernel
theorem d_P_pressure_53 : decode b_P_pressure 53 = .ok (.iaload, 1) := by decide +kernel
theorem d_P_pressure_54 : decode b_P_pressure 54 = .ok (.goto 5, 3) := by decide +kernel
theorem d_P_pressure_57 : decode b_P_pressure 57 = .ok (.ldc 124, 2) := by decide +kernel
theorem d_P_pressure_59 : decode b_P_pressure 59 = .ok (.ireturn, 1) := by decide +kernel
theorem d_P_told_0 : decode b_P_told 0 = .ok (.aload_n 0, 1) := by decide +kernel
theorem d_P_told_1 : decode b_P_told 1 = .ok (.iload_n 1, 1) := by decide +kernel
theorem d_P_told_2 : decode b_P_told 2 = .ok (.invokevirtual 97, 3) := by decide +kernel
theorem d_P_told_5 : decode b_P_told 5 = .ok (.ifCond .eq 16, 3) := by decide +kernel
theorem d_P_told_8 : decode b_P_told 8 = .ok (.iload_n 2, 1) := by decide +kernel
theorem d_P_told_9 : decode b_P_told 9 = .ok (.iconst 0, 1) := by decide +kernel
theorem d_P_told_10 : decode b_P_told 10 = .ok (.iconst 1, 1) := by decide +kernel
theorem d_P_told_11 : decode b_P_told 11 = .ok (.invokestatic 52, 3) := by decide +kernel
theorem d_P_told_14 : decode b_P_told 14 = .ok (.ifCond .eq 7, 3) := by decide +kernel
theorem d_P_told_17 : decode b_P_told 17 = .ok (.iconst 1, 1) := by decide +kernel
theorem d_P_told_18 : decode b_P_told 18 = .ok (.goto 4, 3) := by decide +kernel
theorem d_P_told_21 : decode b_P_told 21 = .ok (.iconst 0, 1) := by decide +kernel
theorem d_P_told_22 : decode b_P_told 22 = .ok (.invokestatic 56, 3) := by decide +kernel
theorem d_P_told_25 : decode b_P_told 25 = .ok (.aload_n 0, 1) := by decide +kernel
theorem d_P_told_26 : decode b_P_told 26 = .ok (.getfield 21, 3) := by decide +kernel
theorem d_P_told_29 : decode b_P_told 29 = .ok (.aload_n 0, 1) := by decide +kernel
theorem d_P_told_30 : decode b_P_told 30 = .ok (.getfield 35, 3) := by decide +kernel
theorem d_P_told_33 : decode b_P_told 33 = .ok (.invokevirtual 117, 3) := by decide +kernel
theorem d_P_told_36 : decode b_P_told 36 = .ok (.ifCond .ne 6, 3) := by decide +kernel
theorem d_P_told_39 : decode b_P_told 39 = .ok (.ldc 124, 2) := by decide +kernel
theorem d_P_told_41 : decode b_P_told 41 = .ok (.ireturn, 1) := by decide +kernel
theorem d_P_told_42 : decode b_P_told 42 = .ok (.iload_n 2, 1) := by decide +kernel
theorem d_P_told_43 : decode b_P_told 43 = .ok (.ifCond .ne 21, 3) := by decide +kernel
theorem d_P_told_46 : decode b_P_told 46 = .ok (.aload_n 0, 1) := by decide +kernel
theorem d_P_told_47 : decode b_P_told 47 = .ok (.getfield 12, 3) := by decide +kernel
theorem d_P_told_50 : decode b_P_told 50 = .ok (.iload_n 1, 1) := by decide +kernel
theorem d_P_told_51 : decode b_P_told 51 = .ok (.aload_n 0, 1) := by decide +kernel
theorem d_P_told_52 : decode b_P_told 52 = .ok (.getfield 35, 3) := by decide +kernel
theorem d_P_told_55 : decode b_P_told 55 = .ok (.getfield 121, 3) := by decide +kernel
theorem d_P_told_58 : decode b_P_told 58 = .ok (.invokevirtual 125, 3) := by decide +kernel
theorem d_P_told_61 : decode b_P_told 61 = .ok (.goto 15, 3) := by decide +kernel
theorem d_P_told_64 : decode b_P_told 64 = .ok (.aload_n 0, 1) := by decide +kernel
theorem d_P_told_65 : decode b_P_told 65 = .ok (.getfield 12, 3) := by decide +kernel
theorem d_P_told_68 : decode b_P_told 68 = .ok (.iload_n 1, 1) := by decide +kernel
theorem d_P_told_69 : decode b_P_told 69 = .ok (.aload_n 0, 1) := by decide +kernel
theorem d_P_told_70 : decode b_P_told 70 = .ok (.getfield 35, 3) := by decide +kernel
theorem d_P_told_73 : decode b_P_told 73 = .ok (.invokevirtual 129, 3) := by decide +kernel
theorem d_P_told_76 : decode b_P_told 76 = .ok (.ireturn, 1) := by decide +kernel
theorem d_P_blows_0 : decode b_P_blows 0 = .ok (.iload_n 1, 1) := by decide +kernel
theorem d_P_blows_1 : decode b_P_blows 1 = .ok (.iconst 0, 1) := by decide +kernel
theorem d_P_blows_2 : decode b_P_blows 2 = .ok (.aload_n 0, 1) := by decide +kernel
theorem d_P_blows_3 : decode b_P_blows 3 = .ok (.getfield 12, 3) := by decide +kernel
theorem d_P_blows_6 : decode b_P_blows 6 = .ok (.getfield 106, 3) := by decide +kernel
