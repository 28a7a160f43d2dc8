theorem d_N_init_0 : decode b_N_init 0 = .ok (.aload_n 0, 1) := by decide +kernel
theorem d_N_init_1 : decode b_N_init 1 = .ok (.invokespecial 3, 3) := by decide +kernel
theorem d_N_init_4 : decode b_N_init 4 = .ok (.aload_n 0, 1) := by decide +kernel
theorem d_N_init_5 : decode b_N_init 5 = .ok (.iconst 4, 1) := by decide +kernel
theorem d_N_init_6 : decode b_N_init 6 = .ok (.newarray .int, 2) := by decide +kernel
theorem d_N_init_8 : decode b_N_init 8 = .ok (.putfield 9, 3) := by decide +kernel
theorem d_N_init_11 : decode b_N_init 11 = .ok (.aload_n 0, 1) := by decide +kernel
theorem d_N_init_12 : decode b_N_init 12 = .ok (.bipush 12, 2) := by decide +kernel
theorem d_N_init_14 : decode b_N_init 14 = .ok (.newarray .int, 2) := by decide +kernel
theorem d_N_init_16 : decode b_N_init 16 = .ok (.putfield 15, 3) := by decide +kernel
theorem d_N_init_19 : decode b_N_init 19 = .ok (.aload_n 0, 1) := by decide +kernel
theorem d_N_init_20 : decode b_N_init 20 = .ok (.bipush 8, 2) := by decide +kernel
theorem d_N_init_22 : decode b_N_init 22 = .ok (.newarray .int, 2) := by decide +kernel
theorem d_N_init_24 : decode b_N_init 24 = .ok (.putfield 18, 3) := by decide +kernel
theorem d_N_init_27 : decode b_N_init 27 = .ok (.aload_n 0, 1) := by decide +kernel
theorem d_N_init_28 : decode b_N_init 28 = .ok (.bipush 24, 2) := by decide +kernel
theorem d_N_init_30 : decode b_N_init 30 = .ok (.newarray .int, 2) := by decide +kernel
theorem d_N_init_32 : decode b_N_init 32 = .ok (.putfield 21, 3) := by decide +kernel
theorem d_N_init_35 : decode b_N_init 35 = .ok (.aload_n 0, 1) := by decide +kernel
theorem d_N_init_36 : decode b_N_init 36 = .ok (.bipush 24, 2) := by decide +kernel
theorem d_N_init_38 : decode b_N_init 38 = .ok (.newarray .int, 2) := by decide +kernel
theorem d_N_init_40 : decode b_N_init 40 = .ok (.putfield 24, 3) := by decide +kernel
theorem d_N_init_43 : decode b_N_init 43 = .ok (.aload_n 0, 1) := by decide +kernel
theorem d_N_init_44 : decode b_N_init 44 = .ok (.bipush 20, 2) := by decide +kernel
theorem d_N_init_46 : decode b_N_init 46 = .ok (.newarray .int, 2) := by decide +kernel
theorem d_N_init_48 : decode b_N_init 48 = .ok (.putfield 27, 3) := by decide +kernel
theorem d_N_init_51 : decode b_N_init 51 = .ok (.aload_n 0, 1) := by decide +kernel
theorem d_N_init_52 : decode b_N_init 52 = .ok (.bipush 20, 2) := by decide +kernel
theorem d_N_init_54 : decode b_N_init 54 = .ok (.newarray .int, 2) := by decide +kernel
theorem d_N_init_56 : decode b_N_init 56 = .ok (.putfield 30, 3) := by decide +kernel
theorem d_N_init_59 : decode b_N_init 59 = .ok (.aload_n 0, 1) := by decide +kernel
theorem d_N_init_60 : decode b_N_init 60 = .ok (.bipush 20, 2) := by decide +kernel
theorem d_N_init_62 : decode b_N_init 62 = .ok (.newarray .int, 2) := by decide +kernel
theorem d_N_init_64 : decode b_N_init 64 = .ok (.putfield 33, 3) := by decide +kernel
theorem d_N_init_67 : decode b_N_init 67 = .ok (.aload_n 0, 1) := by decide +kernel
theorem d_N_init_68 : decode b_N_init 68 = .ok (.bipush 20, 2) := by decide +kernel
theorem d_N_init_70 : decode b_N_init 70 = .ok (.newarray .int, 2) := by decide +kernel
theorem d_N_init_72 : decode b_N_init 72 = .ok (.putfield 36, 3) := by decide +kernel
theorem d_N_init_75 : decode b_N_init 75 = .ok (.aload_n 0, 1) := by decide +kernel
theorem d_N_init_76 : decode b_N_init 76 = .ok (.iconst 4, 1) := by decide +kernel
theorem d_N_init_77 : decode b_N_init 77 = .ok (.newarray .int, 2) := by decide +kernel
theorem d_N_init_79 : decode b_N_init 79 = .ok (.putfield 39, 3) := by decide +kernel
theorem d_N_init_82 : decode b_N_init 82 = .ok (.aload_n 0, 1) := by decide +kernel
theorem d_N_init_83 : decode b_N_init 83 = .ok (.iconst 4, 1) := by decide +kernel
theorem d_N_init_84 : decode b_N_init 84 = .ok (.newarray .int, 2) := by decide +kernel
theorem d_N_init_86 : decode b_N_init 86 = .ok (.putfield 42, 3) := by decide +kernel
theorem d_N_init_89 : decode b_N_init 89 = .ok (.aload_n 0, 1) := by decide +kernel
theorem d_N_init_90 : decode b_N_init 90 = .ok (.bipush 12, 2) := by decide +kernel
theorem d_N_init_92 : decode b_N_init 92 = .ok (.bipush 24, 2) := by decide +kernel
theorem d_N_init_94 : decode b_N_init 94 = .ok (.multianewarray 45 2, 4) := by decide +kernel
theorem d_N_init_98 : decode b_N_init 98 = .ok (.putfield 47, 3) := by decide +kernel
theorem d_N_init_101 : decode b_N_init 101 = .ok (.aload_n 0, 1) := by decide +kernel
theorem d_N_init_102 : decode b_N_init 102 = .ok (.bipush 12, 2) := by decide +kernel
theorem d_N_init_104 : decode b_N_init 104 = .ok (.newarray .int, 2) := by decide +kernel
theorem d_N_init_106 : decode b_N_init 106 = .ok (.putfield 50, 3) := by decide +kernel
theorem d_N_init_109 : decode b_N_init 109 = .ok (.aload_n 0, 1) := by decide +kernel
theorem d_N_init_110 : decode b_N_init 110 = .ok (.iconst 0, 1) := by decide +kernel
theorem d_N_init_111 : decode b_N_init 111 = .ok (.putfield 53, 3) := by decide +kernel
theorem d_N_init_114 : decode b_N_init 114 = .ok (.aload_n 0, 1) := by decide +kernel
theorem d_N_init_115 : decode b_N_init 115 = .ok (.iconst 0, 1) := by decide +kernel
theorem d_N_init_116 : decode b_N_init 116 = .ok (.putfield 57, 3) := by decide +kernel
theorem d_N_init_119 : decode b_N_init 119 = .ok (.aload_n 0, 1) := by decide +kernel
theorem d_N_init_120 : decode b_N_init 120 = .ok (.iconst 0, 1) := by decide +kernel
theorem d_N_init_121 : decode b_N_init 121 = .ok (.putfield 60, 3) := by decide +kernel
theorem d_N_init_124 : decode b_N_init 124 = .ok (.aload_n 0, 1) := by decide +kernel
theorem d_N_init_125 : decode b_N_init 125 = .ok (.iconst 0, 1) := by decide +kernel
theorem d_N_init_126 : decode b_N_init 126 = .ok (.putfield 63, 3) := by decide +kernel
theorem d_N_init_129 : decode b_N_init 129 = .ok (.return_, 1) := by decide +kernel
theorem d_N_addZone_0 : decode b_N_addZone 0 = .ok (.aload_n 0, 1) := by decide +kernel
theorem d_N_addZone_1 : decode b_N_addZone 1 = .ok (.getfield 53, 3) := by decide +kernel
theorem d_N_addZone_4 : decode b_N_addZone 4 = .ok (.istore_n 3, 1) := by decide +kernel
theorem d_N_addZone_5 : decode b_N_addZone 5 = .ok (.aload_n 0, 1) := by decide +kernel
theorem d_N_addZone_6 : decode b_N_addZone 6 = .ok (.getfield 15, 3) := by decide +kernel
theorem d_N_addZone_9 : decode b_N_addZone 9 = .ok (.iload_n 3, 1) := by decide +kernel
theorem d_N_addZone_10 : decode b_N_addZone 10 = .ok (.invokestatic 66, 3) := by decide +kernel
theorem d_N_addZone_13 : decode b_N_addZone 13 = .ok (.iload_n 1, 1) := by decide +kernel
theorem d_N_addZone_14 : decode b_N_addZone 14 = .ok (.iastore, 1) := by decide +kernel
theorem d_N_addZone_15 : decode b_N_addZone 15 = .ok (.aload_n 0, 1) := by decide +kernel
theorem d_N_addZone_16 : decode b_N_addZone 16 = .ok (.getfield 18, 3) := by decide +kernel
theorem d_N_addZone_19 : decode b_N_addZone 19 = .ok (.iload_n 3, 1) := by decide +kernel
theorem d_N_addZone_20 : decode b_N_addZone 20 = .ok (.iload_n 2, 1) := by decide +kernel
theorem d_N_addZone_21 : decode b_N_addZone 21 = .ok (.iastore, 1) := by decide +kernel
theorem d_N_addZone_22 : decode b_N_addZone 22 = .ok (.aload_n 0, 1) := by decide +kernel
theorem d_N_addZone_23 : decode b_N_addZone 23 = .ok (.dup, 1) := by decide +kernel
theorem d_N_addZone_24 : decode b_N_addZone 24 = .ok (.getfield 53, 3) := by decide +kernel
theorem d_N_addZone_27 : decode b_N_addZone 27 = .ok (.iconst 1, 1) := by decide +kernel
theorem d_N_addZone_28 : decode b_N_addZone 28 = .ok (.iadd, 1) := by decide +kernel
theorem d_N_addZone_29 : decode b_N_addZone 29 = .ok (.putfield 53, 3) := by decide +kernel
theorem d_N_addZone_32 : decode b_N_addZone 32 = .ok (.aload_n 0, 1) := by decide +kernel
theorem d_N_addZone_33 : decode b_N_addZone 33 = .ok (.dup, 1) := by decide +kernel
theorem d_N_addZone_34 : decode b_N_addZone 34 = .ok (.getfield 63, 3) := by decide +kernel
theorem d_N_addZone_37 : decode b_N_addZone 37 = .ok (.iconst 1, 1) := by decide +kernel
theorem d_N_addZone_38 : decode b_N_addZone 38 = .ok (.iadd, 1) := by decide +kernel
theorem d_N_addZone_39 : decode b_N_addZone 39 = .ok (.putfield 63, 3) := by decide +kernel
theorem d_N_addZone_42 : decode b_N_addZone 42 = .ok (.iload_n 3, 1) := by decide +kernel
theorem d_N_addZone_43 : decode b_N_addZone 43 = .ok (.ireturn, 1) := by decide +kernel
theorem d_N_changeWind_0 : decode b_N_changeWind 0 = .ok (.aload_n 0, 1) := by decide +kernel
theorem d_N_changeWind_1 : decode b_N_changeWind 1 = .ok (.getfield 9, 3) := by decide +kernel
theorem d_N_changeWind_4 : decode b_N_changeWind 4 = .ok (.iload_n 1, 1) := by decide +kernel
theorem d_N_changeWind_5 : decode b_N_changeWind 5 = .ok (.iaload, 1) := by decide +kernel
theorem d_N_changeWind_6 : decode b_N_changeWind 6 = .ok (.istore_n 3, 1) := by decide +kernel
theorem d_N_changeWind_7 : decode b_N_changeWind 7 = .ok (.aload_n 0, 1) := by decide +kernel
theorem d_N_changeWind_8 : decode b_N_changeWind 8 = .ok (.getfield 9, 3) := by decide +kernel
theorem d_N_changeWind_11 : decode b_N_changeWind 11 = .ok (.iload_n 1, 1) := by decide +kernel
theorem d_N_changeWind_12 : decode b_N_changeWind 12 = .ok (.iload_n 2, 1) := by decide +kernel
theorem d_N_changeWind_13 : decode b_N_changeWind 13 = .ok (.iastore, 1) := by decide +kernel
theorem d_N_changeWind_14 : decode b_N_changeWind 14 = .ok (.aload_n 0, 1) := by decide +kernel
theorem d_N_changeWind_15 : decode b_N_changeWind 15 = .ok (.dup, 1) := by decide +kernel
theorem d_N_changeWind_16 : decode b_N_changeWind 16 = .ok (.getfield 63, 3) := by decide +kernel
theorem d_N_changeWind_19 : decode b_N_changeWind 19 = .ok (.iconst 1, 1) := by decide +kernel
theorem d_N_changeWind_20 : decode b_N_changeWind 20 = .ok (.iadd, 1) := by decide +kernel
theorem d_N_changeWind_21 : decode b_N_changeWind 21 = .ok (.putfield 63, 3) := by decide +kernel
theorem d_N_changeWind_24 : decode b_N_changeWind 24 = .ok (.iload_n 3, 1) := by decide +kernel
theorem d_N_changeWind_25 : decode b_N_changeWind 25 = .ok (.ireturn, 1) := by decide +kernel
theorem d_N_changeWarmth_0 : decode b_N_changeWarmth 0 = .ok (.aload_n 0, 1) := by decide +kernel
theorem d_N_changeWarmth_1 : decode b_N_changeWarmth 1 = .ok (.getfield 15, 3) := by decide +kernel
theorem d_N_changeWarmth_4 : decode b_N_changeWarmth 4 = .ok (.iload_n 1, 1) := by decide +kernel
theorem d_N_changeWarmth_5 : decode b_N_changeWarmth 5 = .ok (.iaload, 1) := by decide +kernel
theorem d_N_changeWarmth_6 : decode b_N_changeWarmth 6 = .ok (.istore_n 3, 1) := by decide +kernel
theorem d_N_changeWarmth_7 : decode b_N_changeWarmth 7 = .ok (.aload_n 0, 1) := by decide +kernel
theorem d_N_changeWarmth_8 : decode b_N_changeWarmth 8 = .ok (.getfield 15, 3) := by decide +kernel
theorem d_N_changeWarmth_11 : decode b_N_changeWarmth 11 = .ok (.iload_n 1, 1) := by decide +kernel
theorem d_N_changeWarmth_12 : decode b_N_changeWarmth 12 = .ok (.iload_n 2, 1) := by decide +kernel
theorem d_N_changeWarmth_13 : decode b_N_changeWarmth 13 = .ok (.iastore, 1) := by decide +kernel
theorem d_N_changeWarmth_14 : decode b_N_changeWarmth 14 = .ok (.iconst 0, 1) := by decide +kernel
theorem d_N_changeWarmth_15 : decode b_N_changeWarmth 15 = .ok (.istore 4, 2) := by decide +kernel
theorem d_N_changeWarmth_17 : decode b_N_changeWarmth 17 = .ok (.iload 4, 2) := by decide +kernel
theorem d_N_changeWarmth_19 : decode b_N_changeWarmth 19 = .ok (.iconst 4, 1) := by decide +kernel
theorem d_N_changeWarmth_20 : decode b_N_changeWarmth 20 = .ok (.if_icmp .ge 22, 3) := by decide +kernel
theorem d_N_changeWarmth_23 : decode b_N_changeWarmth 23 = .ok (.iload_n 1, 1) := by decide +kernel
theorem d_N_changeWarmth_24 : decode b_N_changeWarmth 24 = .ok (.iconst 4, 1) := by decide +kernel
theorem d_N_changeWarmth_25 : decode b_N_changeWarmth 25 = .ok (.if_icmp .ge 17, 3) := by decide +kernel
theorem d_N_changeWarmth_28 : decode b_N_changeWarmth 28 = .ok (.aload_n 0, 1) := by decide +kernel
theorem d_N_changeWarmth_29 : decode b_N_changeWarmth 29 = .ok (.getfield 15, 3) := by decide +kernel
theorem d_N_changeWarmth_32 : decode b_N_changeWarmth 32 = .ok (.iload 4, 2) := by decide +kernel
theorem d_N_changeWarmth_34 : decode b_N_changeWarmth 34 = .ok (.iload_n 2, 1) := by decide +kernel
theorem d_N_changeWarmth_35 : decode b_N_changeWarmth 35 = .ok (.iastore, 1) := by decide +kernel
theorem d_N_changeWarmth_36 : decode b_N_changeWarmth 36 = .ok (.iinc 4 1, 3) := by decide +kernel
theorem d_N_changeWarmth_39 : decode b_N_changeWarmth 39 = .ok (.goto (-22), 3) := by decide +kernel
theorem d_N_changeWarmth_42 : decode b_N_changeWarmth 42 = .ok (.iconst 0, 1) := by decide +kernel
theorem d_N_changeWarmth_43 : decode b_N_changeWarmth 43 = .ok (.istore 4, 2) := by decide +kernel
theorem d_N_changeWarmth_45 : decode b_N_changeWarmth 45 = .ok (.iload 4, 2) := by decide +kernel
theorem d_N_changeWarmth_47 : decode b_N_changeWarmth 47 = .ok (.aload_n 0, 1) := by decide +kernel
theorem d_N_changeWarmth_48 : decode b_N_changeWarmth 48 = .ok (.getfield 57, 3) := by decide +kernel
theorem d_N_changeWarmth_51 : decode b_N_changeWarmth 51 = .ok (.if_icmp .ge 15, 3) := by decide +kernel
theorem d_N_changeWarmth_54 : decode b_N_changeWarmth 54 = .ok (.aload_n 0, 1) := by decide +kernel
theorem d_N_changeWarmth_55 : decode b_N_changeWarmth 55 = .ok (.iload 4, 2) := by decide +kernel
theorem d_N_changeWarmth_57 : decode b_N_changeWarmth 57 = .ok (.invokevirtual 70, 3) := by decide +kernel
theorem d_N_changeWarmth_60 : decode b_N_changeWarmth 60 = .ok (.iinc 4 1, 3) := by decide +kernel
theorem d_N_changeWarmth_63 : decode b_N_changeWarmth 63 = .ok (.goto (-18), 3) := by decide +kernel
theorem d_N_changeWarmth_66 : decode b_N_changeWarmth 66 = .ok (.aload_n 0, 1) := by decide +kernel
theorem d_N_changeWarmth_67 : decode b_N_changeWarmth 67 = .ok (.dup, 1) := by decide +kernel
theorem d_N_changeWarmth_68 : decode b_N_changeWarmth 68 = .ok (.getfield 63, 3) := by decide +kernel
theorem d_N_changeWarmth_71 : decode b_N_changeWarmth 71 = .ok (.iconst 1, 1) := by decide +kernel
theorem d_N_changeWarmth_72 : decode b_N_changeWarmth 72 = .ok (.iadd, 1) := by decide +kernel
theorem d_N_changeWarmth_73 : decode b_N_changeWarmth 73 = .ok (.putfield 63, 3) := by decide +kernel
theorem d_N_changeWarmth_76 : decode b_N_changeWarmth 76 = .ok (.iload_n 3, 1) := by decide +kernel
theorem d_N_changeWarmth_77 : decode b_N_changeWarmth 77 = .ok (.ireturn, 1) := by decide +kernel
theorem d_N_addLeak_0 : decode b_N_addLeak 0 = .ok (.aload_n 0, 1) := by decide +kernel
theorem d_N_addLeak_1 : decode b_N_addLeak 1 = .ok (.getfield 57, 3) := by decide +kernel
theorem d_N_addLeak_4 : decode b_N_addLeak 4 = .ok (.istore 6, 2) := by decide +kernel
theorem d_N_addLeak_6 : decode b_N_addLeak 6 = .ok (.aload_n 0, 1) := by decide +kernel
theorem d_N_addLeak_7 : decode b_N_addLeak 7 = .ok (.getfield 27, 3) := by decide +kernel
theorem d_N_addLeak_10 : decode b_N_addLeak 10 = .ok (.iload 6, 2) := by decide +kernel
theorem d_N_addLeak_12 : decode b_N_addLeak 12 = .ok (.iload_n 3, 1) := by decide +kernel
theorem d_N_addLeak_13 : decode b_N_addLeak 13 = .ok (.iastore, 1) := by decide +kernel
theorem d_N_addLeak_14 : decode b_N_addLeak 14 = .ok (.aload_n 0, 1) := by decide +kernel
theorem d_N_addLeak_15 : decode b_N_addLeak 15 = .ok (.getfield 30, 3) := by decide +kernel
theorem d_N_addLeak_18 : decode b_N_addLeak 18 = .ok (.iload 6, 2) := by decide +kernel
theorem d_N_addLeak_20 : decode b_N_addLeak 20 = .ok (.iload 4, 2) := by decide +kernel
theorem d_N_addLeak_22 : decode b_N_addLeak 22 = .ok (.iastore, 1) := by decide +kernel
theorem d_N_addLeak_23 : decode b_N_addLeak 23 = .ok (.aload_n 0, 1) := by decide +kernel
theorem d_N_addLeak_24 : decode b_N_addLeak 24 = .ok (.getfield 33, 3) := by decide +kernel
theorem d_N_addLeak_27 : decode b_N_addLeak 27 = .ok (.iload 6, 2) := by decide +kernel
theorem d_N_addLeak_29 : decode b_N_addLeak 29 = .ok (.iload 5, 2) := by decide +kernel
theorem d_N_addLeak_31 : decode b_N_addLeak 31 = .ok (.iastore, 1) := by decide +kernel
theorem d_N_addLeak_32 : decode b_N_addLeak 32 = .ok (.aload_n 0, 1) := by decide +kernel
theorem d_N_addLeak_33 : decode b_N_addLeak 33 = .ok (.dup, 1) := by decide +kernel
theorem d_N_addLeak_34 : decode b_N_addLeak 34 = .ok (.getfield 57, 3) := by decide +kernel
theorem d_N_addLeak_37 : decode b_N_addLeak 37 = .ok (.iconst 1, 1) := by decide +kernel
theorem d_N_addLeak_38 : decode b_N_addLeak 38 = .ok (.iadd, 1) := by decide +kernel
theorem d_N_addLeak_39 : decode b_N_addLeak 39 = .ok (.putfield 57, 3) := by decide +kernel
theorem d_N_addLeak_42 : decode b_N_addLeak 42 = .ok (.aload_n 0, 1) := by decide +kernel
theorem d_N_addLeak_43 : decode b_N_addLeak 43 = .ok (.iload 6, 2) := by decide +kernel
theorem d_N_addLeak_45 : decode b_N_addLeak 45 = .ok (.iload_n 1, 1) := by decide +kernel
theorem d_N_addLeak_46 : decode b_N_addLeak 46 = .ok (.iload_n 2, 1) := by decide +kernel
theorem d_N_addLeak_47 : decode b_N_addLeak 47 = .ok (.invokevirtual 74, 3) := by decide +kernel
theorem d_N_addLeak_50 : decode b_N_addLeak 50 = .ok (.aload_n 0, 1) := by decide +kernel
theorem d_N_addLeak_51 : decode b_N_addLeak 51 = .ok (.iload 6, 2) := by decide +kernel
theorem d_N_addLeak_53 : decode b_N_addLeak 53 = .ok (.invokevirtual 70, 3) := by decide +kernel
theorem d_N_addLeak_56 : decode b_N_addLeak 56 = .ok (.iload 6, 2) := by decide +kernel
theorem d_N_addLeak_58 : decode b_N_addLeak 58 = .ok (.ireturn, 1) := by decide +kernel
theorem d_N_addFan_0 : decode b_N_addFan 0 = .ok (.aload_n 0, 1) := by decide +kernel
theorem d_N_addFan_1 : decode b_N_addFan 1 = .ok (.getfield 60, 3) := by decide +kernel
theorem d_N_addFan_4 : decode b_N_addFan 4 = .ok (.istore 5, 2) := by decide +kernel
theorem d_N_addFan_6 : decode b_N_addFan 6 = .ok (.aload_n 0, 1) := by decide +kernel
theorem d_N_addFan_7 : decode b_N_addFan 7 = .ok (.getfield 39, 3) := by decide +kernel
theorem d_N_addFan_10 : decode b_N_addFan 10 = .ok (.iload 5, 2) := by decide +kernel
theorem d_N_addFan_12 : decode b_N_addFan 12 = .ok (.iload_n 3, 1) := by decide +kernel
theorem d_N_addFan_13 : decode b_N_addFan 13 = .ok (.iastore, 1) := by decide +kernel
theorem d_N_addFan_14 : decode b_N_addFan 14 = .ok (.aload_n 0, 1) := by decide +kernel
theorem d_N_addFan_15 : decode b_N_addFan 15 = .ok (.getfield 42, 3) := by decide +kernel
theorem d_N_addFan_18 : decode b_N_addFan 18 = .ok (.iload 5, 2) := by decide +kernel
theorem d_N_addFan_20 : decode b_N_addFan 20 = .ok (.iload 4, 2) := by decide +kernel
theorem d_N_addFan_22 : decode b_N_addFan 22 = .ok (.iastore, 1) := by decide +kernel
theorem d_N_addFan_23 : decode b_N_addFan 23 = .ok (.aload_n 0, 1) := by decide +kernel
theorem d_N_addFan_24 : decode b_N_addFan 24 = .ok (.dup, 1) := by decide +kernel
theorem d_N_addFan_25 : decode b_N_addFan 25 = .ok (.getfield 60, 3) := by decide +kernel
theorem d_N_addFan_28 : decode b_N_addFan 28 = .ok (.iconst 1, 1) := by decide +kernel
theorem d_N_addFan_29 : decode b_N_addFan 29 = .ok (.iadd, 1) := by decide +kernel
theorem d_N_addFan_30 : decode b_N_addFan 30 = .ok (.putfield 60, 3) := by decide +kernel
theorem d_N_addFan_33 : decode b_N_addFan 33 = .ok (.aload_n 0, 1) := by decide +kernel
theorem d_N_addFan_34 : decode b_N_addFan 34 = .ok (.iload 5, 2) := by decide +kernel
theorem d_N_addFan_36 : decode b_N_addFan 36 = .ok (.invokestatic 78, 3) := by decide +kernel
theorem d_N_addFan_39 : decode b_N_addFan 39 = .ok (.iload_n 1, 1) := by decide +kernel
theorem d_N_addFan_40 : decode b_N_addFan 40 = .ok (.iload_n 2, 1) := by decide +kernel
theorem d_N_addFan_41 : decode b_N_addFan 41 = .ok (.invokevirtual 74, 3) := by decide +kernel
theorem d_N_addFan_44 : decode b_N_addFan 44 = .ok (.iload 5, 2) := by decide +kernel
theorem d_N_addFan_46 : decode b_N_addFan 46 = .ok (.ireturn, 1) := by decide +kernel
theorem d_N_join_0 : decode b_N_join 0 = .ok (.aload_n 0, 1) := by decide +kernel
theorem d_N_join_1 : decode b_N_join 1 = .ok (.getfield 21, 3) := by decide +kernel
theorem d_N_join_4 : decode b_N_join 4 = .ok (.iload_n 1, 1) := by decide +kernel
theorem d_N_join_5 : decode b_N_join 5 = .ok (.iload_n 2, 1) := by decide +kernel
theorem d_N_join_6 : decode b_N_join 6 = .ok (.iastore, 1) := by decide +kernel
theorem d_N_join_7 : decode b_N_join 7 = .ok (.aload_n 0, 1) := by decide +kernel
theorem d_N_join_8 : decode b_N_join 8 = .ok (.getfield 24, 3) := by decide +kernel
theorem d_N_join_11 : decode b_N_join 11 = .ok (.iload_n 1, 1) := by decide +kernel
theorem d_N_join_12 : decode b_N_join 12 = .ok (.iload_n 3, 1) := by decide +kernel
theorem d_N_join_13 : decode b_N_join 13 = .ok (.iastore, 1) := by decide +kernel
theorem d_N_join_14 : decode b_N_join 14 = .ok (.aload_n 0, 1) := by decide +kernel
theorem d_N_join_15 : decode b_N_join 15 = .ok (.iload_n 2, 1) := by decide +kernel
theorem d_N_join_16 : decode b_N_join 16 = .ok (.iload_n 1, 1) := by decide +kernel
theorem d_N_join_17 : decode b_N_join 17 = .ok (.invokevirtual 81, 3) := by decide +kernel
theorem d_N_join_20 : decode b_N_join 20 = .ok (.aload_n 0, 1) := by decide +kernel
theorem d_N_join_21 : decode b_N_join 21 = .ok (.iload_n 3, 1) := by decide +kernel
theorem d_N_join_22 : decode b_N_join 22 = .ok (.iload_n 1, 1) := by decide +kernel
theorem d_N_join_23 : decode b_N_join 23 = .ok (.invokevirtual 81, 3) := by decide +kernel
theorem d_N_join_26 : decode b_N_join 26 = .ok (.aload_n 0, 1) := by decide +kernel
theorem d_N_join_27 : decode b_N_join 27 = .ok (.dup, 1) := by decide +kernel
theorem d_N_join_28 : decode b_N_join 28 = .ok (.getfield 63, 3) := by decide +kernel
theorem d_N_join_31 : decode b_N_join 31 = .ok (.iconst 1, 1) := by decide +kernel
theorem d_N_join_32 : decode b_N_join 32 = .ok (.iadd, 1) := by decide +kernel
theorem d_N_join_33 : decode b_N_join 33 = .ok (.putfield 63, 3) := by decide +kernel
theorem d_N_join_36 : decode b_N_join 36 = .ok (.return_, 1) := by decide +kernel
theorem d_N_noteDuct_0 : decode b_N_noteDuct 0 = .ok (.aload_n 0, 1) := by decide +kernel
theorem d_N_noteDuct_1 : decode b_N_noteDuct 1 = .ok (.getfield 47, 3) := by decide +kernel
theorem d_N_noteDuct_4 : decode b_N_noteDuct 4 = .ok (.iload_n 1, 1) := by decide +kernel
theorem d_N_noteDuct_5 : decode b_N_noteDuct 5 = .ok (.aaload, 1) := by decide +kernel
theorem d_N_noteDuct_6 : decode b_N_noteDuct 6 = .ok (.aload_n 0, 1) := by decide +kernel
theorem d_N_noteDuct_7 : decode b_N_noteDuct 7 = .ok (.getfield 50, 3) := by decide +kernel
theorem d_N_noteDuct_10 : decode b_N_noteDuct 10 = .ok (.iload_n 1, 1) := by decide +kernel
theorem d_N_noteDuct_11 : decode b_N_noteDuct 11 = .ok (.iaload, 1) := by decide +kernel
theorem d_N_noteDuct_12 : decode b_N_noteDuct 12 = .ok (.iload_n 2, 1) := by decide +kernel
theorem d_N_noteDuct_13 : decode b_N_noteDuct 13 = .ok (.iastore, 1) := by decide +kernel
theorem d_N_noteDuct_14 : decode b_N_noteDuct 14 = .ok (.aload_n 0, 1) := by decide +kernel
theorem d_N_noteDuct_15 : decode b_N_noteDuct 15 = .ok (.getfield 50, 3) := by decide +kernel
theorem d_N_noteDuct_18 : decode b_N_noteDuct 18 = .ok (.iload_n 1, 1) := by decide +kernel
theorem d_N_noteDuct_19 : decode b_N_noteDuct 19 = .ok (.dup2, 1) := by decide +kernel
theorem d_N_noteDuct_20 : decode b_N_noteDuct 20 = .ok (.iaload, 1) := by decide +kernel
theorem d_N_noteDuct_21 : decode b_N_noteDuct 21 = .ok (.iconst 1, 1) := by decide +kernel
theorem d_N_noteDuct_22 : decode b_N_noteDuct 22 = .ok (.iadd, 1) := by decide +kernel
theorem d_N_noteDuct_23 : decode b_N_noteDuct 23 = .ok (.iastore, 1) := by decide +kernel
theorem d_N_noteDuct_24 : decode b_N_noteDuct 24 = .ok (.return_, 1) := by decide +kernel
theorem d_N_measureStack_0 : decode b_N_measureStack 0 = .ok (.aload_n 0, 1) := by decide +kernel
theorem d_N_measureStack_1 : decode b_N_measureStack 1 = .ok (.getfield 36, 3) := by decide +kernel
theorem d_N_measureStack_4 : decode b_N_measureStack 4 = .ok (.iload_n 1, 1) := by decide +kernel
theorem d_N_measureStack_5 : decode b_N_measureStack 5 = .ok (.aload_n 0, 1) := by decide +kernel
theorem d_N_measureStack_6 : decode b_N_measureStack 6 = .ok (.getfield 27, 3) := by decide +kernel
theorem d_N_measureStack_9 : decode b_N_measureStack 9 = .ok (.iload_n 1, 1) := by decide +kernel
theorem d_N_measureStack_10 : decode b_N_measureStack 10 = .ok (.iaload, 1) := by decide +kernel
theorem d_N_measureStack_11 : decode b_N_measureStack 11 = .ok (.aload_n 0, 1) := by decide +kernel
theorem d_N_measureStack_12 : decode b_N_measureStack 12 = .ok (.getfield 15, 3) := by decide +kernel
theorem d_N_measureStack_15 : decode b_N_measureStack 15 = .ok (.aload_n 0, 1) := by decide +kernel
theorem d_N_measureStack_16 : decode b_N_measureStack 16 = .ok (.getfield 21, 3) := by decide +kernel
theorem d_N_measureStack_19 : decode b_N_measureStack 19 = .ok (.iload_n 1, 1) := by decide +kernel
theorem d_N_measureStack_20 : decode b_N_measureStack 20 = .ok (.iaload, 1) := by decide +kernel
theorem d_N_measureStack_21 : decode b_N_measureStack 21 = .ok (.iaload, 1) := by decide +kernel
theorem d_N_measureStack_22 : decode b_N_measureStack 22 = .ok (.aload_n 0, 1) := by decide +kernel
theorem d_N_measureStack_23 : decode b_N_measureStack 23 = .ok (.getfield 15, 3) := by decide +kernel
theorem d_N_measureStack_26 : decode b_N_measureStack 26 = .ok (.aload_n 0, 1) := by decide +kernel
theorem d_N_measureStack_27 : decode b_N_measureStack 27 = .ok (.getfield 24, 3) := by decide +kernel
theorem d_N_measureStack_30 : decode b_N_measureStack 30 = .ok (.iload_n 1, 1) := by decide +kernel
theorem d_N_measureStack_31 : decode b_N_measureStack 31 = .ok (.iaload, 1) := by decide +kernel
theorem d_N_measureStack_32 : decode b_N_measureStack 32 = .ok (.iaload, 1) := by decide +kernel
theorem d_N_measureStack_33 : decode b_N_measureStack 33 = .ok (.isub, 1) := by decide +kernel
theorem d_N_measureStack_34 : decode b_N_measureStack 34 = .ok (.imul, 1) := by decide +kernel
theorem d_N_measureStack_35 : decode b_N_measureStack 35 = .ok (.bipush 100, 2) := by decide +kernel
theorem d_N_measureStack_37 : decode b_N_measureStack 37 = .ok (.idiv, 1) := by decide +kernel
theorem d_N_measureStack_38 : decode b_N_measureStack 38 = .ok (.iastore, 1) := by decide +kernel
theorem d_N_measureStack_39 : decode b_N_measureStack 39 = .ok (.return_, 1) := by decide +kernel
theorem d_N_isDuct_0 : decode b_N_isDuct 0 = .ok (.iload_n 1, 1) := by decide +kernel
theorem d_N_isDuct_1 : decode b_N_isDuct 1 = .ok (.bipush 20, 2) := by decide +kernel
theorem d_N_isDuct_3 : decode b_N_isDuct 3 = .ok (.if_icmp .ge 19, 3) := by decide +kernel
theorem d_N_isDuct_6 : decode b_N_isDuct 6 = .ok (.iload_n 1, 1) := by decide +kernel
theorem d_N_isDuct_7 : decode b_N_isDuct 7 = .ok (.aload_n 0, 1) := by decide +kernel
theorem d_N_isDuct_8 : decode b_N_isDuct 8 = .ok (.getfield 57, 3) := by decide +kernel
theorem d_N_isDuct_11 : decode b_N_isDuct 11 = .ok (.if_icmp .ge 7, 3) := by decide +kernel
theorem d_N_isDuct_14 : decode b_N_isDuct 14 = .ok (.iconst 1, 1) := by decide +kernel
theorem d_N_isDuct_15 : decode b_N_isDuct 15 = .ok (.goto 23, 3) := by decide +kernel
theorem d_N_isDuct_18 : decode b_N_isDuct 18 = .ok (.iconst 0, 1) := by decide +kernel
