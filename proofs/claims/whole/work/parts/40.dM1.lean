theorem d_M_init_0 : decode b_M_init 0 = .ok (.aload_n 0, 1) := by decide +kernel
theorem d_M_init_1 : decode b_M_init 1 = .ok (.invokespecial 1, 3) := by decide +kernel
theorem d_M_init_4 : decode b_M_init 4 = .ok (.aload_n 0, 1) := by decide +kernel
theorem d_M_init_5 : decode b_M_init 5 = .ok (.iconst 4, 1) := by decide +kernel
theorem d_M_init_6 : decode b_M_init 6 = .ok (.newarray .int, 2) := by decide +kernel
theorem d_M_init_8 : decode b_M_init 8 = .ok (.putfield 7, 3) := by decide +kernel
theorem d_M_init_11 : decode b_M_init 11 = .ok (.aload_n 0, 1) := by decide +kernel
theorem d_M_init_12 : decode b_M_init 12 = .ok (.bipush 8, 2) := by decide +kernel
theorem d_M_init_14 : decode b_M_init 14 = .ok (.newarray .int, 2) := by decide +kernel
theorem d_M_init_16 : decode b_M_init 16 = .ok (.putfield 13, 3) := by decide +kernel
theorem d_M_init_19 : decode b_M_init 19 = .ok (.aload_n 0, 1) := by decide +kernel
theorem d_M_init_20 : decode b_M_init 20 = .ok (.bipush 8, 2) := by decide +kernel
theorem d_M_init_22 : decode b_M_init 22 = .ok (.newarray .int, 2) := by decide +kernel
theorem d_M_init_24 : decode b_M_init 24 = .ok (.putfield 16, 3) := by decide +kernel
theorem d_M_init_27 : decode b_M_init 27 = .ok (.aload_n 0, 1) := by decide +kernel
theorem d_M_init_28 : decode b_M_init 28 = .ok (.bipush 8, 2) := by decide +kernel
theorem d_M_init_30 : decode b_M_init 30 = .ok (.newarray .long, 2) := by decide +kernel
theorem d_M_init_32 : decode b_M_init 32 = .ok (.putfield 19, 3) := by decide +kernel
theorem d_M_init_35 : decode b_M_init 35 = .ok (.aload_n 0, 1) := by decide +kernel
theorem d_M_init_36 : decode b_M_init 36 = .ok (.bipush 8, 2) := by decide +kernel
theorem d_M_init_38 : decode b_M_init 38 = .ok (.newarray .int, 2) := by decide +kernel
theorem d_M_init_40 : decode b_M_init 40 = .ok (.putfield 23, 3) := by decide +kernel
theorem d_M_init_43 : decode b_M_init 43 = .ok (.aload_n 0, 1) := by decide +kernel
theorem d_M_init_44 : decode b_M_init 44 = .ok (.bipush 20, 2) := by decide +kernel
theorem d_M_init_46 : decode b_M_init 46 = .ok (.newarray .int, 2) := by decide +kernel
theorem d_M_init_48 : decode b_M_init 48 = .ok (.putfield 26, 3) := by decide +kernel
theorem d_M_init_51 : decode b_M_init 51 = .ok (.aload_n 0, 1) := by decide +kernel
theorem d_M_init_52 : decode b_M_init 52 = .ok (.bipush 20, 2) := by decide +kernel
theorem d_M_init_54 : decode b_M_init 54 = .ok (.newarray .int, 2) := by decide +kernel
theorem d_M_init_56 : decode b_M_init 56 = .ok (.putfield 29, 3) := by decide +kernel
theorem d_M_init_59 : decode b_M_init 59 = .ok (.aload_n 0, 1) := by decide +kernel
theorem d_M_init_60 : decode b_M_init 60 = .ok (.bipush 20, 2) := by decide +kernel
theorem d_M_init_62 : decode b_M_init 62 = .ok (.newarray .int, 2) := by decide +kernel
theorem d_M_init_64 : decode b_M_init 64 = .ok (.putfield 32, 3) := by decide +kernel
theorem d_M_init_67 : decode b_M_init 67 = .ok (.aload_n 0, 1) := by decide +kernel
theorem d_M_init_68 : decode b_M_init 68 = .ok (.bipush 20, 2) := by decide +kernel
theorem d_M_init_70 : decode b_M_init 70 = .ok (.newarray .int, 2) := by decide +kernel
theorem d_M_init_72 : decode b_M_init 72 = .ok (.putfield 35, 3) := by decide +kernel
theorem d_M_init_75 : decode b_M_init 75 = .ok (.aload_n 0, 1) := by decide +kernel
theorem d_M_init_76 : decode b_M_init 76 = .ok (.bipush 20, 2) := by decide +kernel
theorem d_M_init_78 : decode b_M_init 78 = .ok (.newarray .int, 2) := by decide +kernel
theorem d_M_init_80 : decode b_M_init 80 = .ok (.putfield 38, 3) := by decide +kernel
theorem d_M_init_83 : decode b_M_init 83 = .ok (.aload_n 0, 1) := by decide +kernel
theorem d_M_init_84 : decode b_M_init 84 = .ok (.bipush 20, 2) := by decide +kernel
theorem d_M_init_86 : decode b_M_init 86 = .ok (.newarray .boolean, 2) := by decide +kernel
theorem d_M_init_88 : decode b_M_init 88 = .ok (.putfield 41, 3) := by decide +kernel
theorem d_M_init_91 : decode b_M_init 91 = .ok (.aload_n 0, 1) := by decide +kernel
theorem d_M_init_92 : decode b_M_init 92 = .ok (.iconst 4, 1) := by decide +kernel
theorem d_M_init_93 : decode b_M_init 93 = .ok (.newarray .int, 2) := by decide +kernel
theorem d_M_init_95 : decode b_M_init 95 = .ok (.putfield 45, 3) := by decide +kernel
theorem d_M_init_98 : decode b_M_init 98 = .ok (.aload_n 0, 1) := by decide +kernel
theorem d_M_init_99 : decode b_M_init 99 = .ok (.iconst 4, 1) := by decide +kernel
theorem d_M_init_100 : decode b_M_init 100 = .ok (.newarray .int, 2) := by decide +kernel
theorem d_M_init_102 : decode b_M_init 102 = .ok (.putfield 48, 3) := by decide +kernel
theorem d_M_init_105 : decode b_M_init 105 = .ok (.aload_n 0, 1) := by decide +kernel
theorem d_M_init_106 : decode b_M_init 106 = .ok (.iconst 4, 1) := by decide +kernel
theorem d_M_init_107 : decode b_M_init 107 = .ok (.newarray .int, 2) := by decide +kernel
theorem d_M_init_109 : decode b_M_init 109 = .ok (.putfield 51, 3) := by decide +kernel
theorem d_M_init_112 : decode b_M_init 112 = .ok (.aload_n 0, 1) := by decide +kernel
theorem d_M_init_113 : decode b_M_init 113 = .ok (.iconst 4, 1) := by decide +kernel
theorem d_M_init_114 : decode b_M_init 114 = .ok (.newarray .int, 2) := by decide +kernel
theorem d_M_init_116 : decode b_M_init 116 = .ok (.putfield 54, 3) := by decide +kernel
theorem d_M_init_119 : decode b_M_init 119 = .ok (.aload_n 0, 1) := by decide +kernel
theorem d_M_init_120 : decode b_M_init 120 = .ok (.bipush 8, 2) := by decide +kernel
theorem d_M_init_122 : decode b_M_init 122 = .ok (.newarray .int, 2) := by decide +kernel
theorem d_M_init_124 : decode b_M_init 124 = .ok (.putfield 57, 3) := by decide +kernel
theorem d_M_init_127 : decode b_M_init 127 = .ok (.aload_n 0, 1) := by decide +kernel
theorem d_M_init_128 : decode b_M_init 128 = .ok (.iconst 4, 1) := by decide +kernel
theorem d_M_init_129 : decode b_M_init 129 = .ok (.newarray .long, 2) := by decide +kernel
theorem d_M_init_131 : decode b_M_init 131 = .ok (.putfield 60, 3) := by decide +kernel
theorem d_M_init_134 : decode b_M_init 134 = .ok (.aload_n 0, 1) := by decide +kernel
theorem d_M_init_135 : decode b_M_init 135 = .ok (.bipush 8, 2) := by decide +kernel
theorem d_M_init_137 : decode b_M_init 137 = .ok (.newarray .int, 2) := by decide +kernel
theorem d_M_init_139 : decode b_M_init 139 = .ok (.putfield 63, 3) := by decide +kernel
theorem d_M_init_142 : decode b_M_init 142 = .ok (.aload_n 0, 1) := by decide +kernel
theorem d_M_init_143 : decode b_M_init 143 = .ok (.bipush 8, 2) := by decide +kernel
theorem d_M_init_145 : decode b_M_init 145 = .ok (.newarray .long, 2) := by decide +kernel
theorem d_M_init_147 : decode b_M_init 147 = .ok (.putfield 66, 3) := by decide +kernel
theorem d_M_init_150 : decode b_M_init 150 = .ok (.aload_n 0, 1) := by decide +kernel
theorem d_M_init_151 : decode b_M_init 151 = .ok (.iconst 4, 1) := by decide +kernel
theorem d_M_init_152 : decode b_M_init 152 = .ok (.newarray .long, 2) := by decide +kernel
theorem d_M_init_154 : decode b_M_init 154 = .ok (.putfield 69, 3) := by decide +kernel
theorem d_M_init_157 : decode b_M_init 157 = .ok (.return_, 1) := by decide +kernel
theorem d_M_thrown_0 : decode b_M_thrown 0 = .ok (.aload_n 0, 1) := by decide +kernel
theorem d_M_thrown_1 : decode b_M_thrown 1 = .ok (.getfield 72, 3) := by decide +kernel
theorem d_M_thrown_4 : decode b_M_thrown 4 = .ok (.ireturn, 1) := by decide +kernel
theorem d_M_in_0 : decode b_M_in 0 = .ok (.lload_n 0, 1) := by decide +kernel
theorem d_M_in_1 : decode b_M_in 1 = .ok (.lload_n 2, 1) := by decide +kernel
theorem d_M_in_2 : decode b_M_in 2 = .ok (.lcmp, 1) := by decide +kernel
theorem d_M_in_3 : decode b_M_in 3 = .ok (.ifCond .lt 14, 3) := by decide +kernel
theorem d_M_in_6 : decode b_M_in 6 = .ok (.lload_n 0, 1) := by decide +kernel
theorem d_M_in_7 : decode b_M_in 7 = .ok (.lload 4, 2) := by decide +kernel
theorem d_M_in_9 : decode b_M_in 9 = .ok (.lcmp, 1) := by decide +kernel
theorem d_M_in_10 : decode b_M_in 10 = .ok (.ifCond .gt 7, 3) := by decide +kernel
theorem d_M_in_13 : decode b_M_in 13 = .ok (.iconst 1, 1) := by decide +kernel
theorem d_M_in_14 : decode b_M_in 14 = .ok (.goto 4, 3) := by decide +kernel
theorem d_M_in_17 : decode b_M_in 17 = .ok (.iconst 0, 1) := by decide +kernel
theorem d_M_in_18 : decode b_M_in 18 = .ok (.ireturn, 1) := by decide +kernel
theorem d_M_isZone_0 : decode b_M_isZone 0 = .ok (.iload_n 1, 1) := by decide +kernel
theorem d_M_isZone_1 : decode b_M_isZone 1 = .ok (.i2l, 1) := by decide +kernel
theorem d_M_isZone_2 : decode b_M_isZone 2 = .ok (.lconst 0, 1) := by decide +kernel
theorem d_M_isZone_3 : decode b_M_isZone 3 = .ok (.aload_n 0, 1) := by decide +kernel
theorem d_M_isZone_4 : decode b_M_isZone 4 = .ok (.getfield 76, 3) := by decide +kernel
theorem d_M_isZone_7 : decode b_M_isZone 7 = .ok (.iconst 1, 1) := by decide +kernel
theorem d_M_isZone_8 : decode b_M_isZone 8 = .ok (.isub, 1) := by decide +kernel
theorem d_M_isZone_9 : decode b_M_isZone 9 = .ok (.i2l, 1) := by decide +kernel
theorem d_M_isZone_10 : decode b_M_isZone 10 = .ok (.invokestatic 79, 3) := by decide +kernel
theorem d_M_isZone_13 : decode b_M_isZone 13 = .ok (.ireturn, 1) := by decide +kernel
theorem d_M_isPlace_0 : decode b_M_isPlace 0 = .ok (.iload_n 1, 1) := by decide +kernel
theorem d_M_isPlace_1 : decode b_M_isPlace 1 = .ok (.i2l, 1) := by decide +kernel
theorem d_M_isPlace_2 : decode b_M_isPlace 2 = .ok (.ldc2_w 83, 3) := by decide +kernel
theorem d_M_isPlace_5 : decode b_M_isPlace 5 = .ok (.aload_n 0, 1) := by decide +kernel
theorem d_M_isPlace_6 : decode b_M_isPlace 6 = .ok (.getfield 76, 3) := by decide +kernel
theorem d_M_isPlace_9 : decode b_M_isPlace 9 = .ok (.iconst 1, 1) := by decide +kernel
theorem d_M_isPlace_10 : decode b_M_isPlace 10 = .ok (.isub, 1) := by decide +kernel
theorem d_M_isPlace_11 : decode b_M_isPlace 11 = .ok (.i2l, 1) := by decide +kernel
theorem d_M_isPlace_12 : decode b_M_isPlace 12 = .ok (.invokestatic 79, 3) := by decide +kernel
theorem d_M_isPlace_15 : decode b_M_isPlace 15 = .ok (.ireturn, 1) := by decide +kernel
theorem d_M_zone_0 : decode b_M_zone 0 = .ok (.aload_n 0, 1) := by decide +kernel
theorem d_M_zone_1 : decode b_M_zone 1 = .ok (.iload_n 1, 1) := by decide +kernel
theorem d_M_zone_2 : decode b_M_zone 2 = .ok (.i2l, 1) := by decide +kernel
theorem d_M_zone_3 : decode b_M_zone 3 = .ok (.ldc2_w 85, 3) := by decide +kernel
theorem d_M_zone_6 : decode b_M_zone 6 = .ok (.ldc2_w 87, 3) := by decide +kernel
theorem d_M_zone_9 : decode b_M_zone 9 = .ok (.invokestatic 79, 3) := by decide +kernel
theorem d_M_zone_12 : decode b_M_zone 12 = .ok (.ifCond .eq 15, 3) := by decide +kernel
theorem d_M_zone_15 : decode b_M_zone 15 = .ok (.iload_n 2, 1) := by decide +kernel
theorem d_M_zone_16 : decode b_M_zone 16 = .ok (.i2l, 1) := by decide +kernel
theorem d_M_zone_17 : decode b_M_zone 17 = .ok (.lconst 1, 1) := by decide +kernel
theorem d_M_zone_18 : decode b_M_zone 18 = .ok (.ldc2_w 89, 3) := by decide +kernel
theorem d_M_zone_21 : decode b_M_zone 21 = .ok (.invokestatic 79, 3) := by decide +kernel
theorem d_M_zone_24 : decode b_M_zone 24 = .ok (.ifCond .ne 7, 3) := by decide +kernel
theorem d_M_zone_27 : decode b_M_zone 27 = .ok (.iconst 1, 1) := by decide +kernel
theorem d_M_zone_28 : decode b_M_zone 28 = .ok (.goto 17, 3) := by decide +kernel
theorem d_M_zone_31 : decode b_M_zone 31 = .ok (.aload_n 0, 1) := by decide +kernel
theorem d_M_zone_32 : decode b_M_zone 32 = .ok (.getfield 76, 3) := by decide +kernel
theorem d_M_zone_35 : decode b_M_zone 35 = .ok (.bipush 8, 2) := by decide +kernel
theorem d_M_zone_37 : decode b_M_zone 37 = .ok (.if_icmp .ne 7, 3) := by decide +kernel
theorem d_M_zone_40 : decode b_M_zone 40 = .ok (.iconst 2, 1) := by decide +kernel
theorem d_M_zone_41 : decode b_M_zone 41 = .ok (.goto 4, 3) := by decide +kernel
theorem d_M_zone_44 : decode b_M_zone 44 = .ok (.iconst 0, 1) := by decide +kernel
theorem d_M_zone_45 : decode b_M_zone 45 = .ok (.putfield 72, 3) := by decide +kernel
theorem d_M_zone_48 : decode b_M_zone 48 = .ok (.aload_n 0, 1) := by decide +kernel
theorem d_M_zone_49 : decode b_M_zone 49 = .ok (.getfield 72, 3) := by decide +kernel
theorem d_M_zone_52 : decode b_M_zone 52 = .ok (.ifCond .le 5, 3) := by decide +kernel
theorem d_M_zone_55 : decode b_M_zone 55 = .ok (.iconst 0, 1) := by decide +kernel
theorem d_M_zone_56 : decode b_M_zone 56 = .ok (.ireturn, 1) := by decide +kernel
theorem d_M_zone_57 : decode b_M_zone 57 = .ok (.aload_n 0, 1) := by decide +kernel
theorem d_M_zone_58 : decode b_M_zone 58 = .ok (.getfield 13, 3) := by decide +kernel
theorem d_M_zone_61 : decode b_M_zone 61 = .ok (.aload_n 0, 1) := by decide +kernel
theorem d_M_zone_62 : decode b_M_zone 62 = .ok (.getfield 76, 3) := by decide +kernel
theorem d_M_zone_65 : decode b_M_zone 65 = .ok (.iload_n 1, 1) := by decide +kernel
theorem d_M_zone_66 : decode b_M_zone 66 = .ok (.iastore, 1) := by decide +kernel
theorem d_M_zone_67 : decode b_M_zone 67 = .ok (.aload_n 0, 1) := by decide +kernel
theorem d_M_zone_68 : decode b_M_zone 68 = .ok (.getfield 16, 3) := by decide +kernel
theorem d_M_zone_71 : decode b_M_zone 71 = .ok (.aload_n 0, 1) := by decide +kernel
theorem d_M_zone_72 : decode b_M_zone 72 = .ok (.getfield 76, 3) := by decide +kernel
theorem d_M_zone_75 : decode b_M_zone 75 = .ok (.iload_n 2, 1) := by decide +kernel
theorem d_M_zone_76 : decode b_M_zone 76 = .ok (.iastore, 1) := by decide +kernel
theorem d_M_zone_77 : decode b_M_zone 77 = .ok (.aload_n 0, 1) := by decide +kernel
theorem d_M_zone_78 : decode b_M_zone 78 = .ok (.dup, 1) := by decide +kernel
theorem d_M_zone_79 : decode b_M_zone 79 = .ok (.getfield 76, 3) := by decide +kernel
theorem d_M_zone_82 : decode b_M_zone 82 = .ok (.iconst 1, 1) := by decide +kernel
theorem d_M_zone_83 : decode b_M_zone 83 = .ok (.iadd, 1) := by decide +kernel
theorem d_M_zone_84 : decode b_M_zone 84 = .ok (.putfield 76, 3) := by decide +kernel
theorem d_M_zone_87 : decode b_M_zone 87 = .ok (.aload_n 0, 1) := by decide +kernel
theorem d_M_zone_88 : decode b_M_zone 88 = .ok (.getfield 76, 3) := by decide +kernel
theorem d_M_zone_91 : decode b_M_zone 91 = .ok (.iconst 1, 1) := by decide +kernel
theorem d_M_zone_92 : decode b_M_zone 92 = .ok (.isub, 1) := by decide +kernel
theorem d_M_zone_93 : decode b_M_zone 93 = .ok (.ireturn, 1) := by decide +kernel
theorem d_M_wind_0 : decode b_M_wind 0 = .ok (.aload_n 0, 1) := by decide +kernel
theorem d_M_wind_1 : decode b_M_wind 1 = .ok (.iload_n 1, 1) := by decide +kernel
theorem d_M_wind_2 : decode b_M_wind 2 = .ok (.i2l, 1) := by decide +kernel
theorem d_M_wind_3 : decode b_M_wind 3 = .ok (.ldc2_w 83, 3) := by decide +kernel
theorem d_M_wind_6 : decode b_M_wind 6 = .ok (.ldc2_w 91, 3) := by decide +kernel
theorem d_M_wind_9 : decode b_M_wind 9 = .ok (.invokestatic 79, 3) := by decide +kernel
theorem d_M_wind_12 : decode b_M_wind 12 = .ok (.ifCond .eq 21, 3) := by decide +kernel
theorem d_M_wind_15 : decode b_M_wind 15 = .ok (.iload_n 2, 1) := by decide +kernel
theorem d_M_wind_16 : decode b_M_wind 16 = .ok (.i2l, 1) := by decide +kernel
theorem d_M_wind_17 : decode b_M_wind 17 = .ok (.ldc2_w 85, 3) := by decide +kernel
theorem d_M_wind_20 : decode b_M_wind 20 = .ok (.ldc2_w 87, 3) := by decide +kernel
theorem d_M_wind_23 : decode b_M_wind 23 = .ok (.invokestatic 79, 3) := by decide +kernel
theorem d_M_wind_26 : decode b_M_wind 26 = .ok (.ifCond .eq 7, 3) := by decide +kernel
theorem d_M_wind_29 : decode b_M_wind 29 = .ok (.iconst 0, 1) := by decide +kernel
theorem d_M_wind_30 : decode b_M_wind 30 = .ok (.goto 4, 3) := by decide +kernel
theorem d_M_wind_33 : decode b_M_wind 33 = .ok (.iconst 1, 1) := by decide +kernel
theorem d_M_wind_34 : decode b_M_wind 34 = .ok (.putfield 72, 3) := by decide +kernel
theorem d_M_wind_37 : decode b_M_wind 37 = .ok (.aload_n 0, 1) := by decide +kernel
theorem d_M_wind_38 : decode b_M_wind 38 = .ok (.getfield 72, 3) := by decide +kernel
theorem d_M_wind_41 : decode b_M_wind 41 = .ok (.ifCond .le 5, 3) := by decide +kernel
theorem d_M_wind_44 : decode b_M_wind 44 = .ok (.iconst 0, 1) := by decide +kernel
theorem d_M_wind_45 : decode b_M_wind 45 = .ok (.ireturn, 1) := by decide +kernel
theorem d_M_wind_46 : decode b_M_wind 46 = .ok (.aload_n 0, 1) := by decide +kernel
theorem d_M_wind_47 : decode b_M_wind 47 = .ok (.getfield 7, 3) := by decide +kernel
theorem d_M_wind_50 : decode b_M_wind 50 = .ok (.iload_n 1, 1) := by decide +kernel
theorem d_M_wind_51 : decode b_M_wind 51 = .ok (.iconst 4, 1) := by decide +kernel
theorem d_M_wind_52 : decode b_M_wind 52 = .ok (.iadd, 1) := by decide +kernel
theorem d_M_wind_53 : decode b_M_wind 53 = .ok (.iaload, 1) := by decide +kernel
theorem d_M_wind_54 : decode b_M_wind 54 = .ok (.istore_n 3, 1) := by decide +kernel
theorem d_M_wind_55 : decode b_M_wind 55 = .ok (.aload_n 0, 1) := by decide +kernel
theorem d_M_wind_56 : decode b_M_wind 56 = .ok (.getfield 7, 3) := by decide +kernel
theorem d_M_wind_59 : decode b_M_wind 59 = .ok (.iload_n 1, 1) := by decide +kernel
theorem d_M_wind_60 : decode b_M_wind 60 = .ok (.iconst 4, 1) := by decide +kernel
theorem d_M_wind_61 : decode b_M_wind 61 = .ok (.iadd, 1) := by decide +kernel
theorem d_M_wind_62 : decode b_M_wind 62 = .ok (.iload_n 2, 1) := by decide +kernel
theorem d_M_wind_63 : decode b_M_wind 63 = .ok (.iastore, 1) := by decide +kernel
theorem d_M_wind_64 : decode b_M_wind 64 = .ok (.iload_n 3, 1) := by decide +kernel
theorem d_M_wind_65 : decode b_M_wind 65 = .ok (.ireturn, 1) := by decide +kernel
theorem d_M_warmth_0 : decode b_M_warmth 0 = .ok (.aload_n 0, 1) := by decide +kernel
theorem d_M_warmth_1 : decode b_M_warmth 1 = .ok (.aload_n 0, 1) := by decide +kernel
theorem d_M_warmth_2 : decode b_M_warmth 2 = .ok (.iload_n 1, 1) := by decide +kernel
theorem d_M_warmth_3 : decode b_M_warmth 3 = .ok (.invokevirtual 93, 3) := by decide +kernel
theorem d_M_warmth_6 : decode b_M_warmth 6 = .ok (.ifCond .eq 21, 3) := by decide +kernel
theorem d_M_warmth_9 : decode b_M_warmth 9 = .ok (.iload_n 2, 1) := by decide +kernel
theorem d_M_warmth_10 : decode b_M_warmth 10 = .ok (.i2l, 1) := by decide +kernel
theorem d_M_warmth_11 : decode b_M_warmth 11 = .ok (.ldc2_w 85, 3) := by decide +kernel
theorem d_M_warmth_14 : decode b_M_warmth 14 = .ok (.ldc2_w 87, 3) := by decide +kernel
theorem d_M_warmth_17 : decode b_M_warmth 17 = .ok (.invokestatic 79, 3) := by decide +kernel
theorem d_M_warmth_20 : decode b_M_warmth 20 = .ok (.ifCond .eq 7, 3) := by decide +kernel
theorem d_M_warmth_23 : decode b_M_warmth 23 = .ok (.iconst 0, 1) := by decide +kernel
theorem d_M_warmth_24 : decode b_M_warmth 24 = .ok (.goto 4, 3) := by decide +kernel
theorem d_M_warmth_27 : decode b_M_warmth 27 = .ok (.iconst 1, 1) := by decide +kernel
theorem d_M_warmth_28 : decode b_M_warmth 28 = .ok (.putfield 72, 3) := by decide +kernel
theorem d_M_warmth_31 : decode b_M_warmth 31 = .ok (.aload_n 0, 1) := by decide +kernel
theorem d_M_warmth_32 : decode b_M_warmth 32 = .ok (.getfield 72, 3) := by decide +kernel
theorem d_M_warmth_35 : decode b_M_warmth 35 = .ok (.ifCond .le 5, 3) := by decide +kernel
theorem d_M_warmth_38 : decode b_M_warmth 38 = .ok (.iconst 0, 1) := by decide +kernel
theorem d_M_warmth_39 : decode b_M_warmth 39 = .ok (.ireturn, 1) := by decide +kernel
theorem d_M_warmth_40 : decode b_M_warmth 40 = .ok (.aload_n 0, 1) := by decide +kernel
theorem d_M_warmth_41 : decode b_M_warmth 41 = .ok (.iload_n 1, 1) := by decide +kernel
theorem d_M_warmth_42 : decode b_M_warmth 42 = .ok (.invokevirtual 97, 3) := by decide +kernel
theorem d_M_warmth_45 : decode b_M_warmth 45 = .ok (.istore_n 3, 1) := by decide +kernel
theorem d_M_warmth_46 : decode b_M_warmth 46 = .ok (.iload_n 1, 1) := by decide +kernel
theorem d_M_warmth_47 : decode b_M_warmth 47 = .ok (.ifCond .ge 11, 3) := by decide +kernel
theorem d_M_warmth_50 : decode b_M_warmth 50 = .ok (.aload_n 0, 1) := by decide +kernel
theorem d_M_warmth_51 : decode b_M_warmth 51 = .ok (.iload_n 2, 1) := by decide +kernel
theorem d_M_warmth_52 : decode b_M_warmth 52 = .ok (.putfield 101, 3) := by decide +kernel
theorem d_M_warmth_55 : decode b_M_warmth 55 = .ok (.goto 10, 3) := by decide +kernel
theorem d_M_warmth_58 : decode b_M_warmth 58 = .ok (.aload_n 0, 1) := by decide +kernel
theorem d_M_warmth_59 : decode b_M_warmth 59 = .ok (.getfield 13, 3) := by decide +kernel
theorem d_M_warmth_62 : decode b_M_warmth 62 = .ok (.iload_n 1, 1) := by decide +kernel
theorem d_M_warmth_63 : decode b_M_warmth 63 = .ok (.iload_n 2, 1) := by decide +kernel
theorem d_M_warmth_64 : decode b_M_warmth 64 = .ok (.iastore, 1) := by decide +kernel
theorem d_M_warmth_65 : decode b_M_warmth 65 = .ok (.iload_n 3, 1) := by decide +kernel
theorem d_M_warmth_66 : decode b_M_warmth 66 = .ok (.ireturn, 1) := by decide +kernel
theorem d_M_isPair_0 : decode b_M_isPair 0 = .ok (.aload_n 0, 1) := by decide +kernel
theorem d_M_isPair_1 : decode b_M_isPair 1 = .ok (.iload_n 1, 1) := by decide +kernel
theorem d_M_isPair_2 : decode b_M_isPair 2 = .ok (.invokevirtual 93, 3) := by decide +kernel
theorem d_M_isPair_5 : decode b_M_isPair 5 = .ok (.ifCond .eq 28, 3) := by decide +kernel
theorem d_M_isPair_8 : decode b_M_isPair 8 = .ok (.aload_n 0, 1) := by decide +kernel
theorem d_M_isPair_9 : decode b_M_isPair 9 = .ok (.iload_n 2, 1) := by decide +kernel
theorem d_M_isPair_10 : decode b_M_isPair 10 = .ok (.invokevirtual 93, 3) := by decide +kernel
theorem d_M_isPair_13 : decode b_M_isPair 13 = .ok (.ifCond .eq 20, 3) := by decide +kernel
theorem d_M_isPair_16 : decode b_M_isPair 16 = .ok (.iload_n 1, 1) := by decide +kernel
theorem d_M_isPair_17 : decode b_M_isPair 17 = .ok (.iload_n 2, 1) := by decide +kernel
theorem d_M_isPair_18 : decode b_M_isPair 18 = .ok (.if_icmp .eq 15, 3) := by decide +kernel
theorem d_M_isPair_21 : decode b_M_isPair 21 = .ok (.iload_n 1, 1) := by decide +kernel
theorem d_M_isPair_22 : decode b_M_isPair 22 = .ok (.ifCond .ge 7, 3) := by decide +kernel
theorem d_M_isPair_25 : decode b_M_isPair 25 = .ok (.iload_n 2, 1) := by decide +kernel
theorem d_M_isPair_26 : decode b_M_isPair 26 = .ok (.ifCond .lt 7, 3) := by decide +kernel
theorem d_M_isPair_29 : decode b_M_isPair 29 = .ok (.iconst 1, 1) := by decide +kernel
theorem d_M_isPair_30 : decode b_M_isPair 30 = .ok (.goto 4, 3) := by decide +kernel
theorem d_M_isPair_33 : decode b_M_isPair 33 = .ok (.iconst 0, 1) := by decide +kernel
theorem d_M_isPair_34 : decode b_M_isPair 34 = .ok (.ireturn, 1) := by decide +kernel
theorem d_M_leak_0 : decode b_M_leak 0 = .ok (.aload_n 0, 1) := by decide +kernel
theorem d_M_leak_1 : decode b_M_leak 1 = .ok (.aload_n 0, 1) := by decide +kernel
theorem d_M_leak_2 : decode b_M_leak 2 = .ok (.iload_n 1, 1) := by decide +kernel
theorem d_M_leak_3 : decode b_M_leak 3 = .ok (.iload_n 2, 1) := by decide +kernel
theorem d_M_leak_4 : decode b_M_leak 4 = .ok (.invokevirtual 104, 3) := by decide +kernel
theorem d_M_leak_7 : decode b_M_leak 7 = .ok (.ifCond .eq 39, 3) := by decide +kernel
theorem d_M_leak_10 : decode b_M_leak 10 = .ok (.iload_n 3, 1) := by decide +kernel
theorem d_M_leak_11 : decode b_M_leak 11 = .ok (.i2l, 1) := by decide +kernel
theorem d_M_leak_12 : decode b_M_leak 12 = .ok (.lconst 0, 1) := by decide +kernel
theorem d_M_leak_13 : decode b_M_leak 13 = .ok (.ldc2_w 108, 3) := by decide +kernel
theorem d_M_leak_16 : decode b_M_leak 16 = .ok (.invokestatic 79, 3) := by decide +kernel
theorem d_M_leak_19 : decode b_M_leak 19 = .ok (.ifCond .eq 27, 3) := by decide +kernel
theorem d_M_leak_22 : decode b_M_leak 22 = .ok (.iload 4, 2) := by decide +kernel
theorem d_M_leak_24 : decode b_M_leak 24 = .ok (.i2l, 1) := by decide +kernel
theorem d_M_leak_25 : decode b_M_leak 25 = .ok (.lconst 1, 1) := by decide +kernel
theorem d_M_leak_26 : decode b_M_leak 26 = .ok (.ldc2_w 87, 3) := by decide +kernel
theorem d_M_leak_29 : decode b_M_leak 29 = .ok (.invokestatic 79, 3) := by decide +kernel
theorem d_M_leak_32 : decode b_M_leak 32 = .ok (.ifCond .eq 14, 3) := by decide +kernel
theorem d_M_leak_35 : decode b_M_leak 35 = .ok (.iload 5, 2) := by decide +kernel
theorem d_M_leak_37 : decode b_M_leak 37 = .ok (.i2l, 1) := by decide +kernel
theorem d_M_leak_38 : decode b_M_leak 38 = .ok (.lconst 0, 1) := by decide +kernel
theorem d_M_leak_39 : decode b_M_leak 39 = .ok (.lconst 1, 1) := by decide +kernel
theorem d_M_leak_40 : decode b_M_leak 40 = .ok (.invokestatic 79, 3) := by decide +kernel
theorem d_M_leak_43 : decode b_M_leak 43 = .ok (.ifCond .ne 7, 3) := by decide +kernel
theorem d_M_leak_46 : decode b_M_leak 46 = .ok (.iconst 1, 1) := by decide +kernel
theorem d_M_leak_47 : decode b_M_leak 47 = .ok (.goto 17, 3) := by decide +kernel
theorem d_M_leak_50 : decode b_M_leak 50 = .ok (.aload_n 0, 1) := by decide +kernel
theorem d_M_leak_51 : decode b_M_leak 51 = .ok (.getfield 110, 3) := by decide +kernel
theorem d_M_leak_54 : decode b_M_leak 54 = .ok (.bipush 20, 2) := by decide +kernel
theorem d_M_leak_56 : decode b_M_leak 56 = .ok (.if_icmp .ne 7, 3) := by decide +kernel
theorem d_M_leak_59 : decode b_M_leak 59 = .ok (.iconst 2, 1) := by decide +kernel
theorem d_M_leak_60 : decode b_M_leak 60 = .ok (.goto 4, 3) := by decide +kernel
theorem d_M_leak_63 : decode b_M_leak 63 = .ok (.iconst 0, 1) := by decide +kernel
theorem d_M_leak_64 : decode b_M_leak 64 = .ok (.putfield 72, 3) := by decide +kernel
theorem d_M_leak_67 : decode b_M_leak 67 = .ok (.aload_n 0, 1) := by decide +kernel
theorem d_M_leak_68 : decode b_M_leak 68 = .ok (.getfield 72, 3) := by decide +kernel
theorem d_M_leak_71 : decode b_M_leak 71 = .ok (.ifCond .le 5, 3) := by decide +kernel
