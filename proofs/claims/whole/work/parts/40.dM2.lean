theorem d_M_leak_74 : decode b_M_leak 74 = .ok (.iconst 0, 1) := by decide +kernel
theorem d_M_leak_75 : decode b_M_leak 75 = .ok (.ireturn, 1) := by decide +kernel
theorem d_M_leak_76 : decode b_M_leak 76 = .ok (.aload_n 0, 1) := by decide +kernel
theorem d_M_leak_77 : decode b_M_leak 77 = .ok (.getfield 26, 3) := by decide +kernel
theorem d_M_leak_80 : decode b_M_leak 80 = .ok (.aload_n 0, 1) := by decide +kernel
theorem d_M_leak_81 : decode b_M_leak 81 = .ok (.getfield 110, 3) := by decide +kernel
theorem d_M_leak_84 : decode b_M_leak 84 = .ok (.iload_n 1, 1) := by decide +kernel
theorem d_M_leak_85 : decode b_M_leak 85 = .ok (.iastore, 1) := by decide +kernel
theorem d_M_leak_86 : decode b_M_leak 86 = .ok (.aload_n 0, 1) := by decide +kernel
theorem d_M_leak_87 : decode b_M_leak 87 = .ok (.getfield 29, 3) := by decide +kernel
theorem d_M_leak_90 : decode b_M_leak 90 = .ok (.aload_n 0, 1) := by decide +kernel
theorem d_M_leak_91 : decode b_M_leak 91 = .ok (.getfield 110, 3) := by decide +kernel
theorem d_M_leak_94 : decode b_M_leak 94 = .ok (.iload_n 2, 1) := by decide +kernel
theorem d_M_leak_95 : decode b_M_leak 95 = .ok (.iastore, 1) := by decide +kernel
theorem d_M_leak_96 : decode b_M_leak 96 = .ok (.aload_n 0, 1) := by decide +kernel
theorem d_M_leak_97 : decode b_M_leak 97 = .ok (.getfield 32, 3) := by decide +kernel
theorem d_M_leak_100 : decode b_M_leak 100 = .ok (.aload_n 0, 1) := by decide +kernel
theorem d_M_leak_101 : decode b_M_leak 101 = .ok (.getfield 110, 3) := by decide +kernel
theorem d_M_leak_104 : decode b_M_leak 104 = .ok (.iload_n 3, 1) := by decide +kernel
theorem d_M_leak_105 : decode b_M_leak 105 = .ok (.iastore, 1) := by decide +kernel
theorem d_M_leak_106 : decode b_M_leak 106 = .ok (.aload_n 0, 1) := by decide +kernel
theorem d_M_leak_107 : decode b_M_leak 107 = .ok (.getfield 35, 3) := by decide +kernel
theorem d_M_leak_110 : decode b_M_leak 110 = .ok (.aload_n 0, 1) := by decide +kernel
theorem d_M_leak_111 : decode b_M_leak 111 = .ok (.getfield 110, 3) := by decide +kernel
theorem d_M_leak_114 : decode b_M_leak 114 = .ok (.iload 4, 2) := by decide +kernel
theorem d_M_leak_116 : decode b_M_leak 116 = .ok (.iastore, 1) := by decide +kernel
theorem d_M_leak_117 : decode b_M_leak 117 = .ok (.aload_n 0, 1) := by decide +kernel
theorem d_M_leak_118 : decode b_M_leak 118 = .ok (.getfield 38, 3) := by decide +kernel
theorem d_M_leak_121 : decode b_M_leak 121 = .ok (.aload_n 0, 1) := by decide +kernel
theorem d_M_leak_122 : decode b_M_leak 122 = .ok (.getfield 110, 3) := by decide +kernel
theorem d_M_leak_125 : decode b_M_leak 125 = .ok (.iload 5, 2) := by decide +kernel
theorem d_M_leak_127 : decode b_M_leak 127 = .ok (.iastore, 1) := by decide +kernel
theorem d_M_leak_128 : decode b_M_leak 128 = .ok (.aload_n 0, 1) := by decide +kernel
theorem d_M_leak_129 : decode b_M_leak 129 = .ok (.dup, 1) := by decide +kernel
theorem d_M_leak_130 : decode b_M_leak 130 = .ok (.getfield 110, 3) := by decide +kernel
theorem d_M_leak_133 : decode b_M_leak 133 = .ok (.iconst 1, 1) := by decide +kernel
theorem d_M_leak_134 : decode b_M_leak 134 = .ok (.iadd, 1) := by decide +kernel
theorem d_M_leak_135 : decode b_M_leak 135 = .ok (.putfield 110, 3) := by decide +kernel
theorem d_M_leak_138 : decode b_M_leak 138 = .ok (.aload_n 0, 1) := by decide +kernel
theorem d_M_leak_139 : decode b_M_leak 139 = .ok (.getfield 110, 3) := by decide +kernel
theorem d_M_leak_142 : decode b_M_leak 142 = .ok (.iconst 1, 1) := by decide +kernel
theorem d_M_leak_143 : decode b_M_leak 143 = .ok (.isub, 1) := by decide +kernel
theorem d_M_leak_144 : decode b_M_leak 144 = .ok (.ireturn, 1) := by decide +kernel
theorem d_M_shut_0 : decode b_M_shut 0 = .ok (.aload_n 0, 1) := by decide +kernel
theorem d_M_shut_1 : decode b_M_shut 1 = .ok (.iload_n 1, 1) := by decide +kernel
theorem d_M_shut_2 : decode b_M_shut 2 = .ok (.i2l, 1) := by decide +kernel
theorem d_M_shut_3 : decode b_M_shut 3 = .ok (.lconst 0, 1) := by decide +kernel
theorem d_M_shut_4 : decode b_M_shut 4 = .ok (.aload_n 0, 1) := by decide +kernel
theorem d_M_shut_5 : decode b_M_shut 5 = .ok (.getfield 110, 3) := by decide +kernel
theorem d_M_shut_8 : decode b_M_shut 8 = .ok (.iconst 1, 1) := by decide +kernel
theorem d_M_shut_9 : decode b_M_shut 9 = .ok (.isub, 1) := by decide +kernel
theorem d_M_shut_10 : decode b_M_shut 10 = .ok (.i2l, 1) := by decide +kernel
theorem d_M_shut_11 : decode b_M_shut 11 = .ok (.invokestatic 79, 3) := by decide +kernel
theorem d_M_shut_14 : decode b_M_shut 14 = .ok (.ifCond .eq 7, 3) := by decide +kernel
theorem d_M_shut_17 : decode b_M_shut 17 = .ok (.iconst 0, 1) := by decide +kernel
theorem d_M_shut_18 : decode b_M_shut 18 = .ok (.goto 4, 3) := by decide +kernel
theorem d_M_shut_21 : decode b_M_shut 21 = .ok (.iconst 1, 1) := by decide +kernel
theorem d_M_shut_22 : decode b_M_shut 22 = .ok (.putfield 72, 3) := by decide +kernel
theorem d_M_shut_25 : decode b_M_shut 25 = .ok (.aload_n 0, 1) := by decide +kernel
theorem d_M_shut_26 : decode b_M_shut 26 = .ok (.getfield 72, 3) := by decide +kernel
theorem d_M_shut_29 : decode b_M_shut 29 = .ok (.ifCond .le 5, 3) := by decide +kernel
theorem d_M_shut_32 : decode b_M_shut 32 = .ok (.iconst 0, 1) := by decide +kernel
theorem d_M_shut_33 : decode b_M_shut 33 = .ok (.ireturn, 1) := by decide +kernel
theorem d_M_shut_34 : decode b_M_shut 34 = .ok (.aload_n 0, 1) := by decide +kernel
theorem d_M_shut_35 : decode b_M_shut 35 = .ok (.getfield 41, 3) := by decide +kernel
theorem d_M_shut_38 : decode b_M_shut 38 = .ok (.iload_n 1, 1) := by decide +kernel
theorem d_M_shut_39 : decode b_M_shut 39 = .ok (.baload, 1) := by decide +kernel
theorem d_M_shut_40 : decode b_M_shut 40 = .ok (.istore_n 3, 1) := by decide +kernel
theorem d_M_shut_41 : decode b_M_shut 41 = .ok (.aload_n 0, 1) := by decide +kernel
theorem d_M_shut_42 : decode b_M_shut 42 = .ok (.getfield 41, 3) := by decide +kernel
theorem d_M_shut_45 : decode b_M_shut 45 = .ok (.iload_n 1, 1) := by decide +kernel
theorem d_M_shut_46 : decode b_M_shut 46 = .ok (.iload_n 2, 1) := by decide +kernel
theorem d_M_shut_47 : decode b_M_shut 47 = .ok (.bastore, 1) := by decide +kernel
theorem d_M_shut_48 : decode b_M_shut 48 = .ok (.iload_n 3, 1) := by decide +kernel
theorem d_M_shut_49 : decode b_M_shut 49 = .ok (.ireturn, 1) := by decide +kernel
theorem d_M_fan_0 : decode b_M_fan 0 = .ok (.aload_n 0, 1) := by decide +kernel
theorem d_M_fan_1 : decode b_M_fan 1 = .ok (.aload_n 0, 1) := by decide +kernel
theorem d_M_fan_2 : decode b_M_fan 2 = .ok (.iload_n 1, 1) := by decide +kernel
theorem d_M_fan_3 : decode b_M_fan 3 = .ok (.iload_n 2, 1) := by decide +kernel
theorem d_M_fan_4 : decode b_M_fan 4 = .ok (.invokevirtual 104, 3) := by decide +kernel
theorem d_M_fan_7 : decode b_M_fan 7 = .ok (.ifCond .eq 28, 3) := by decide +kernel
theorem d_M_fan_10 : decode b_M_fan 10 = .ok (.iload_n 3, 1) := by decide +kernel
theorem d_M_fan_11 : decode b_M_fan 11 = .ok (.i2l, 1) := by decide +kernel
theorem d_M_fan_12 : decode b_M_fan 12 = .ok (.lconst 0, 1) := by decide +kernel
theorem d_M_fan_13 : decode b_M_fan 13 = .ok (.ldc2_w 113, 3) := by decide +kernel
theorem d_M_fan_16 : decode b_M_fan 16 = .ok (.invokestatic 79, 3) := by decide +kernel
theorem d_M_fan_19 : decode b_M_fan 19 = .ok (.ifCond .eq 16, 3) := by decide +kernel
theorem d_M_fan_22 : decode b_M_fan 22 = .ok (.iload 4, 2) := by decide +kernel
theorem d_M_fan_24 : decode b_M_fan 24 = .ok (.i2l, 1) := by decide +kernel
theorem d_M_fan_25 : decode b_M_fan 25 = .ok (.lconst 0, 1) := by decide +kernel
theorem d_M_fan_26 : decode b_M_fan 26 = .ok (.ldc2_w 108, 3) := by decide +kernel
theorem d_M_fan_29 : decode b_M_fan 29 = .ok (.invokestatic 79, 3) := by decide +kernel
theorem d_M_fan_32 : decode b_M_fan 32 = .ok (.ifCond .ne 7, 3) := by decide +kernel
theorem d_M_fan_35 : decode b_M_fan 35 = .ok (.iconst 1, 1) := by decide +kernel
theorem d_M_fan_36 : decode b_M_fan 36 = .ok (.goto 16, 3) := by decide +kernel
theorem d_M_fan_39 : decode b_M_fan 39 = .ok (.aload_n 0, 1) := by decide +kernel
theorem d_M_fan_40 : decode b_M_fan 40 = .ok (.getfield 115, 3) := by decide +kernel
theorem d_M_fan_43 : decode b_M_fan 43 = .ok (.iconst 4, 1) := by decide +kernel
theorem d_M_fan_44 : decode b_M_fan 44 = .ok (.if_icmp .ne 7, 3) := by decide +kernel
theorem d_M_fan_47 : decode b_M_fan 47 = .ok (.iconst 2, 1) := by decide +kernel
theorem d_M_fan_48 : decode b_M_fan 48 = .ok (.goto 4, 3) := by decide +kernel
theorem d_M_fan_51 : decode b_M_fan 51 = .ok (.iconst 0, 1) := by decide +kernel
theorem d_M_fan_52 : decode b_M_fan 52 = .ok (.putfield 72, 3) := by decide +kernel
theorem d_M_fan_55 : decode b_M_fan 55 = .ok (.aload_n 0, 1) := by decide +kernel
theorem d_M_fan_56 : decode b_M_fan 56 = .ok (.getfield 72, 3) := by decide +kernel
theorem d_M_fan_59 : decode b_M_fan 59 = .ok (.ifCond .le 5, 3) := by decide +kernel
theorem d_M_fan_62 : decode b_M_fan 62 = .ok (.iconst 0, 1) := by decide +kernel
theorem d_M_fan_63 : decode b_M_fan 63 = .ok (.ireturn, 1) := by decide +kernel
theorem d_M_fan_64 : decode b_M_fan 64 = .ok (.aload_n 0, 1) := by decide +kernel
theorem d_M_fan_65 : decode b_M_fan 65 = .ok (.getfield 45, 3) := by decide +kernel
theorem d_M_fan_68 : decode b_M_fan 68 = .ok (.aload_n 0, 1) := by decide +kernel
theorem d_M_fan_69 : decode b_M_fan 69 = .ok (.getfield 115, 3) := by decide +kernel
theorem d_M_fan_72 : decode b_M_fan 72 = .ok (.iload_n 1, 1) := by decide +kernel
theorem d_M_fan_73 : decode b_M_fan 73 = .ok (.iastore, 1) := by decide +kernel
theorem d_M_fan_74 : decode b_M_fan 74 = .ok (.aload_n 0, 1) := by decide +kernel
theorem d_M_fan_75 : decode b_M_fan 75 = .ok (.getfield 48, 3) := by decide +kernel
theorem d_M_fan_78 : decode b_M_fan 78 = .ok (.aload_n 0, 1) := by decide +kernel
theorem d_M_fan_79 : decode b_M_fan 79 = .ok (.getfield 115, 3) := by decide +kernel
theorem d_M_fan_82 : decode b_M_fan 82 = .ok (.iload_n 2, 1) := by decide +kernel
theorem d_M_fan_83 : decode b_M_fan 83 = .ok (.iastore, 1) := by decide +kernel
theorem d_M_fan_84 : decode b_M_fan 84 = .ok (.aload_n 0, 1) := by decide +kernel
theorem d_M_fan_85 : decode b_M_fan 85 = .ok (.getfield 51, 3) := by decide +kernel
theorem d_M_fan_88 : decode b_M_fan 88 = .ok (.aload_n 0, 1) := by decide +kernel
theorem d_M_fan_89 : decode b_M_fan 89 = .ok (.getfield 115, 3) := by decide +kernel
theorem d_M_fan_92 : decode b_M_fan 92 = .ok (.iload_n 3, 1) := by decide +kernel
theorem d_M_fan_93 : decode b_M_fan 93 = .ok (.iastore, 1) := by decide +kernel
theorem d_M_fan_94 : decode b_M_fan 94 = .ok (.aload_n 0, 1) := by decide +kernel
theorem d_M_fan_95 : decode b_M_fan 95 = .ok (.getfield 54, 3) := by decide +kernel
theorem d_M_fan_98 : decode b_M_fan 98 = .ok (.aload_n 0, 1) := by decide +kernel
theorem d_M_fan_99 : decode b_M_fan 99 = .ok (.getfield 115, 3) := by decide +kernel
theorem d_M_fan_102 : decode b_M_fan 102 = .ok (.iload 4, 2) := by decide +kernel
theorem d_M_fan_104 : decode b_M_fan 104 = .ok (.iastore, 1) := by decide +kernel
theorem d_M_fan_105 : decode b_M_fan 105 = .ok (.aload_n 0, 1) := by decide +kernel
theorem d_M_fan_106 : decode b_M_fan 106 = .ok (.dup, 1) := by decide +kernel
theorem d_M_fan_107 : decode b_M_fan 107 = .ok (.getfield 115, 3) := by decide +kernel
theorem d_M_fan_110 : decode b_M_fan 110 = .ok (.iconst 1, 1) := by decide +kernel
theorem d_M_fan_111 : decode b_M_fan 111 = .ok (.iadd, 1) := by decide +kernel
theorem d_M_fan_112 : decode b_M_fan 112 = .ok (.putfield 115, 3) := by decide +kernel
theorem d_M_fan_115 : decode b_M_fan 115 = .ok (.aload_n 0, 1) := by decide +kernel
theorem d_M_fan_116 : decode b_M_fan 116 = .ok (.getfield 115, 3) := by decide +kernel
theorem d_M_fan_119 : decode b_M_fan 119 = .ok (.iconst 1, 1) := by decide +kernel
theorem d_M_fan_120 : decode b_M_fan 120 = .ok (.isub, 1) := by decide +kernel
theorem d_M_fan_121 : decode b_M_fan 121 = .ok (.ireturn, 1) := by decide +kernel
theorem d_M_warmthOf_0 : decode b_M_warmthOf 0 = .ok (.iload_n 1, 1) := by decide +kernel
theorem d_M_warmthOf_1 : decode b_M_warmthOf 1 = .ok (.ifCond .ge 10, 3) := by decide +kernel
theorem d_M_warmthOf_4 : decode b_M_warmthOf 4 = .ok (.aload_n 0, 1) := by decide +kernel
theorem d_M_warmthOf_5 : decode b_M_warmthOf 5 = .ok (.getfield 101, 3) := by decide +kernel
theorem d_M_warmthOf_8 : decode b_M_warmthOf 8 = .ok (.goto 9, 3) := by decide +kernel
theorem d_M_warmthOf_11 : decode b_M_warmthOf 11 = .ok (.aload_n 0, 1) := by decide +kernel
theorem d_M_warmthOf_12 : decode b_M_warmthOf 12 = .ok (.getfield 13, 3) := by decide +kernel
theorem d_M_warmthOf_15 : decode b_M_warmthOf 15 = .ok (.iload_n 1, 1) := by decide +kernel
theorem d_M_warmthOf_16 : decode b_M_warmthOf 16 = .ok (.iaload, 1) := by decide +kernel
theorem d_M_warmthOf_17 : decode b_M_warmthOf 17 = .ok (.ireturn, 1) := by decide +kernel
theorem d_M_pressureOf_0 : decode b_M_pressureOf 0 = .ok (.iload_n 1, 1) := by decide +kernel
theorem d_M_pressureOf_1 : decode b_M_pressureOf 1 = .ok (.ifCond .ge 14, 3) := by decide +kernel
theorem d_M_pressureOf_4 : decode b_M_pressureOf 4 = .ok (.aload_n 0, 1) := by decide +kernel
theorem d_M_pressureOf_5 : decode b_M_pressureOf 5 = .ok (.getfield 7, 3) := by decide +kernel
theorem d_M_pressureOf_8 : decode b_M_pressureOf 8 = .ok (.iload_n 1, 1) := by decide +kernel
theorem d_M_pressureOf_9 : decode b_M_pressureOf 9 = .ok (.iconst 4, 1) := by decide +kernel
theorem d_M_pressureOf_10 : decode b_M_pressureOf 10 = .ok (.iadd, 1) := by decide +kernel
theorem d_M_pressureOf_11 : decode b_M_pressureOf 11 = .ok (.iaload, 1) := by decide +kernel
theorem d_M_pressureOf_12 : decode b_M_pressureOf 12 = .ok (.goto 9, 3) := by decide +kernel
theorem d_M_pressureOf_15 : decode b_M_pressureOf 15 = .ok (.aload_n 0, 1) := by decide +kernel
theorem d_M_pressureOf_16 : decode b_M_pressureOf 16 = .ok (.getfield 63, 3) := by decide +kernel
theorem d_M_pressureOf_19 : decode b_M_pressureOf 19 = .ok (.iload_n 1, 1) := by decide +kernel
theorem d_M_pressureOf_20 : decode b_M_pressureOf 20 = .ok (.iaload, 1) := by decide +kernel
theorem d_M_pressureOf_21 : decode b_M_pressureOf 21 = .ok (.ireturn, 1) := by decide +kernel
theorem d_M_driveOf_0 : decode b_M_driveOf 0 = .ok (.aload_n 0, 1) := by decide +kernel
theorem d_M_driveOf_1 : decode b_M_driveOf 1 = .ok (.getfield 32, 3) := by decide +kernel
theorem d_M_driveOf_4 : decode b_M_driveOf 4 = .ok (.iload_n 1, 1) := by decide +kernel
theorem d_M_driveOf_5 : decode b_M_driveOf 5 = .ok (.iaload, 1) := by decide +kernel
theorem d_M_driveOf_6 : decode b_M_driveOf 6 = .ok (.aload_n 0, 1) := by decide +kernel
theorem d_M_driveOf_7 : decode b_M_driveOf 7 = .ok (.aload_n 0, 1) := by decide +kernel
theorem d_M_driveOf_8 : decode b_M_driveOf 8 = .ok (.getfield 26, 3) := by decide +kernel
theorem d_M_driveOf_11 : decode b_M_driveOf 11 = .ok (.iload_n 1, 1) := by decide +kernel
theorem d_M_driveOf_12 : decode b_M_driveOf 12 = .ok (.iaload, 1) := by decide +kernel
theorem d_M_driveOf_13 : decode b_M_driveOf 13 = .ok (.invokevirtual 97, 3) := by decide +kernel
theorem d_M_driveOf_16 : decode b_M_driveOf 16 = .ok (.aload_n 0, 1) := by decide +kernel
theorem d_M_driveOf_17 : decode b_M_driveOf 17 = .ok (.aload_n 0, 1) := by decide +kernel
theorem d_M_driveOf_18 : decode b_M_driveOf 18 = .ok (.getfield 29, 3) := by decide +kernel
theorem d_M_driveOf_21 : decode b_M_driveOf 21 = .ok (.iload_n 1, 1) := by decide +kernel
theorem d_M_driveOf_22 : decode b_M_driveOf 22 = .ok (.iaload, 1) := by decide +kernel
theorem d_M_driveOf_23 : decode b_M_driveOf 23 = .ok (.invokevirtual 97, 3) := by decide +kernel
theorem d_M_driveOf_26 : decode b_M_driveOf 26 = .ok (.isub, 1) := by decide +kernel
theorem d_M_driveOf_27 : decode b_M_driveOf 27 = .ok (.imul, 1) := by decide +kernel
theorem d_M_driveOf_28 : decode b_M_driveOf 28 = .ok (.bipush 100, 2) := by decide +kernel
theorem d_M_driveOf_30 : decode b_M_driveOf 30 = .ok (.idiv, 1) := by decide +kernel
theorem d_M_driveOf_31 : decode b_M_driveOf 31 = .ok (.istore_n 2, 1) := by decide +kernel
theorem d_M_driveOf_32 : decode b_M_driveOf 32 = .ok (.aload_n 0, 1) := by decide +kernel
theorem d_M_driveOf_33 : decode b_M_driveOf 33 = .ok (.aload_n 0, 1) := by decide +kernel
theorem d_M_driveOf_34 : decode b_M_driveOf 34 = .ok (.getfield 26, 3) := by decide +kernel
theorem d_M_driveOf_37 : decode b_M_driveOf 37 = .ok (.iload_n 1, 1) := by decide +kernel
theorem d_M_driveOf_38 : decode b_M_driveOf 38 = .ok (.iaload, 1) := by decide +kernel
theorem d_M_driveOf_39 : decode b_M_driveOf 39 = .ok (.invokevirtual 118, 3) := by decide +kernel
theorem d_M_driveOf_42 : decode b_M_driveOf 42 = .ok (.aload_n 0, 1) := by decide +kernel
theorem d_M_driveOf_43 : decode b_M_driveOf 43 = .ok (.aload_n 0, 1) := by decide +kernel
theorem d_M_driveOf_44 : decode b_M_driveOf 44 = .ok (.getfield 29, 3) := by decide +kernel
theorem d_M_driveOf_47 : decode b_M_driveOf 47 = .ok (.iload_n 1, 1) := by decide +kernel
theorem d_M_driveOf_48 : decode b_M_driveOf 48 = .ok (.iaload, 1) := by decide +kernel
theorem d_M_driveOf_49 : decode b_M_driveOf 49 = .ok (.invokevirtual 118, 3) := by decide +kernel
theorem d_M_driveOf_52 : decode b_M_driveOf 52 = .ok (.isub, 1) := by decide +kernel
theorem d_M_driveOf_53 : decode b_M_driveOf 53 = .ok (.iload_n 2, 1) := by decide +kernel
theorem d_M_driveOf_54 : decode b_M_driveOf 54 = .ok (.iadd, 1) := by decide +kernel
theorem d_M_driveOf_55 : decode b_M_driveOf 55 = .ok (.ireturn, 1) := by decide +kernel
theorem d_M_rootOf_0 : decode b_M_rootOf 0 = .ok (.lconst 0, 1) := by decide +kernel
theorem d_M_rootOf_1 : decode b_M_rootOf 1 = .ok (.lstore_n 2, 1) := by decide +kernel
theorem d_M_rootOf_2 : decode b_M_rootOf 2 = .ok (.ldc2_w 121, 3) := by decide +kernel
theorem d_M_rootOf_5 : decode b_M_rootOf 5 = .ok (.lstore 4, 2) := by decide +kernel
theorem d_M_rootOf_7 : decode b_M_rootOf 7 = .ok (.lload_n 2, 1) := by decide +kernel
theorem d_M_rootOf_8 : decode b_M_rootOf 8 = .ok (.lload 4, 2) := by decide +kernel
theorem d_M_rootOf_10 : decode b_M_rootOf 10 = .ok (.lcmp, 1) := by decide +kernel
theorem d_M_rootOf_11 : decode b_M_rootOf 11 = .ok (.ifCond .ge 40, 3) := by decide +kernel
theorem d_M_rootOf_14 : decode b_M_rootOf 14 = .ok (.lload_n 2, 1) := by decide +kernel
theorem d_M_rootOf_15 : decode b_M_rootOf 15 = .ok (.lload 4, 2) := by decide +kernel
theorem d_M_rootOf_17 : decode b_M_rootOf 17 = .ok (.ladd, 1) := by decide +kernel
theorem d_M_rootOf_18 : decode b_M_rootOf 18 = .ok (.lconst 1, 1) := by decide +kernel
theorem d_M_rootOf_19 : decode b_M_rootOf 19 = .ok (.ladd, 1) := by decide +kernel
theorem d_M_rootOf_20 : decode b_M_rootOf 20 = .ok (.ldc2_w 123, 3) := by decide +kernel
theorem d_M_rootOf_23 : decode b_M_rootOf 23 = .ok (.ldiv, 1) := by decide +kernel
theorem d_M_rootOf_24 : decode b_M_rootOf 24 = .ok (.lstore 6, 2) := by decide +kernel
theorem d_M_rootOf_26 : decode b_M_rootOf 26 = .ok (.lload 6, 2) := by decide +kernel
theorem d_M_rootOf_28 : decode b_M_rootOf 28 = .ok (.lload 6, 2) := by decide +kernel
theorem d_M_rootOf_30 : decode b_M_rootOf 30 = .ok (.lmul, 1) := by decide +kernel
theorem d_M_rootOf_31 : decode b_M_rootOf 31 = .ok (.lload_n 0, 1) := by decide +kernel
theorem d_M_rootOf_32 : decode b_M_rootOf 32 = .ok (.lcmp, 1) := by decide +kernel
theorem d_M_rootOf_33 : decode b_M_rootOf 33 = .ok (.ifCond .gt 9, 3) := by decide +kernel
theorem d_M_rootOf_36 : decode b_M_rootOf 36 = .ok (.lload 6, 2) := by decide +kernel
theorem d_M_rootOf_38 : decode b_M_rootOf 38 = .ok (.lstore_n 2, 1) := by decide +kernel
theorem d_M_rootOf_39 : decode b_M_rootOf 39 = .ok (.goto 9, 3) := by decide +kernel
theorem d_M_rootOf_42 : decode b_M_rootOf 42 = .ok (.lload 6, 2) := by decide +kernel
theorem d_M_rootOf_44 : decode b_M_rootOf 44 = .ok (.lconst 1, 1) := by decide +kernel
theorem d_M_rootOf_45 : decode b_M_rootOf 45 = .ok (.lsub, 1) := by decide +kernel
theorem d_M_rootOf_46 : decode b_M_rootOf 46 = .ok (.lstore 4, 2) := by decide +kernel
theorem d_M_rootOf_48 : decode b_M_rootOf 48 = .ok (.goto (-41), 3) := by decide +kernel
theorem d_M_rootOf_51 : decode b_M_rootOf 51 = .ok (.lload_n 2, 1) := by decide +kernel
theorem d_M_rootOf_52 : decode b_M_rootOf 52 = .ok (.lreturn, 1) := by decide +kernel
theorem d_M_flowOf_0 : decode b_M_flowOf 0 = .ok (.aload_n 0, 1) := by decide +kernel
theorem d_M_flowOf_1 : decode b_M_flowOf 1 = .ok (.getfield 125, 3) := by decide +kernel
theorem d_M_flowOf_4 : decode b_M_flowOf 4 = .ok (.iload_n 1, 1) := by decide +kernel
theorem d_M_flowOf_5 : decode b_M_flowOf 5 = .ok (.ishr, 1) := by decide +kernel
theorem d_M_flowOf_6 : decode b_M_flowOf 6 = .ok (.iconst 1, 1) := by decide +kernel
theorem d_M_flowOf_7 : decode b_M_flowOf 7 = .ok (.iand, 1) := by decide +kernel
theorem d_M_flowOf_8 : decode b_M_flowOf 8 = .ok (.iconst 1, 1) := by decide +kernel
theorem d_M_flowOf_9 : decode b_M_flowOf 9 = .ok (.if_icmp .ne 5, 3) := by decide +kernel
theorem d_M_flowOf_12 : decode b_M_flowOf 12 = .ok (.lconst 0, 1) := by decide +kernel
theorem d_M_flowOf_13 : decode b_M_flowOf 13 = .ok (.lreturn, 1) := by decide +kernel
theorem d_M_flowOf_14 : decode b_M_flowOf 14 = .ok (.aload_n 0, 1) := by decide +kernel
theorem d_M_flowOf_15 : decode b_M_flowOf 15 = .ok (.iload_n 1, 1) := by decide +kernel
theorem d_M_flowOf_16 : decode b_M_flowOf 16 = .ok (.invokevirtual 128, 3) := by decide +kernel
theorem d_M_flowOf_19 : decode b_M_flowOf 19 = .ok (.i2l, 1) := by decide +kernel
theorem d_M_flowOf_20 : decode b_M_flowOf 20 = .ok (.lstore_n 2, 1) := by decide +kernel
theorem d_M_flowOf_21 : decode b_M_flowOf 21 = .ok (.lload_n 2, 1) := by decide +kernel
theorem d_M_flowOf_22 : decode b_M_flowOf 22 = .ok (.lconst 0, 1) := by decide +kernel
theorem d_M_flowOf_23 : decode b_M_flowOf 23 = .ok (.lcmp, 1) := by decide +kernel
theorem d_M_flowOf_24 : decode b_M_flowOf 24 = .ok (.ifCond .ge 8, 3) := by decide +kernel
theorem d_M_flowOf_27 : decode b_M_flowOf 27 = .ok (.lload_n 2, 1) := by decide +kernel
theorem d_M_flowOf_28 : decode b_M_flowOf 28 = .ok (.lneg, 1) := by decide +kernel
theorem d_M_flowOf_29 : decode b_M_flowOf 29 = .ok (.goto 4, 3) := by decide +kernel
theorem d_M_flowOf_32 : decode b_M_flowOf 32 = .ok (.lload_n 2, 1) := by decide +kernel
theorem d_M_flowOf_33 : decode b_M_flowOf 33 = .ok (.lstore 4, 2) := by decide +kernel
theorem d_M_flowOf_35 : decode b_M_flowOf 35 = .ok (.aload_n 0, 1) := by decide +kernel
theorem d_M_flowOf_36 : decode b_M_flowOf 36 = .ok (.getfield 38, 3) := by decide +kernel
theorem d_M_flowOf_39 : decode b_M_flowOf 39 = .ok (.iload_n 1, 1) := by decide +kernel
theorem d_M_flowOf_40 : decode b_M_flowOf 40 = .ok (.iaload, 1) := by decide +kernel
theorem d_M_flowOf_41 : decode b_M_flowOf 41 = .ok (.iconst 1, 1) := by decide +kernel
theorem d_M_flowOf_42 : decode b_M_flowOf 42 = .ok (.if_icmp .ne 16, 3) := by decide +kernel
theorem d_M_flowOf_45 : decode b_M_flowOf 45 = .ok (.aload_n 0, 1) := by decide +kernel
theorem d_M_flowOf_46 : decode b_M_flowOf 46 = .ok (.getfield 35, 3) := by decide +kernel
theorem d_M_flowOf_49 : decode b_M_flowOf 49 = .ok (.iload_n 1, 1) := by decide +kernel
theorem d_M_flowOf_50 : decode b_M_flowOf 50 = .ok (.iaload, 1) := by decide +kernel
theorem d_M_flowOf_51 : decode b_M_flowOf 51 = .ok (.i2l, 1) := by decide +kernel
theorem d_M_flowOf_52 : decode b_M_flowOf 52 = .ok (.lload 4, 2) := by decide +kernel
theorem d_M_flowOf_54 : decode b_M_flowOf 54 = .ok (.lmul, 1) := by decide +kernel
theorem d_M_flowOf_55 : decode b_M_flowOf 55 = .ok (.goto 24, 3) := by decide +kernel
theorem d_M_flowOf_58 : decode b_M_flowOf 58 = .ok (.aload_n 0, 1) := by decide +kernel
theorem d_M_flowOf_59 : decode b_M_flowOf 59 = .ok (.getfield 35, 3) := by decide +kernel
theorem d_M_flowOf_62 : decode b_M_flowOf 62 = .ok (.iload_n 1, 1) := by decide +kernel
theorem d_M_flowOf_63 : decode b_M_flowOf 63 = .ok (.iaload, 1) := by decide +kernel
theorem d_M_flowOf_64 : decode b_M_flowOf 64 = .ok (.i2l, 1) := by decide +kernel
theorem d_M_flowOf_65 : decode b_M_flowOf 65 = .ok (.aload_n 0, 1) := by decide +kernel
theorem d_M_flowOf_66 : decode b_M_flowOf 66 = .ok (.getfield 35, 3) := by decide +kernel
theorem d_M_flowOf_69 : decode b_M_flowOf 69 = .ok (.iload_n 1, 1) := by decide +kernel
theorem d_M_flowOf_70 : decode b_M_flowOf 70 = .ok (.iaload, 1) := by decide +kernel
theorem d_M_flowOf_71 : decode b_M_flowOf 71 = .ok (.i2l, 1) := by decide +kernel
theorem d_M_flowOf_72 : decode b_M_flowOf 72 = .ok (.lmul, 1) := by decide +kernel
theorem d_M_flowOf_73 : decode b_M_flowOf 73 = .ok (.lload 4, 2) := by decide +kernel
theorem d_M_flowOf_75 : decode b_M_flowOf 75 = .ok (.lmul, 1) := by decide +kernel
theorem d_M_flowOf_76 : decode b_M_flowOf 76 = .ok (.invokestatic 131, 3) := by decide +kernel
theorem d_M_flowOf_79 : decode b_M_flowOf 79 = .ok (.lstore 6, 2) := by decide +kernel
theorem d_M_flowOf_81 : decode b_M_flowOf 81 = .ok (.lload_n 2, 1) := by decide +kernel
theorem d_M_flowOf_82 : decode b_M_flowOf 82 = .ok (.lconst 0, 1) := by decide +kernel
theorem d_M_flowOf_83 : decode b_M_flowOf 83 = .ok (.lcmp, 1) := by decide +kernel
theorem d_M_flowOf_84 : decode b_M_flowOf 84 = .ok (.ifCond .ge 9, 3) := by decide +kernel
theorem d_M_flowOf_87 : decode b_M_flowOf 87 = .ok (.lload 6, 2) := by decide +kernel
theorem d_M_flowOf_89 : decode b_M_flowOf 89 = .ok (.lneg, 1) := by decide +kernel
theorem d_M_flowOf_90 : decode b_M_flowOf 90 = .ok (.goto 5, 3) := by decide +kernel
theorem d_M_flowOf_93 : decode b_M_flowOf 93 = .ok (.lload 6, 2) := by decide +kernel
theorem d_M_flowOf_95 : decode b_M_flowOf 95 = .ok (.lreturn, 1) := by decide +kernel
theorem d_M_blown_0 : decode b_M_blown 0 = .ok (.aload_n 0, 1) := by decide +kernel
theorem d_M_blown_1 : decode b_M_blown 1 = .ok (.getfield 51, 3) := by decide +kernel
