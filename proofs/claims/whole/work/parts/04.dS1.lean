theorem d_S_init_0 : decode b_S_init 0 = .ok (.aload_n 0, 1) := by decide +kernel
theorem d_S_init_1 : decode b_S_init 1 = .ok (.invokespecial 3, 3) := by decide +kernel
theorem d_S_init_4 : decode b_S_init 4 = .ok (.aload_n 0, 1) := by decide +kernel
theorem d_S_init_5 : decode b_S_init 5 = .ok (.bipush 12, 2) := by decide +kernel
theorem d_S_init_7 : decode b_S_init 7 = .ok (.newarray .int, 2) := by decide +kernel
theorem d_S_init_9 : decode b_S_init 9 = .ok (.putfield 9, 3) := by decide +kernel
theorem d_S_init_12 : decode b_S_init 12 = .ok (.aload_n 0, 1) := by decide +kernel
theorem d_S_init_13 : decode b_S_init 13 = .ok (.aload_n 1, 1) := by decide +kernel
theorem d_S_init_14 : decode b_S_init 14 = .ok (.putfield 15, 3) := by decide +kernel
theorem d_S_init_17 : decode b_S_init 17 = .ok (.return_, 1) := by decide +kernel
theorem d_S_settles_0 : decode b_S_settles 0 = .ok (.aload_n 1, 1) := by decide +kernel
theorem d_S_settles_1 : decode b_S_settles 1 = .ok (.getfield 19, 3) := by decide +kernel
theorem d_S_settles_4 : decode b_S_settles 4 = .ok (.aload_n 0, 1) := by decide +kernel
theorem d_S_settles_5 : decode b_S_settles 5 = .ok (.getfield 15, 3) := by decide +kernel
theorem d_S_settles_8 : decode b_S_settles 8 = .ok (.getfield 25, 3) := by decide +kernel
theorem d_S_settles_11 : decode b_S_settles 11 = .ok (.if_icmp .ne 8, 3) := by decide +kernel
theorem d_S_settles_14 : decode b_S_settles 14 = .ok (.aload_n 1, 1) := by decide +kernel
theorem d_S_settles_15 : decode b_S_settles 15 = .ok (.getfield 30, 3) := by decide +kernel
theorem d_S_settles_18 : decode b_S_settles 18 = .ok (.ireturn, 1) := by decide +kernel
theorem d_S_settles_19 : decode b_S_settles 19 = .ok (.aload_n 0, 1) := by decide +kernel
theorem d_S_settles_20 : decode b_S_settles 20 = .ok (.aload_n 1, 1) := by decide +kernel
theorem d_S_settles_21 : decode b_S_settles 21 = .ok (.invokevirtual 34, 3) := by decide +kernel
theorem d_S_settles_24 : decode b_S_settles 24 = .ok (.iconst 1, 1) := by decide +kernel
theorem d_S_settles_25 : decode b_S_settles 25 = .ok (.aload_n 0, 1) := by decide +kernel
theorem d_S_settles_26 : decode b_S_settles 26 = .ok (.getfield 15, 3) := by decide +kernel
theorem d_S_settles_29 : decode b_S_settles 29 = .ok (.getfield 38, 3) := by decide +kernel
theorem d_S_settles_32 : decode b_S_settles 32 = .ok (.ishl, 1) := by decide +kernel
theorem d_S_settles_33 : decode b_S_settles 33 = .ok (.iconst 1, 1) := by decide +kernel
theorem d_S_settles_34 : decode b_S_settles 34 = .ok (.isub, 1) := by decide +kernel
theorem d_S_settles_35 : decode b_S_settles 35 = .ok (.istore_n 2, 1) := by decide +kernel
theorem d_S_settles_36 : decode b_S_settles 36 = .ok (.iload_n 2, 1) := by decide +kernel
theorem d_S_settles_37 : decode b_S_settles 37 = .ok (.istore_n 3, 1) := by decide +kernel
theorem d_S_settles_38 : decode b_S_settles 38 = .ok (.iconst 0, 1) := by decide +kernel
theorem d_S_settles_39 : decode b_S_settles 39 = .ok (.istore 4, 2) := by decide +kernel
theorem d_S_settles_41 : decode b_S_settles 41 = .ok (.iload 4, 2) := by decide +kernel
theorem d_S_settles_43 : decode b_S_settles 43 = .ok (.ldc 41, 2) := by decide +kernel
theorem d_S_settles_45 : decode b_S_settles 45 = .ok (.if_icmp .ge 92, 3) := by decide +kernel
theorem d_S_settles_48 : decode b_S_settles 48 = .ok (.iload_n 3, 1) := by decide +kernel
theorem d_S_settles_49 : decode b_S_settles 49 = .ok (.ifCond .eq 88, 3) := by decide +kernel
theorem d_S_settles_52 : decode b_S_settles 52 = .ok (.aload_n 0, 1) := by decide +kernel
theorem d_S_settles_53 : decode b_S_settles 53 = .ok (.aload_n 1, 1) := by decide +kernel
theorem d_S_settles_54 : decode b_S_settles 54 = .ok (.invokevirtual 42, 3) := by decide +kernel
theorem d_S_settles_57 : decode b_S_settles 57 = .ok (.ifCond .ne 80, 3) := by decide +kernel
theorem d_S_settles_60 : decode b_S_settles 60 = .ok (.aload_n 0, 1) := by decide +kernel
theorem d_S_settles_61 : decode b_S_settles 61 = .ok (.aload_n 1, 1) := by decide +kernel
theorem d_S_settles_62 : decode b_S_settles 62 = .ok (.iload_n 2, 1) := by decide +kernel
theorem d_S_settles_63 : decode b_S_settles 63 = .ok (.invokevirtual 46, 3) := by decide +kernel
theorem d_S_settles_66 : decode b_S_settles 66 = .ok (.istore_n 3, 1) := by decide +kernel
theorem d_S_settles_67 : decode b_S_settles 67 = .ok (.iconst 1, 1) := by decide +kernel
theorem d_S_settles_68 : decode b_S_settles 68 = .ok (.istore 5, 2) := by decide +kernel
theorem d_S_settles_70 : decode b_S_settles 70 = .ok (.iload_n 3, 1) := by decide +kernel
theorem d_S_settles_71 : decode b_S_settles 71 = .ok (.ifCond .eq 31, 3) := by decide +kernel
theorem d_S_settles_74 : decode b_S_settles 74 = .ok (.iload 5, 2) := by decide +kernel
theorem d_S_settles_76 : decode b_S_settles 76 = .ok (.sipush 10000, 3) := by decide +kernel
theorem d_S_settles_79 : decode b_S_settles 79 = .ok (.if_icmp .ge 23, 3) := by decide +kernel
theorem d_S_settles_82 : decode b_S_settles 82 = .ok (.aload_n 0, 1) := by decide +kernel
theorem d_S_settles_83 : decode b_S_settles 83 = .ok (.aload_n 1, 1) := by decide +kernel
theorem d_S_settles_84 : decode b_S_settles 84 = .ok (.iload_n 3, 1) := by decide +kernel
theorem d_S_settles_85 : decode b_S_settles 85 = .ok (.iload 5, 2) := by decide +kernel
theorem d_S_settles_87 : decode b_S_settles 87 = .ok (.invokevirtual 50, 3) := by decide +kernel
theorem d_S_settles_90 : decode b_S_settles 90 = .ok (.ifCond .eq 12, 3) := by decide +kernel
theorem d_S_settles_93 : decode b_S_settles 93 = .ok (.iload 5, 2) := by decide +kernel
theorem d_S_settles_95 : decode b_S_settles 95 = .ok (.iconst 2, 1) := by decide +kernel
theorem d_S_settles_96 : decode b_S_settles 96 = .ok (.imul, 1) := by decide +kernel
theorem d_S_settles_97 : decode b_S_settles 97 = .ok (.istore 5, 2) := by decide +kernel
theorem d_S_settles_99 : decode b_S_settles 99 = .ok (.goto (-29), 3) := by decide +kernel
theorem d_S_settles_102 : decode b_S_settles 102 = .ok (.iload 5, 2) := by decide +kernel
theorem d_S_settles_104 : decode b_S_settles 104 = .ok (.iconst 2, 1) := by decide +kernel
theorem d_S_settles_105 : decode b_S_settles 105 = .ok (.idiv, 1) := by decide +kernel
theorem d_S_settles_106 : decode b_S_settles 106 = .ok (.istore 5, 2) := by decide +kernel
theorem d_S_settles_108 : decode b_S_settles 108 = .ok (.iload 5, 2) := by decide +kernel
theorem d_S_settles_110 : decode b_S_settles 110 = .ok (.ifCond .le 21, 3) := by decide +kernel
theorem d_S_settles_113 : decode b_S_settles 113 = .ok (.aload_n 0, 1) := by decide +kernel
theorem d_S_settles_114 : decode b_S_settles 114 = .ok (.aload_n 1, 1) := by decide +kernel
theorem d_S_settles_115 : decode b_S_settles 115 = .ok (.iload_n 3, 1) := by decide +kernel
theorem d_S_settles_116 : decode b_S_settles 116 = .ok (.iload 5, 2) := by decide +kernel
theorem d_S_settles_118 : decode b_S_settles 118 = .ok (.invokevirtual 50, 3) := by decide +kernel
theorem d_S_settles_121 : decode b_S_settles 121 = .ok (.pop, 1) := by decide +kernel
theorem d_S_settles_122 : decode b_S_settles 122 = .ok (.iload 5, 2) := by decide +kernel
theorem d_S_settles_124 : decode b_S_settles 124 = .ok (.iconst 2, 1) := by decide +kernel
theorem d_S_settles_125 : decode b_S_settles 125 = .ok (.idiv, 1) := by decide +kernel
theorem d_S_settles_126 : decode b_S_settles 126 = .ok (.istore 5, 2) := by decide +kernel
theorem d_S_settles_128 : decode b_S_settles 128 = .ok (.goto (-20), 3) := by decide +kernel
theorem d_S_settles_131 : decode b_S_settles 131 = .ok (.iinc 4 1, 3) := by decide +kernel
theorem d_S_settles_134 : decode b_S_settles 134 = .ok (.goto (-93), 3) := by decide +kernel
theorem d_S_settles_137 : decode b_S_settles 137 = .ok (.aload_n 1, 1) := by decide +kernel
theorem d_S_settles_138 : decode b_S_settles 138 = .ok (.aload_n 0, 1) := by decide +kernel
theorem d_S_settles_139 : decode b_S_settles 139 = .ok (.aload_n 1, 1) := by decide +kernel
theorem d_S_settles_140 : decode b_S_settles 140 = .ok (.invokevirtual 42, 3) := by decide +kernel
theorem d_S_settles_143 : decode b_S_settles 143 = .ok (.ifCond .ne 7, 3) := by decide +kernel
theorem d_S_settles_146 : decode b_S_settles 146 = .ok (.iconst 1, 1) := by decide +kernel
theorem d_S_settles_147 : decode b_S_settles 147 = .ok (.goto 4, 3) := by decide +kernel
theorem d_S_settles_150 : decode b_S_settles 150 = .ok (.iconst 0, 1) := by decide +kernel
theorem d_S_settles_151 : decode b_S_settles 151 = .ok (.putfield 30, 3) := by decide +kernel
theorem d_S_settles_154 : decode b_S_settles 154 = .ok (.aload_n 1, 1) := by decide +kernel
theorem d_S_settles_155 : decode b_S_settles 155 = .ok (.aload_n 0, 1) := by decide +kernel
theorem d_S_settles_156 : decode b_S_settles 156 = .ok (.getfield 15, 3) := by decide +kernel
theorem d_S_settles_159 : decode b_S_settles 159 = .ok (.getfield 25, 3) := by decide +kernel
theorem d_S_settles_162 : decode b_S_settles 162 = .ok (.putfield 19, 3) := by decide +kernel
theorem d_S_settles_165 : decode b_S_settles 165 = .ok (.aload_n 1, 1) := by decide +kernel
theorem d_S_settles_166 : decode b_S_settles 166 = .ok (.getfield 30, 3) := by decide +kernel
theorem d_S_settles_169 : decode b_S_settles 169 = .ok (.ireturn, 1) := by decide +kernel
theorem d_S_begin_0 : decode b_S_begin 0 = .ok (.aload_n 1, 1) := by decide +kernel
theorem d_S_begin_1 : decode b_S_begin 1 = .ok (.getfield 54, 3) := by decide +kernel
theorem d_S_begin_4 : decode b_S_begin 4 = .ok (.sipush (-5000), 3) := by decide +kernel
theorem d_S_begin_7 : decode b_S_begin 7 = .ok (.invokestatic 57, 3) := by decide +kernel
theorem d_S_begin_10 : decode b_S_begin 10 = .ok (.aload_n 0, 1) := by decide +kernel
theorem d_S_begin_11 : decode b_S_begin 11 = .ok (.getfield 15, 3) := by decide +kernel
theorem d_S_begin_14 : decode b_S_begin 14 = .ok (.getfield 63, 3) := by decide +kernel
theorem d_S_begin_17 : decode b_S_begin 17 = .ok (.iconst 0, 1) := by decide +kernel
theorem d_S_begin_18 : decode b_S_begin 18 = .ok (.aload_n 1, 1) := by decide +kernel
theorem d_S_begin_19 : decode b_S_begin 19 = .ok (.getfield 54, 3) := by decide +kernel
theorem d_S_begin_22 : decode b_S_begin 22 = .ok (.iconst 0, 1) := by decide +kernel
theorem d_S_begin_23 : decode b_S_begin 23 = .ok (.iconst 4, 1) := by decide +kernel
theorem d_S_begin_24 : decode b_S_begin 24 = .ok (.invokestatic 66, 3) := by decide +kernel
theorem d_S_begin_27 : decode b_S_begin 27 = .ok (.return_, 1) := by decide +kernel
theorem d_S_isPastHighest_0 : decode b_S_isPastHighest 0 = .ok (.iconst 4, 1) := by decide +kernel
theorem d_S_isPastHighest_1 : decode b_S_isPastHighest 1 = .ok (.istore_n 2, 1) := by decide +kernel
theorem d_S_isPastHighest_2 : decode b_S_isPastHighest 2 = .ok (.iload_n 2, 1) := by decide +kernel
theorem d_S_isPastHighest_3 : decode b_S_isPastHighest 3 = .ok (.bipush 12, 2) := by decide +kernel
theorem d_S_isPastHighest_5 : decode b_S_isPastHighest 5 = .ok (.if_icmp .ge 23, 3) := by decide +kernel
theorem d_S_isPastHighest_8 : decode b_S_isPastHighest 8 = .ok (.aload_n 1, 1) := by decide +kernel
theorem d_S_isPastHighest_9 : decode b_S_isPastHighest 9 = .ok (.getfield 54, 3) := by decide +kernel
theorem d_S_isPastHighest_12 : decode b_S_isPastHighest 12 = .ok (.iload_n 2, 1) := by decide +kernel
theorem d_S_isPastHighest_13 : decode b_S_isPastHighest 13 = .ok (.iaload, 1) := by decide +kernel
theorem d_S_isPastHighest_14 : decode b_S_isPastHighest 14 = .ok (.sipush 5000, 3) := by decide +kernel
theorem d_S_isPastHighest_17 : decode b_S_isPastHighest 17 = .ok (.if_icmp .le 5, 3) := by decide +kernel
theorem d_S_isPastHighest_20 : decode b_S_isPastHighest 20 = .ok (.iconst 1, 1) := by decide +kernel
theorem d_S_isPastHighest_21 : decode b_S_isPastHighest 21 = .ok (.ireturn, 1) := by decide +kernel
theorem d_S_isPastHighest_22 : decode b_S_isPastHighest 22 = .ok (.iinc 2 1, 3) := by decide +kernel
theorem d_S_isPastHighest_25 : decode b_S_isPastHighest 25 = .ok (.goto (-23), 3) := by decide +kernel
theorem d_S_isPastHighest_28 : decode b_S_isPastHighest 28 = .ok (.iconst 0, 1) := by decide +kernel
theorem d_S_isPastHighest_29 : decode b_S_isPastHighest 29 = .ok (.ireturn, 1) := by decide +kernel
theorem d_S_doBout_0 : decode b_S_doBout 0 = .ok (.iconst 0, 1) := by decide +kernel
theorem d_S_doBout_1 : decode b_S_doBout 1 = .ok (.istore_n 3, 1) := by decide +kernel
theorem d_S_doBout_2 : decode b_S_doBout 2 = .ok (.iconst 1, 1) := by decide +kernel
theorem d_S_doBout_3 : decode b_S_doBout 3 = .ok (.istore 4, 2) := by decide +kernel
theorem d_S_doBout_5 : decode b_S_doBout 5 = .ok (.iconst 0, 1) := by decide +kernel
theorem d_S_doBout_6 : decode b_S_doBout 6 = .ok (.istore 5, 2) := by decide +kernel
theorem d_S_doBout_8 : decode b_S_doBout 8 = .ok (.iload 5, 2) := by decide +kernel
theorem d_S_doBout_10 : decode b_S_doBout 10 = .ok (.iconst 4, 1) := by decide +kernel
theorem d_S_doBout_11 : decode b_S_doBout 11 = .ok (.if_icmp .ge 72, 3) := by decide +kernel
theorem d_S_doBout_14 : decode b_S_doBout 14 = .ok (.iload 4, 2) := by decide +kernel
theorem d_S_doBout_16 : decode b_S_doBout 16 = .ok (.ifCond .eq 67, 3) := by decide +kernel
theorem d_S_doBout_19 : decode b_S_doBout 19 = .ok (.iload_n 3, 1) := by decide +kernel
theorem d_S_doBout_20 : decode b_S_doBout 20 = .ok (.iload_n 2, 1) := by decide +kernel
theorem d_S_doBout_21 : decode b_S_doBout 21 = .ok (.if_icmp .eq 62, 3) := by decide +kernel
theorem d_S_doBout_24 : decode b_S_doBout 24 = .ok (.iconst 0, 1) := by decide +kernel
theorem d_S_doBout_25 : decode b_S_doBout 25 = .ok (.istore 4, 2) := by decide +kernel
theorem d_S_doBout_27 : decode b_S_doBout 27 = .ok (.iconst 0, 1) := by decide +kernel
theorem d_S_doBout_28 : decode b_S_doBout 28 = .ok (.istore 6, 2) := by decide +kernel
theorem d_S_doBout_30 : decode b_S_doBout 30 = .ok (.iload 6, 2) := by decide +kernel
theorem d_S_doBout_32 : decode b_S_doBout 32 = .ok (.aload_n 0, 1) := by decide +kernel
theorem d_S_doBout_33 : decode b_S_doBout 33 = .ok (.getfield 15, 3) := by decide +kernel
theorem d_S_doBout_36 : decode b_S_doBout 36 = .ok (.getfield 38, 3) := by decide +kernel
theorem d_S_doBout_39 : decode b_S_doBout 39 = .ok (.if_icmp .ge 38, 3) := by decide +kernel
theorem d_S_doBout_42 : decode b_S_doBout 42 = .ok (.iload_n 2, 1) := by decide +kernel
theorem d_S_doBout_43 : decode b_S_doBout 43 = .ok (.iload 6, 2) := by decide +kernel
theorem d_S_doBout_45 : decode b_S_doBout 45 = .ok (.ishr, 1) := by decide +kernel
theorem d_S_doBout_46 : decode b_S_doBout 46 = .ok (.iconst 1, 1) := by decide +kernel
theorem d_S_doBout_47 : decode b_S_doBout 47 = .ok (.iand, 1) := by decide +kernel
theorem d_S_doBout_48 : decode b_S_doBout 48 = .ok (.ifCond .eq 23, 3) := by decide +kernel
theorem d_S_doBout_51 : decode b_S_doBout 51 = .ok (.aload_n 0, 1) := by decide +kernel
theorem d_S_doBout_52 : decode b_S_doBout 52 = .ok (.aload_n 1, 1) := by decide +kernel
theorem d_S_doBout_53 : decode b_S_doBout 53 = .ok (.iload 6, 2) := by decide +kernel
theorem d_S_doBout_55 : decode b_S_doBout 55 = .ok (.invokevirtual 72, 3) := by decide +kernel
theorem d_S_doBout_58 : decode b_S_doBout 58 = .ok (.ifCond .eq 13, 3) := by decide +kernel
theorem d_S_doBout_61 : decode b_S_doBout 61 = .ok (.iload_n 3, 1) := by decide +kernel
theorem d_S_doBout_62 : decode b_S_doBout 62 = .ok (.iconst 1, 1) := by decide +kernel
theorem d_S_doBout_63 : decode b_S_doBout 63 = .ok (.iload 6, 2) := by decide +kernel
theorem d_S_doBout_65 : decode b_S_doBout 65 = .ok (.ishl, 1) := by decide +kernel
theorem d_S_doBout_66 : decode b_S_doBout 66 = .ok (.ior, 1) := by decide +kernel
theorem d_S_doBout_67 : decode b_S_doBout 67 = .ok (.istore_n 3, 1) := by decide +kernel
theorem d_S_doBout_68 : decode b_S_doBout 68 = .ok (.iconst 1, 1) := by decide +kernel
theorem d_S_doBout_69 : decode b_S_doBout 69 = .ok (.istore 4, 2) := by decide +kernel
theorem d_S_doBout_71 : decode b_S_doBout 71 = .ok (.iinc 6 1, 3) := by decide +kernel
theorem d_S_doBout_74 : decode b_S_doBout 74 = .ok (.goto (-44), 3) := by decide +kernel
theorem d_S_doBout_77 : decode b_S_doBout 77 = .ok (.iinc 5 1, 3) := by decide +kernel
theorem d_S_doBout_80 : decode b_S_doBout 80 = .ok (.goto (-72), 3) := by decide +kernel
theorem d_S_doBout_83 : decode b_S_doBout 83 = .ok (.iload_n 3, 1) := by decide +kernel
theorem d_S_doBout_84 : decode b_S_doBout 84 = .ok (.ireturn, 1) := by decide +kernel
theorem d_S_raises_0 : decode b_S_raises 0 = .ok (.iload_n 2, 1) := by decide +kernel
theorem d_S_raises_1 : decode b_S_raises 1 = .ok (.invokestatic 76, 3) := by decide +kernel
theorem d_S_raises_4 : decode b_S_raises 4 = .ok (.istore_n 3, 1) := by decide +kernel
theorem d_S_raises_5 : decode b_S_raises 5 = .ok (.aload_n 1, 1) := by decide +kernel
theorem d_S_raises_6 : decode b_S_raises 6 = .ok (.getfield 54, 3) := by decide +kernel
theorem d_S_raises_9 : decode b_S_raises 9 = .ok (.iload_n 3, 1) := by decide +kernel
theorem d_S_raises_10 : decode b_S_raises 10 = .ok (.iaload, 1) := by decide +kernel
theorem d_S_raises_11 : decode b_S_raises 11 = .ok (.istore 4, 2) := by decide +kernel
theorem d_S_raises_13 : decode b_S_raises 13 = .ok (.iload 4, 2) := by decide +kernel
theorem d_S_raises_15 : decode b_S_raises 15 = .ok (.sipush 5000, 3) := by decide +kernel
theorem d_S_raises_18 : decode b_S_raises 18 = .ok (.if_icmp .gt 15, 3) := by decide +kernel
theorem d_S_raises_21 : decode b_S_raises 21 = .ok (.aload_n 0, 1) := by decide +kernel
theorem d_S_raises_22 : decode b_S_raises 22 = .ok (.getfield 15, 3) := by decide +kernel
theorem d_S_raises_25 : decode b_S_raises 25 = .ok (.iload_n 2, 1) := by decide +kernel
theorem d_S_raises_26 : decode b_S_raises 26 = .ok (.aload_n 1, 1) := by decide +kernel
theorem d_S_raises_27 : decode b_S_raises 27 = .ok (.invokevirtual 80, 3) := by decide +kernel
theorem d_S_raises_30 : decode b_S_raises 30 = .ok (.ifCond .gt 5, 3) := by decide +kernel
theorem d_S_raises_33 : decode b_S_raises 33 = .ok (.iconst 0, 1) := by decide +kernel
theorem d_S_raises_34 : decode b_S_raises 34 = .ok (.ireturn, 1) := by decide +kernel
theorem d_S_raises_35 : decode b_S_raises 35 = .ok (.sipush 5001, 3) := by decide +kernel
theorem d_S_raises_38 : decode b_S_raises 38 = .ok (.istore 5, 2) := by decide +kernel
theorem d_S_raises_40 : decode b_S_raises 40 = .ok (.iconst 1, 1) := by decide +kernel
theorem d_S_raises_41 : decode b_S_raises 41 = .ok (.istore 6, 2) := by decide +kernel
theorem d_S_raises_43 : decode b_S_raises 43 = .ok (.iconst 0, 1) := by decide +kernel
theorem d_S_raises_44 : decode b_S_raises 44 = .ok (.istore 7, 2) := by decide +kernel
theorem d_S_raises_46 : decode b_S_raises 46 = .ok (.iload 7, 2) := by decide +kernel
theorem d_S_raises_48 : decode b_S_raises 48 = .ok (.bipush 64, 2) := by decide +kernel
theorem d_S_raises_50 : decode b_S_raises 50 = .ok (.if_icmp .ge 72, 3) := by decide +kernel
theorem d_S_raises_53 : decode b_S_raises 53 = .ok (.iload 5, 2) := by decide +kernel
theorem d_S_raises_55 : decode b_S_raises 55 = .ok (.iload 4, 2) := by decide +kernel
theorem d_S_raises_57 : decode b_S_raises 57 = .ok (.isub, 1) := by decide +kernel
theorem d_S_raises_58 : decode b_S_raises 58 = .ok (.iconst 1, 1) := by decide +kernel
theorem d_S_raises_59 : decode b_S_raises 59 = .ok (.if_icmp .le 63, 3) := by decide +kernel
theorem d_S_raises_62 : decode b_S_raises 62 = .ok (.iload 4, 2) := by decide +kernel
theorem d_S_raises_64 : decode b_S_raises 64 = .ok (.iload 6, 2) := by decide +kernel
theorem d_S_raises_66 : decode b_S_raises 66 = .ok (.iload 5, 2) := by decide +kernel
theorem d_S_raises_68 : decode b_S_raises 68 = .ok (.iload 4, 2) := by decide +kernel
theorem d_S_raises_70 : decode b_S_raises 70 = .ok (.isub, 1) := by decide +kernel
theorem d_S_raises_71 : decode b_S_raises 71 = .ok (.iconst 2, 1) := by decide +kernel
theorem d_S_raises_72 : decode b_S_raises 72 = .ok (.idiv, 1) := by decide +kernel
theorem d_S_raises_73 : decode b_S_raises 73 = .ok (.invokestatic 84, 3) := by decide +kernel
theorem d_S_raises_76 : decode b_S_raises 76 = .ok (.iadd, 1) := by decide +kernel
theorem d_S_raises_77 : decode b_S_raises 77 = .ok (.istore 8, 2) := by decide +kernel
theorem d_S_raises_79 : decode b_S_raises 79 = .ok (.aload_n 1, 1) := by decide +kernel
theorem d_S_raises_80 : decode b_S_raises 80 = .ok (.getfield 54, 3) := by decide +kernel
theorem d_S_raises_83 : decode b_S_raises 83 = .ok (.iload_n 3, 1) := by decide +kernel
theorem d_S_raises_84 : decode b_S_raises 84 = .ok (.iload 8, 2) := by decide +kernel
theorem d_S_raises_86 : decode b_S_raises 86 = .ok (.iastore, 1) := by decide +kernel
theorem d_S_raises_87 : decode b_S_raises 87 = .ok (.aload_n 0, 1) := by decide +kernel
theorem d_S_raises_88 : decode b_S_raises 88 = .ok (.getfield 15, 3) := by decide +kernel
theorem d_S_raises_91 : decode b_S_raises 91 = .ok (.iload_n 2, 1) := by decide +kernel
theorem d_S_raises_92 : decode b_S_raises 92 = .ok (.aload_n 1, 1) := by decide +kernel
theorem d_S_raises_93 : decode b_S_raises 93 = .ok (.invokevirtual 80, 3) := by decide +kernel
theorem d_S_raises_96 : decode b_S_raises 96 = .ok (.ifCond .le 16, 3) := by decide +kernel
theorem d_S_raises_99 : decode b_S_raises 99 = .ok (.iload 8, 2) := by decide +kernel
theorem d_S_raises_101 : decode b_S_raises 101 = .ok (.istore 4, 2) := by decide +kernel
theorem d_S_raises_103 : decode b_S_raises 103 = .ok (.iload 6, 2) := by decide +kernel
theorem d_S_raises_105 : decode b_S_raises 105 = .ok (.iconst 2, 1) := by decide +kernel
theorem d_S_raises_106 : decode b_S_raises 106 = .ok (.imul, 1) := by decide +kernel
theorem d_S_raises_107 : decode b_S_raises 107 = .ok (.istore 6, 2) := by decide +kernel
theorem d_S_raises_109 : decode b_S_raises 109 = .ok (.goto 7, 3) := by decide +kernel
theorem d_S_raises_112 : decode b_S_raises 112 = .ok (.iload 8, 2) := by decide +kernel
theorem d_S_raises_114 : decode b_S_raises 114 = .ok (.istore 5, 2) := by decide +kernel
theorem d_S_raises_116 : decode b_S_raises 116 = .ok (.iinc 7 1, 3) := by decide +kernel
theorem d_S_raises_119 : decode b_S_raises 119 = .ok (.goto (-73), 3) := by decide +kernel
theorem d_S_raises_122 : decode b_S_raises 122 = .ok (.aload_n 1, 1) := by decide +kernel
theorem d_S_raises_123 : decode b_S_raises 123 = .ok (.getfield 54, 3) := by decide +kernel
theorem d_S_raises_126 : decode b_S_raises 126 = .ok (.iload_n 3, 1) := by decide +kernel
theorem d_S_raises_127 : decode b_S_raises 127 = .ok (.iload 5, 2) := by decide +kernel
theorem d_S_raises_129 : decode b_S_raises 129 = .ok (.iastore, 1) := by decide +kernel
theorem d_S_raises_130 : decode b_S_raises 130 = .ok (.iconst 1, 1) := by decide +kernel
theorem d_S_raises_131 : decode b_S_raises 131 = .ok (.ireturn, 1) := by decide +kernel
theorem d_S_lifts_0 : decode b_S_lifts 0 = .ok (.aload_n 1, 1) := by decide +kernel
theorem d_S_lifts_1 : decode b_S_lifts 1 = .ok (.getfield 54, 3) := by decide +kernel
theorem d_S_lifts_4 : decode b_S_lifts 4 = .ok (.iconst 0, 1) := by decide +kernel
theorem d_S_lifts_5 : decode b_S_lifts 5 = .ok (.aload_n 0, 1) := by decide +kernel
theorem d_S_lifts_6 : decode b_S_lifts 6 = .ok (.getfield 9, 3) := by decide +kernel
theorem d_S_lifts_9 : decode b_S_lifts 9 = .ok (.iconst 0, 1) := by decide +kernel
theorem d_S_lifts_10 : decode b_S_lifts 10 = .ok (.bipush 12, 2) := by decide +kernel
theorem d_S_lifts_12 : decode b_S_lifts 12 = .ok (.invokestatic 66, 3) := by decide +kernel
theorem d_S_lifts_15 : decode b_S_lifts 15 = .ok (.iconst 0, 1) := by decide +kernel
theorem d_S_lifts_16 : decode b_S_lifts 16 = .ok (.istore 4, 2) := by decide +kernel
theorem d_S_lifts_18 : decode b_S_lifts 18 = .ok (.iload 4, 2) := by decide +kernel
theorem d_S_lifts_20 : decode b_S_lifts 20 = .ok (.aload_n 0, 1) := by decide +kernel
theorem d_S_lifts_21 : decode b_S_lifts 21 = .ok (.getfield 15, 3) := by decide +kernel
theorem d_S_lifts_24 : decode b_S_lifts 24 = .ok (.getfield 38, 3) := by decide +kernel
theorem d_S_lifts_27 : decode b_S_lifts 27 = .ok (.if_icmp .ge 32, 3) := by decide +kernel
theorem d_S_lifts_30 : decode b_S_lifts 30 = .ok (.iload_n 2, 1) := by decide +kernel
theorem d_S_lifts_31 : decode b_S_lifts 31 = .ok (.iload 4, 2) := by decide +kernel
theorem d_S_lifts_33 : decode b_S_lifts 33 = .ok (.ishr, 1) := by decide +kernel
theorem d_S_lifts_34 : decode b_S_lifts 34 = .ok (.iconst 1, 1) := by decide +kernel
theorem d_S_lifts_35 : decode b_S_lifts 35 = .ok (.iand, 1) := by decide +kernel
theorem d_S_lifts_36 : decode b_S_lifts 36 = .ok (.ifCond .eq 17, 3) := by decide +kernel
theorem d_S_lifts_39 : decode b_S_lifts 39 = .ok (.aload_n 1, 1) := by decide +kernel
theorem d_S_lifts_40 : decode b_S_lifts 40 = .ok (.getfield 54, 3) := by decide +kernel
theorem d_S_lifts_43 : decode b_S_lifts 43 = .ok (.iload 4, 2) := by decide +kernel
theorem d_S_lifts_45 : decode b_S_lifts 45 = .ok (.invokestatic 76, 3) := by decide +kernel
theorem d_S_lifts_48 : decode b_S_lifts 48 = .ok (.dup2, 1) := by decide +kernel
theorem d_S_lifts_49 : decode b_S_lifts 49 = .ok (.iaload, 1) := by decide +kernel
theorem d_S_lifts_50 : decode b_S_lifts 50 = .ok (.iload_n 3, 1) := by decide +kernel
theorem d_S_lifts_51 : decode b_S_lifts 51 = .ok (.iadd, 1) := by decide +kernel
theorem d_S_lifts_52 : decode b_S_lifts 52 = .ok (.iastore, 1) := by decide +kernel
theorem d_S_lifts_53 : decode b_S_lifts 53 = .ok (.iinc 4 1, 3) := by decide +kernel
theorem d_S_lifts_56 : decode b_S_lifts 56 = .ok (.goto (-38), 3) := by decide +kernel
theorem d_S_lifts_59 : decode b_S_lifts 59 = .ok (.aload_n 0, 1) := by decide +kernel
theorem d_S_lifts_60 : decode b_S_lifts 60 = .ok (.aload_n 1, 1) := by decide +kernel
theorem d_S_lifts_61 : decode b_S_lifts 61 = .ok (.invokevirtual 42, 3) := by decide +kernel
theorem d_S_lifts_64 : decode b_S_lifts 64 = .ok (.ifCond .ne 15, 3) := by decide +kernel
theorem d_S_lifts_67 : decode b_S_lifts 67 = .ok (.aload_n 0, 1) := by decide +kernel
theorem d_S_lifts_68 : decode b_S_lifts 68 = .ok (.aload_n 1, 1) := by decide +kernel
theorem d_S_lifts_69 : decode b_S_lifts 69 = .ok (.iload_n 2, 1) := by decide +kernel
theorem d_S_lifts_70 : decode b_S_lifts 70 = .ok (.invokevirtual 46, 3) := by decide +kernel
theorem d_S_lifts_73 : decode b_S_lifts 73 = .ok (.iload_n 2, 1) := by decide +kernel
theorem d_S_lifts_74 : decode b_S_lifts 74 = .ok (.if_icmp .ne 5, 3) := by decide +kernel
theorem d_S_lifts_77 : decode b_S_lifts 77 = .ok (.iconst 1, 1) := by decide +kernel
theorem d_S_lifts_78 : decode b_S_lifts 78 = .ok (.ireturn, 1) := by decide +kernel
theorem d_S_lifts_79 : decode b_S_lifts 79 = .ok (.aload_n 0, 1) := by decide +kernel
theorem d_S_lifts_80 : decode b_S_lifts 80 = .ok (.getfield 9, 3) := by decide +kernel
theorem d_S_lifts_83 : decode b_S_lifts 83 = .ok (.iconst 0, 1) := by decide +kernel
