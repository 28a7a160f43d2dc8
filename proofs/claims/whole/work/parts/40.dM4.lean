theorem d_M_told_11 : decode b_M_told 11 = .ok (.invokestatic 79, 3) := by decide +kernel
theorem d_M_told_14 : decode b_M_told 14 = .ok (.ifCond .eq 17, 3) := by decide +kernel
theorem d_M_told_17 : decode b_M_told 17 = .ok (.iload_n 2, 1) := by decide +kernel
theorem d_M_told_18 : decode b_M_told 18 = .ok (.i2l, 1) := by decide +kernel
theorem d_M_told_19 : decode b_M_told 19 = .ok (.lconst 0, 1) := by decide +kernel
theorem d_M_told_20 : decode b_M_told 20 = .ok (.lconst 1, 1) := by decide +kernel
theorem d_M_told_21 : decode b_M_told 21 = .ok (.invokestatic 79, 3) := by decide +kernel
theorem d_M_told_24 : decode b_M_told 24 = .ok (.ifCond .eq 7, 3) := by decide +kernel
theorem d_M_told_27 : decode b_M_told 27 = .ok (.iconst 0, 1) := by decide +kernel
theorem d_M_told_28 : decode b_M_told 28 = .ok (.goto 4, 3) := by decide +kernel
theorem d_M_told_31 : decode b_M_told 31 = .ok (.iconst 1, 1) := by decide +kernel
theorem d_M_told_32 : decode b_M_told 32 = .ok (.putfield 72, 3) := by decide +kernel
theorem d_M_told_35 : decode b_M_told 35 = .ok (.aload_n 0, 1) := by decide +kernel
theorem d_M_told_36 : decode b_M_told 36 = .ok (.getfield 72, 3) := by decide +kernel
theorem d_M_told_39 : decode b_M_told 39 = .ok (.ifCond .le 5, 3) := by decide +kernel
theorem d_M_told_42 : decode b_M_told 42 = .ok (.iconst 0, 1) := by decide +kernel
theorem d_M_told_43 : decode b_M_told 43 = .ok (.ireturn, 1) := by decide +kernel
theorem d_M_told_44 : decode b_M_told 44 = .ok (.aload_n 0, 1) := by decide +kernel
theorem d_M_told_45 : decode b_M_told 45 = .ok (.invokevirtual 155, 3) := by decide +kernel
theorem d_M_told_48 : decode b_M_told 48 = .ok (.ifCond .ne 8, 3) := by decide +kernel
theorem d_M_told_51 : decode b_M_told 51 = .ok (.ldc 159, 2) := by decide +kernel
theorem d_M_told_53 : decode b_M_told 53 = .ok (.goto 21, 3) := by decide +kernel
theorem d_M_told_56 : decode b_M_told 56 = .ok (.iload_n 2, 1) := by decide +kernel
theorem d_M_told_57 : decode b_M_told 57 = .ok (.ifCond .ne 11, 3) := by decide +kernel
theorem d_M_told_60 : decode b_M_told 60 = .ok (.aload_n 0, 1) := by decide +kernel
theorem d_M_told_61 : decode b_M_told 61 = .ok (.iload_n 1, 1) := by decide +kernel
theorem d_M_told_62 : decode b_M_told 62 = .ok (.invokevirtual 128, 3) := by decide +kernel
theorem d_M_told_65 : decode b_M_told 65 = .ok (.goto 9, 3) := by decide +kernel
theorem d_M_told_68 : decode b_M_told 68 = .ok (.aload_n 0, 1) := by decide +kernel
theorem d_M_told_69 : decode b_M_told 69 = .ok (.iload_n 1, 1) := by decide +kernel
theorem d_M_told_70 : decode b_M_told 70 = .ok (.invokevirtual 135, 3) := by decide +kernel
theorem d_M_told_73 : decode b_M_told 73 = .ok (.l2i, 1) := by decide +kernel
theorem d_M_told_74 : decode b_M_told 74 = .ok (.ireturn, 1) := by decide +kernel
theorem d_M_blows_0 : decode b_M_blows 0 = .ok (.aload_n 0, 1) := by decide +kernel
theorem d_M_blows_1 : decode b_M_blows 1 = .ok (.iload_n 1, 1) := by decide +kernel
theorem d_M_blows_2 : decode b_M_blows 2 = .ok (.i2l, 1) := by decide +kernel
theorem d_M_blows_3 : decode b_M_blows 3 = .ok (.lconst 0, 1) := by decide +kernel
theorem d_M_blows_4 : decode b_M_blows 4 = .ok (.aload_n 0, 1) := by decide +kernel
theorem d_M_blows_5 : decode b_M_blows 5 = .ok (.getfield 115, 3) := by decide +kernel
theorem d_M_blows_8 : decode b_M_blows 8 = .ok (.iconst 1, 1) := by decide +kernel
theorem d_M_blows_9 : decode b_M_blows 9 = .ok (.isub, 1) := by decide +kernel
theorem d_M_blows_10 : decode b_M_blows 10 = .ok (.i2l, 1) := by decide +kernel
theorem d_M_blows_11 : decode b_M_blows 11 = .ok (.invokestatic 79, 3) := by decide +kernel
theorem d_M_blows_14 : decode b_M_blows 14 = .ok (.ifCond .eq 7, 3) := by decide +kernel
theorem d_M_blows_17 : decode b_M_blows 17 = .ok (.iconst 0, 1) := by decide +kernel
theorem d_M_blows_18 : decode b_M_blows 18 = .ok (.goto 4, 3) := by decide +kernel
theorem d_M_blows_21 : decode b_M_blows 21 = .ok (.iconst 1, 1) := by decide +kernel
theorem d_M_blows_22 : decode b_M_blows 22 = .ok (.putfield 72, 3) := by decide +kernel
theorem d_M_blows_25 : decode b_M_blows 25 = .ok (.aload_n 0, 1) := by decide +kernel
theorem d_M_blows_26 : decode b_M_blows 26 = .ok (.getfield 72, 3) := by decide +kernel
theorem d_M_blows_29 : decode b_M_blows 29 = .ok (.ifCond .le 5, 3) := by decide +kernel
theorem d_M_blows_32 : decode b_M_blows 32 = .ok (.iconst 0, 1) := by decide +kernel
theorem d_M_blows_33 : decode b_M_blows 33 = .ok (.ireturn, 1) := by decide +kernel
theorem d_M_blows_34 : decode b_M_blows 34 = .ok (.aload_n 0, 1) := by decide +kernel
theorem d_M_blows_35 : decode b_M_blows 35 = .ok (.invokevirtual 155, 3) := by decide +kernel
theorem d_M_blows_38 : decode b_M_blows 38 = .ok (.ifCond .eq 12, 3) := by decide +kernel
theorem d_M_blows_41 : decode b_M_blows 41 = .ok (.aload_n 0, 1) := by decide +kernel
theorem d_M_blows_42 : decode b_M_blows 42 = .ok (.iload_n 1, 1) := by decide +kernel
theorem d_M_blows_43 : decode b_M_blows 43 = .ok (.invokevirtual 139, 3) := by decide +kernel
theorem d_M_blows_46 : decode b_M_blows 46 = .ok (.l2i, 1) := by decide +kernel
theorem d_M_blows_47 : decode b_M_blows 47 = .ok (.goto 5, 3) := by decide +kernel
theorem d_M_blows_50 : decode b_M_blows 50 = .ok (.ldc 159, 2) := by decide +kernel
theorem d_M_blows_52 : decode b_M_blows 52 = .ok (.ireturn, 1) := by decide +kernel
theorem d_M_gain_0 : decode b_M_gain 0 = .ok (.aload_n 0, 1) := by decide +kernel
theorem d_M_gain_1 : decode b_M_gain 1 = .ok (.aload_n 0, 1) := by decide +kernel
theorem d_M_gain_2 : decode b_M_gain 2 = .ok (.iload_n 1, 1) := by decide +kernel
theorem d_M_gain_3 : decode b_M_gain 3 = .ok (.invokevirtual 160, 3) := by decide +kernel
theorem d_M_gain_6 : decode b_M_gain 6 = .ok (.ifCond .eq 7, 3) := by decide +kernel
theorem d_M_gain_9 : decode b_M_gain 9 = .ok (.iconst 0, 1) := by decide +kernel
theorem d_M_gain_10 : decode b_M_gain 10 = .ok (.goto 4, 3) := by decide +kernel
theorem d_M_gain_13 : decode b_M_gain 13 = .ok (.iconst 1, 1) := by decide +kernel
theorem d_M_gain_14 : decode b_M_gain 14 = .ok (.putfield 72, 3) := by decide +kernel
theorem d_M_gain_17 : decode b_M_gain 17 = .ok (.aload_n 0, 1) := by decide +kernel
theorem d_M_gain_18 : decode b_M_gain 18 = .ok (.getfield 72, 3) := by decide +kernel
theorem d_M_gain_21 : decode b_M_gain 21 = .ok (.ifCond .le 5, 3) := by decide +kernel
theorem d_M_gain_24 : decode b_M_gain 24 = .ok (.iconst 0, 1) := by decide +kernel
theorem d_M_gain_25 : decode b_M_gain 25 = .ok (.ireturn, 1) := by decide +kernel
theorem d_M_gain_26 : decode b_M_gain 26 = .ok (.aload_n 0, 1) := by decide +kernel
theorem d_M_gain_27 : decode b_M_gain 27 = .ok (.invokevirtual 155, 3) := by decide +kernel
theorem d_M_gain_30 : decode b_M_gain 30 = .ok (.ifCond .eq 12, 3) := by decide +kernel
theorem d_M_gain_33 : decode b_M_gain 33 = .ok (.aload_n 0, 1) := by decide +kernel
theorem d_M_gain_34 : decode b_M_gain 34 = .ok (.iload_n 1, 1) := by decide +kernel
theorem d_M_gain_35 : decode b_M_gain 35 = .ok (.invokevirtual 142, 3) := by decide +kernel
theorem d_M_gain_38 : decode b_M_gain 38 = .ok (.l2i, 1) := by decide +kernel
theorem d_M_gain_39 : decode b_M_gain 39 = .ok (.goto 5, 3) := by decide +kernel
theorem d_M_gain_42 : decode b_M_gain 42 = .ok (.ldc 159, 2) := by decide +kernel
theorem d_M_gain_44 : decode b_M_gain 44 = .ok (.ireturn, 1) := by decide +kernel
theorem d_M_caseOf_0 : decode b_M_caseOf 0 = .ok (.aload_n 0, 1) := by decide +kernel
theorem d_M_caseOf_1 : decode b_M_caseOf 1 = .ok (.iload_n 1, 1) := by decide +kernel
theorem d_M_caseOf_2 : decode b_M_caseOf 2 = .ok (.ifCond .lt 12, 3) := by decide +kernel
theorem d_M_caseOf_5 : decode b_M_caseOf 5 = .ok (.iload_n 1, 1) := by decide +kernel
theorem d_M_caseOf_6 : decode b_M_caseOf 6 = .ok (.aload_n 0, 1) := by decide +kernel
theorem d_M_caseOf_7 : decode b_M_caseOf 7 = .ok (.getfield 110, 3) := by decide +kernel
theorem d_M_caseOf_10 : decode b_M_caseOf 10 = .ok (.ishr, 1) := by decide +kernel
theorem d_M_caseOf_11 : decode b_M_caseOf 11 = .ok (.ifCond .eq 7, 3) := by decide +kernel
theorem d_M_caseOf_14 : decode b_M_caseOf 14 = .ok (.iconst 1, 1) := by decide +kernel
theorem d_M_caseOf_15 : decode b_M_caseOf 15 = .ok (.goto 17, 3) := by decide +kernel
theorem d_M_caseOf_18 : decode b_M_caseOf 18 = .ok (.aload_n 0, 1) := by decide +kernel
theorem d_M_caseOf_19 : decode b_M_caseOf 19 = .ok (.getfield 163, 3) := by decide +kernel
theorem d_M_caseOf_22 : decode b_M_caseOf 22 = .ok (.bipush 8, 2) := by decide +kernel
theorem d_M_caseOf_24 : decode b_M_caseOf 24 = .ok (.if_icmp .ne 7, 3) := by decide +kernel
theorem d_M_caseOf_27 : decode b_M_caseOf 27 = .ok (.iconst 2, 1) := by decide +kernel
theorem d_M_caseOf_28 : decode b_M_caseOf 28 = .ok (.goto 4, 3) := by decide +kernel
theorem d_M_caseOf_31 : decode b_M_caseOf 31 = .ok (.iconst 0, 1) := by decide +kernel
theorem d_M_caseOf_32 : decode b_M_caseOf 32 = .ok (.putfield 72, 3) := by decide +kernel
theorem d_M_caseOf_35 : decode b_M_caseOf 35 = .ok (.aload_n 0, 1) := by decide +kernel
theorem d_M_caseOf_36 : decode b_M_caseOf 36 = .ok (.getfield 72, 3) := by decide +kernel
theorem d_M_caseOf_39 : decode b_M_caseOf 39 = .ok (.ifCond .le 5, 3) := by decide +kernel
theorem d_M_caseOf_42 : decode b_M_caseOf 42 = .ok (.iconst 0, 1) := by decide +kernel
theorem d_M_caseOf_43 : decode b_M_caseOf 43 = .ok (.ireturn, 1) := by decide +kernel
theorem d_M_caseOf_44 : decode b_M_caseOf 44 = .ok (.aload_n 0, 1) := by decide +kernel
theorem d_M_caseOf_45 : decode b_M_caseOf 45 = .ok (.getfield 57, 3) := by decide +kernel
theorem d_M_caseOf_48 : decode b_M_caseOf 48 = .ok (.aload_n 0, 1) := by decide +kernel
theorem d_M_caseOf_49 : decode b_M_caseOf 49 = .ok (.getfield 163, 3) := by decide +kernel
theorem d_M_caseOf_52 : decode b_M_caseOf 52 = .ok (.iload_n 1, 1) := by decide +kernel
theorem d_M_caseOf_53 : decode b_M_caseOf 53 = .ok (.iastore, 1) := by decide +kernel
theorem d_M_caseOf_54 : decode b_M_caseOf 54 = .ok (.aload_n 0, 1) := by decide +kernel
theorem d_M_caseOf_55 : decode b_M_caseOf 55 = .ok (.dup, 1) := by decide +kernel
theorem d_M_caseOf_56 : decode b_M_caseOf 56 = .ok (.getfield 163, 3) := by decide +kernel
theorem d_M_caseOf_59 : decode b_M_caseOf 59 = .ok (.iconst 1, 1) := by decide +kernel
theorem d_M_caseOf_60 : decode b_M_caseOf 60 = .ok (.iadd, 1) := by decide +kernel
theorem d_M_caseOf_61 : decode b_M_caseOf 61 = .ok (.putfield 163, 3) := by decide +kernel
theorem d_M_caseOf_64 : decode b_M_caseOf 64 = .ok (.aload_n 0, 1) := by decide +kernel
theorem d_M_caseOf_65 : decode b_M_caseOf 65 = .ok (.getfield 163, 3) := by decide +kernel
theorem d_M_caseOf_68 : decode b_M_caseOf 68 = .ok (.iconst 1, 1) := by decide +kernel
theorem d_M_caseOf_69 : decode b_M_caseOf 69 = .ok (.isub, 1) := by decide +kernel
theorem d_M_caseOf_70 : decode b_M_caseOf 70 = .ok (.ireturn, 1) := by decide +kernel
theorem d_M_worst_0 : decode b_M_worst 0 = .ok (.aload_n 0, 1) := by decide +kernel
theorem d_M_worst_1 : decode b_M_worst 1 = .ok (.iload_n 1, 1) := by decide +kernel
theorem d_M_worst_2 : decode b_M_worst 2 = .ok (.i2l, 1) := by decide +kernel
theorem d_M_worst_3 : decode b_M_worst 3 = .ok (.lconst 0, 1) := by decide +kernel
theorem d_M_worst_4 : decode b_M_worst 4 = .ok (.aload_n 0, 1) := by decide +kernel
theorem d_M_worst_5 : decode b_M_worst 5 = .ok (.getfield 110, 3) := by decide +kernel
theorem d_M_worst_8 : decode b_M_worst 8 = .ok (.iconst 1, 1) := by decide +kernel
theorem d_M_worst_9 : decode b_M_worst 9 = .ok (.isub, 1) := by decide +kernel
theorem d_M_worst_10 : decode b_M_worst 10 = .ok (.i2l, 1) := by decide +kernel
theorem d_M_worst_11 : decode b_M_worst 11 = .ok (.invokestatic 79, 3) := by decide +kernel
theorem d_M_worst_14 : decode b_M_worst 14 = .ok (.ifCond .eq 19, 3) := by decide +kernel
theorem d_M_worst_17 : decode b_M_worst 17 = .ok (.iload_n 2, 1) := by decide +kernel
theorem d_M_worst_18 : decode b_M_worst 18 = .ok (.i2l, 1) := by decide +kernel
theorem d_M_worst_19 : decode b_M_worst 19 = .ok (.lconst 0, 1) := by decide +kernel
theorem d_M_worst_20 : decode b_M_worst 20 = .ok (.ldc2_w 166, 3) := by decide +kernel
theorem d_M_worst_23 : decode b_M_worst 23 = .ok (.invokestatic 79, 3) := by decide +kernel
theorem d_M_worst_26 : decode b_M_worst 26 = .ok (.ifCond .eq 7, 3) := by decide +kernel
theorem d_M_worst_29 : decode b_M_worst 29 = .ok (.iconst 0, 1) := by decide +kernel
theorem d_M_worst_30 : decode b_M_worst 30 = .ok (.goto 4, 3) := by decide +kernel
theorem d_M_worst_33 : decode b_M_worst 33 = .ok (.iconst 1, 1) := by decide +kernel
theorem d_M_worst_34 : decode b_M_worst 34 = .ok (.putfield 72, 3) := by decide +kernel
theorem d_M_worst_37 : decode b_M_worst 37 = .ok (.aload_n 0, 1) := by decide +kernel
theorem d_M_worst_38 : decode b_M_worst 38 = .ok (.getfield 72, 3) := by decide +kernel
theorem d_M_worst_41 : decode b_M_worst 41 = .ok (.ifCond .le 5, 3) := by decide +kernel
theorem d_M_worst_44 : decode b_M_worst 44 = .ok (.iconst 0, 1) := by decide +kernel
theorem d_M_worst_45 : decode b_M_worst 45 = .ok (.ireturn, 1) := by decide +kernel
theorem d_M_worst_46 : decode b_M_worst 46 = .ok (.iconst 0, 1) := by decide +kernel
theorem d_M_worst_47 : decode b_M_worst 47 = .ok (.istore_n 3, 1) := by decide +kernel
theorem d_M_worst_48 : decode b_M_worst 48 = .ok (.iconst 0, 1) := by decide +kernel
theorem d_M_worst_49 : decode b_M_worst 49 = .ok (.istore 4, 2) := by decide +kernel
theorem d_M_worst_51 : decode b_M_worst 51 = .ok (.ldc 159, 2) := by decide +kernel
theorem d_M_worst_53 : decode b_M_worst 53 = .ok (.istore 5, 2) := by decide +kernel
theorem d_M_worst_55 : decode b_M_worst 55 = .ok (.ldc 159, 2) := by decide +kernel
theorem d_M_worst_57 : decode b_M_worst 57 = .ok (.istore 6, 2) := by decide +kernel
theorem d_M_worst_59 : decode b_M_worst 59 = .ok (.iconst 0, 1) := by decide +kernel
theorem d_M_worst_60 : decode b_M_worst 60 = .ok (.istore 7, 2) := by decide +kernel
theorem d_M_worst_62 : decode b_M_worst 62 = .ok (.iload 7, 2) := by decide +kernel
theorem d_M_worst_64 : decode b_M_worst 64 = .ok (.aload_n 0, 1) := by decide +kernel
theorem d_M_worst_65 : decode b_M_worst 65 = .ok (.getfield 163, 3) := by decide +kernel
theorem d_M_worst_68 : decode b_M_worst 68 = .ok (.if_icmp .ge 71, 3) := by decide +kernel
theorem d_M_worst_71 : decode b_M_worst 71 = .ok (.aload_n 0, 1) := by decide +kernel
theorem d_M_worst_72 : decode b_M_worst 72 = .ok (.aload_n 0, 1) := by decide +kernel
theorem d_M_worst_73 : decode b_M_worst 73 = .ok (.getfield 57, 3) := by decide +kernel
theorem d_M_worst_76 : decode b_M_worst 76 = .ok (.iload 7, 2) := by decide +kernel
theorem d_M_worst_78 : decode b_M_worst 78 = .ok (.iaload, 1) := by decide +kernel
theorem d_M_worst_79 : decode b_M_worst 79 = .ok (.invokevirtual 152, 3) := by decide +kernel
theorem d_M_worst_82 : decode b_M_worst 82 = .ok (.ifCond .ne 6, 3) := by decide +kernel
theorem d_M_worst_85 : decode b_M_worst 85 = .ok (.ldc 159, 2) := by decide +kernel
theorem d_M_worst_87 : decode b_M_worst 87 = .ok (.ireturn, 1) := by decide +kernel
theorem d_M_worst_88 : decode b_M_worst 88 = .ok (.aload_n 0, 1) := by decide +kernel
theorem d_M_worst_89 : decode b_M_worst 89 = .ok (.iload_n 1, 1) := by decide +kernel
theorem d_M_worst_90 : decode b_M_worst 90 = .ok (.invokevirtual 128, 3) := by decide +kernel
theorem d_M_worst_93 : decode b_M_worst 93 = .ok (.istore 8, 2) := by decide +kernel
theorem d_M_worst_95 : decode b_M_worst 95 = .ok (.iload 7, 2) := by decide +kernel
theorem d_M_worst_97 : decode b_M_worst 97 = .ok (.ifCond .eq 9, 3) := by decide +kernel
theorem d_M_worst_100 : decode b_M_worst 100 = .ok (.iload 8, 2) := by decide +kernel
theorem d_M_worst_102 : decode b_M_worst 102 = .ok (.iload_n 3, 1) := by decide +kernel
theorem d_M_worst_103 : decode b_M_worst 103 = .ok (.if_icmp .ge 10, 3) := by decide +kernel
theorem d_M_worst_106 : decode b_M_worst 106 = .ok (.iload 8, 2) := by decide +kernel
theorem d_M_worst_108 : decode b_M_worst 108 = .ok (.istore_n 3, 1) := by decide +kernel
theorem d_M_worst_109 : decode b_M_worst 109 = .ok (.iload 7, 2) := by decide +kernel
theorem d_M_worst_111 : decode b_M_worst 111 = .ok (.istore 5, 2) := by decide +kernel
theorem d_M_worst_113 : decode b_M_worst 113 = .ok (.iload 7, 2) := by decide +kernel
theorem d_M_worst_115 : decode b_M_worst 115 = .ok (.ifCond .eq 10, 3) := by decide +kernel
theorem d_M_worst_118 : decode b_M_worst 118 = .ok (.iload 8, 2) := by decide +kernel
theorem d_M_worst_120 : decode b_M_worst 120 = .ok (.iload 4, 2) := by decide +kernel
theorem d_M_worst_122 : decode b_M_worst 122 = .ok (.if_icmp .le 11, 3) := by decide +kernel
theorem d_M_worst_125 : decode b_M_worst 125 = .ok (.iload 8, 2) := by decide +kernel
theorem d_M_worst_127 : decode b_M_worst 127 = .ok (.istore 4, 2) := by decide +kernel
theorem d_M_worst_129 : decode b_M_worst 129 = .ok (.iload 7, 2) := by decide +kernel
theorem d_M_worst_131 : decode b_M_worst 131 = .ok (.istore 6, 2) := by decide +kernel
theorem d_M_worst_133 : decode b_M_worst 133 = .ok (.iinc 7 1, 3) := by decide +kernel
theorem d_M_worst_136 : decode b_M_worst 136 = .ok (.goto (-74), 3) := by decide +kernel
theorem d_M_worst_139 : decode b_M_worst 139 = .ok (.aload_n 0, 1) := by decide +kernel
theorem d_M_worst_140 : decode b_M_worst 140 = .ok (.getfield 163, 3) := by decide +kernel
theorem d_M_worst_143 : decode b_M_worst 143 = .ok (.ifCond .ne 8, 3) := by decide +kernel
theorem d_M_worst_146 : decode b_M_worst 146 = .ok (.ldc 159, 2) := by decide +kernel
theorem d_M_worst_148 : decode b_M_worst 148 = .ok (.goto 33, 3) := by decide +kernel
theorem d_M_worst_151 : decode b_M_worst 151 = .ok (.iload_n 2, 1) := by decide +kernel
theorem d_M_worst_152 : decode b_M_worst 152 = .ok (.ifCond .ne 7, 3) := by decide +kernel
theorem d_M_worst_155 : decode b_M_worst 155 = .ok (.iload_n 3, 1) := by decide +kernel
theorem d_M_worst_156 : decode b_M_worst 156 = .ok (.goto 25, 3) := by decide +kernel
theorem d_M_worst_159 : decode b_M_worst 159 = .ok (.iload_n 2, 1) := by decide +kernel
theorem d_M_worst_160 : decode b_M_worst 160 = .ok (.iconst 1, 1) := by decide +kernel
theorem d_M_worst_161 : decode b_M_worst 161 = .ok (.if_icmp .ne 8, 3) := by decide +kernel
theorem d_M_worst_164 : decode b_M_worst 164 = .ok (.iload 4, 2) := by decide +kernel
theorem d_M_worst_166 : decode b_M_worst 166 = .ok (.goto 15, 3) := by decide +kernel
theorem d_M_worst_169 : decode b_M_worst 169 = .ok (.iload_n 2, 1) := by decide +kernel
theorem d_M_worst_170 : decode b_M_worst 170 = .ok (.iconst 2, 1) := by decide +kernel
theorem d_M_worst_171 : decode b_M_worst 171 = .ok (.if_icmp .ne 8, 3) := by decide +kernel
theorem d_M_worst_174 : decode b_M_worst 174 = .ok (.iload 5, 2) := by decide +kernel
theorem d_M_worst_176 : decode b_M_worst 176 = .ok (.goto 5, 3) := by decide +kernel
theorem d_M_worst_179 : decode b_M_worst 179 = .ok (.iload 6, 2) := by decide +kernel
theorem d_M_worst_181 : decode b_M_worst 181 = .ok (.ireturn, 1) := by decide +kernel
theorem d_M_put_0 : decode b_M_put 0 = .ok (.aload_n 0, 1) := by decide +kernel
theorem d_M_put_1 : decode b_M_put 1 = .ok (.aload_n 0, 1) := by decide +kernel
theorem d_M_put_2 : decode b_M_put 2 = .ok (.iload_n 1, 1) := by decide +kernel
theorem d_M_put_3 : decode b_M_put 3 = .ok (.invokevirtual 160, 3) := by decide +kernel
theorem d_M_put_6 : decode b_M_put 6 = .ok (.ifCond .eq 52, 3) := by decide +kernel
theorem d_M_put_9 : decode b_M_put 9 = .ok (.iload_n 2, 1) := by decide +kernel
theorem d_M_put_10 : decode b_M_put 10 = .ok (.i2l, 1) := by decide +kernel
theorem d_M_put_11 : decode b_M_put 11 = .ok (.ldc2_w 168, 3) := by decide +kernel
theorem d_M_put_14 : decode b_M_put 14 = .ok (.ldc2_w 170, 3) := by decide +kernel
theorem d_M_put_17 : decode b_M_put 17 = .ok (.invokestatic 79, 3) := by decide +kernel
theorem d_M_put_20 : decode b_M_put 20 = .ok (.ifCond .eq 38, 3) := by decide +kernel
theorem d_M_put_23 : decode b_M_put 23 = .ok (.aload_n 0, 1) := by decide +kernel
theorem d_M_put_24 : decode b_M_put 24 = .ok (.getfield 19, 3) := by decide +kernel
theorem d_M_put_27 : decode b_M_put 27 = .ok (.aload_n 0, 1) := by decide +kernel
theorem d_M_put_28 : decode b_M_put 28 = .ok (.iload_n 1, 1) := by decide +kernel
theorem d_M_put_29 : decode b_M_put 29 = .ok (.invokevirtual 160, 3) := by decide +kernel
theorem d_M_put_32 : decode b_M_put 32 = .ok (.ifCond .eq 7, 3) := by decide +kernel
theorem d_M_put_35 : decode b_M_put 35 = .ok (.iload_n 1, 1) := by decide +kernel
theorem d_M_put_36 : decode b_M_put 36 = .ok (.goto 4, 3) := by decide +kernel
theorem d_M_put_39 : decode b_M_put 39 = .ok (.iconst 0, 1) := by decide +kernel
theorem d_M_put_40 : decode b_M_put 40 = .ok (.laload, 1) := by decide +kernel
theorem d_M_put_41 : decode b_M_put 41 = .ok (.iload_n 2, 1) := by decide +kernel
theorem d_M_put_42 : decode b_M_put 42 = .ok (.i2l, 1) := by decide +kernel
theorem d_M_put_43 : decode b_M_put 43 = .ok (.ladd, 1) := by decide +kernel
theorem d_M_put_44 : decode b_M_put 44 = .ok (.lconst 0, 1) := by decide +kernel
theorem d_M_put_45 : decode b_M_put 45 = .ok (.ldc2_w 170, 3) := by decide +kernel
theorem d_M_put_48 : decode b_M_put 48 = .ok (.invokestatic 79, 3) := by decide +kernel
theorem d_M_put_51 : decode b_M_put 51 = .ok (.ifCond .eq 7, 3) := by decide +kernel
theorem d_M_put_54 : decode b_M_put 54 = .ok (.iconst 0, 1) := by decide +kernel
theorem d_M_put_55 : decode b_M_put 55 = .ok (.goto 4, 3) := by decide +kernel
theorem d_M_put_58 : decode b_M_put 58 = .ok (.iconst 1, 1) := by decide +kernel
theorem d_M_put_59 : decode b_M_put 59 = .ok (.putfield 72, 3) := by decide +kernel
theorem d_M_put_62 : decode b_M_put 62 = .ok (.aload_n 0, 1) := by decide +kernel
theorem d_M_put_63 : decode b_M_put 63 = .ok (.getfield 72, 3) := by decide +kernel
theorem d_M_put_66 : decode b_M_put 66 = .ok (.ifCond .le 5, 3) := by decide +kernel
theorem d_M_put_69 : decode b_M_put 69 = .ok (.iconst 0, 1) := by decide +kernel
theorem d_M_put_70 : decode b_M_put 70 = .ok (.ireturn, 1) := by decide +kernel
theorem d_M_put_71 : decode b_M_put 71 = .ok (.aload_n 0, 1) := by decide +kernel
theorem d_M_put_72 : decode b_M_put 72 = .ok (.getfield 19, 3) := by decide +kernel
theorem d_M_put_75 : decode b_M_put 75 = .ok (.iload_n 1, 1) := by decide +kernel
theorem d_M_put_76 : decode b_M_put 76 = .ok (.dup2, 1) := by decide +kernel
theorem d_M_put_77 : decode b_M_put 77 = .ok (.laload, 1) := by decide +kernel
theorem d_M_put_78 : decode b_M_put 78 = .ok (.iload_n 2, 1) := by decide +kernel
theorem d_M_put_79 : decode b_M_put 79 = .ok (.i2l, 1) := by decide +kernel
theorem d_M_put_80 : decode b_M_put 80 = .ok (.ladd, 1) := by decide +kernel
theorem d_M_put_81 : decode b_M_put 81 = .ok (.lastore, 1) := by decide +kernel
theorem d_M_put_82 : decode b_M_put 82 = .ok (.aload_n 0, 1) := by decide +kernel
theorem d_M_put_83 : decode b_M_put 83 = .ok (.getfield 19, 3) := by decide +kernel
theorem d_M_put_86 : decode b_M_put 86 = .ok (.iload_n 1, 1) := by decide +kernel
theorem d_M_put_87 : decode b_M_put 87 = .ok (.laload, 1) := by decide +kernel
theorem d_M_put_88 : decode b_M_put 88 = .ok (.l2i, 1) := by decide +kernel
theorem d_M_put_89 : decode b_M_put 89 = .ok (.ireturn, 1) := by decide +kernel
theorem d_M_source_0 : decode b_M_source 0 = .ok (.aload_n 0, 1) := by decide +kernel
theorem d_M_source_1 : decode b_M_source 1 = .ok (.aload_n 0, 1) := by decide +kernel
theorem d_M_source_2 : decode b_M_source 2 = .ok (.iload_n 1, 1) := by decide +kernel
theorem d_M_source_3 : decode b_M_source 3 = .ok (.invokevirtual 160, 3) := by decide +kernel
theorem d_M_source_6 : decode b_M_source 6 = .ok (.ifCond .eq 19, 3) := by decide +kernel
theorem d_M_source_9 : decode b_M_source 9 = .ok (.iload_n 2, 1) := by decide +kernel
theorem d_M_source_10 : decode b_M_source 10 = .ok (.i2l, 1) := by decide +kernel
theorem d_M_source_11 : decode b_M_source 11 = .ok (.lconst 0, 1) := by decide +kernel
theorem d_M_source_12 : decode b_M_source 12 = .ok (.ldc2_w 172, 3) := by decide +kernel
theorem d_M_source_15 : decode b_M_source 15 = .ok (.invokestatic 79, 3) := by decide +kernel
theorem d_M_source_18 : decode b_M_source 18 = .ok (.ifCond .eq 7, 3) := by decide +kernel
theorem d_M_source_21 : decode b_M_source 21 = .ok (.iconst 0, 1) := by decide +kernel
theorem d_M_source_22 : decode b_M_source 22 = .ok (.goto 4, 3) := by decide +kernel
theorem d_M_source_25 : decode b_M_source 25 = .ok (.iconst 1, 1) := by decide +kernel
theorem d_M_source_26 : decode b_M_source 26 = .ok (.putfield 72, 3) := by decide +kernel
theorem d_M_source_29 : decode b_M_source 29 = .ok (.aload_n 0, 1) := by decide +kernel
theorem d_M_source_30 : decode b_M_source 30 = .ok (.getfield 72, 3) := by decide +kernel
theorem d_M_source_33 : decode b_M_source 33 = .ok (.ifCond .le 5, 3) := by decide +kernel
theorem d_M_source_36 : decode b_M_source 36 = .ok (.iconst 0, 1) := by decide +kernel
theorem d_M_source_37 : decode b_M_source 37 = .ok (.ireturn, 1) := by decide +kernel
theorem d_M_source_38 : decode b_M_source 38 = .ok (.aload_n 0, 1) := by decide +kernel
theorem d_M_source_39 : decode b_M_source 39 = .ok (.getfield 23, 3) := by decide +kernel
theorem d_M_source_42 : decode b_M_source 42 = .ok (.iload_n 1, 1) := by decide +kernel
theorem d_M_source_43 : decode b_M_source 43 = .ok (.iaload, 1) := by decide +kernel
theorem d_M_source_44 : decode b_M_source 44 = .ok (.istore_n 3, 1) := by decide +kernel
theorem d_M_source_45 : decode b_M_source 45 = .ok (.aload_n 0, 1) := by decide +kernel
theorem d_M_source_46 : decode b_M_source 46 = .ok (.getfield 23, 3) := by decide +kernel
