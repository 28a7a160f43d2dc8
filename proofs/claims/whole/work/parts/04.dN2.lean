theorem d_N_isDuct_19 : decode b_N_isDuct 19 = .ok (.goto 19, 3) := by decide +kernel
theorem d_N_isDuct_22 : decode b_N_isDuct 22 = .ok (.iload_n 1, 1) := by decide +kernel
theorem d_N_isDuct_23 : decode b_N_isDuct 23 = .ok (.bipush 20, 2) := by decide +kernel
theorem d_N_isDuct_25 : decode b_N_isDuct 25 = .ok (.isub, 1) := by decide +kernel
theorem d_N_isDuct_26 : decode b_N_isDuct 26 = .ok (.aload_n 0, 1) := by decide +kernel
theorem d_N_isDuct_27 : decode b_N_isDuct 27 = .ok (.getfield 60, 3) := by decide +kernel
theorem d_N_isDuct_30 : decode b_N_isDuct 30 = .ok (.if_icmp .ge 7, 3) := by decide +kernel
theorem d_N_isDuct_33 : decode b_N_isDuct 33 = .ok (.iconst 1, 1) := by decide +kernel
theorem d_N_isDuct_34 : decode b_N_isDuct 34 = .ok (.goto 4, 3) := by decide +kernel
theorem d_N_isDuct_37 : decode b_N_isDuct 37 = .ok (.iconst 0, 1) := by decide +kernel
theorem d_N_isDuct_38 : decode b_N_isDuct 38 = .ok (.ireturn, 1) := by decide +kernel
theorem d_N_driveOf_0 : decode b_N_driveOf 0 = .ok (.aload_n 2, 1) := by decide +kernel
theorem d_N_driveOf_1 : decode b_N_driveOf 1 = .ok (.aload_n 0, 1) := by decide +kernel
theorem d_N_driveOf_2 : decode b_N_driveOf 2 = .ok (.getfield 21, 3) := by decide +kernel
theorem d_N_driveOf_5 : decode b_N_driveOf 5 = .ok (.iload_n 1, 1) := by decide +kernel
theorem d_N_driveOf_6 : decode b_N_driveOf 6 = .ok (.iaload, 1) := by decide +kernel
theorem d_N_driveOf_7 : decode b_N_driveOf 7 = .ok (.iaload, 1) := by decide +kernel
theorem d_N_driveOf_8 : decode b_N_driveOf 8 = .ok (.aload_n 2, 1) := by decide +kernel
theorem d_N_driveOf_9 : decode b_N_driveOf 9 = .ok (.aload_n 0, 1) := by decide +kernel
theorem d_N_driveOf_10 : decode b_N_driveOf 10 = .ok (.getfield 24, 3) := by decide +kernel
theorem d_N_driveOf_13 : decode b_N_driveOf 13 = .ok (.iload_n 1, 1) := by decide +kernel
theorem d_N_driveOf_14 : decode b_N_driveOf 14 = .ok (.iaload, 1) := by decide +kernel
theorem d_N_driveOf_15 : decode b_N_driveOf 15 = .ok (.iaload, 1) := by decide +kernel
theorem d_N_driveOf_16 : decode b_N_driveOf 16 = .ok (.isub, 1) := by decide +kernel
theorem d_N_driveOf_17 : decode b_N_driveOf 17 = .ok (.aload_n 0, 1) := by decide +kernel
theorem d_N_driveOf_18 : decode b_N_driveOf 18 = .ok (.getfield 36, 3) := by decide +kernel
theorem d_N_driveOf_21 : decode b_N_driveOf 21 = .ok (.iload_n 1, 1) := by decide +kernel
theorem d_N_driveOf_22 : decode b_N_driveOf 22 = .ok (.iaload, 1) := by decide +kernel
theorem d_N_driveOf_23 : decode b_N_driveOf 23 = .ok (.iadd, 1) := by decide +kernel
theorem d_N_driveOf_24 : decode b_N_driveOf 24 = .ok (.ireturn, 1) := by decide +kernel
theorem d_N_flowOf_0 : decode b_N_flowOf 0 = .ok (.aload_n 2, 1) := by decide +kernel
theorem d_N_flowOf_1 : decode b_N_flowOf 1 = .ok (.getfield 85, 3) := by decide +kernel
theorem d_N_flowOf_4 : decode b_N_flowOf 4 = .ok (.astore_n 3, 1) := by decide +kernel
theorem d_N_flowOf_5 : decode b_N_flowOf 5 = .ok (.iload_n 1, 1) := by decide +kernel
theorem d_N_flowOf_6 : decode b_N_flowOf 6 = .ok (.bipush 20, 2) := by decide +kernel
theorem d_N_flowOf_8 : decode b_N_flowOf 8 = .ok (.if_icmp .lt 67, 3) := by decide +kernel
theorem d_N_flowOf_11 : decode b_N_flowOf 11 = .ok (.iload_n 1, 1) := by decide +kernel
theorem d_N_flowOf_12 : decode b_N_flowOf 12 = .ok (.bipush 20, 2) := by decide +kernel
theorem d_N_flowOf_14 : decode b_N_flowOf 14 = .ok (.isub, 1) := by decide +kernel
theorem d_N_flowOf_15 : decode b_N_flowOf 15 = .ok (.istore 4, 2) := by decide +kernel
theorem d_N_flowOf_17 : decode b_N_flowOf 17 = .ok (.aload_n 3, 1) := by decide +kernel
theorem d_N_flowOf_18 : decode b_N_flowOf 18 = .ok (.aload_n 0, 1) := by decide +kernel
theorem d_N_flowOf_19 : decode b_N_flowOf 19 = .ok (.getfield 24, 3) := by decide +kernel
theorem d_N_flowOf_22 : decode b_N_flowOf 22 = .ok (.iload_n 1, 1) := by decide +kernel
theorem d_N_flowOf_23 : decode b_N_flowOf 23 = .ok (.iaload, 1) := by decide +kernel
theorem d_N_flowOf_24 : decode b_N_flowOf 24 = .ok (.iaload, 1) := by decide +kernel
theorem d_N_flowOf_25 : decode b_N_flowOf 25 = .ok (.aload_n 3, 1) := by decide +kernel
theorem d_N_flowOf_26 : decode b_N_flowOf 26 = .ok (.aload_n 0, 1) := by decide +kernel
theorem d_N_flowOf_27 : decode b_N_flowOf 27 = .ok (.getfield 21, 3) := by decide +kernel
theorem d_N_flowOf_30 : decode b_N_flowOf 30 = .ok (.iload_n 1, 1) := by decide +kernel
theorem d_N_flowOf_31 : decode b_N_flowOf 31 = .ok (.iaload, 1) := by decide +kernel
theorem d_N_flowOf_32 : decode b_N_flowOf 32 = .ok (.iaload, 1) := by decide +kernel
theorem d_N_flowOf_33 : decode b_N_flowOf 33 = .ok (.isub, 1) := by decide +kernel
theorem d_N_flowOf_34 : decode b_N_flowOf 34 = .ok (.istore 5, 2) := by decide +kernel
theorem d_N_flowOf_36 : decode b_N_flowOf 36 = .ok (.aload_n 0, 1) := by decide +kernel
theorem d_N_flowOf_37 : decode b_N_flowOf 37 = .ok (.getfield 39, 3) := by decide +kernel
theorem d_N_flowOf_40 : decode b_N_flowOf 40 = .ok (.iload 4, 2) := by decide +kernel
theorem d_N_flowOf_42 : decode b_N_flowOf 42 = .ok (.iaload, 1) := by decide +kernel
theorem d_N_flowOf_43 : decode b_N_flowOf 43 = .ok (.aload_n 0, 1) := by decide +kernel
theorem d_N_flowOf_44 : decode b_N_flowOf 44 = .ok (.getfield 42, 3) := by decide +kernel
theorem d_N_flowOf_47 : decode b_N_flowOf 47 = .ok (.iload 4, 2) := by decide +kernel
theorem d_N_flowOf_49 : decode b_N_flowOf 49 = .ok (.iaload, 1) := by decide +kernel
theorem d_N_flowOf_50 : decode b_N_flowOf 50 = .ok (.iload 5, 2) := by decide +kernel
theorem d_N_flowOf_52 : decode b_N_flowOf 52 = .ok (.imul, 1) := by decide +kernel
theorem d_N_flowOf_53 : decode b_N_flowOf 53 = .ok (.isub, 1) := by decide +kernel
theorem d_N_flowOf_54 : decode b_N_flowOf 54 = .ok (.istore 6, 2) := by decide +kernel
theorem d_N_flowOf_56 : decode b_N_flowOf 56 = .ok (.iconst 0, 1) := by decide +kernel
theorem d_N_flowOf_57 : decode b_N_flowOf 57 = .ok (.iload 6, 2) := by decide +kernel
theorem d_N_flowOf_59 : decode b_N_flowOf 59 = .ok (.iconst 2, 1) := by decide +kernel
theorem d_N_flowOf_60 : decode b_N_flowOf 60 = .ok (.aload_n 0, 1) := by decide +kernel
theorem d_N_flowOf_61 : decode b_N_flowOf 61 = .ok (.getfield 39, 3) := by decide +kernel
theorem d_N_flowOf_64 : decode b_N_flowOf 64 = .ok (.iload 4, 2) := by decide +kernel
theorem d_N_flowOf_66 : decode b_N_flowOf 66 = .ok (.iaload, 1) := by decide +kernel
theorem d_N_flowOf_67 : decode b_N_flowOf 67 = .ok (.imul, 1) := by decide +kernel
theorem d_N_flowOf_68 : decode b_N_flowOf 68 = .ok (.invokestatic 90, 3) := by decide +kernel
theorem d_N_flowOf_71 : decode b_N_flowOf 71 = .ok (.invokestatic 96, 3) := by decide +kernel
theorem d_N_flowOf_74 : decode b_N_flowOf 74 = .ok (.ireturn, 1) := by decide +kernel
theorem d_N_flowOf_75 : decode b_N_flowOf 75 = .ok (.aload_n 2, 1) := by decide +kernel
theorem d_N_flowOf_76 : decode b_N_flowOf 76 = .ok (.getfield 99, 3) := by decide +kernel
theorem d_N_flowOf_79 : decode b_N_flowOf 79 = .ok (.iload_n 1, 1) := by decide +kernel
theorem d_N_flowOf_80 : decode b_N_flowOf 80 = .ok (.ishr, 1) := by decide +kernel
theorem d_N_flowOf_81 : decode b_N_flowOf 81 = .ok (.iconst 1, 1) := by decide +kernel
theorem d_N_flowOf_82 : decode b_N_flowOf 82 = .ok (.iand, 1) := by decide +kernel
theorem d_N_flowOf_83 : decode b_N_flowOf 83 = .ok (.ifCond .eq 5, 3) := by decide +kernel
theorem d_N_flowOf_86 : decode b_N_flowOf 86 = .ok (.iconst 0, 1) := by decide +kernel
theorem d_N_flowOf_87 : decode b_N_flowOf 87 = .ok (.ireturn, 1) := by decide +kernel
theorem d_N_flowOf_88 : decode b_N_flowOf 88 = .ok (.aload_n 0, 1) := by decide +kernel
theorem d_N_flowOf_89 : decode b_N_flowOf 89 = .ok (.iload_n 1, 1) := by decide +kernel
theorem d_N_flowOf_90 : decode b_N_flowOf 90 = .ok (.aload_n 3, 1) := by decide +kernel
theorem d_N_flowOf_91 : decode b_N_flowOf 91 = .ok (.invokevirtual 102, 3) := by decide +kernel
theorem d_N_flowOf_94 : decode b_N_flowOf 94 = .ok (.istore 4, 2) := by decide +kernel
theorem d_N_flowOf_96 : decode b_N_flowOf 96 = .ok (.aload_n 0, 1) := by decide +kernel
theorem d_N_flowOf_97 : decode b_N_flowOf 97 = .ok (.getfield 33, 3) := by decide +kernel
theorem d_N_flowOf_100 : decode b_N_flowOf 100 = .ok (.iload_n 1, 1) := by decide +kernel
theorem d_N_flowOf_101 : decode b_N_flowOf 101 = .ok (.iaload, 1) := by decide +kernel
theorem d_N_flowOf_102 : decode b_N_flowOf 102 = .ok (.iconst 1, 1) := by decide +kernel
theorem d_N_flowOf_103 : decode b_N_flowOf 103 = .ok (.if_icmp .ne 13, 3) := by decide +kernel
theorem d_N_flowOf_106 : decode b_N_flowOf 106 = .ok (.aload_n 0, 1) := by decide +kernel
theorem d_N_flowOf_107 : decode b_N_flowOf 107 = .ok (.getfield 30, 3) := by decide +kernel
theorem d_N_flowOf_110 : decode b_N_flowOf 110 = .ok (.iload_n 1, 1) := by decide +kernel
theorem d_N_flowOf_111 : decode b_N_flowOf 111 = .ok (.iaload, 1) := by decide +kernel
theorem d_N_flowOf_112 : decode b_N_flowOf 112 = .ok (.iload 4, 2) := by decide +kernel
theorem d_N_flowOf_114 : decode b_N_flowOf 114 = .ok (.imul, 1) := by decide +kernel
theorem d_N_flowOf_115 : decode b_N_flowOf 115 = .ok (.ireturn, 1) := by decide +kernel
theorem d_N_flowOf_116 : decode b_N_flowOf 116 = .ok (.iload 4, 2) := by decide +kernel
theorem d_N_flowOf_118 : decode b_N_flowOf 118 = .ok (.ifCond .ge 19, 3) := by decide +kernel
theorem d_N_flowOf_121 : decode b_N_flowOf 121 = .ok (.aload_n 0, 1) := by decide +kernel
theorem d_N_flowOf_122 : decode b_N_flowOf 122 = .ok (.getfield 30, 3) := by decide +kernel
theorem d_N_flowOf_125 : decode b_N_flowOf 125 = .ok (.iload_n 1, 1) := by decide +kernel
theorem d_N_flowOf_126 : decode b_N_flowOf 126 = .ok (.iaload, 1) := by decide +kernel
theorem d_N_flowOf_127 : decode b_N_flowOf 127 = .ok (.iload 4, 2) := by decide +kernel
theorem d_N_flowOf_129 : decode b_N_flowOf 129 = .ok (.ineg, 1) := by decide +kernel
theorem d_N_flowOf_130 : decode b_N_flowOf 130 = .ok (.invokestatic 106, 3) := by decide +kernel
theorem d_N_flowOf_133 : decode b_N_flowOf 133 = .ok (.ineg, 1) := by decide +kernel
theorem d_N_flowOf_134 : decode b_N_flowOf 134 = .ok (.goto 14, 3) := by decide +kernel
theorem d_N_flowOf_137 : decode b_N_flowOf 137 = .ok (.aload_n 0, 1) := by decide +kernel
theorem d_N_flowOf_138 : decode b_N_flowOf 138 = .ok (.getfield 30, 3) := by decide +kernel
theorem d_N_flowOf_141 : decode b_N_flowOf 141 = .ok (.iload_n 1, 1) := by decide +kernel
theorem d_N_flowOf_142 : decode b_N_flowOf 142 = .ok (.iaload, 1) := by decide +kernel
theorem d_N_flowOf_143 : decode b_N_flowOf 143 = .ok (.iload 4, 2) := by decide +kernel
theorem d_N_flowOf_145 : decode b_N_flowOf 145 = .ok (.invokestatic 106, 3) := by decide +kernel
theorem d_N_flowOf_148 : decode b_N_flowOf 148 = .ok (.ireturn, 1) := by decide +kernel
theorem d_N_gainOf_0 : decode b_N_gainOf 0 = .ok (.iload_n 1, 1) := by decide +kernel
theorem d_N_gainOf_1 : decode b_N_gainOf 1 = .ok (.invokestatic 66, 3) := by decide +kernel
theorem d_N_gainOf_4 : decode b_N_gainOf 4 = .ok (.istore_n 3, 1) := by decide +kernel
theorem d_N_gainOf_5 : decode b_N_gainOf 5 = .ok (.aload_n 0, 1) := by decide +kernel
theorem d_N_gainOf_6 : decode b_N_gainOf 6 = .ok (.getfield 47, 3) := by decide +kernel
theorem d_N_gainOf_9 : decode b_N_gainOf 9 = .ok (.iload_n 3, 1) := by decide +kernel
theorem d_N_gainOf_10 : decode b_N_gainOf 10 = .ok (.aaload, 1) := by decide +kernel
theorem d_N_gainOf_11 : decode b_N_gainOf 11 = .ok (.astore 4, 2) := by decide +kernel
theorem d_N_gainOf_13 : decode b_N_gainOf 13 = .ok (.aload_n 0, 1) := by decide +kernel
theorem d_N_gainOf_14 : decode b_N_gainOf 14 = .ok (.getfield 50, 3) := by decide +kernel
theorem d_N_gainOf_17 : decode b_N_gainOf 17 = .ok (.iload_n 3, 1) := by decide +kernel
theorem d_N_gainOf_18 : decode b_N_gainOf 18 = .ok (.iaload, 1) := by decide +kernel
theorem d_N_gainOf_19 : decode b_N_gainOf 19 = .ok (.istore 5, 2) := by decide +kernel
theorem d_N_gainOf_21 : decode b_N_gainOf 21 = .ok (.iconst 0, 1) := by decide +kernel
theorem d_N_gainOf_22 : decode b_N_gainOf 22 = .ok (.istore 6, 2) := by decide +kernel
theorem d_N_gainOf_24 : decode b_N_gainOf 24 = .ok (.iconst 0, 1) := by decide +kernel
theorem d_N_gainOf_25 : decode b_N_gainOf 25 = .ok (.istore 7, 2) := by decide +kernel
theorem d_N_gainOf_27 : decode b_N_gainOf 27 = .ok (.iload 7, 2) := by decide +kernel
theorem d_N_gainOf_29 : decode b_N_gainOf 29 = .ok (.iload 5, 2) := by decide +kernel
theorem d_N_gainOf_31 : decode b_N_gainOf 31 = .ok (.if_icmp .ge 49, 3) := by decide +kernel
theorem d_N_gainOf_34 : decode b_N_gainOf 34 = .ok (.aload 4, 2) := by decide +kernel
theorem d_N_gainOf_36 : decode b_N_gainOf 36 = .ok (.iload 7, 2) := by decide +kernel
theorem d_N_gainOf_38 : decode b_N_gainOf 38 = .ok (.iaload, 1) := by decide +kernel
theorem d_N_gainOf_39 : decode b_N_gainOf 39 = .ok (.istore 8, 2) := by decide +kernel
theorem d_N_gainOf_41 : decode b_N_gainOf 41 = .ok (.aload_n 0, 1) := by decide +kernel
theorem d_N_gainOf_42 : decode b_N_gainOf 42 = .ok (.iload 8, 2) := by decide +kernel
theorem d_N_gainOf_44 : decode b_N_gainOf 44 = .ok (.aload_n 2, 1) := by decide +kernel
theorem d_N_gainOf_45 : decode b_N_gainOf 45 = .ok (.invokevirtual 109, 3) := by decide +kernel
theorem d_N_gainOf_48 : decode b_N_gainOf 48 = .ok (.istore 9, 2) := by decide +kernel
theorem d_N_gainOf_50 : decode b_N_gainOf 50 = .ok (.iload 6, 2) := by decide +kernel
theorem d_N_gainOf_52 : decode b_N_gainOf 52 = .ok (.aload_n 0, 1) := by decide +kernel
theorem d_N_gainOf_53 : decode b_N_gainOf 53 = .ok (.getfield 24, 3) := by decide +kernel
theorem d_N_gainOf_56 : decode b_N_gainOf 56 = .ok (.iload 8, 2) := by decide +kernel
theorem d_N_gainOf_58 : decode b_N_gainOf 58 = .ok (.iaload, 1) := by decide +kernel
theorem d_N_gainOf_59 : decode b_N_gainOf 59 = .ok (.iload_n 3, 1) := by decide +kernel
theorem d_N_gainOf_60 : decode b_N_gainOf 60 = .ok (.if_icmp .ne 8, 3) := by decide +kernel
theorem d_N_gainOf_63 : decode b_N_gainOf 63 = .ok (.iload 9, 2) := by decide +kernel
theorem d_N_gainOf_65 : decode b_N_gainOf 65 = .ok (.goto 6, 3) := by decide +kernel
theorem d_N_gainOf_68 : decode b_N_gainOf 68 = .ok (.iload 9, 2) := by decide +kernel
theorem d_N_gainOf_70 : decode b_N_gainOf 70 = .ok (.ineg, 1) := by decide +kernel
theorem d_N_gainOf_71 : decode b_N_gainOf 71 = .ok (.iadd, 1) := by decide +kernel
theorem d_N_gainOf_72 : decode b_N_gainOf 72 = .ok (.istore 6, 2) := by decide +kernel
theorem d_N_gainOf_74 : decode b_N_gainOf 74 = .ok (.iinc 7 1, 3) := by decide +kernel
theorem d_N_gainOf_77 : decode b_N_gainOf 77 = .ok (.goto (-50), 3) := by decide +kernel
theorem d_N_gainOf_80 : decode b_N_gainOf 80 = .ok (.iload 6, 2) := by decide +kernel
theorem d_N_gainOf_82 : decode b_N_gainOf 82 = .ok (.ireturn, 1) := by decide +kernel
theorem d_N_rootFlow_0 : decode b_N_rootFlow 0 = .ok (.iload_n 1, 1) := by decide +kernel
theorem d_N_rootFlow_1 : decode b_N_rootFlow 1 = .ok (.ifCond .gt 5, 3) := by decide +kernel
theorem d_N_rootFlow_4 : decode b_N_rootFlow 4 = .ok (.iconst 0, 1) := by decide +kernel
theorem d_N_rootFlow_5 : decode b_N_rootFlow 5 = .ok (.ireturn, 1) := by decide +kernel
theorem d_N_rootFlow_6 : decode b_N_rootFlow 6 = .ok (.lconst 1, 1) := by decide +kernel
theorem d_N_rootFlow_7 : decode b_N_rootFlow 7 = .ok (.lstore_n 2, 1) := by decide +kernel
theorem d_N_rootFlow_8 : decode b_N_rootFlow 8 = .ok (.iconst 0, 1) := by decide +kernel
theorem d_N_rootFlow_9 : decode b_N_rootFlow 9 = .ok (.istore 4, 2) := by decide +kernel
theorem d_N_rootFlow_11 : decode b_N_rootFlow 11 = .ok (.iload 4, 2) := by decide +kernel
theorem d_N_rootFlow_13 : decode b_N_rootFlow 13 = .ok (.bipush 32, 2) := by decide +kernel
theorem d_N_rootFlow_15 : decode b_N_rootFlow 15 = .ok (.if_icmp .ge 24, 3) := by decide +kernel
theorem d_N_rootFlow_18 : decode b_N_rootFlow 18 = .ok (.lload_n 2, 1) := by decide +kernel
theorem d_N_rootFlow_19 : decode b_N_rootFlow 19 = .ok (.lload_n 2, 1) := by decide +kernel
theorem d_N_rootFlow_20 : decode b_N_rootFlow 20 = .ok (.lmul, 1) := by decide +kernel
theorem d_N_rootFlow_21 : decode b_N_rootFlow 21 = .ok (.iload_n 1, 1) := by decide +kernel
theorem d_N_rootFlow_22 : decode b_N_rootFlow 22 = .ok (.i2l, 1) := by decide +kernel
theorem d_N_rootFlow_23 : decode b_N_rootFlow 23 = .ok (.lcmp, 1) := by decide +kernel
theorem d_N_rootFlow_24 : decode b_N_rootFlow 24 = .ok (.ifCond .ge 15, 3) := by decide +kernel
theorem d_N_rootFlow_27 : decode b_N_rootFlow 27 = .ok (.lload_n 2, 1) := by decide +kernel
theorem d_N_rootFlow_28 : decode b_N_rootFlow 28 = .ok (.ldc2_w 113, 3) := by decide +kernel
theorem d_N_rootFlow_31 : decode b_N_rootFlow 31 = .ok (.lmul, 1) := by decide +kernel
theorem d_N_rootFlow_32 : decode b_N_rootFlow 32 = .ok (.lstore_n 2, 1) := by decide +kernel
theorem d_N_rootFlow_33 : decode b_N_rootFlow 33 = .ok (.iinc 4 1, 3) := by decide +kernel
theorem d_N_rootFlow_36 : decode b_N_rootFlow 36 = .ok (.goto (-25), 3) := by decide +kernel
theorem d_N_rootFlow_39 : decode b_N_rootFlow 39 = .ok (.iload_n 0, 1) := by decide +kernel
theorem d_N_rootFlow_40 : decode b_N_rootFlow 40 = .ok (.i2l, 1) := by decide +kernel
theorem d_N_rootFlow_41 : decode b_N_rootFlow 41 = .ok (.iload_n 0, 1) := by decide +kernel
theorem d_N_rootFlow_42 : decode b_N_rootFlow 42 = .ok (.i2l, 1) := by decide +kernel
theorem d_N_rootFlow_43 : decode b_N_rootFlow 43 = .ok (.lmul, 1) := by decide +kernel
theorem d_N_rootFlow_44 : decode b_N_rootFlow 44 = .ok (.iload_n 1, 1) := by decide +kernel
theorem d_N_rootFlow_45 : decode b_N_rootFlow 45 = .ok (.i2l, 1) := by decide +kernel
theorem d_N_rootFlow_46 : decode b_N_rootFlow 46 = .ok (.lmul, 1) := by decide +kernel
theorem d_N_rootFlow_47 : decode b_N_rootFlow 47 = .ok (.lstore 4, 2) := by decide +kernel
theorem d_N_rootFlow_49 : decode b_N_rootFlow 49 = .ok (.iload_n 0, 1) := by decide +kernel
theorem d_N_rootFlow_50 : decode b_N_rootFlow 50 = .ok (.i2l, 1) := by decide +kernel
theorem d_N_rootFlow_51 : decode b_N_rootFlow 51 = .ok (.lload_n 2, 1) := by decide +kernel
theorem d_N_rootFlow_52 : decode b_N_rootFlow 52 = .ok (.lmul, 1) := by decide +kernel
theorem d_N_rootFlow_53 : decode b_N_rootFlow 53 = .ok (.lstore 6, 2) := by decide +kernel
theorem d_N_rootFlow_55 : decode b_N_rootFlow 55 = .ok (.iconst 0, 1) := by decide +kernel
theorem d_N_rootFlow_56 : decode b_N_rootFlow 56 = .ok (.istore 8, 2) := by decide +kernel
theorem d_N_rootFlow_58 : decode b_N_rootFlow 58 = .ok (.iload 8, 2) := by decide +kernel
theorem d_N_rootFlow_60 : decode b_N_rootFlow 60 = .ok (.bipush 64, 2) := by decide +kernel
theorem d_N_rootFlow_62 : decode b_N_rootFlow 62 = .ok (.if_icmp .ge 45, 3) := by decide +kernel
theorem d_N_rootFlow_65 : decode b_N_rootFlow 65 = .ok (.lload 6, 2) := by decide +kernel
theorem d_N_rootFlow_67 : decode b_N_rootFlow 67 = .ok (.lconst 0, 1) := by decide +kernel
theorem d_N_rootFlow_68 : decode b_N_rootFlow 68 = .ok (.lcmp, 1) := by decide +kernel
theorem d_N_rootFlow_69 : decode b_N_rootFlow 69 = .ok (.ifCond .le 38, 3) := by decide +kernel
theorem d_N_rootFlow_72 : decode b_N_rootFlow 72 = .ok (.lload 6, 2) := by decide +kernel
theorem d_N_rootFlow_74 : decode b_N_rootFlow 74 = .ok (.lload 4, 2) := by decide +kernel
theorem d_N_rootFlow_76 : decode b_N_rootFlow 76 = .ok (.lload 6, 2) := by decide +kernel
theorem d_N_rootFlow_78 : decode b_N_rootFlow 78 = .ok (.ldiv, 1) := by decide +kernel
theorem d_N_rootFlow_79 : decode b_N_rootFlow 79 = .ok (.ladd, 1) := by decide +kernel
theorem d_N_rootFlow_80 : decode b_N_rootFlow 80 = .ok (.ldc2_w 113, 3) := by decide +kernel
theorem d_N_rootFlow_83 : decode b_N_rootFlow 83 = .ok (.ldiv, 1) := by decide +kernel
theorem d_N_rootFlow_84 : decode b_N_rootFlow 84 = .ok (.lstore 9, 2) := by decide +kernel
theorem d_N_rootFlow_86 : decode b_N_rootFlow 86 = .ok (.lload 9, 2) := by decide +kernel
theorem d_N_rootFlow_88 : decode b_N_rootFlow 88 = .ok (.lload 6, 2) := by decide +kernel
theorem d_N_rootFlow_90 : decode b_N_rootFlow 90 = .ok (.lcmp, 1) := by decide +kernel
theorem d_N_rootFlow_91 : decode b_N_rootFlow 91 = .ok (.ifCond .lt 6, 3) := by decide +kernel
theorem d_N_rootFlow_94 : decode b_N_rootFlow 94 = .ok (.goto 13, 3) := by decide +kernel
theorem d_N_rootFlow_97 : decode b_N_rootFlow 97 = .ok (.lload 9, 2) := by decide +kernel
theorem d_N_rootFlow_99 : decode b_N_rootFlow 99 = .ok (.lstore 6, 2) := by decide +kernel
theorem d_N_rootFlow_101 : decode b_N_rootFlow 101 = .ok (.iinc 8 1, 3) := by decide +kernel
theorem d_N_rootFlow_104 : decode b_N_rootFlow 104 = .ok (.goto (-46), 3) := by decide +kernel
theorem d_N_rootFlow_107 : decode b_N_rootFlow 107 = .ok (.lload 6, 2) := by decide +kernel
theorem d_N_rootFlow_109 : decode b_N_rootFlow 109 = .ok (.l2i, 1) := by decide +kernel
theorem d_N_rootFlow_110 : decode b_N_rootFlow 110 = .ok (.ireturn, 1) := by decide +kernel
