theorem d_P_blows_9 : decode b_P_blows 9 = .ok (.iconst 1, 1) := by decide +kernel
theorem d_P_blows_10 : decode b_P_blows 10 = .ok (.isub, 1) := by decide +kernel
theorem d_P_blows_11 : decode b_P_blows 11 = .ok (.invokestatic 52, 3) := by decide +kernel
theorem d_P_blows_14 : decode b_P_blows 14 = .ok (.invokestatic 56, 3) := by decide +kernel
theorem d_P_blows_17 : decode b_P_blows 17 = .ok (.aload_n 0, 1) := by decide +kernel
theorem d_P_blows_18 : decode b_P_blows 18 = .ok (.getfield 21, 3) := by decide +kernel
theorem d_P_blows_21 : decode b_P_blows 21 = .ok (.aload_n 0, 1) := by decide +kernel
theorem d_P_blows_22 : decode b_P_blows 22 = .ok (.getfield 35, 3) := by decide +kernel
theorem d_P_blows_25 : decode b_P_blows 25 = .ok (.invokevirtual 117, 3) := by decide +kernel
theorem d_P_blows_28 : decode b_P_blows 28 = .ok (.ifCond .eq 21, 3) := by decide +kernel
theorem d_P_blows_31 : decode b_P_blows 31 = .ok (.aload_n 0, 1) := by decide +kernel
theorem d_P_blows_32 : decode b_P_blows 32 = .ok (.getfield 12, 3) := by decide +kernel
theorem d_P_blows_35 : decode b_P_blows 35 = .ok (.iload_n 1, 1) := by decide +kernel
theorem d_P_blows_36 : decode b_P_blows 36 = .ok (.invokestatic 133, 3) := by decide +kernel
theorem d_P_blows_39 : decode b_P_blows 39 = .ok (.aload_n 0, 1) := by decide +kernel
theorem d_P_blows_40 : decode b_P_blows 40 = .ok (.getfield 35, 3) := by decide +kernel
theorem d_P_blows_43 : decode b_P_blows 43 = .ok (.invokevirtual 129, 3) := by decide +kernel
theorem d_P_blows_46 : decode b_P_blows 46 = .ok (.goto 5, 3) := by decide +kernel
theorem d_P_blows_49 : decode b_P_blows 49 = .ok (.ldc 124, 2) := by decide +kernel
theorem d_P_blows_51 : decode b_P_blows 51 = .ok (.ireturn, 1) := by decide +kernel
theorem d_P_gain_0 : decode b_P_gain 0 = .ok (.aload_n 0, 1) := by decide +kernel
theorem d_P_gain_1 : decode b_P_gain 1 = .ok (.iload_n 1, 1) := by decide +kernel
theorem d_P_gain_2 : decode b_P_gain 2 = .ok (.invokevirtual 136, 3) := by decide +kernel
theorem d_P_gain_5 : decode b_P_gain 5 = .ok (.invokestatic 56, 3) := by decide +kernel
theorem d_P_gain_8 : decode b_P_gain 8 = .ok (.aload_n 0, 1) := by decide +kernel
theorem d_P_gain_9 : decode b_P_gain 9 = .ok (.getfield 21, 3) := by decide +kernel
theorem d_P_gain_12 : decode b_P_gain 12 = .ok (.aload_n 0, 1) := by decide +kernel
theorem d_P_gain_13 : decode b_P_gain 13 = .ok (.getfield 35, 3) := by decide +kernel
theorem d_P_gain_16 : decode b_P_gain 16 = .ok (.invokevirtual 117, 3) := by decide +kernel
theorem d_P_gain_19 : decode b_P_gain 19 = .ok (.ifCond .eq 18, 3) := by decide +kernel
theorem d_P_gain_22 : decode b_P_gain 22 = .ok (.aload_n 0, 1) := by decide +kernel
theorem d_P_gain_23 : decode b_P_gain 23 = .ok (.getfield 12, 3) := by decide +kernel
theorem d_P_gain_26 : decode b_P_gain 26 = .ok (.iload_n 1, 1) := by decide +kernel
theorem d_P_gain_27 : decode b_P_gain 27 = .ok (.aload_n 0, 1) := by decide +kernel
theorem d_P_gain_28 : decode b_P_gain 28 = .ok (.getfield 35, 3) := by decide +kernel
theorem d_P_gain_31 : decode b_P_gain 31 = .ok (.invokevirtual 139, 3) := by decide +kernel
theorem d_P_gain_34 : decode b_P_gain 34 = .ok (.goto 5, 3) := by decide +kernel
theorem d_P_gain_37 : decode b_P_gain 37 = .ok (.ldc 124, 2) := by decide +kernel
theorem d_P_gain_39 : decode b_P_gain 39 = .ok (.ireturn, 1) := by decide +kernel
theorem d_P_caseOf_0 : decode b_P_caseOf 0 = .ok (.iload_n 1, 1) := by decide +kernel
theorem d_P_caseOf_1 : decode b_P_caseOf 1 = .ok (.aload_n 0, 1) := by decide +kernel
theorem d_P_caseOf_2 : decode b_P_caseOf 2 = .ok (.getfield 12, 3) := by decide +kernel
theorem d_P_caseOf_5 : decode b_P_caseOf 5 = .ok (.getfield 90, 3) := by decide +kernel
theorem d_P_caseOf_8 : decode b_P_caseOf 8 = .ok (.iushr, 1) := by decide +kernel
theorem d_P_caseOf_9 : decode b_P_caseOf 9 = .ok (.ifCond .ne 7, 3) := by decide +kernel
theorem d_P_caseOf_12 : decode b_P_caseOf 12 = .ok (.iconst 1, 1) := by decide +kernel
theorem d_P_caseOf_13 : decode b_P_caseOf 13 = .ok (.goto 4, 3) := by decide +kernel
theorem d_P_caseOf_16 : decode b_P_caseOf 16 = .ok (.iconst 0, 1) := by decide +kernel
theorem d_P_caseOf_17 : decode b_P_caseOf 17 = .ok (.invokestatic 56, 3) := by decide +kernel
theorem d_P_caseOf_20 : decode b_P_caseOf 20 = .ok (.aload_n 0, 1) := by decide +kernel
theorem d_P_caseOf_21 : decode b_P_caseOf 21 = .ok (.getfield 43, 3) := by decide +kernel
theorem d_P_caseOf_24 : decode b_P_caseOf 24 = .ok (.bipush 8, 2) := by decide +kernel
theorem d_P_caseOf_26 : decode b_P_caseOf 26 = .ok (.if_icmp .ge 7, 3) := by decide +kernel
theorem d_P_caseOf_29 : decode b_P_caseOf 29 = .ok (.iconst 1, 1) := by decide +kernel
theorem d_P_caseOf_30 : decode b_P_caseOf 30 = .ok (.goto 4, 3) := by decide +kernel
theorem d_P_caseOf_33 : decode b_P_caseOf 33 = .ok (.iconst 0, 1) := by decide +kernel
theorem d_P_caseOf_34 : decode b_P_caseOf 34 = .ok (.invokestatic 63, 3) := by decide +kernel
theorem d_P_caseOf_37 : decode b_P_caseOf 37 = .ok (.aload_n 0, 1) := by decide +kernel
theorem d_P_caseOf_38 : decode b_P_caseOf 38 = .ok (.getfield 43, 3) := by decide +kernel
theorem d_P_caseOf_41 : decode b_P_caseOf 41 = .ok (.istore_n 2, 1) := by decide +kernel
theorem d_P_caseOf_42 : decode b_P_caseOf 42 = .ok (.aload_n 0, 1) := by decide +kernel
theorem d_P_caseOf_43 : decode b_P_caseOf 43 = .ok (.getfield 39, 3) := by decide +kernel
theorem d_P_caseOf_46 : decode b_P_caseOf 46 = .ok (.iload_n 2, 1) := by decide +kernel
theorem d_P_caseOf_47 : decode b_P_caseOf 47 = .ok (.aaload, 1) := by decide +kernel
theorem d_P_caseOf_48 : decode b_P_caseOf 48 = .ok (.iload_n 1, 1) := by decide +kernel
theorem d_P_caseOf_49 : decode b_P_caseOf 49 = .ok (.putfield 100, 3) := by decide +kernel
theorem d_P_caseOf_52 : decode b_P_caseOf 52 = .ok (.aload_n 0, 1) := by decide +kernel
theorem d_P_caseOf_53 : decode b_P_caseOf 53 = .ok (.dup, 1) := by decide +kernel
theorem d_P_caseOf_54 : decode b_P_caseOf 54 = .ok (.getfield 43, 3) := by decide +kernel
theorem d_P_caseOf_57 : decode b_P_caseOf 57 = .ok (.iconst 1, 1) := by decide +kernel
theorem d_P_caseOf_58 : decode b_P_caseOf 58 = .ok (.iadd, 1) := by decide +kernel
theorem d_P_caseOf_59 : decode b_P_caseOf 59 = .ok (.putfield 43, 3) := by decide +kernel
theorem d_P_caseOf_62 : decode b_P_caseOf 62 = .ok (.iload_n 2, 1) := by decide +kernel
theorem d_P_caseOf_63 : decode b_P_caseOf 63 = .ok (.ireturn, 1) := by decide +kernel
theorem d_P_worst_0 : decode b_P_worst 0 = .ok (.aload_n 0, 1) := by decide +kernel
theorem d_P_worst_1 : decode b_P_worst 1 = .ok (.iload_n 1, 1) := by decide +kernel
theorem d_P_worst_2 : decode b_P_worst 2 = .ok (.invokevirtual 97, 3) := by decide +kernel
theorem d_P_worst_5 : decode b_P_worst 5 = .ok (.ifCond .eq 16, 3) := by decide +kernel
theorem d_P_worst_8 : decode b_P_worst 8 = .ok (.iload_n 2, 1) := by decide +kernel
theorem d_P_worst_9 : decode b_P_worst 9 = .ok (.iconst 0, 1) := by decide +kernel
theorem d_P_worst_10 : decode b_P_worst 10 = .ok (.iconst 3, 1) := by decide +kernel
theorem d_P_worst_11 : decode b_P_worst 11 = .ok (.invokestatic 52, 3) := by decide +kernel
theorem d_P_worst_14 : decode b_P_worst 14 = .ok (.ifCond .eq 7, 3) := by decide +kernel
theorem d_P_worst_17 : decode b_P_worst 17 = .ok (.iconst 1, 1) := by decide +kernel
theorem d_P_worst_18 : decode b_P_worst 18 = .ok (.goto 4, 3) := by decide +kernel
theorem d_P_worst_21 : decode b_P_worst 21 = .ok (.iconst 0, 1) := by decide +kernel
theorem d_P_worst_22 : decode b_P_worst 22 = .ok (.invokestatic 56, 3) := by decide +kernel
theorem d_P_worst_25 : decode b_P_worst 25 = .ok (.iload_n 2, 1) := by decide +kernel
theorem d_P_worst_26 : decode b_P_worst 26 = .ok (.iconst 1, 1) := by decide +kernel
theorem d_P_worst_27 : decode b_P_worst 27 = .ok (.if_icmp .eq 8, 3) := by decide +kernel
theorem d_P_worst_30 : decode b_P_worst 30 = .ok (.iload_n 2, 1) := by decide +kernel
theorem d_P_worst_31 : decode b_P_worst 31 = .ok (.iconst 3, 1) := by decide +kernel
theorem d_P_worst_32 : decode b_P_worst 32 = .ok (.if_icmp .ne 7, 3) := by decide +kernel
theorem d_P_worst_35 : decode b_P_worst 35 = .ok (.iconst 1, 1) := by decide +kernel
theorem d_P_worst_36 : decode b_P_worst 36 = .ok (.goto 4, 3) := by decide +kernel
theorem d_P_worst_39 : decode b_P_worst 39 = .ok (.iconst 0, 1) := by decide +kernel
theorem d_P_worst_40 : decode b_P_worst 40 = .ok (.istore_n 3, 1) := by decide +kernel
theorem d_P_worst_41 : decode b_P_worst 41 = .ok (.ldc 124, 2) := by decide +kernel
theorem d_P_worst_43 : decode b_P_worst 43 = .ok (.istore 4, 2) := by decide +kernel
theorem d_P_worst_45 : decode b_P_worst 45 = .ok (.ldc 124, 2) := by decide +kernel
theorem d_P_worst_47 : decode b_P_worst 47 = .ok (.istore 5, 2) := by decide +kernel
theorem d_P_worst_49 : decode b_P_worst 49 = .ok (.iconst 0, 1) := by decide +kernel
theorem d_P_worst_50 : decode b_P_worst 50 = .ok (.istore 6, 2) := by decide +kernel
theorem d_P_worst_52 : decode b_P_worst 52 = .ok (.iload 6, 2) := by decide +kernel
theorem d_P_worst_54 : decode b_P_worst 54 = .ok (.aload_n 0, 1) := by decide +kernel
theorem d_P_worst_55 : decode b_P_worst 55 = .ok (.getfield 43, 3) := by decide +kernel
theorem d_P_worst_58 : decode b_P_worst 58 = .ok (.if_icmp .ge 102, 3) := by decide +kernel
theorem d_P_worst_61 : decode b_P_worst 61 = .ok (.aload_n 0, 1) := by decide +kernel
theorem d_P_worst_62 : decode b_P_worst 62 = .ok (.getfield 21, 3) := by decide +kernel
theorem d_P_worst_65 : decode b_P_worst 65 = .ok (.aload_n 0, 1) := by decide +kernel
theorem d_P_worst_66 : decode b_P_worst 66 = .ok (.getfield 39, 3) := by decide +kernel
theorem d_P_worst_69 : decode b_P_worst 69 = .ok (.iload 6, 2) := by decide +kernel
theorem d_P_worst_71 : decode b_P_worst 71 = .ok (.aaload, 1) := by decide +kernel
theorem d_P_worst_72 : decode b_P_worst 72 = .ok (.invokevirtual 117, 3) := by decide +kernel
theorem d_P_worst_75 : decode b_P_worst 75 = .ok (.ifCond .ne 6, 3) := by decide +kernel
theorem d_P_worst_78 : decode b_P_worst 78 = .ok (.ldc 124, 2) := by decide +kernel
theorem d_P_worst_80 : decode b_P_worst 80 = .ok (.ireturn, 1) := by decide +kernel
theorem d_P_worst_81 : decode b_P_worst 81 = .ok (.aload_n 0, 1) := by decide +kernel
theorem d_P_worst_82 : decode b_P_worst 82 = .ok (.getfield 12, 3) := by decide +kernel
theorem d_P_worst_85 : decode b_P_worst 85 = .ok (.iload_n 1, 1) := by decide +kernel
theorem d_P_worst_86 : decode b_P_worst 86 = .ok (.aload_n 0, 1) := by decide +kernel
theorem d_P_worst_87 : decode b_P_worst 87 = .ok (.getfield 39, 3) := by decide +kernel
theorem d_P_worst_90 : decode b_P_worst 90 = .ok (.iload 6, 2) := by decide +kernel
theorem d_P_worst_92 : decode b_P_worst 92 = .ok (.aaload, 1) := by decide +kernel
theorem d_P_worst_93 : decode b_P_worst 93 = .ok (.getfield 121, 3) := by decide +kernel
theorem d_P_worst_96 : decode b_P_worst 96 = .ok (.invokevirtual 125, 3) := by decide +kernel
theorem d_P_worst_99 : decode b_P_worst 99 = .ok (.istore 7, 2) := by decide +kernel
theorem d_P_worst_101 : decode b_P_worst 101 = .ok (.iload_n 3, 1) := by decide +kernel
theorem d_P_worst_102 : decode b_P_worst 102 = .ok (.ifCond .eq 18, 3) := by decide +kernel
theorem d_P_worst_105 : decode b_P_worst 105 = .ok (.iload 7, 2) := by decide +kernel
theorem d_P_worst_107 : decode b_P_worst 107 = .ok (.iload 5, 2) := by decide +kernel
theorem d_P_worst_109 : decode b_P_worst 109 = .ok (.if_icmp .le 7, 3) := by decide +kernel
theorem d_P_worst_112 : decode b_P_worst 112 = .ok (.iconst 1, 1) := by decide +kernel
theorem d_P_worst_113 : decode b_P_worst 113 = .ok (.goto 19, 3) := by decide +kernel
theorem d_P_worst_116 : decode b_P_worst 116 = .ok (.iconst 0, 1) := by decide +kernel
theorem d_P_worst_117 : decode b_P_worst 117 = .ok (.goto 15, 3) := by decide +kernel
theorem d_P_worst_120 : decode b_P_worst 120 = .ok (.iload 7, 2) := by decide +kernel
theorem d_P_worst_122 : decode b_P_worst 122 = .ok (.iload 5, 2) := by decide +kernel
theorem d_P_worst_124 : decode b_P_worst 124 = .ok (.if_icmp .ge 7, 3) := by decide +kernel
theorem d_P_worst_127 : decode b_P_worst 127 = .ok (.iconst 1, 1) := by decide +kernel
theorem d_P_worst_128 : decode b_P_worst 128 = .ok (.goto 4, 3) := by decide +kernel
theorem d_P_worst_131 : decode b_P_worst 131 = .ok (.iconst 0, 1) := by decide +kernel
theorem d_P_worst_132 : decode b_P_worst 132 = .ok (.istore 8, 2) := by decide +kernel
theorem d_P_worst_134 : decode b_P_worst 134 = .ok (.iload 4, 2) := by decide +kernel
theorem d_P_worst_136 : decode b_P_worst 136 = .ok (.ldc 124, 2) := by decide +kernel
theorem d_P_worst_138 : decode b_P_worst 138 = .ok (.if_icmp .eq 8, 3) := by decide +kernel
theorem d_P_worst_141 : decode b_P_worst 141 = .ok (.iload 8, 2) := by decide +kernel
theorem d_P_worst_143 : decode b_P_worst 143 = .ok (.ifCond .eq 11, 3) := by decide +kernel
theorem d_P_worst_146 : decode b_P_worst 146 = .ok (.iload 6, 2) := by decide +kernel
theorem d_P_worst_148 : decode b_P_worst 148 = .ok (.istore 4, 2) := by decide +kernel
theorem d_P_worst_150 : decode b_P_worst 150 = .ok (.iload 7, 2) := by decide +kernel
theorem d_P_worst_152 : decode b_P_worst 152 = .ok (.istore 5, 2) := by decide +kernel
theorem d_P_worst_154 : decode b_P_worst 154 = .ok (.iinc 6 1, 3) := by decide +kernel
theorem d_P_worst_157 : decode b_P_worst 157 = .ok (.goto (-105), 3) := by decide +kernel
theorem d_P_worst_160 : decode b_P_worst 160 = .ok (.iload_n 2, 1) := by decide +kernel
theorem d_P_worst_161 : decode b_P_worst 161 = .ok (.iconst 2, 1) := by decide +kernel
theorem d_P_worst_162 : decode b_P_worst 162 = .ok (.if_icmp .eq 8, 3) := by decide +kernel
theorem d_P_worst_165 : decode b_P_worst 165 = .ok (.iload_n 2, 1) := by decide +kernel
theorem d_P_worst_166 : decode b_P_worst 166 = .ok (.iconst 3, 1) := by decide +kernel
theorem d_P_worst_167 : decode b_P_worst 167 = .ok (.if_icmp .ne 8, 3) := by decide +kernel
theorem d_P_worst_170 : decode b_P_worst 170 = .ok (.iload 4, 2) := by decide +kernel
theorem d_P_worst_172 : decode b_P_worst 172 = .ok (.goto 5, 3) := by decide +kernel
theorem d_P_worst_175 : decode b_P_worst 175 = .ok (.iload 5, 2) := by decide +kernel
theorem d_P_worst_177 : decode b_P_worst 177 = .ok (.ireturn, 1) := by decide +kernel
theorem d_P_put_0 : decode b_P_put 0 = .ok (.aload_n 0, 1) := by decide +kernel
theorem d_P_put_1 : decode b_P_put 1 = .ok (.iload_n 1, 1) := by decide +kernel
theorem d_P_put_2 : decode b_P_put 2 = .ok (.invokevirtual 136, 3) := by decide +kernel
theorem d_P_put_5 : decode b_P_put 5 = .ok (.ifCond .eq 18, 3) := by decide +kernel
theorem d_P_put_8 : decode b_P_put 8 = .ok (.iload_n 2, 1) := by decide +kernel
theorem d_P_put_9 : decode b_P_put 9 = .ok (.ldc 142, 2) := by decide +kernel
theorem d_P_put_11 : decode b_P_put 11 = .ok (.ldc 143, 2) := by decide +kernel
theorem d_P_put_13 : decode b_P_put 13 = .ok (.invokestatic 52, 3) := by decide +kernel
theorem d_P_put_16 : decode b_P_put 16 = .ok (.ifCond .eq 7, 3) := by decide +kernel
theorem d_P_put_19 : decode b_P_put 19 = .ok (.iconst 1, 1) := by decide +kernel
theorem d_P_put_20 : decode b_P_put 20 = .ok (.goto 4, 3) := by decide +kernel
theorem d_P_put_23 : decode b_P_put 23 = .ok (.iconst 0, 1) := by decide +kernel
theorem d_P_put_24 : decode b_P_put 24 = .ok (.invokestatic 56, 3) := by decide +kernel
theorem d_P_put_27 : decode b_P_put 27 = .ok (.aload_n 0, 1) := by decide +kernel
theorem d_P_put_28 : decode b_P_put 28 = .ok (.getfield 28, 3) := by decide +kernel
theorem d_P_put_31 : decode b_P_put 31 = .ok (.getfield 144, 3) := by decide +kernel
theorem d_P_put_34 : decode b_P_put 34 = .ok (.iload_n 1, 1) := by decide +kernel
theorem d_P_put_35 : decode b_P_put 35 = .ok (.invokestatic 73, 3) := by decide +kernel
theorem d_P_put_38 : decode b_P_put 38 = .ok (.laload, 1) := by decide +kernel
theorem d_P_put_39 : decode b_P_put 39 = .ok (.iload_n 2, 1) := by decide +kernel
theorem d_P_put_40 : decode b_P_put 40 = .ok (.i2l, 1) := by decide +kernel
theorem d_P_put_41 : decode b_P_put 41 = .ok (.ladd, 1) := by decide +kernel
theorem d_P_put_42 : decode b_P_put 42 = .ok (.lstore_n 3, 1) := by decide +kernel
theorem d_P_put_43 : decode b_P_put 43 = .ok (.lload_n 3, 1) := by decide +kernel
theorem d_P_put_44 : decode b_P_put 44 = .ok (.lconst 0, 1) := by decide +kernel
theorem d_P_put_45 : decode b_P_put 45 = .ok (.lcmp, 1) := by decide +kernel
theorem d_P_put_46 : decode b_P_put 46 = .ok (.ifCond .lt 15, 3) := by decide +kernel
theorem d_P_put_49 : decode b_P_put 49 = .ok (.lload_n 3, 1) := by decide +kernel
theorem d_P_put_50 : decode b_P_put 50 = .ok (.ldc2_w 148, 3) := by decide +kernel
theorem d_P_put_53 : decode b_P_put 53 = .ok (.lcmp, 1) := by decide +kernel
theorem d_P_put_54 : decode b_P_put 54 = .ok (.ifCond .gt 7, 3) := by decide +kernel
theorem d_P_put_57 : decode b_P_put 57 = .ok (.iconst 1, 1) := by decide +kernel
theorem d_P_put_58 : decode b_P_put 58 = .ok (.goto 4, 3) := by decide +kernel
theorem d_P_put_61 : decode b_P_put 61 = .ok (.iconst 0, 1) := by decide +kernel
theorem d_P_put_62 : decode b_P_put 62 = .ok (.invokestatic 56, 3) := by decide +kernel
theorem d_P_put_65 : decode b_P_put 65 = .ok (.aload_n 0, 1) := by decide +kernel
theorem d_P_put_66 : decode b_P_put 66 = .ok (.getfield 28, 3) := by decide +kernel
theorem d_P_put_69 : decode b_P_put 69 = .ok (.getfield 144, 3) := by decide +kernel
theorem d_P_put_72 : decode b_P_put 72 = .ok (.iload_n 1, 1) := by decide +kernel
theorem d_P_put_73 : decode b_P_put 73 = .ok (.invokestatic 73, 3) := by decide +kernel
theorem d_P_put_76 : decode b_P_put 76 = .ok (.lload_n 3, 1) := by decide +kernel
theorem d_P_put_77 : decode b_P_put 77 = .ok (.lastore, 1) := by decide +kernel
theorem d_P_put_78 : decode b_P_put 78 = .ok (.lload_n 3, 1) := by decide +kernel
theorem d_P_put_79 : decode b_P_put 79 = .ok (.l2i, 1) := by decide +kernel
theorem d_P_put_80 : decode b_P_put 80 = .ok (.ireturn, 1) := by decide +kernel
theorem d_P_source_0 : decode b_P_source 0 = .ok (.aload_n 0, 1) := by decide +kernel
theorem d_P_source_1 : decode b_P_source 1 = .ok (.iload_n 1, 1) := by decide +kernel
theorem d_P_source_2 : decode b_P_source 2 = .ok (.invokevirtual 136, 3) := by decide +kernel
theorem d_P_source_5 : decode b_P_source 5 = .ok (.ifCond .eq 17, 3) := by decide +kernel
theorem d_P_source_8 : decode b_P_source 8 = .ok (.iload_n 2, 1) := by decide +kernel
theorem d_P_source_9 : decode b_P_source 9 = .ok (.iconst 0, 1) := by decide +kernel
theorem d_P_source_10 : decode b_P_source 10 = .ok (.ldc 150, 2) := by decide +kernel
theorem d_P_source_12 : decode b_P_source 12 = .ok (.invokestatic 52, 3) := by decide +kernel
theorem d_P_source_15 : decode b_P_source 15 = .ok (.ifCond .eq 7, 3) := by decide +kernel
theorem d_P_source_18 : decode b_P_source 18 = .ok (.iconst 1, 1) := by decide +kernel
theorem d_P_source_19 : decode b_P_source 19 = .ok (.goto 4, 3) := by decide +kernel
theorem d_P_source_22 : decode b_P_source 22 = .ok (.iconst 0, 1) := by decide +kernel
theorem d_P_source_23 : decode b_P_source 23 = .ok (.invokestatic 56, 3) := by decide +kernel
theorem d_P_source_26 : decode b_P_source 26 = .ok (.aload_n 0, 1) := by decide +kernel
theorem d_P_source_27 : decode b_P_source 27 = .ok (.getfield 28, 3) := by decide +kernel
theorem d_P_source_30 : decode b_P_source 30 = .ok (.getfield 151, 3) := by decide +kernel
theorem d_P_source_33 : decode b_P_source 33 = .ok (.iload_n 1, 1) := by decide +kernel
theorem d_P_source_34 : decode b_P_source 34 = .ok (.invokestatic 73, 3) := by decide +kernel
theorem d_P_source_37 : decode b_P_source 37 = .ok (.iaload, 1) := by decide +kernel
theorem d_P_source_38 : decode b_P_source 38 = .ok (.istore_n 3, 1) := by decide +kernel
theorem d_P_source_39 : decode b_P_source 39 = .ok (.aload_n 0, 1) := by decide +kernel
theorem d_P_source_40 : decode b_P_source 40 = .ok (.getfield 28, 3) := by decide +kernel
theorem d_P_source_43 : decode b_P_source 43 = .ok (.getfield 151, 3) := by decide +kernel
theorem d_P_source_46 : decode b_P_source 46 = .ok (.iload_n 1, 1) := by decide +kernel
theorem d_P_source_47 : decode b_P_source 47 = .ok (.invokestatic 73, 3) := by decide +kernel
theorem d_P_source_50 : decode b_P_source 50 = .ok (.iload_n 2, 1) := by decide +kernel
theorem d_P_source_51 : decode b_P_source 51 = .ok (.iastore, 1) := by decide +kernel
theorem d_P_source_52 : decode b_P_source 52 = .ok (.iload_n 3, 1) := by decide +kernel
theorem d_P_source_53 : decode b_P_source 53 = .ok (.ireturn, 1) := by decide +kernel
theorem d_P_steps_0 : decode b_P_steps 0 = .ok (.iload_n 1, 1) := by decide +kernel
theorem d_P_steps_1 : decode b_P_steps 1 = .ok (.iconst 1, 1) := by decide +kernel
theorem d_P_steps_2 : decode b_P_steps 2 = .ok (.sipush 200, 3) := by decide +kernel
theorem d_P_steps_5 : decode b_P_steps 5 = .ok (.invokestatic 52, 3) := by decide +kernel
theorem d_P_steps_8 : decode b_P_steps 8 = .ok (.invokestatic 56, 3) := by decide +kernel
theorem d_P_steps_11 : decode b_P_steps 11 = .ok (.aload_n 0, 1) := by decide +kernel
theorem d_P_steps_12 : decode b_P_steps 12 = .ok (.getfield 21, 3) := by decide +kernel
theorem d_P_steps_15 : decode b_P_steps 15 = .ok (.aload_n 0, 1) := by decide +kernel
theorem d_P_steps_16 : decode b_P_steps 16 = .ok (.getfield 35, 3) := by decide +kernel
theorem d_P_steps_19 : decode b_P_steps 19 = .ok (.invokevirtual 117, 3) := by decide +kernel
theorem d_P_steps_22 : decode b_P_steps 22 = .ok (.ifCond .ne 5, 3) := by decide +kernel
theorem d_P_steps_25 : decode b_P_steps 25 = .ok (.iconst 0, 1) := by decide +kernel
theorem d_P_steps_26 : decode b_P_steps 26 = .ok (.ireturn, 1) := by decide +kernel
theorem d_P_steps_27 : decode b_P_steps 27 = .ok (.aload_n 0, 1) := by decide +kernel
theorem d_P_steps_28 : decode b_P_steps 28 = .ok (.getfield 28, 3) := by decide +kernel
theorem d_P_steps_31 : decode b_P_steps 31 = .ok (.aload_n 0, 1) := by decide +kernel
theorem d_P_steps_32 : decode b_P_steps 32 = .ok (.getfield 35, 3) := by decide +kernel
theorem d_P_steps_35 : decode b_P_steps 35 = .ok (.invokevirtual 154, 3) := by decide +kernel
theorem d_P_steps_38 : decode b_P_steps 38 = .ok (.iconst 0, 1) := by decide +kernel
theorem d_P_steps_39 : decode b_P_steps 39 = .ok (.istore_n 2, 1) := by decide +kernel
theorem d_P_steps_40 : decode b_P_steps 40 = .ok (.iload_n 2, 1) := by decide +kernel
theorem d_P_steps_41 : decode b_P_steps 41 = .ok (.iload_n 1, 1) := by decide +kernel
theorem d_P_steps_42 : decode b_P_steps 42 = .ok (.if_icmp .ge 19, 3) := by decide +kernel
theorem d_P_steps_45 : decode b_P_steps 45 = .ok (.aload_n 0, 1) := by decide +kernel
theorem d_P_steps_46 : decode b_P_steps 46 = .ok (.getfield 28, 3) := by decide +kernel
theorem d_P_steps_49 : decode b_P_steps 49 = .ok (.invokevirtual 158, 3) := by decide +kernel
theorem d_P_steps_52 : decode b_P_steps 52 = .ok (.ifCond .eq 9, 3) := by decide +kernel
theorem d_P_steps_55 : decode b_P_steps 55 = .ok (.iinc 2 1, 3) := by decide +kernel
theorem d_P_steps_58 : decode b_P_steps 58 = .ok (.goto (-18), 3) := by decide +kernel
theorem d_P_steps_61 : decode b_P_steps 61 = .ok (.iload_n 2, 1) := by decide +kernel
theorem d_P_steps_62 : decode b_P_steps 62 = .ok (.ireturn, 1) := by decide +kernel
theorem d_P_gone_0 : decode b_P_gone 0 = .ok (.iload_n 1, 1) := by decide +kernel
theorem d_P_gone_1 : decode b_P_gone 1 = .ok (.invokestatic 70, 3) := by decide +kernel
theorem d_P_gone_4 : decode b_P_gone 4 = .ok (.invokestatic 56, 3) := by decide +kernel
theorem d_P_gone_7 : decode b_P_gone 7 = .ok (.aload_n 0, 1) := by decide +kernel
theorem d_P_gone_8 : decode b_P_gone 8 = .ok (.getfield 28, 3) := by decide +kernel
theorem d_P_gone_11 : decode b_P_gone 11 = .ok (.getfield 144, 3) := by decide +kernel
theorem d_P_gone_14 : decode b_P_gone 14 = .ok (.iload_n 1, 1) := by decide +kernel
theorem d_P_gone_15 : decode b_P_gone 15 = .ok (.invokestatic 73, 3) := by decide +kernel
theorem d_P_gone_18 : decode b_P_gone 18 = .ok (.laload, 1) := by decide +kernel
theorem d_P_gone_19 : decode b_P_gone 19 = .ok (.lreturn, 1) := by decide +kernel
theorem d_P_demandLegal_0 : decode b_P_demandLegal 0 = .ok (.iload_n 0, 1) := by decide +kernel
theorem d_P_demandLegal_1 : decode b_P_demandLegal 1 = .ok (.ifCond .ne 13, 3) := by decide +kernel
theorem d_P_demandLegal_4 : decode b_P_demandLegal 4 = .ok (.new 162, 3) := by decide +kernel
theorem d_P_demandLegal_7 : decode b_P_demandLegal 7 = .ok (.dup, 1) := by decide +kernel
theorem d_P_demandLegal_8 : decode b_P_demandLegal 8 = .ok (.ldc 164, 2) := by decide +kernel
theorem d_P_demandLegal_10 : decode b_P_demandLegal 10 = .ok (.invokespecial 166, 3) := by decide +kernel
theorem d_P_demandLegal_13 : decode b_P_demandLegal 13 = .ok (.athrow, 1) := by decide +kernel
theorem d_P_demandLegal_14 : decode b_P_demandLegal 14 = .ok (.return_, 1) := by decide +kernel
theorem d_P_demandRoom_0 : decode b_P_demandRoom 0 = .ok (.iload_n 0, 1) := by decide +kernel
theorem d_P_demandRoom_1 : decode b_P_demandRoom 1 = .ok (.ifCond .ne 13, 3) := by decide +kernel
theorem d_P_demandRoom_4 : decode b_P_demandRoom 4 = .ok (.new 169, 3) := by decide +kernel
theorem d_P_demandRoom_7 : decode b_P_demandRoom 7 = .ok (.dup, 1) := by decide +kernel
theorem d_P_demandRoom_8 : decode b_P_demandRoom 8 = .ok (.ldc 171, 2) := by decide +kernel
theorem d_P_demandRoom_10 : decode b_P_demandRoom 10 = .ok (.invokespecial 173, 3) := by decide +kernel
theorem d_P_demandRoom_13 : decode b_P_demandRoom 13 = .ok (.athrow, 1) := by decide +kernel
theorem d_P_demandRoom_14 : decode b_P_demandRoom 14 = .ok (.return_, 1) := by decide +kernel
theorem d_P_isWithin_0 : decode b_P_isWithin 0 = .ok (.iload_n 0, 1) := by decide +kernel
theorem d_P_isWithin_1 : decode b_P_isWithin 1 = .ok (.iload_n 1, 1) := by decide +kernel
theorem d_P_isWithin_2 : decode b_P_isWithin 2 = .ok (.if_icmp .lt 12, 3) := by decide +kernel
theorem d_P_isWithin_5 : decode b_P_isWithin 5 = .ok (.iload_n 0, 1) := by decide +kernel
theorem d_P_isWithin_6 : decode b_P_isWithin 6 = .ok (.iload_n 2, 1) := by decide +kernel
