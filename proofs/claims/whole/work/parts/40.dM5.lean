theorem d_M_source_49 : decode b_M_source 49 = .ok (.iload_n 1, 1) := by decide +kernel
theorem d_M_source_50 : decode b_M_source 50 = .ok (.iload_n 2, 1) := by decide +kernel
theorem d_M_source_51 : decode b_M_source 51 = .ok (.iastore, 1) := by decide +kernel
theorem d_M_source_52 : decode b_M_source 52 = .ok (.iload_n 3, 1) := by decide +kernel
theorem d_M_source_53 : decode b_M_source 53 = .ok (.ireturn, 1) := by decide +kernel
theorem d_M_outBy_0 : decode b_M_outBy 0 = .ok (.iload_n 2, 1) := by decide +kernel
theorem d_M_outBy_1 : decode b_M_outBy 1 = .ok (.bipush 20, 2) := by decide +kernel
theorem d_M_outBy_3 : decode b_M_outBy 3 = .ok (.if_icmp .ge 90, 3) := by decide +kernel
theorem d_M_outBy_6 : decode b_M_outBy 6 = .ok (.iload_n 2, 1) := by decide +kernel
theorem d_M_outBy_7 : decode b_M_outBy 7 = .ok (.aload_n 0, 1) := by decide +kernel
theorem d_M_outBy_8 : decode b_M_outBy 8 = .ok (.getfield 110, 3) := by decide +kernel
theorem d_M_outBy_11 : decode b_M_outBy 11 = .ok (.if_icmp .ge 11, 3) := by decide +kernel
theorem d_M_outBy_14 : decode b_M_outBy 14 = .ok (.aload_n 0, 1) := by decide +kernel
theorem d_M_outBy_15 : decode b_M_outBy 15 = .ok (.iload_n 2, 1) := by decide +kernel
theorem d_M_outBy_16 : decode b_M_outBy 16 = .ok (.invokevirtual 135, 3) := by decide +kernel
theorem d_M_outBy_19 : decode b_M_outBy 19 = .ok (.goto 4, 3) := by decide +kernel
theorem d_M_outBy_22 : decode b_M_outBy 22 = .ok (.lconst 0, 1) := by decide +kernel
theorem d_M_outBy_23 : decode b_M_outBy 23 = .ok (.lstore_n 3, 1) := by decide +kernel
theorem d_M_outBy_24 : decode b_M_outBy 24 = .ok (.iload_n 2, 1) := by decide +kernel
theorem d_M_outBy_25 : decode b_M_outBy 25 = .ok (.aload_n 0, 1) := by decide +kernel
theorem d_M_outBy_26 : decode b_M_outBy 26 = .ok (.getfield 110, 3) := by decide +kernel
theorem d_M_outBy_29 : decode b_M_outBy 29 = .ok (.if_icmp .ge 39, 3) := by decide +kernel
theorem d_M_outBy_32 : decode b_M_outBy 32 = .ok (.aload_n 0, 1) := by decide +kernel
theorem d_M_outBy_33 : decode b_M_outBy 33 = .ok (.getfield 26, 3) := by decide +kernel
theorem d_M_outBy_36 : decode b_M_outBy 36 = .ok (.iload_n 2, 1) := by decide +kernel
theorem d_M_outBy_37 : decode b_M_outBy 37 = .ok (.iaload, 1) := by decide +kernel
theorem d_M_outBy_38 : decode b_M_outBy 38 = .ok (.iload_n 1, 1) := by decide +kernel
theorem d_M_outBy_39 : decode b_M_outBy 39 = .ok (.if_icmp .ne 9, 3) := by decide +kernel
theorem d_M_outBy_42 : decode b_M_outBy 42 = .ok (.lload_n 3, 1) := by decide +kernel
theorem d_M_outBy_43 : decode b_M_outBy 43 = .ok (.lconst 0, 1) := by decide +kernel
theorem d_M_outBy_44 : decode b_M_outBy 44 = .ok (.lcmp, 1) := by decide +kernel
theorem d_M_outBy_45 : decode b_M_outBy 45 = .ok (.ifCond .gt 19, 3) := by decide +kernel
theorem d_M_outBy_48 : decode b_M_outBy 48 = .ok (.aload_n 0, 1) := by decide +kernel
theorem d_M_outBy_49 : decode b_M_outBy 49 = .ok (.getfield 29, 3) := by decide +kernel
theorem d_M_outBy_52 : decode b_M_outBy 52 = .ok (.iload_n 2, 1) := by decide +kernel
theorem d_M_outBy_53 : decode b_M_outBy 53 = .ok (.iaload, 1) := by decide +kernel
theorem d_M_outBy_54 : decode b_M_outBy 54 = .ok (.iload_n 1, 1) := by decide +kernel
theorem d_M_outBy_55 : decode b_M_outBy 55 = .ok (.if_icmp .ne 13, 3) := by decide +kernel
theorem d_M_outBy_58 : decode b_M_outBy 58 = .ok (.lload_n 3, 1) := by decide +kernel
theorem d_M_outBy_59 : decode b_M_outBy 59 = .ok (.lconst 0, 1) := by decide +kernel
theorem d_M_outBy_60 : decode b_M_outBy 60 = .ok (.lcmp, 1) := by decide +kernel
theorem d_M_outBy_61 : decode b_M_outBy 61 = .ok (.ifCond .ge 7, 3) := by decide +kernel
theorem d_M_outBy_64 : decode b_M_outBy 64 = .ok (.iconst 1, 1) := by decide +kernel
theorem d_M_outBy_65 : decode b_M_outBy 65 = .ok (.goto 4, 3) := by decide +kernel
theorem d_M_outBy_68 : decode b_M_outBy 68 = .ok (.iconst 0, 1) := by decide +kernel
theorem d_M_outBy_69 : decode b_M_outBy 69 = .ok (.istore 5, 2) := by decide +kernel
theorem d_M_outBy_71 : decode b_M_outBy 71 = .ok (.iload 5, 2) := by decide +kernel
theorem d_M_outBy_73 : decode b_M_outBy 73 = .ok (.ifCond .ne 7, 3) := by decide +kernel
theorem d_M_outBy_76 : decode b_M_outBy 76 = .ok (.lconst 0, 1) := by decide +kernel
theorem d_M_outBy_77 : decode b_M_outBy 77 = .ok (.goto 15, 3) := by decide +kernel
theorem d_M_outBy_80 : decode b_M_outBy 80 = .ok (.lload_n 3, 1) := by decide +kernel
theorem d_M_outBy_81 : decode b_M_outBy 81 = .ok (.lconst 0, 1) := by decide +kernel
theorem d_M_outBy_82 : decode b_M_outBy 82 = .ok (.lcmp, 1) := by decide +kernel
theorem d_M_outBy_83 : decode b_M_outBy 83 = .ok (.ifCond .ge 8, 3) := by decide +kernel
theorem d_M_outBy_86 : decode b_M_outBy 86 = .ok (.lload_n 3, 1) := by decide +kernel
theorem d_M_outBy_87 : decode b_M_outBy 87 = .ok (.lneg, 1) := by decide +kernel
theorem d_M_outBy_88 : decode b_M_outBy 88 = .ok (.goto 4, 3) := by decide +kernel
theorem d_M_outBy_91 : decode b_M_outBy 91 = .ok (.lload_n 3, 1) := by decide +kernel
theorem d_M_outBy_92 : decode b_M_outBy 92 = .ok (.lreturn, 1) := by decide +kernel
theorem d_M_outBy_93 : decode b_M_outBy 93 = .ok (.iload_n 2, 1) := by decide +kernel
theorem d_M_outBy_94 : decode b_M_outBy 94 = .ok (.bipush 20, 2) := by decide +kernel
theorem d_M_outBy_96 : decode b_M_outBy 96 = .ok (.isub, 1) := by decide +kernel
theorem d_M_outBy_97 : decode b_M_outBy 97 = .ok (.aload_n 0, 1) := by decide +kernel
theorem d_M_outBy_98 : decode b_M_outBy 98 = .ok (.getfield 115, 3) := by decide +kernel
theorem d_M_outBy_101 : decode b_M_outBy 101 = .ok (.if_icmp .ge 27, 3) := by decide +kernel
theorem d_M_outBy_104 : decode b_M_outBy 104 = .ok (.aload_n 0, 1) := by decide +kernel
theorem d_M_outBy_105 : decode b_M_outBy 105 = .ok (.getfield 45, 3) := by decide +kernel
theorem d_M_outBy_108 : decode b_M_outBy 108 = .ok (.iload_n 2, 1) := by decide +kernel
theorem d_M_outBy_109 : decode b_M_outBy 109 = .ok (.bipush 20, 2) := by decide +kernel
theorem d_M_outBy_111 : decode b_M_outBy 111 = .ok (.isub, 1) := by decide +kernel
theorem d_M_outBy_112 : decode b_M_outBy 112 = .ok (.iaload, 1) := by decide +kernel
theorem d_M_outBy_113 : decode b_M_outBy 113 = .ok (.iload_n 1, 1) := by decide +kernel
theorem d_M_outBy_114 : decode b_M_outBy 114 = .ok (.if_icmp .ne 14, 3) := by decide +kernel
theorem d_M_outBy_117 : decode b_M_outBy 117 = .ok (.aload_n 0, 1) := by decide +kernel
theorem d_M_outBy_118 : decode b_M_outBy 118 = .ok (.iload_n 2, 1) := by decide +kernel
theorem d_M_outBy_119 : decode b_M_outBy 119 = .ok (.bipush 20, 2) := by decide +kernel
theorem d_M_outBy_121 : decode b_M_outBy 121 = .ok (.isub, 1) := by decide +kernel
theorem d_M_outBy_122 : decode b_M_outBy 122 = .ok (.invokevirtual 139, 3) := by decide +kernel
theorem d_M_outBy_125 : decode b_M_outBy 125 = .ok (.goto 4, 3) := by decide +kernel
theorem d_M_outBy_128 : decode b_M_outBy 128 = .ok (.lconst 0, 1) := by decide +kernel
theorem d_M_outBy_129 : decode b_M_outBy 129 = .ok (.lreturn, 1) := by decide +kernel
theorem d_M_other_0 : decode b_M_other 0 = .ok (.iload_n 2, 1) := by decide +kernel
theorem d_M_other_1 : decode b_M_other 1 = .ok (.bipush 20, 2) := by decide +kernel
theorem d_M_other_3 : decode b_M_other 3 = .ok (.if_icmp .ge 31, 3) := by decide +kernel
theorem d_M_other_6 : decode b_M_other 6 = .ok (.aload_n 0, 1) := by decide +kernel
theorem d_M_other_7 : decode b_M_other 7 = .ok (.getfield 26, 3) := by decide +kernel
theorem d_M_other_10 : decode b_M_other 10 = .ok (.iload_n 2, 1) := by decide +kernel
theorem d_M_other_11 : decode b_M_other 11 = .ok (.iaload, 1) := by decide +kernel
theorem d_M_other_12 : decode b_M_other 12 = .ok (.iload_n 1, 1) := by decide +kernel
theorem d_M_other_13 : decode b_M_other 13 = .ok (.if_icmp .ne 12, 3) := by decide +kernel
theorem d_M_other_16 : decode b_M_other 16 = .ok (.aload_n 0, 1) := by decide +kernel
theorem d_M_other_17 : decode b_M_other 17 = .ok (.getfield 29, 3) := by decide +kernel
theorem d_M_other_20 : decode b_M_other 20 = .ok (.iload_n 2, 1) := by decide +kernel
theorem d_M_other_21 : decode b_M_other 21 = .ok (.iaload, 1) := by decide +kernel
theorem d_M_other_22 : decode b_M_other 22 = .ok (.goto 21, 3) := by decide +kernel
theorem d_M_other_25 : decode b_M_other 25 = .ok (.aload_n 0, 1) := by decide +kernel
theorem d_M_other_26 : decode b_M_other 26 = .ok (.getfield 26, 3) := by decide +kernel
theorem d_M_other_29 : decode b_M_other 29 = .ok (.iload_n 2, 1) := by decide +kernel
theorem d_M_other_30 : decode b_M_other 30 = .ok (.iaload, 1) := by decide +kernel
theorem d_M_other_31 : decode b_M_other 31 = .ok (.goto 12, 3) := by decide +kernel
theorem d_M_other_34 : decode b_M_other 34 = .ok (.aload_n 0, 1) := by decide +kernel
theorem d_M_other_35 : decode b_M_other 35 = .ok (.getfield 48, 3) := by decide +kernel
theorem d_M_other_38 : decode b_M_other 38 = .ok (.iload_n 2, 1) := by decide +kernel
theorem d_M_other_39 : decode b_M_other 39 = .ok (.bipush 20, 2) := by decide +kernel
theorem d_M_other_41 : decode b_M_other 41 = .ok (.isub, 1) := by decide +kernel
theorem d_M_other_42 : decode b_M_other 42 = .ok (.iaload, 1) := by decide +kernel
theorem d_M_other_43 : decode b_M_other 43 = .ok (.ireturn, 1) := by decide +kernel
theorem d_M_step_0 : decode b_M_step 0 = .ok (.iconst 0, 1) := by decide +kernel
theorem d_M_step_1 : decode b_M_step 1 = .ok (.istore_n 1, 1) := by decide +kernel
theorem d_M_step_2 : decode b_M_step 2 = .ok (.iload_n 1, 1) := by decide +kernel
theorem d_M_step_3 : decode b_M_step 3 = .ok (.bipush 8, 2) := by decide +kernel
theorem d_M_step_5 : decode b_M_step 5 = .ok (.if_icmp .ge 21, 3) := by decide +kernel
theorem d_M_step_8 : decode b_M_step 8 = .ok (.aload_n 0, 1) := by decide +kernel
theorem d_M_step_9 : decode b_M_step 9 = .ok (.getfield 66, 3) := by decide +kernel
theorem d_M_step_12 : decode b_M_step 12 = .ok (.iload_n 1, 1) := by decide +kernel
theorem d_M_step_13 : decode b_M_step 13 = .ok (.aload_n 0, 1) := by decide +kernel
theorem d_M_step_14 : decode b_M_step 14 = .ok (.getfield 19, 3) := by decide +kernel
theorem d_M_step_17 : decode b_M_step 17 = .ok (.iload_n 1, 1) := by decide +kernel
theorem d_M_step_18 : decode b_M_step 18 = .ok (.laload, 1) := by decide +kernel
theorem d_M_step_19 : decode b_M_step 19 = .ok (.lastore, 1) := by decide +kernel
theorem d_M_step_20 : decode b_M_step 20 = .ok (.iinc 1 1, 3) := by decide +kernel
theorem d_M_step_23 : decode b_M_step 23 = .ok (.goto (-21), 3) := by decide +kernel
theorem d_M_step_26 : decode b_M_step 26 = .ok (.iconst 0, 1) := by decide +kernel
theorem d_M_step_27 : decode b_M_step 27 = .ok (.istore_n 1, 1) := by decide +kernel
theorem d_M_step_28 : decode b_M_step 28 = .ok (.iload_n 1, 1) := by decide +kernel
theorem d_M_step_29 : decode b_M_step 29 = .ok (.iconst 4, 1) := by decide +kernel
theorem d_M_step_30 : decode b_M_step 30 = .ok (.if_icmp .ge 21, 3) := by decide +kernel
theorem d_M_step_33 : decode b_M_step 33 = .ok (.aload_n 0, 1) := by decide +kernel
theorem d_M_step_34 : decode b_M_step 34 = .ok (.getfield 69, 3) := by decide +kernel
theorem d_M_step_37 : decode b_M_step 37 = .ok (.iload_n 1, 1) := by decide +kernel
theorem d_M_step_38 : decode b_M_step 38 = .ok (.aload_n 0, 1) := by decide +kernel
theorem d_M_step_39 : decode b_M_step 39 = .ok (.getfield 60, 3) := by decide +kernel
theorem d_M_step_42 : decode b_M_step 42 = .ok (.iload_n 1, 1) := by decide +kernel
theorem d_M_step_43 : decode b_M_step 43 = .ok (.laload, 1) := by decide +kernel
theorem d_M_step_44 : decode b_M_step 44 = .ok (.lastore, 1) := by decide +kernel
theorem d_M_step_45 : decode b_M_step 45 = .ok (.iinc 1 1, 3) := by decide +kernel
theorem d_M_step_48 : decode b_M_step 48 = .ok (.goto (-20), 3) := by decide +kernel
theorem d_M_step_51 : decode b_M_step 51 = .ok (.iconst 0, 1) := by decide +kernel
theorem d_M_step_52 : decode b_M_step 52 = .ok (.istore_n 1, 1) := by decide +kernel
theorem d_M_step_53 : decode b_M_step 53 = .ok (.iload_n 1, 1) := by decide +kernel
theorem d_M_step_54 : decode b_M_step 54 = .ok (.aload_n 0, 1) := by decide +kernel
theorem d_M_step_55 : decode b_M_step 55 = .ok (.getfield 76, 3) := by decide +kernel
theorem d_M_step_58 : decode b_M_step 58 = .ok (.if_icmp .ge 173, 3) := by decide +kernel
theorem d_M_step_61 : decode b_M_step 61 = .ok (.lconst 0, 1) := by decide +kernel
theorem d_M_step_62 : decode b_M_step 62 = .ok (.lstore_n 2, 1) := by decide +kernel
theorem d_M_step_63 : decode b_M_step 63 = .ok (.iconst 0, 1) := by decide +kernel
theorem d_M_step_64 : decode b_M_step 64 = .ok (.istore 4, 2) := by decide +kernel
theorem d_M_step_66 : decode b_M_step 66 = .ok (.iload 4, 2) := by decide +kernel
theorem d_M_step_68 : decode b_M_step 68 = .ok (.bipush 24, 2) := by decide +kernel
theorem d_M_step_70 : decode b_M_step 70 = .ok (.if_icmp .ge 19, 3) := by decide +kernel
theorem d_M_step_73 : decode b_M_step 73 = .ok (.lload_n 2, 1) := by decide +kernel
theorem d_M_step_74 : decode b_M_step 74 = .ok (.aload_n 0, 1) := by decide +kernel
theorem d_M_step_75 : decode b_M_step 75 = .ok (.iload_n 1, 1) := by decide +kernel
theorem d_M_step_76 : decode b_M_step 76 = .ok (.iload 4, 2) := by decide +kernel
theorem d_M_step_78 : decode b_M_step 78 = .ok (.invokevirtual 174, 3) := by decide +kernel
theorem d_M_step_81 : decode b_M_step 81 = .ok (.ladd, 1) := by decide +kernel
theorem d_M_step_82 : decode b_M_step 82 = .ok (.lstore_n 2, 1) := by decide +kernel
theorem d_M_step_83 : decode b_M_step 83 = .ok (.iinc 4 1, 3) := by decide +kernel
theorem d_M_step_86 : decode b_M_step 86 = .ok (.goto (-20), 3) := by decide +kernel
theorem d_M_step_89 : decode b_M_step 89 = .ok (.aload_n 0, 1) := by decide +kernel
theorem d_M_step_90 : decode b_M_step 90 = .ok (.getfield 16, 3) := by decide +kernel
theorem d_M_step_93 : decode b_M_step 93 = .ok (.iload_n 1, 1) := by decide +kernel
theorem d_M_step_94 : decode b_M_step 94 = .ok (.iaload, 1) := by decide +kernel
theorem d_M_step_95 : decode b_M_step 95 = .ok (.i2l, 1) := by decide +kernel
theorem d_M_step_96 : decode b_M_step 96 = .ok (.lload_n 2, 1) := by decide +kernel
theorem d_M_step_97 : decode b_M_step 97 = .ok (.lcmp, 1) := by decide +kernel
theorem d_M_step_98 : decode b_M_step 98 = .ok (.ifCond .le 13, 3) := by decide +kernel
theorem d_M_step_101 : decode b_M_step 101 = .ok (.aload_n 0, 1) := by decide +kernel
theorem d_M_step_102 : decode b_M_step 102 = .ok (.getfield 16, 3) := by decide +kernel
theorem d_M_step_105 : decode b_M_step 105 = .ok (.iload_n 1, 1) := by decide +kernel
theorem d_M_step_106 : decode b_M_step 106 = .ok (.iaload, 1) := by decide +kernel
theorem d_M_step_107 : decode b_M_step 107 = .ok (.i2l, 1) := by decide +kernel
theorem d_M_step_108 : decode b_M_step 108 = .ok (.goto 4, 3) := by decide +kernel
theorem d_M_step_111 : decode b_M_step 111 = .ok (.lload_n 2, 1) := by decide +kernel
theorem d_M_step_112 : decode b_M_step 112 = .ok (.lstore 4, 2) := by decide +kernel
theorem d_M_step_114 : decode b_M_step 114 = .ok (.iconst 0, 1) := by decide +kernel
theorem d_M_step_115 : decode b_M_step 115 = .ok (.istore 6, 2) := by decide +kernel
theorem d_M_step_117 : decode b_M_step 117 = .ok (.iload 6, 2) := by decide +kernel
theorem d_M_step_119 : decode b_M_step 119 = .ok (.bipush 24, 2) := by decide +kernel
theorem d_M_step_121 : decode b_M_step 121 = .ok (.if_icmp .ge 104, 3) := by decide +kernel
theorem d_M_step_124 : decode b_M_step 124 = .ok (.aload_n 0, 1) := by decide +kernel
theorem d_M_step_125 : decode b_M_step 125 = .ok (.iload_n 1, 1) := by decide +kernel
theorem d_M_step_126 : decode b_M_step 126 = .ok (.iload 6, 2) := by decide +kernel
theorem d_M_step_128 : decode b_M_step 128 = .ok (.invokevirtual 174, 3) := by decide +kernel
theorem d_M_step_131 : decode b_M_step 131 = .ok (.lstore 7, 2) := by decide +kernel
theorem d_M_step_133 : decode b_M_step 133 = .ok (.lload 7, 2) := by decide +kernel
theorem d_M_step_135 : decode b_M_step 135 = .ok (.lconst 0, 1) := by decide +kernel
theorem d_M_step_136 : decode b_M_step 136 = .ok (.lcmp, 1) := by decide +kernel
theorem d_M_step_137 : decode b_M_step 137 = .ok (.ifCond .ne 7, 3) := by decide +kernel
theorem d_M_step_140 : decode b_M_step 140 = .ok (.lconst 0, 1) := by decide +kernel
theorem d_M_step_141 : decode b_M_step 141 = .ok (.goto 15, 3) := by decide +kernel
theorem d_M_step_144 : decode b_M_step 144 = .ok (.aload_n 0, 1) := by decide +kernel
theorem d_M_step_145 : decode b_M_step 145 = .ok (.getfield 19, 3) := by decide +kernel
theorem d_M_step_148 : decode b_M_step 148 = .ok (.iload_n 1, 1) := by decide +kernel
theorem d_M_step_149 : decode b_M_step 149 = .ok (.laload, 1) := by decide +kernel
theorem d_M_step_150 : decode b_M_step 150 = .ok (.lload 7, 2) := by decide +kernel
theorem d_M_step_152 : decode b_M_step 152 = .ok (.lmul, 1) := by decide +kernel
theorem d_M_step_153 : decode b_M_step 153 = .ok (.lload 4, 2) := by decide +kernel
theorem d_M_step_155 : decode b_M_step 155 = .ok (.ldiv, 1) := by decide +kernel
theorem d_M_step_156 : decode b_M_step 156 = .ok (.lstore 9, 2) := by decide +kernel
theorem d_M_step_158 : decode b_M_step 158 = .ok (.lload 7, 2) := by decide +kernel
theorem d_M_step_160 : decode b_M_step 160 = .ok (.lconst 0, 1) := by decide +kernel
theorem d_M_step_161 : decode b_M_step 161 = .ok (.lcmp, 1) := by decide +kernel
theorem d_M_step_162 : decode b_M_step 162 = .ok (.ifCond .le 57, 3) := by decide +kernel
theorem d_M_step_165 : decode b_M_step 165 = .ok (.aload_n 0, 1) := by decide +kernel
theorem d_M_step_166 : decode b_M_step 166 = .ok (.iload_n 1, 1) := by decide +kernel
theorem d_M_step_167 : decode b_M_step 167 = .ok (.iload 6, 2) := by decide +kernel
theorem d_M_step_169 : decode b_M_step 169 = .ok (.invokevirtual 178, 3) := by decide +kernel
theorem d_M_step_172 : decode b_M_step 172 = .ok (.istore 11, 2) := by decide +kernel
theorem d_M_step_174 : decode b_M_step 174 = .ok (.aload_n 0, 1) := by decide +kernel
theorem d_M_step_175 : decode b_M_step 175 = .ok (.getfield 66, 3) := by decide +kernel
theorem d_M_step_178 : decode b_M_step 178 = .ok (.iload_n 1, 1) := by decide +kernel
theorem d_M_step_179 : decode b_M_step 179 = .ok (.dup2, 1) := by decide +kernel
theorem d_M_step_180 : decode b_M_step 180 = .ok (.laload, 1) := by decide +kernel
theorem d_M_step_181 : decode b_M_step 181 = .ok (.lload 9, 2) := by decide +kernel
theorem d_M_step_183 : decode b_M_step 183 = .ok (.lsub, 1) := by decide +kernel
theorem d_M_step_184 : decode b_M_step 184 = .ok (.lastore, 1) := by decide +kernel
theorem d_M_step_185 : decode b_M_step 185 = .ok (.iload 11, 2) := by decide +kernel
theorem d_M_step_187 : decode b_M_step 187 = .ok (.ifCond .ge 20, 3) := by decide +kernel
theorem d_M_step_190 : decode b_M_step 190 = .ok (.aload_n 0, 1) := by decide +kernel
theorem d_M_step_191 : decode b_M_step 191 = .ok (.getfield 69, 3) := by decide +kernel
theorem d_M_step_194 : decode b_M_step 194 = .ok (.iload 11, 2) := by decide +kernel
theorem d_M_step_196 : decode b_M_step 196 = .ok (.iconst 4, 1) := by decide +kernel
theorem d_M_step_197 : decode b_M_step 197 = .ok (.iadd, 1) := by decide +kernel
theorem d_M_step_198 : decode b_M_step 198 = .ok (.dup2, 1) := by decide +kernel
theorem d_M_step_199 : decode b_M_step 199 = .ok (.laload, 1) := by decide +kernel
theorem d_M_step_200 : decode b_M_step 200 = .ok (.lload 9, 2) := by decide +kernel
theorem d_M_step_202 : decode b_M_step 202 = .ok (.ladd, 1) := by decide +kernel
theorem d_M_step_203 : decode b_M_step 203 = .ok (.lastore, 1) := by decide +kernel
theorem d_M_step_204 : decode b_M_step 204 = .ok (.goto 15, 3) := by decide +kernel
theorem d_M_step_207 : decode b_M_step 207 = .ok (.aload_n 0, 1) := by decide +kernel
theorem d_M_step_208 : decode b_M_step 208 = .ok (.getfield 66, 3) := by decide +kernel
theorem d_M_step_211 : decode b_M_step 211 = .ok (.iload 11, 2) := by decide +kernel
theorem d_M_step_213 : decode b_M_step 213 = .ok (.dup2, 1) := by decide +kernel
theorem d_M_step_214 : decode b_M_step 214 = .ok (.laload, 1) := by decide +kernel
theorem d_M_step_215 : decode b_M_step 215 = .ok (.lload 9, 2) := by decide +kernel
theorem d_M_step_217 : decode b_M_step 217 = .ok (.ladd, 1) := by decide +kernel
theorem d_M_step_218 : decode b_M_step 218 = .ok (.lastore, 1) := by decide +kernel
theorem d_M_step_219 : decode b_M_step 219 = .ok (.iinc 6 1, 3) := by decide +kernel
theorem d_M_step_222 : decode b_M_step 222 = .ok (.goto (-105), 3) := by decide +kernel
theorem d_M_step_225 : decode b_M_step 225 = .ok (.iinc 1 1, 3) := by decide +kernel
theorem d_M_step_228 : decode b_M_step 228 = .ok (.goto (-175), 3) := by decide +kernel
theorem d_M_step_231 : decode b_M_step 231 = .ok (.iconst 1, 1) := by decide +kernel
theorem d_M_step_232 : decode b_M_step 232 = .ok (.istore_n 1, 1) := by decide +kernel
theorem d_M_step_233 : decode b_M_step 233 = .ok (.iconst 0, 1) := by decide +kernel
theorem d_M_step_234 : decode b_M_step 234 = .ok (.istore_n 2, 1) := by decide +kernel
theorem d_M_step_235 : decode b_M_step 235 = .ok (.iload_n 2, 1) := by decide +kernel
theorem d_M_step_236 : decode b_M_step 236 = .ok (.aload_n 0, 1) := by decide +kernel
theorem d_M_step_237 : decode b_M_step 237 = .ok (.getfield 76, 3) := by decide +kernel
theorem d_M_step_240 : decode b_M_step 240 = .ok (.if_icmp .ge 48, 3) := by decide +kernel
theorem d_M_step_243 : decode b_M_step 243 = .ok (.aload_n 0, 1) := by decide +kernel
theorem d_M_step_244 : decode b_M_step 244 = .ok (.getfield 66, 3) := by decide +kernel
theorem d_M_step_247 : decode b_M_step 247 = .ok (.iload_n 2, 1) := by decide +kernel
theorem d_M_step_248 : decode b_M_step 248 = .ok (.dup2, 1) := by decide +kernel
theorem d_M_step_249 : decode b_M_step 249 = .ok (.laload, 1) := by decide +kernel
theorem d_M_step_250 : decode b_M_step 250 = .ok (.aload_n 0, 1) := by decide +kernel
theorem d_M_step_251 : decode b_M_step 251 = .ok (.getfield 23, 3) := by decide +kernel
theorem d_M_step_254 : decode b_M_step 254 = .ok (.iload_n 2, 1) := by decide +kernel
theorem d_M_step_255 : decode b_M_step 255 = .ok (.iaload, 1) := by decide +kernel
theorem d_M_step_256 : decode b_M_step 256 = .ok (.i2l, 1) := by decide +kernel
theorem d_M_step_257 : decode b_M_step 257 = .ok (.ladd, 1) := by decide +kernel
theorem d_M_step_258 : decode b_M_step 258 = .ok (.lastore, 1) := by decide +kernel
theorem d_M_step_259 : decode b_M_step 259 = .ok (.iload_n 1, 1) := by decide +kernel
theorem d_M_step_260 : decode b_M_step 260 = .ok (.ifCond .eq 20, 3) := by decide +kernel
theorem d_M_step_263 : decode b_M_step 263 = .ok (.aload_n 0, 1) := by decide +kernel
theorem d_M_step_264 : decode b_M_step 264 = .ok (.getfield 66, 3) := by decide +kernel
theorem d_M_step_267 : decode b_M_step 267 = .ok (.iload_n 2, 1) := by decide +kernel
theorem d_M_step_268 : decode b_M_step 268 = .ok (.laload, 1) := by decide +kernel
theorem d_M_step_269 : decode b_M_step 269 = .ok (.ldc2_w 170, 3) := by decide +kernel
theorem d_M_step_272 : decode b_M_step 272 = .ok (.lcmp, 1) := by decide +kernel
theorem d_M_step_273 : decode b_M_step 273 = .ok (.ifCond .gt 7, 3) := by decide +kernel
theorem d_M_step_276 : decode b_M_step 276 = .ok (.iconst 1, 1) := by decide +kernel
theorem d_M_step_277 : decode b_M_step 277 = .ok (.goto 4, 3) := by decide +kernel
theorem d_M_step_280 : decode b_M_step 280 = .ok (.iconst 0, 1) := by decide +kernel
theorem d_M_step_281 : decode b_M_step 281 = .ok (.istore_n 1, 1) := by decide +kernel
theorem d_M_step_282 : decode b_M_step 282 = .ok (.iinc 2 1, 3) := by decide +kernel
theorem d_M_step_285 : decode b_M_step 285 = .ok (.goto (-50), 3) := by decide +kernel
theorem d_M_step_288 : decode b_M_step 288 = .ok (.iload_n 1, 1) := by decide +kernel
theorem d_M_step_289 : decode b_M_step 289 = .ok (.ifCond .eq 54, 3) := by decide +kernel
theorem d_M_step_292 : decode b_M_step 292 = .ok (.iconst 0, 1) := by decide +kernel
theorem d_M_step_293 : decode b_M_step 293 = .ok (.istore_n 2, 1) := by decide +kernel
theorem d_M_step_294 : decode b_M_step 294 = .ok (.iload_n 2, 1) := by decide +kernel
theorem d_M_step_295 : decode b_M_step 295 = .ok (.bipush 8, 2) := by decide +kernel
theorem d_M_step_297 : decode b_M_step 297 = .ok (.if_icmp .ge 21, 3) := by decide +kernel
theorem d_M_step_300 : decode b_M_step 300 = .ok (.aload_n 0, 1) := by decide +kernel
theorem d_M_step_301 : decode b_M_step 301 = .ok (.getfield 19, 3) := by decide +kernel
theorem d_M_step_304 : decode b_M_step 304 = .ok (.iload_n 2, 1) := by decide +kernel
theorem d_M_step_305 : decode b_M_step 305 = .ok (.aload_n 0, 1) := by decide +kernel
theorem d_M_step_306 : decode b_M_step 306 = .ok (.getfield 66, 3) := by decide +kernel
theorem d_M_step_309 : decode b_M_step 309 = .ok (.iload_n 2, 1) := by decide +kernel
theorem d_M_step_310 : decode b_M_step 310 = .ok (.laload, 1) := by decide +kernel
theorem d_M_step_311 : decode b_M_step 311 = .ok (.lastore, 1) := by decide +kernel
theorem d_M_step_312 : decode b_M_step 312 = .ok (.iinc 2 1, 3) := by decide +kernel
theorem d_M_step_315 : decode b_M_step 315 = .ok (.goto (-21), 3) := by decide +kernel
theorem d_M_step_318 : decode b_M_step 318 = .ok (.iconst 0, 1) := by decide +kernel
theorem d_M_step_319 : decode b_M_step 319 = .ok (.istore_n 2, 1) := by decide +kernel
theorem d_M_step_320 : decode b_M_step 320 = .ok (.iload_n 2, 1) := by decide +kernel
theorem d_M_step_321 : decode b_M_step 321 = .ok (.iconst 4, 1) := by decide +kernel
theorem d_M_step_322 : decode b_M_step 322 = .ok (.if_icmp .ge 21, 3) := by decide +kernel
theorem d_M_step_325 : decode b_M_step 325 = .ok (.aload_n 0, 1) := by decide +kernel
