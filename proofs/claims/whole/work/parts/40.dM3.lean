theorem d_M_blown_4 : decode b_M_blown 4 = .ok (.iload_n 1, 1) := by decide +kernel
theorem d_M_blown_5 : decode b_M_blown 5 = .ok (.iaload, 1) := by decide +kernel
theorem d_M_blown_6 : decode b_M_blown 6 = .ok (.i2l, 1) := by decide +kernel
theorem d_M_blown_7 : decode b_M_blown 7 = .ok (.aload_n 0, 1) := by decide +kernel
theorem d_M_blown_8 : decode b_M_blown 8 = .ok (.getfield 54, 3) := by decide +kernel
theorem d_M_blown_11 : decode b_M_blown 11 = .ok (.iload_n 1, 1) := by decide +kernel
theorem d_M_blown_12 : decode b_M_blown 12 = .ok (.iaload, 1) := by decide +kernel
theorem d_M_blown_13 : decode b_M_blown 13 = .ok (.i2l, 1) := by decide +kernel
theorem d_M_blown_14 : decode b_M_blown 14 = .ok (.aload_n 0, 1) := by decide +kernel
theorem d_M_blown_15 : decode b_M_blown 15 = .ok (.aload_n 0, 1) := by decide +kernel
theorem d_M_blown_16 : decode b_M_blown 16 = .ok (.getfield 48, 3) := by decide +kernel
theorem d_M_blown_19 : decode b_M_blown 19 = .ok (.iload_n 1, 1) := by decide +kernel
theorem d_M_blown_20 : decode b_M_blown 20 = .ok (.iaload, 1) := by decide +kernel
theorem d_M_blown_21 : decode b_M_blown 21 = .ok (.invokevirtual 118, 3) := by decide +kernel
theorem d_M_blown_24 : decode b_M_blown 24 = .ok (.aload_n 0, 1) := by decide +kernel
theorem d_M_blown_25 : decode b_M_blown 25 = .ok (.aload_n 0, 1) := by decide +kernel
theorem d_M_blown_26 : decode b_M_blown 26 = .ok (.getfield 45, 3) := by decide +kernel
theorem d_M_blown_29 : decode b_M_blown 29 = .ok (.iload_n 1, 1) := by decide +kernel
theorem d_M_blown_30 : decode b_M_blown 30 = .ok (.iaload, 1) := by decide +kernel
theorem d_M_blown_31 : decode b_M_blown 31 = .ok (.invokevirtual 118, 3) := by decide +kernel
theorem d_M_blown_34 : decode b_M_blown 34 = .ok (.isub, 1) := by decide +kernel
theorem d_M_blown_35 : decode b_M_blown 35 = .ok (.i2l, 1) := by decide +kernel
theorem d_M_blown_36 : decode b_M_blown 36 = .ok (.lmul, 1) := by decide +kernel
theorem d_M_blown_37 : decode b_M_blown 37 = .ok (.lsub, 1) := by decide +kernel
theorem d_M_blown_38 : decode b_M_blown 38 = .ok (.lstore_n 2, 1) := by decide +kernel
theorem d_M_blown_39 : decode b_M_blown 39 = .ok (.lload_n 2, 1) := by decide +kernel
theorem d_M_blown_40 : decode b_M_blown 40 = .ok (.lconst 0, 1) := by decide +kernel
theorem d_M_blown_41 : decode b_M_blown 41 = .ok (.lcmp, 1) := by decide +kernel
theorem d_M_blown_42 : decode b_M_blown 42 = .ok (.ifCond .ge 7, 3) := by decide +kernel
theorem d_M_blown_45 : decode b_M_blown 45 = .ok (.lconst 0, 1) := by decide +kernel
theorem d_M_blown_46 : decode b_M_blown 46 = .ok (.goto 34, 3) := by decide +kernel
theorem d_M_blown_49 : decode b_M_blown 49 = .ok (.lload_n 2, 1) := by decide +kernel
theorem d_M_blown_50 : decode b_M_blown 50 = .ok (.ldc2_w 123, 3) := by decide +kernel
theorem d_M_blown_53 : decode b_M_blown 53 = .ok (.aload_n 0, 1) := by decide +kernel
theorem d_M_blown_54 : decode b_M_blown 54 = .ok (.getfield 51, 3) := by decide +kernel
theorem d_M_blown_57 : decode b_M_blown 57 = .ok (.iload_n 1, 1) := by decide +kernel
theorem d_M_blown_58 : decode b_M_blown 58 = .ok (.iaload, 1) := by decide +kernel
theorem d_M_blown_59 : decode b_M_blown 59 = .ok (.i2l, 1) := by decide +kernel
theorem d_M_blown_60 : decode b_M_blown 60 = .ok (.lmul, 1) := by decide +kernel
theorem d_M_blown_61 : decode b_M_blown 61 = .ok (.lcmp, 1) := by decide +kernel
theorem d_M_blown_62 : decode b_M_blown 62 = .ok (.ifCond .le 17, 3) := by decide +kernel
theorem d_M_blown_65 : decode b_M_blown 65 = .ok (.ldc2_w 123, 3) := by decide +kernel
theorem d_M_blown_68 : decode b_M_blown 68 = .ok (.aload_n 0, 1) := by decide +kernel
theorem d_M_blown_69 : decode b_M_blown 69 = .ok (.getfield 51, 3) := by decide +kernel
theorem d_M_blown_72 : decode b_M_blown 72 = .ok (.iload_n 1, 1) := by decide +kernel
theorem d_M_blown_73 : decode b_M_blown 73 = .ok (.iaload, 1) := by decide +kernel
theorem d_M_blown_74 : decode b_M_blown 74 = .ok (.i2l, 1) := by decide +kernel
theorem d_M_blown_75 : decode b_M_blown 75 = .ok (.lmul, 1) := by decide +kernel
theorem d_M_blown_76 : decode b_M_blown 76 = .ok (.goto 4, 3) := by decide +kernel
theorem d_M_blown_79 : decode b_M_blown 79 = .ok (.lload_n 2, 1) := by decide +kernel
theorem d_M_blown_80 : decode b_M_blown 80 = .ok (.lreturn, 1) := by decide +kernel
theorem d_M_gainOf_0 : decode b_M_gainOf 0 = .ok (.lconst 0, 1) := by decide +kernel
theorem d_M_gainOf_1 : decode b_M_gainOf 1 = .ok (.lstore_n 2, 1) := by decide +kernel
theorem d_M_gainOf_2 : decode b_M_gainOf 2 = .ok (.iconst 0, 1) := by decide +kernel
theorem d_M_gainOf_3 : decode b_M_gainOf 3 = .ok (.istore 4, 2) := by decide +kernel
theorem d_M_gainOf_5 : decode b_M_gainOf 5 = .ok (.iload 4, 2) := by decide +kernel
theorem d_M_gainOf_7 : decode b_M_gainOf 7 = .ok (.aload_n 0, 1) := by decide +kernel
theorem d_M_gainOf_8 : decode b_M_gainOf 8 = .ok (.getfield 110, 3) := by decide +kernel
theorem d_M_gainOf_11 : decode b_M_gainOf 11 = .ok (.if_icmp .ge 61, 3) := by decide +kernel
theorem d_M_gainOf_14 : decode b_M_gainOf 14 = .ok (.aload_n 0, 1) := by decide +kernel
theorem d_M_gainOf_15 : decode b_M_gainOf 15 = .ok (.getfield 26, 3) := by decide +kernel
theorem d_M_gainOf_18 : decode b_M_gainOf 18 = .ok (.iload 4, 2) := by decide +kernel
theorem d_M_gainOf_20 : decode b_M_gainOf 20 = .ok (.iaload, 1) := by decide +kernel
theorem d_M_gainOf_21 : decode b_M_gainOf 21 = .ok (.iload_n 1, 1) := by decide +kernel
theorem d_M_gainOf_22 : decode b_M_gainOf 22 = .ok (.if_icmp .eq 14, 3) := by decide +kernel
theorem d_M_gainOf_25 : decode b_M_gainOf 25 = .ok (.aload_n 0, 1) := by decide +kernel
theorem d_M_gainOf_26 : decode b_M_gainOf 26 = .ok (.getfield 29, 3) := by decide +kernel
theorem d_M_gainOf_29 : decode b_M_gainOf 29 = .ok (.iload 4, 2) := by decide +kernel
theorem d_M_gainOf_31 : decode b_M_gainOf 31 = .ok (.iaload, 1) := by decide +kernel
theorem d_M_gainOf_32 : decode b_M_gainOf 32 = .ok (.iload_n 1, 1) := by decide +kernel
theorem d_M_gainOf_33 : decode b_M_gainOf 33 = .ok (.if_icmp .ne 33, 3) := by decide +kernel
theorem d_M_gainOf_36 : decode b_M_gainOf 36 = .ok (.lload_n 2, 1) := by decide +kernel
theorem d_M_gainOf_37 : decode b_M_gainOf 37 = .ok (.aload_n 0, 1) := by decide +kernel
theorem d_M_gainOf_38 : decode b_M_gainOf 38 = .ok (.getfield 29, 3) := by decide +kernel
theorem d_M_gainOf_41 : decode b_M_gainOf 41 = .ok (.iload 4, 2) := by decide +kernel
theorem d_M_gainOf_43 : decode b_M_gainOf 43 = .ok (.iaload, 1) := by decide +kernel
theorem d_M_gainOf_44 : decode b_M_gainOf 44 = .ok (.iload_n 1, 1) := by decide +kernel
theorem d_M_gainOf_45 : decode b_M_gainOf 45 = .ok (.if_icmp .ne 12, 3) := by decide +kernel
theorem d_M_gainOf_48 : decode b_M_gainOf 48 = .ok (.aload_n 0, 1) := by decide +kernel
theorem d_M_gainOf_49 : decode b_M_gainOf 49 = .ok (.iload 4, 2) := by decide +kernel
theorem d_M_gainOf_51 : decode b_M_gainOf 51 = .ok (.invokevirtual 135, 3) := by decide +kernel
theorem d_M_gainOf_54 : decode b_M_gainOf 54 = .ok (.goto 10, 3) := by decide +kernel
theorem d_M_gainOf_57 : decode b_M_gainOf 57 = .ok (.aload_n 0, 1) := by decide +kernel
theorem d_M_gainOf_58 : decode b_M_gainOf 58 = .ok (.iload 4, 2) := by decide +kernel
theorem d_M_gainOf_60 : decode b_M_gainOf 60 = .ok (.invokevirtual 135, 3) := by decide +kernel
theorem d_M_gainOf_63 : decode b_M_gainOf 63 = .ok (.lneg, 1) := by decide +kernel
theorem d_M_gainOf_64 : decode b_M_gainOf 64 = .ok (.ladd, 1) := by decide +kernel
theorem d_M_gainOf_65 : decode b_M_gainOf 65 = .ok (.lstore_n 2, 1) := by decide +kernel
theorem d_M_gainOf_66 : decode b_M_gainOf 66 = .ok (.iinc 4 1, 3) := by decide +kernel
theorem d_M_gainOf_69 : decode b_M_gainOf 69 = .ok (.goto (-64), 3) := by decide +kernel
theorem d_M_gainOf_72 : decode b_M_gainOf 72 = .ok (.iconst 0, 1) := by decide +kernel
theorem d_M_gainOf_73 : decode b_M_gainOf 73 = .ok (.istore 4, 2) := by decide +kernel
theorem d_M_gainOf_75 : decode b_M_gainOf 75 = .ok (.iload 4, 2) := by decide +kernel
theorem d_M_gainOf_77 : decode b_M_gainOf 77 = .ok (.aload_n 0, 1) := by decide +kernel
theorem d_M_gainOf_78 : decode b_M_gainOf 78 = .ok (.getfield 115, 3) := by decide +kernel
theorem d_M_gainOf_81 : decode b_M_gainOf 81 = .ok (.if_icmp .ge 54, 3) := by decide +kernel
theorem d_M_gainOf_84 : decode b_M_gainOf 84 = .ok (.lload_n 2, 1) := by decide +kernel
theorem d_M_gainOf_85 : decode b_M_gainOf 85 = .ok (.aload_n 0, 1) := by decide +kernel
theorem d_M_gainOf_86 : decode b_M_gainOf 86 = .ok (.getfield 48, 3) := by decide +kernel
theorem d_M_gainOf_89 : decode b_M_gainOf 89 = .ok (.iload 4, 2) := by decide +kernel
theorem d_M_gainOf_91 : decode b_M_gainOf 91 = .ok (.iaload, 1) := by decide +kernel
theorem d_M_gainOf_92 : decode b_M_gainOf 92 = .ok (.iload_n 1, 1) := by decide +kernel
theorem d_M_gainOf_93 : decode b_M_gainOf 93 = .ok (.if_icmp .ne 12, 3) := by decide +kernel
theorem d_M_gainOf_96 : decode b_M_gainOf 96 = .ok (.aload_n 0, 1) := by decide +kernel
theorem d_M_gainOf_97 : decode b_M_gainOf 97 = .ok (.iload 4, 2) := by decide +kernel
theorem d_M_gainOf_99 : decode b_M_gainOf 99 = .ok (.invokevirtual 139, 3) := by decide +kernel
theorem d_M_gainOf_102 : decode b_M_gainOf 102 = .ok (.goto 25, 3) := by decide +kernel
theorem d_M_gainOf_105 : decode b_M_gainOf 105 = .ok (.aload_n 0, 1) := by decide +kernel
theorem d_M_gainOf_106 : decode b_M_gainOf 106 = .ok (.getfield 45, 3) := by decide +kernel
theorem d_M_gainOf_109 : decode b_M_gainOf 109 = .ok (.iload 4, 2) := by decide +kernel
theorem d_M_gainOf_111 : decode b_M_gainOf 111 = .ok (.iaload, 1) := by decide +kernel
theorem d_M_gainOf_112 : decode b_M_gainOf 112 = .ok (.iload_n 1, 1) := by decide +kernel
theorem d_M_gainOf_113 : decode b_M_gainOf 113 = .ok (.if_icmp .ne 13, 3) := by decide +kernel
theorem d_M_gainOf_116 : decode b_M_gainOf 116 = .ok (.aload_n 0, 1) := by decide +kernel
theorem d_M_gainOf_117 : decode b_M_gainOf 117 = .ok (.iload 4, 2) := by decide +kernel
theorem d_M_gainOf_119 : decode b_M_gainOf 119 = .ok (.invokevirtual 139, 3) := by decide +kernel
theorem d_M_gainOf_122 : decode b_M_gainOf 122 = .ok (.lneg, 1) := by decide +kernel
theorem d_M_gainOf_123 : decode b_M_gainOf 123 = .ok (.goto 4, 3) := by decide +kernel
theorem d_M_gainOf_126 : decode b_M_gainOf 126 = .ok (.lconst 0, 1) := by decide +kernel
theorem d_M_gainOf_127 : decode b_M_gainOf 127 = .ok (.ladd, 1) := by decide +kernel
theorem d_M_gainOf_128 : decode b_M_gainOf 128 = .ok (.lstore_n 2, 1) := by decide +kernel
theorem d_M_gainOf_129 : decode b_M_gainOf 129 = .ok (.iinc 4 1, 3) := by decide +kernel
theorem d_M_gainOf_132 : decode b_M_gainOf 132 = .ok (.goto (-57), 3) := by decide +kernel
theorem d_M_gainOf_135 : decode b_M_gainOf 135 = .ok (.lload_n 2, 1) := by decide +kernel
theorem d_M_gainOf_136 : decode b_M_gainOf 136 = .ok (.lreturn, 1) := by decide +kernel
theorem d_M_rise_0 : decode b_M_rise 0 = .ok (.aload_n 0, 1) := by decide +kernel
theorem d_M_rise_1 : decode b_M_rise 1 = .ok (.getfield 63, 3) := by decide +kernel
theorem d_M_rise_4 : decode b_M_rise 4 = .ok (.iload_n 1, 1) := by decide +kernel
theorem d_M_rise_5 : decode b_M_rise 5 = .ok (.iaload, 1) := by decide +kernel
theorem d_M_rise_6 : decode b_M_rise 6 = .ok (.istore_n 2, 1) := by decide +kernel
theorem d_M_rise_7 : decode b_M_rise 7 = .ok (.sipush 5000, 3) := by decide +kernel
theorem d_M_rise_10 : decode b_M_rise 10 = .ok (.istore_n 3, 1) := by decide +kernel
theorem d_M_rise_11 : decode b_M_rise 11 = .ok (.aload_n 0, 1) := by decide +kernel
theorem d_M_rise_12 : decode b_M_rise 12 = .ok (.getfield 63, 3) := by decide +kernel
theorem d_M_rise_15 : decode b_M_rise 15 = .ok (.iload_n 1, 1) := by decide +kernel
theorem d_M_rise_16 : decode b_M_rise 16 = .ok (.sipush 5000, 3) := by decide +kernel
theorem d_M_rise_19 : decode b_M_rise 19 = .ok (.iastore, 1) := by decide +kernel
theorem d_M_rise_20 : decode b_M_rise 20 = .ok (.aload_n 0, 1) := by decide +kernel
theorem d_M_rise_21 : decode b_M_rise 21 = .ok (.iload_n 1, 1) := by decide +kernel
theorem d_M_rise_22 : decode b_M_rise 22 = .ok (.invokevirtual 142, 3) := by decide +kernel
theorem d_M_rise_25 : decode b_M_rise 25 = .ok (.lconst 0, 1) := by decide +kernel
theorem d_M_rise_26 : decode b_M_rise 26 = .ok (.lcmp, 1) := by decide +kernel
theorem d_M_rise_27 : decode b_M_rise 27 = .ok (.ifCond .le 5, 3) := by decide +kernel
theorem d_M_rise_30 : decode b_M_rise 30 = .ok (.iconst 0, 1) := by decide +kernel
theorem d_M_rise_31 : decode b_M_rise 31 = .ok (.ireturn, 1) := by decide +kernel
theorem d_M_rise_32 : decode b_M_rise 32 = .ok (.iload_n 2, 1) := by decide +kernel
theorem d_M_rise_33 : decode b_M_rise 33 = .ok (.iload_n 3, 1) := by decide +kernel
theorem d_M_rise_34 : decode b_M_rise 34 = .ok (.if_icmp .ge 44, 3) := by decide +kernel
theorem d_M_rise_37 : decode b_M_rise 37 = .ok (.iload_n 2, 1) := by decide +kernel
theorem d_M_rise_38 : decode b_M_rise 38 = .ok (.iload_n 3, 1) := by decide +kernel
theorem d_M_rise_39 : decode b_M_rise 39 = .ok (.iload_n 2, 1) := by decide +kernel
theorem d_M_rise_40 : decode b_M_rise 40 = .ok (.isub, 1) := by decide +kernel
theorem d_M_rise_41 : decode b_M_rise 41 = .ok (.iconst 2, 1) := by decide +kernel
theorem d_M_rise_42 : decode b_M_rise 42 = .ok (.idiv, 1) := by decide +kernel
theorem d_M_rise_43 : decode b_M_rise 43 = .ok (.iadd, 1) := by decide +kernel
theorem d_M_rise_44 : decode b_M_rise 44 = .ok (.istore 4, 2) := by decide +kernel
theorem d_M_rise_46 : decode b_M_rise 46 = .ok (.aload_n 0, 1) := by decide +kernel
theorem d_M_rise_47 : decode b_M_rise 47 = .ok (.getfield 63, 3) := by decide +kernel
theorem d_M_rise_50 : decode b_M_rise 50 = .ok (.iload_n 1, 1) := by decide +kernel
theorem d_M_rise_51 : decode b_M_rise 51 = .ok (.iload 4, 2) := by decide +kernel
theorem d_M_rise_53 : decode b_M_rise 53 = .ok (.iastore, 1) := by decide +kernel
theorem d_M_rise_54 : decode b_M_rise 54 = .ok (.aload_n 0, 1) := by decide +kernel
theorem d_M_rise_55 : decode b_M_rise 55 = .ok (.iload_n 1, 1) := by decide +kernel
theorem d_M_rise_56 : decode b_M_rise 56 = .ok (.invokevirtual 142, 3) := by decide +kernel
theorem d_M_rise_59 : decode b_M_rise 59 = .ok (.lconst 0, 1) := by decide +kernel
theorem d_M_rise_60 : decode b_M_rise 60 = .ok (.lcmp, 1) := by decide +kernel
theorem d_M_rise_61 : decode b_M_rise 61 = .ok (.ifCond .le 11, 3) := by decide +kernel
theorem d_M_rise_64 : decode b_M_rise 64 = .ok (.iload 4, 2) := by decide +kernel
theorem d_M_rise_66 : decode b_M_rise 66 = .ok (.iconst 1, 1) := by decide +kernel
theorem d_M_rise_67 : decode b_M_rise 67 = .ok (.iadd, 1) := by decide +kernel
theorem d_M_rise_68 : decode b_M_rise 68 = .ok (.istore_n 2, 1) := by decide +kernel
theorem d_M_rise_69 : decode b_M_rise 69 = .ok (.goto 6, 3) := by decide +kernel
theorem d_M_rise_72 : decode b_M_rise 72 = .ok (.iload 4, 2) := by decide +kernel
theorem d_M_rise_74 : decode b_M_rise 74 = .ok (.istore_n 3, 1) := by decide +kernel
theorem d_M_rise_75 : decode b_M_rise 75 = .ok (.goto (-43), 3) := by decide +kernel
theorem d_M_rise_78 : decode b_M_rise 78 = .ok (.aload_n 0, 1) := by decide +kernel
theorem d_M_rise_79 : decode b_M_rise 79 = .ok (.getfield 63, 3) := by decide +kernel
theorem d_M_rise_82 : decode b_M_rise 82 = .ok (.iload_n 1, 1) := by decide +kernel
theorem d_M_rise_83 : decode b_M_rise 83 = .ok (.iload_n 2, 1) := by decide +kernel
theorem d_M_rise_84 : decode b_M_rise 84 = .ok (.iastore, 1) := by decide +kernel
theorem d_M_rise_85 : decode b_M_rise 85 = .ok (.iconst 1, 1) := by decide +kernel
theorem d_M_rise_86 : decode b_M_rise 86 = .ok (.ireturn, 1) := by decide +kernel
theorem d_M_make_0 : decode b_M_make 0 = .ok (.aload_n 0, 1) := by decide +kernel
theorem d_M_make_1 : decode b_M_make 1 = .ok (.iload_n 1, 1) := by decide +kernel
theorem d_M_make_2 : decode b_M_make 2 = .ok (.putfield 125, 3) := by decide +kernel
theorem d_M_make_5 : decode b_M_make 5 = .ok (.iconst 0, 1) := by decide +kernel
theorem d_M_make_6 : decode b_M_make 6 = .ok (.istore_n 2, 1) := by decide +kernel
theorem d_M_make_7 : decode b_M_make 7 = .ok (.iload_n 2, 1) := by decide +kernel
theorem d_M_make_8 : decode b_M_make 8 = .ok (.bipush 8, 2) := by decide +kernel
theorem d_M_make_10 : decode b_M_make 10 = .ok (.if_icmp .ge 18, 3) := by decide +kernel
theorem d_M_make_13 : decode b_M_make 13 = .ok (.aload_n 0, 1) := by decide +kernel
theorem d_M_make_14 : decode b_M_make 14 = .ok (.getfield 63, 3) := by decide +kernel
theorem d_M_make_17 : decode b_M_make 17 = .ok (.iload_n 2, 1) := by decide +kernel
theorem d_M_make_18 : decode b_M_make 18 = .ok (.sipush (-5000), 3) := by decide +kernel
theorem d_M_make_21 : decode b_M_make 21 = .ok (.iastore, 1) := by decide +kernel
theorem d_M_make_22 : decode b_M_make 22 = .ok (.iinc 2 1, 3) := by decide +kernel
theorem d_M_make_25 : decode b_M_make 25 = .ok (.goto (-18), 3) := by decide +kernel
theorem d_M_make_28 : decode b_M_make 28 = .ok (.iconst 1, 1) := by decide +kernel
theorem d_M_make_29 : decode b_M_make 29 = .ok (.istore_n 2, 1) := by decide +kernel
theorem d_M_make_30 : decode b_M_make 30 = .ok (.iload_n 2, 1) := by decide +kernel
theorem d_M_make_31 : decode b_M_make 31 = .ok (.ifCond .eq 46, 3) := by decide +kernel
theorem d_M_make_34 : decode b_M_make 34 = .ok (.iconst 0, 1) := by decide +kernel
theorem d_M_make_35 : decode b_M_make 35 = .ok (.istore_n 2, 1) := by decide +kernel
theorem d_M_make_36 : decode b_M_make 36 = .ok (.iconst 0, 1) := by decide +kernel
theorem d_M_make_37 : decode b_M_make 37 = .ok (.istore_n 3, 1) := by decide +kernel
theorem d_M_make_38 : decode b_M_make 38 = .ok (.iload_n 3, 1) := by decide +kernel
theorem d_M_make_39 : decode b_M_make 39 = .ok (.aload_n 0, 1) := by decide +kernel
theorem d_M_make_40 : decode b_M_make 40 = .ok (.getfield 76, 3) := by decide +kernel
theorem d_M_make_43 : decode b_M_make 43 = .ok (.if_icmp .ge 31, 3) := by decide +kernel
theorem d_M_make_46 : decode b_M_make 46 = .ok (.aload_n 0, 1) := by decide +kernel
theorem d_M_make_47 : decode b_M_make 47 = .ok (.iload_n 3, 1) := by decide +kernel
theorem d_M_make_48 : decode b_M_make 48 = .ok (.invokevirtual 142, 3) := by decide +kernel
theorem d_M_make_51 : decode b_M_make 51 = .ok (.lconst 0, 1) := by decide +kernel
theorem d_M_make_52 : decode b_M_make 52 = .ok (.lcmp, 1) := by decide +kernel
theorem d_M_make_53 : decode b_M_make 53 = .ok (.ifCond .le 15, 3) := by decide +kernel
theorem d_M_make_56 : decode b_M_make 56 = .ok (.iconst 1, 1) := by decide +kernel
theorem d_M_make_57 : decode b_M_make 57 = .ok (.istore_n 2, 1) := by decide +kernel
theorem d_M_make_58 : decode b_M_make 58 = .ok (.aload_n 0, 1) := by decide +kernel
theorem d_M_make_59 : decode b_M_make 59 = .ok (.iload_n 3, 1) := by decide +kernel
theorem d_M_make_60 : decode b_M_make 60 = .ok (.invokevirtual 145, 3) := by decide +kernel
theorem d_M_make_63 : decode b_M_make 63 = .ok (.ifCond .ne 5, 3) := by decide +kernel
theorem d_M_make_66 : decode b_M_make 66 = .ok (.iconst 0, 1) := by decide +kernel
theorem d_M_make_67 : decode b_M_make 67 = .ok (.ireturn, 1) := by decide +kernel
theorem d_M_make_68 : decode b_M_make 68 = .ok (.iinc 3 1, 3) := by decide +kernel
theorem d_M_make_71 : decode b_M_make 71 = .ok (.goto (-33), 3) := by decide +kernel
theorem d_M_make_74 : decode b_M_make 74 = .ok (.goto (-44), 3) := by decide +kernel
theorem d_M_make_77 : decode b_M_make 77 = .ok (.iconst 1, 1) := by decide +kernel
theorem d_M_make_78 : decode b_M_make 78 = .ok (.ireturn, 1) := by decide +kernel
theorem d_M_shutOnes_0 : decode b_M_shutOnes 0 = .ok (.iconst 0, 1) := by decide +kernel
theorem d_M_shutOnes_1 : decode b_M_shutOnes 1 = .ok (.istore_n 1, 1) := by decide +kernel
theorem d_M_shutOnes_2 : decode b_M_shutOnes 2 = .ok (.iconst 0, 1) := by decide +kernel
theorem d_M_shutOnes_3 : decode b_M_shutOnes 3 = .ok (.istore_n 2, 1) := by decide +kernel
theorem d_M_shutOnes_4 : decode b_M_shutOnes 4 = .ok (.iload_n 2, 1) := by decide +kernel
theorem d_M_shutOnes_5 : decode b_M_shutOnes 5 = .ok (.aload_n 0, 1) := by decide +kernel
theorem d_M_shutOnes_6 : decode b_M_shutOnes 6 = .ok (.getfield 110, 3) := by decide +kernel
theorem d_M_shutOnes_9 : decode b_M_shutOnes 9 = .ok (.if_icmp .ge 28, 3) := by decide +kernel
theorem d_M_shutOnes_12 : decode b_M_shutOnes 12 = .ok (.iload_n 1, 1) := by decide +kernel
theorem d_M_shutOnes_13 : decode b_M_shutOnes 13 = .ok (.aload_n 0, 1) := by decide +kernel
theorem d_M_shutOnes_14 : decode b_M_shutOnes 14 = .ok (.getfield 41, 3) := by decide +kernel
theorem d_M_shutOnes_17 : decode b_M_shutOnes 17 = .ok (.iload_n 2, 1) := by decide +kernel
theorem d_M_shutOnes_18 : decode b_M_shutOnes 18 = .ok (.baload, 1) := by decide +kernel
theorem d_M_shutOnes_19 : decode b_M_shutOnes 19 = .ok (.ifCond .eq 9, 3) := by decide +kernel
theorem d_M_shutOnes_22 : decode b_M_shutOnes 22 = .ok (.iconst 1, 1) := by decide +kernel
theorem d_M_shutOnes_23 : decode b_M_shutOnes 23 = .ok (.iload_n 2, 1) := by decide +kernel
theorem d_M_shutOnes_24 : decode b_M_shutOnes 24 = .ok (.ishl, 1) := by decide +kernel
theorem d_M_shutOnes_25 : decode b_M_shutOnes 25 = .ok (.goto 4, 3) := by decide +kernel
theorem d_M_shutOnes_28 : decode b_M_shutOnes 28 = .ok (.iconst 0, 1) := by decide +kernel
theorem d_M_shutOnes_29 : decode b_M_shutOnes 29 = .ok (.ior, 1) := by decide +kernel
theorem d_M_shutOnes_30 : decode b_M_shutOnes 30 = .ok (.istore_n 1, 1) := by decide +kernel
theorem d_M_shutOnes_31 : decode b_M_shutOnes 31 = .ok (.iinc 2 1, 3) := by decide +kernel
theorem d_M_shutOnes_34 : decode b_M_shutOnes 34 = .ok (.goto (-30), 3) := by decide +kernel
theorem d_M_shutOnes_37 : decode b_M_shutOnes 37 = .ok (.iload_n 1, 1) := by decide +kernel
theorem d_M_shutOnes_38 : decode b_M_shutOnes 38 = .ok (.ireturn, 1) := by decide +kernel
theorem d_M_makeNow_0 : decode b_M_makeNow 0 = .ok (.aload_n 0, 1) := by decide +kernel
theorem d_M_makeNow_1 : decode b_M_makeNow 1 = .ok (.aload_n 0, 1) := by decide +kernel
theorem d_M_makeNow_2 : decode b_M_makeNow 2 = .ok (.invokevirtual 148, 3) := by decide +kernel
theorem d_M_makeNow_5 : decode b_M_makeNow 5 = .ok (.invokevirtual 152, 3) := by decide +kernel
theorem d_M_makeNow_8 : decode b_M_makeNow 8 = .ok (.ireturn, 1) := by decide +kernel
theorem d_M_pressure_0 : decode b_M_pressure 0 = .ok (.aload_n 0, 1) := by decide +kernel
theorem d_M_pressure_1 : decode b_M_pressure 1 = .ok (.aload_n 0, 1) := by decide +kernel
theorem d_M_pressure_2 : decode b_M_pressure 2 = .ok (.iload_n 1, 1) := by decide +kernel
theorem d_M_pressure_3 : decode b_M_pressure 3 = .ok (.invokevirtual 93, 3) := by decide +kernel
theorem d_M_pressure_6 : decode b_M_pressure 6 = .ok (.ifCond .eq 7, 3) := by decide +kernel
theorem d_M_pressure_9 : decode b_M_pressure 9 = .ok (.iconst 0, 1) := by decide +kernel
theorem d_M_pressure_10 : decode b_M_pressure 10 = .ok (.goto 4, 3) := by decide +kernel
theorem d_M_pressure_13 : decode b_M_pressure 13 = .ok (.iconst 1, 1) := by decide +kernel
theorem d_M_pressure_14 : decode b_M_pressure 14 = .ok (.putfield 72, 3) := by decide +kernel
theorem d_M_pressure_17 : decode b_M_pressure 17 = .ok (.aload_n 0, 1) := by decide +kernel
theorem d_M_pressure_18 : decode b_M_pressure 18 = .ok (.getfield 72, 3) := by decide +kernel
theorem d_M_pressure_21 : decode b_M_pressure 21 = .ok (.ifCond .le 5, 3) := by decide +kernel
theorem d_M_pressure_24 : decode b_M_pressure 24 = .ok (.iconst 0, 1) := by decide +kernel
theorem d_M_pressure_25 : decode b_M_pressure 25 = .ok (.ireturn, 1) := by decide +kernel
theorem d_M_pressure_26 : decode b_M_pressure 26 = .ok (.iload_n 1, 1) := by decide +kernel
theorem d_M_pressure_27 : decode b_M_pressure 27 = .ok (.ifCond .ge 14, 3) := by decide +kernel
theorem d_M_pressure_30 : decode b_M_pressure 30 = .ok (.aload_n 0, 1) := by decide +kernel
theorem d_M_pressure_31 : decode b_M_pressure 31 = .ok (.getfield 7, 3) := by decide +kernel
theorem d_M_pressure_34 : decode b_M_pressure 34 = .ok (.iload_n 1, 1) := by decide +kernel
theorem d_M_pressure_35 : decode b_M_pressure 35 = .ok (.iconst 4, 1) := by decide +kernel
theorem d_M_pressure_36 : decode b_M_pressure 36 = .ok (.iadd, 1) := by decide +kernel
theorem d_M_pressure_37 : decode b_M_pressure 37 = .ok (.iaload, 1) := by decide +kernel
theorem d_M_pressure_38 : decode b_M_pressure 38 = .ok (.goto 21, 3) := by decide +kernel
theorem d_M_pressure_41 : decode b_M_pressure 41 = .ok (.aload_n 0, 1) := by decide +kernel
theorem d_M_pressure_42 : decode b_M_pressure 42 = .ok (.invokevirtual 155, 3) := by decide +kernel
theorem d_M_pressure_45 : decode b_M_pressure 45 = .ok (.ifCond .eq 12, 3) := by decide +kernel
theorem d_M_pressure_48 : decode b_M_pressure 48 = .ok (.aload_n 0, 1) := by decide +kernel
theorem d_M_pressure_49 : decode b_M_pressure 49 = .ok (.getfield 63, 3) := by decide +kernel
theorem d_M_pressure_52 : decode b_M_pressure 52 = .ok (.iload_n 1, 1) := by decide +kernel
theorem d_M_pressure_53 : decode b_M_pressure 53 = .ok (.iaload, 1) := by decide +kernel
theorem d_M_pressure_54 : decode b_M_pressure 54 = .ok (.goto 5, 3) := by decide +kernel
theorem d_M_pressure_57 : decode b_M_pressure 57 = .ok (.ldc 159, 2) := by decide +kernel
theorem d_M_pressure_59 : decode b_M_pressure 59 = .ok (.ireturn, 1) := by decide +kernel
theorem d_M_told_0 : decode b_M_told 0 = .ok (.aload_n 0, 1) := by decide +kernel
theorem d_M_told_1 : decode b_M_told 1 = .ok (.iload_n 1, 1) := by decide +kernel
theorem d_M_told_2 : decode b_M_told 2 = .ok (.i2l, 1) := by decide +kernel
theorem d_M_told_3 : decode b_M_told 3 = .ok (.lconst 0, 1) := by decide +kernel
theorem d_M_told_4 : decode b_M_told 4 = .ok (.aload_n 0, 1) := by decide +kernel
theorem d_M_told_5 : decode b_M_told 5 = .ok (.getfield 110, 3) := by decide +kernel
theorem d_M_told_8 : decode b_M_told 8 = .ok (.iconst 1, 1) := by decide +kernel
theorem d_M_told_9 : decode b_M_told 9 = .ok (.isub, 1) := by decide +kernel
theorem d_M_told_10 : decode b_M_told 10 = .ok (.i2l, 1) := by decide +kernel
