theorem d_U_init_0 : decode b_U_init 0 = .ok (.aload_n 0, 1) := by decide +kernel
theorem d_U_init_1 : decode b_U_init 1 = .ok (.invokespecial 3, 3) := by decide +kernel
theorem d_U_init_4 : decode b_U_init 4 = .ok (.aload_n 0, 1) := by decide +kernel
theorem d_U_init_5 : decode b_U_init 5 = .ok (.bipush 12, 2) := by decide +kernel
theorem d_U_init_7 : decode b_U_init 7 = .ok (.newarray .long, 2) := by decide +kernel
theorem d_U_init_9 : decode b_U_init 9 = .ok (.putfield 9, 3) := by decide +kernel
theorem d_U_init_12 : decode b_U_init 12 = .ok (.aload_n 0, 1) := by decide +kernel
theorem d_U_init_13 : decode b_U_init 13 = .ok (.bipush 12, 2) := by decide +kernel
theorem d_U_init_15 : decode b_U_init 15 = .ok (.newarray .int, 2) := by decide +kernel
theorem d_U_init_17 : decode b_U_init 17 = .ok (.putfield 15, 3) := by decide +kernel
theorem d_U_init_20 : decode b_U_init 20 = .ok (.aload_n 0, 1) := by decide +kernel
theorem d_U_init_21 : decode b_U_init 21 = .ok (.bipush 24, 2) := by decide +kernel
theorem d_U_init_23 : decode b_U_init 23 = .ok (.newarray .int, 2) := by decide +kernel
theorem d_U_init_25 : decode b_U_init 25 = .ok (.putfield 19, 3) := by decide +kernel
theorem d_U_init_28 : decode b_U_init 28 = .ok (.aload_n 0, 1) := by decide +kernel
theorem d_U_init_29 : decode b_U_init 29 = .ok (.bipush 12, 2) := by decide +kernel
theorem d_U_init_31 : decode b_U_init 31 = .ok (.newarray .long, 2) := by decide +kernel
theorem d_U_init_33 : decode b_U_init 33 = .ok (.putfield 22, 3) := by decide +kernel
theorem d_U_init_36 : decode b_U_init 36 = .ok (.aload_n 0, 1) := by decide +kernel
theorem d_U_init_37 : decode b_U_init 37 = .ok (.bipush 12, 2) := by decide +kernel
theorem d_U_init_39 : decode b_U_init 39 = .ok (.newarray .long, 2) := by decide +kernel
theorem d_U_init_41 : decode b_U_init 41 = .ok (.putfield 25, 3) := by decide +kernel
theorem d_U_init_44 : decode b_U_init 44 = .ok (.aload_n 0, 1) := by decide +kernel
theorem d_U_init_45 : decode b_U_init 45 = .ok (.aload_n 1, 1) := by decide +kernel
theorem d_U_init_46 : decode b_U_init 46 = .ok (.putfield 28, 3) := by decide +kernel
theorem d_U_init_49 : decode b_U_init 49 = .ok (.return_, 1) := by decide +kernel
theorem d_U_follow_0 : decode b_U_follow 0 = .ok (.aload_n 0, 1) := by decide +kernel
theorem d_U_follow_1 : decode b_U_follow 1 = .ok (.getfield 22, 3) := by decide +kernel
theorem d_U_follow_4 : decode b_U_follow 4 = .ok (.lconst 0, 1) := by decide +kernel
theorem d_U_follow_5 : decode b_U_follow 5 = .ok (.invokestatic 32, 3) := by decide +kernel
theorem d_U_follow_8 : decode b_U_follow 8 = .ok (.iconst 0, 1) := by decide +kernel
theorem d_U_follow_9 : decode b_U_follow 9 = .ok (.istore_n 2, 1) := by decide +kernel
theorem d_U_follow_10 : decode b_U_follow 10 = .ok (.iload_n 2, 1) := by decide +kernel
theorem d_U_follow_11 : decode b_U_follow 11 = .ok (.bipush 24, 2) := by decide +kernel
theorem d_U_follow_13 : decode b_U_follow 13 = .ok (.if_icmp .ge 62, 3) := by decide +kernel
theorem d_U_follow_16 : decode b_U_follow 16 = .ok (.aload_n 0, 1) := by decide +kernel
theorem d_U_follow_17 : decode b_U_follow 17 = .ok (.getfield 19, 3) := by decide +kernel
theorem d_U_follow_20 : decode b_U_follow 20 = .ok (.iload_n 2, 1) := by decide +kernel
theorem d_U_follow_21 : decode b_U_follow 21 = .ok (.aload_n 0, 1) := by decide +kernel
theorem d_U_follow_22 : decode b_U_follow 22 = .ok (.getfield 28, 3) := by decide +kernel
theorem d_U_follow_25 : decode b_U_follow 25 = .ok (.iload_n 2, 1) := by decide +kernel
theorem d_U_follow_26 : decode b_U_follow 26 = .ok (.invokevirtual 38, 3) := by decide +kernel
theorem d_U_follow_29 : decode b_U_follow 29 = .ok (.ifCond .eq 15, 3) := by decide +kernel
theorem d_U_follow_32 : decode b_U_follow 32 = .ok (.aload_n 0, 1) := by decide +kernel
theorem d_U_follow_33 : decode b_U_follow 33 = .ok (.getfield 28, 3) := by decide +kernel
theorem d_U_follow_36 : decode b_U_follow 36 = .ok (.iload_n 2, 1) := by decide +kernel
theorem d_U_follow_37 : decode b_U_follow 37 = .ok (.aload_n 1, 1) := by decide +kernel
theorem d_U_follow_38 : decode b_U_follow 38 = .ok (.invokevirtual 44, 3) := by decide +kernel
theorem d_U_follow_41 : decode b_U_follow 41 = .ok (.goto 4, 3) := by decide +kernel
theorem d_U_follow_44 : decode b_U_follow 44 = .ok (.iconst 0, 1) := by decide +kernel
theorem d_U_follow_45 : decode b_U_follow 45 = .ok (.iastore, 1) := by decide +kernel
theorem d_U_follow_46 : decode b_U_follow 46 = .ok (.aload_n 0, 1) := by decide +kernel
theorem d_U_follow_47 : decode b_U_follow 47 = .ok (.getfield 22, 3) := by decide +kernel
theorem d_U_follow_50 : decode b_U_follow 50 = .ok (.aload_n 0, 1) := by decide +kernel
theorem d_U_follow_51 : decode b_U_follow 51 = .ok (.iload_n 2, 1) := by decide +kernel
theorem d_U_follow_52 : decode b_U_follow 52 = .ok (.invokevirtual 48, 3) := by decide +kernel
theorem d_U_follow_55 : decode b_U_follow 55 = .ok (.dup2, 1) := by decide +kernel
theorem d_U_follow_56 : decode b_U_follow 56 = .ok (.laload, 1) := by decide +kernel
theorem d_U_follow_57 : decode b_U_follow 57 = .ok (.aload_n 0, 1) := by decide +kernel
theorem d_U_follow_58 : decode b_U_follow 58 = .ok (.getfield 19, 3) := by decide +kernel
theorem d_U_follow_61 : decode b_U_follow 61 = .ok (.iload_n 2, 1) := by decide +kernel
theorem d_U_follow_62 : decode b_U_follow 62 = .ok (.iaload, 1) := by decide +kernel
theorem d_U_follow_63 : decode b_U_follow 63 = .ok (.invokestatic 52, 3) := by decide +kernel
theorem d_U_follow_66 : decode b_U_follow 66 = .ok (.i2l, 1) := by decide +kernel
theorem d_U_follow_67 : decode b_U_follow 67 = .ok (.ladd, 1) := by decide +kernel
theorem d_U_follow_68 : decode b_U_follow 68 = .ok (.lastore, 1) := by decide +kernel
theorem d_U_follow_69 : decode b_U_follow 69 = .ok (.iinc 2 1, 3) := by decide +kernel
theorem d_U_follow_72 : decode b_U_follow 72 = .ok (.goto (-62), 3) := by decide +kernel
theorem d_U_follow_75 : decode b_U_follow 75 = .ok (.iconst 0, 1) := by decide +kernel
theorem d_U_follow_76 : decode b_U_follow 76 = .ok (.istore_n 2, 1) := by decide +kernel
theorem d_U_follow_77 : decode b_U_follow 77 = .ok (.iload_n 2, 1) := by decide +kernel
theorem d_U_follow_78 : decode b_U_follow 78 = .ok (.aload_n 0, 1) := by decide +kernel
theorem d_U_follow_79 : decode b_U_follow 79 = .ok (.getfield 28, 3) := by decide +kernel
theorem d_U_follow_82 : decode b_U_follow 82 = .ok (.getfield 57, 3) := by decide +kernel
theorem d_U_follow_85 : decode b_U_follow 85 = .ok (.if_icmp .ge 40, 3) := by decide +kernel
theorem d_U_follow_88 : decode b_U_follow 88 = .ok (.aload_n 0, 1) := by decide +kernel
theorem d_U_follow_89 : decode b_U_follow 89 = .ok (.getfield 22, 3) := by decide +kernel
theorem d_U_follow_92 : decode b_U_follow 92 = .ok (.iload_n 2, 1) := by decide +kernel
theorem d_U_follow_93 : decode b_U_follow 93 = .ok (.invokestatic 61, 3) := by decide +kernel
theorem d_U_follow_96 : decode b_U_follow 96 = .ok (.aload_n 0, 1) := by decide +kernel
theorem d_U_follow_97 : decode b_U_follow 97 = .ok (.getfield 22, 3) := by decide +kernel
theorem d_U_follow_100 : decode b_U_follow 100 = .ok (.iload_n 2, 1) := by decide +kernel
theorem d_U_follow_101 : decode b_U_follow 101 = .ok (.invokestatic 61, 3) := by decide +kernel
theorem d_U_follow_104 : decode b_U_follow 104 = .ok (.laload, 1) := by decide +kernel
theorem d_U_follow_105 : decode b_U_follow 105 = .ok (.aload_n 0, 1) := by decide +kernel
theorem d_U_follow_106 : decode b_U_follow 106 = .ok (.getfield 28, 3) := by decide +kernel
theorem d_U_follow_109 : decode b_U_follow 109 = .ok (.getfield 64, 3) := by decide +kernel
theorem d_U_follow_112 : decode b_U_follow 112 = .ok (.iload_n 2, 1) := by decide +kernel
theorem d_U_follow_113 : decode b_U_follow 113 = .ok (.iaload, 1) := by decide +kernel
theorem d_U_follow_114 : decode b_U_follow 114 = .ok (.i2l, 1) := by decide +kernel
theorem d_U_follow_115 : decode b_U_follow 115 = .ok (.invokestatic 67, 3) := by decide +kernel
theorem d_U_follow_118 : decode b_U_follow 118 = .ok (.lastore, 1) := by decide +kernel
theorem d_U_follow_119 : decode b_U_follow 119 = .ok (.iinc 2 1, 3) := by decide +kernel
theorem d_U_follow_122 : decode b_U_follow 122 = .ok (.goto (-45), 3) := by decide +kernel
theorem d_U_follow_125 : decode b_U_follow 125 = .ok (.return_, 1) := by decide +kernel
theorem d_U_giverOf_0 : decode b_U_giverOf 0 = .ok (.aload_n 0, 1) := by decide +kernel
theorem d_U_giverOf_1 : decode b_U_giverOf 1 = .ok (.getfield 19, 3) := by decide +kernel
theorem d_U_giverOf_4 : decode b_U_giverOf 4 = .ok (.iload_n 1, 1) := by decide +kernel
theorem d_U_giverOf_5 : decode b_U_giverOf 5 = .ok (.iaload, 1) := by decide +kernel
theorem d_U_giverOf_6 : decode b_U_giverOf 6 = .ok (.ifCond .ge 15, 3) := by decide +kernel
theorem d_U_giverOf_9 : decode b_U_giverOf 9 = .ok (.aload_n 0, 1) := by decide +kernel
theorem d_U_giverOf_10 : decode b_U_giverOf 10 = .ok (.getfield 28, 3) := by decide +kernel
theorem d_U_giverOf_13 : decode b_U_giverOf 13 = .ok (.getfield 71, 3) := by decide +kernel
theorem d_U_giverOf_16 : decode b_U_giverOf 16 = .ok (.iload_n 1, 1) := by decide +kernel
theorem d_U_giverOf_17 : decode b_U_giverOf 17 = .ok (.iaload, 1) := by decide +kernel
theorem d_U_giverOf_18 : decode b_U_giverOf 18 = .ok (.goto 12, 3) := by decide +kernel
theorem d_U_giverOf_21 : decode b_U_giverOf 21 = .ok (.aload_n 0, 1) := by decide +kernel
theorem d_U_giverOf_22 : decode b_U_giverOf 22 = .ok (.getfield 28, 3) := by decide +kernel
theorem d_U_giverOf_25 : decode b_U_giverOf 25 = .ok (.getfield 74, 3) := by decide +kernel
theorem d_U_giverOf_28 : decode b_U_giverOf 28 = .ok (.iload_n 1, 1) := by decide +kernel
theorem d_U_giverOf_29 : decode b_U_giverOf 29 = .ok (.iaload, 1) := by decide +kernel
theorem d_U_giverOf_30 : decode b_U_giverOf 30 = .ok (.ireturn, 1) := by decide +kernel
theorem d_U_takerOf_0 : decode b_U_takerOf 0 = .ok (.aload_n 0, 1) := by decide +kernel
theorem d_U_takerOf_1 : decode b_U_takerOf 1 = .ok (.getfield 19, 3) := by decide +kernel
theorem d_U_takerOf_4 : decode b_U_takerOf 4 = .ok (.iload_n 1, 1) := by decide +kernel
theorem d_U_takerOf_5 : decode b_U_takerOf 5 = .ok (.iaload, 1) := by decide +kernel
theorem d_U_takerOf_6 : decode b_U_takerOf 6 = .ok (.ifCond .ge 15, 3) := by decide +kernel
theorem d_U_takerOf_9 : decode b_U_takerOf 9 = .ok (.aload_n 0, 1) := by decide +kernel
theorem d_U_takerOf_10 : decode b_U_takerOf 10 = .ok (.getfield 28, 3) := by decide +kernel
theorem d_U_takerOf_13 : decode b_U_takerOf 13 = .ok (.getfield 74, 3) := by decide +kernel
theorem d_U_takerOf_16 : decode b_U_takerOf 16 = .ok (.iload_n 1, 1) := by decide +kernel
theorem d_U_takerOf_17 : decode b_U_takerOf 17 = .ok (.iaload, 1) := by decide +kernel
theorem d_U_takerOf_18 : decode b_U_takerOf 18 = .ok (.goto 12, 3) := by decide +kernel
theorem d_U_takerOf_21 : decode b_U_takerOf 21 = .ok (.aload_n 0, 1) := by decide +kernel
theorem d_U_takerOf_22 : decode b_U_takerOf 22 = .ok (.getfield 28, 3) := by decide +kernel
theorem d_U_takerOf_25 : decode b_U_takerOf 25 = .ok (.getfield 71, 3) := by decide +kernel
theorem d_U_takerOf_28 : decode b_U_takerOf 28 = .ok (.iload_n 1, 1) := by decide +kernel
theorem d_U_takerOf_29 : decode b_U_takerOf 29 = .ok (.iaload, 1) := by decide +kernel
theorem d_U_takerOf_30 : decode b_U_takerOf 30 = .ok (.ireturn, 1) := by decide +kernel
theorem d_U_doesStep_0 : decode b_U_doesStep 0 = .ok (.aload_n 0, 1) := by decide +kernel
theorem d_U_doesStep_1 : decode b_U_doesStep 1 = .ok (.getfield 9, 3) := by decide +kernel
theorem d_U_doesStep_4 : decode b_U_doesStep 4 = .ok (.iconst 0, 1) := by decide +kernel
theorem d_U_doesStep_5 : decode b_U_doesStep 5 = .ok (.aload_n 0, 1) := by decide +kernel
theorem d_U_doesStep_6 : decode b_U_doesStep 6 = .ok (.getfield 25, 3) := by decide +kernel
theorem d_U_doesStep_9 : decode b_U_doesStep 9 = .ok (.iconst 0, 1) := by decide +kernel
theorem d_U_doesStep_10 : decode b_U_doesStep 10 = .ok (.bipush 12, 2) := by decide +kernel
theorem d_U_doesStep_12 : decode b_U_doesStep 12 = .ok (.invokestatic 77, 3) := by decide +kernel
theorem d_U_doesStep_15 : decode b_U_doesStep 15 = .ok (.iconst 0, 1) := by decide +kernel
theorem d_U_doesStep_16 : decode b_U_doesStep 16 = .ok (.istore_n 1, 1) := by decide +kernel
theorem d_U_doesStep_17 : decode b_U_doesStep 17 = .ok (.iload_n 1, 1) := by decide +kernel
theorem d_U_doesStep_18 : decode b_U_doesStep 18 = .ok (.bipush 24, 2) := by decide +kernel
theorem d_U_doesStep_20 : decode b_U_doesStep 20 = .ok (.if_icmp .ge 14, 3) := by decide +kernel
theorem d_U_doesStep_23 : decode b_U_doesStep 23 = .ok (.aload_n 0, 1) := by decide +kernel
theorem d_U_doesStep_24 : decode b_U_doesStep 24 = .ok (.iload_n 1, 1) := by decide +kernel
theorem d_U_doesStep_25 : decode b_U_doesStep 25 = .ok (.invokevirtual 83, 3) := by decide +kernel
theorem d_U_doesStep_28 : decode b_U_doesStep 28 = .ok (.iinc 1 1, 3) := by decide +kernel
theorem d_U_doesStep_31 : decode b_U_doesStep 31 = .ok (.goto (-14), 3) := by decide +kernel
theorem d_U_doesStep_34 : decode b_U_doesStep 34 = .ok (.iconst 4, 1) := by decide +kernel
theorem d_U_doesStep_35 : decode b_U_doesStep 35 = .ok (.istore_n 1, 1) := by decide +kernel
theorem d_U_doesStep_36 : decode b_U_doesStep 36 = .ok (.iload_n 1, 1) := by decide +kernel
theorem d_U_doesStep_37 : decode b_U_doesStep 37 = .ok (.bipush 12, 2) := by decide +kernel
theorem d_U_doesStep_39 : decode b_U_doesStep 39 = .ok (.if_icmp .ge 40, 3) := by decide +kernel
theorem d_U_doesStep_42 : decode b_U_doesStep 42 = .ok (.aload_n 0, 1) := by decide +kernel
theorem d_U_doesStep_43 : decode b_U_doesStep 43 = .ok (.getfield 25, 3) := by decide +kernel
theorem d_U_doesStep_46 : decode b_U_doesStep 46 = .ok (.iload_n 1, 1) := by decide +kernel
theorem d_U_doesStep_47 : decode b_U_doesStep 47 = .ok (.dup2, 1) := by decide +kernel
theorem d_U_doesStep_48 : decode b_U_doesStep 48 = .ok (.laload, 1) := by decide +kernel
theorem d_U_doesStep_49 : decode b_U_doesStep 49 = .ok (.aload_n 0, 1) := by decide +kernel
theorem d_U_doesStep_50 : decode b_U_doesStep 50 = .ok (.getfield 15, 3) := by decide +kernel
theorem d_U_doesStep_53 : decode b_U_doesStep 53 = .ok (.iload_n 1, 1) := by decide +kernel
theorem d_U_doesStep_54 : decode b_U_doesStep 54 = .ok (.iaload, 1) := by decide +kernel
theorem d_U_doesStep_55 : decode b_U_doesStep 55 = .ok (.i2l, 1) := by decide +kernel
theorem d_U_doesStep_56 : decode b_U_doesStep 56 = .ok (.ladd, 1) := by decide +kernel
theorem d_U_doesStep_57 : decode b_U_doesStep 57 = .ok (.lastore, 1) := by decide +kernel
theorem d_U_doesStep_58 : decode b_U_doesStep 58 = .ok (.aload_n 0, 1) := by decide +kernel
theorem d_U_doesStep_59 : decode b_U_doesStep 59 = .ok (.getfield 25, 3) := by decide +kernel
theorem d_U_doesStep_62 : decode b_U_doesStep 62 = .ok (.iload_n 1, 1) := by decide +kernel
theorem d_U_doesStep_63 : decode b_U_doesStep 63 = .ok (.laload, 1) := by decide +kernel
theorem d_U_doesStep_64 : decode b_U_doesStep 64 = .ok (.ldc2_w 87, 3) := by decide +kernel
theorem d_U_doesStep_67 : decode b_U_doesStep 67 = .ok (.lcmp, 1) := by decide +kernel
theorem d_U_doesStep_68 : decode b_U_doesStep 68 = .ok (.ifCond .le 5, 3) := by decide +kernel
theorem d_U_doesStep_71 : decode b_U_doesStep 71 = .ok (.iconst 0, 1) := by decide +kernel
theorem d_U_doesStep_72 : decode b_U_doesStep 72 = .ok (.ireturn, 1) := by decide +kernel
theorem d_U_doesStep_73 : decode b_U_doesStep 73 = .ok (.iinc 1 1, 3) := by decide +kernel
theorem d_U_doesStep_76 : decode b_U_doesStep 76 = .ok (.goto (-40), 3) := by decide +kernel
theorem d_U_doesStep_79 : decode b_U_doesStep 79 = .ok (.aload_n 0, 1) := by decide +kernel
theorem d_U_doesStep_80 : decode b_U_doesStep 80 = .ok (.getfield 25, 3) := by decide +kernel
theorem d_U_doesStep_83 : decode b_U_doesStep 83 = .ok (.iconst 0, 1) := by decide +kernel
theorem d_U_doesStep_84 : decode b_U_doesStep 84 = .ok (.aload_n 0, 1) := by decide +kernel
theorem d_U_doesStep_85 : decode b_U_doesStep 85 = .ok (.getfield 9, 3) := by decide +kernel
theorem d_U_doesStep_88 : decode b_U_doesStep 88 = .ok (.iconst 0, 1) := by decide +kernel
theorem d_U_doesStep_89 : decode b_U_doesStep 89 = .ok (.bipush 12, 2) := by decide +kernel
theorem d_U_doesStep_91 : decode b_U_doesStep 91 = .ok (.invokestatic 77, 3) := by decide +kernel
theorem d_U_doesStep_94 : decode b_U_doesStep 94 = .ok (.iconst 1, 1) := by decide +kernel
theorem d_U_doesStep_95 : decode b_U_doesStep 95 = .ok (.ireturn, 1) := by decide +kernel
theorem d_U_carry_0 : decode b_U_carry 0 = .ok (.aload_n 0, 1) := by decide +kernel
theorem d_U_carry_1 : decode b_U_carry 1 = .ok (.iload_n 1, 1) := by decide +kernel
theorem d_U_carry_2 : decode b_U_carry 2 = .ok (.invokevirtual 48, 3) := by decide +kernel
theorem d_U_carry_5 : decode b_U_carry 5 = .ok (.istore_n 2, 1) := by decide +kernel
theorem d_U_carry_6 : decode b_U_carry 6 = .ok (.aload_n 0, 1) := by decide +kernel
theorem d_U_carry_7 : decode b_U_carry 7 = .ok (.getfield 19, 3) := by decide +kernel
theorem d_U_carry_10 : decode b_U_carry 10 = .ok (.iload_n 1, 1) := by decide +kernel
theorem d_U_carry_11 : decode b_U_carry 11 = .ok (.iaload, 1) := by decide +kernel
theorem d_U_carry_12 : decode b_U_carry 12 = .ok (.ifCond .eq 19, 3) := by decide +kernel
theorem d_U_carry_15 : decode b_U_carry 15 = .ok (.iload_n 2, 1) := by decide +kernel
theorem d_U_carry_16 : decode b_U_carry 16 = .ok (.iconst 4, 1) := by decide +kernel
theorem d_U_carry_17 : decode b_U_carry 17 = .ok (.if_icmp .lt 14, 3) := by decide +kernel
theorem d_U_carry_20 : decode b_U_carry 20 = .ok (.aload_n 0, 1) := by decide +kernel
theorem d_U_carry_21 : decode b_U_carry 21 = .ok (.getfield 22, 3) := by decide +kernel
theorem d_U_carry_24 : decode b_U_carry 24 = .ok (.iload_n 2, 1) := by decide +kernel
theorem d_U_carry_25 : decode b_U_carry 25 = .ok (.laload, 1) := by decide +kernel
theorem d_U_carry_26 : decode b_U_carry 26 = .ok (.lconst 0, 1) := by decide +kernel
theorem d_U_carry_27 : decode b_U_carry 27 = .ok (.lcmp, 1) := by decide +kernel
theorem d_U_carry_28 : decode b_U_carry 28 = .ok (.ifCond .gt 4, 3) := by decide +kernel
theorem d_U_carry_31 : decode b_U_carry 31 = .ok (.return_, 1) := by decide +kernel
theorem d_U_carry_32 : decode b_U_carry 32 = .ok (.aload_n 0, 1) := by decide +kernel
theorem d_U_carry_33 : decode b_U_carry 33 = .ok (.getfield 9, 3) := by decide +kernel
theorem d_U_carry_36 : decode b_U_carry 36 = .ok (.iload_n 2, 1) := by decide +kernel
theorem d_U_carry_37 : decode b_U_carry 37 = .ok (.laload, 1) := by decide +kernel
theorem d_U_carry_38 : decode b_U_carry 38 = .ok (.aload_n 0, 1) := by decide +kernel
theorem d_U_carry_39 : decode b_U_carry 39 = .ok (.getfield 19, 3) := by decide +kernel
theorem d_U_carry_42 : decode b_U_carry 42 = .ok (.iload_n 1, 1) := by decide +kernel
theorem d_U_carry_43 : decode b_U_carry 43 = .ok (.iaload, 1) := by decide +kernel
theorem d_U_carry_44 : decode b_U_carry 44 = .ok (.invokestatic 52, 3) := by decide +kernel
theorem d_U_carry_47 : decode b_U_carry 47 = .ok (.i2l, 1) := by decide +kernel
theorem d_U_carry_48 : decode b_U_carry 48 = .ok (.lmul, 1) := by decide +kernel
theorem d_U_carry_49 : decode b_U_carry 49 = .ok (.aload_n 0, 1) := by decide +kernel
theorem d_U_carry_50 : decode b_U_carry 50 = .ok (.getfield 22, 3) := by decide +kernel
theorem d_U_carry_53 : decode b_U_carry 53 = .ok (.iload_n 2, 1) := by decide +kernel
theorem d_U_carry_54 : decode b_U_carry 54 = .ok (.laload, 1) := by decide +kernel
theorem d_U_carry_55 : decode b_U_carry 55 = .ok (.ldiv, 1) := by decide +kernel
theorem d_U_carry_56 : decode b_U_carry 56 = .ok (.lstore_n 3, 1) := by decide +kernel
theorem d_U_carry_57 : decode b_U_carry 57 = .ok (.aload_n 0, 1) := by decide +kernel
theorem d_U_carry_58 : decode b_U_carry 58 = .ok (.getfield 25, 3) := by decide +kernel
theorem d_U_carry_61 : decode b_U_carry 61 = .ok (.iload_n 2, 1) := by decide +kernel
theorem d_U_carry_62 : decode b_U_carry 62 = .ok (.dup2, 1) := by decide +kernel
theorem d_U_carry_63 : decode b_U_carry 63 = .ok (.laload, 1) := by decide +kernel
theorem d_U_carry_64 : decode b_U_carry 64 = .ok (.lload_n 3, 1) := by decide +kernel
theorem d_U_carry_65 : decode b_U_carry 65 = .ok (.lsub, 1) := by decide +kernel
theorem d_U_carry_66 : decode b_U_carry 66 = .ok (.lastore, 1) := by decide +kernel
theorem d_U_carry_67 : decode b_U_carry 67 = .ok (.aload_n 0, 1) := by decide +kernel
theorem d_U_carry_68 : decode b_U_carry 68 = .ok (.getfield 25, 3) := by decide +kernel
theorem d_U_carry_71 : decode b_U_carry 71 = .ok (.aload_n 0, 1) := by decide +kernel
theorem d_U_carry_72 : decode b_U_carry 72 = .ok (.iload_n 1, 1) := by decide +kernel
theorem d_U_carry_73 : decode b_U_carry 73 = .ok (.invokevirtual 89, 3) := by decide +kernel
theorem d_U_carry_76 : decode b_U_carry 76 = .ok (.dup2, 1) := by decide +kernel
theorem d_U_carry_77 : decode b_U_carry 77 = .ok (.laload, 1) := by decide +kernel
theorem d_U_carry_78 : decode b_U_carry 78 = .ok (.lload_n 3, 1) := by decide +kernel
theorem d_U_carry_79 : decode b_U_carry 79 = .ok (.ladd, 1) := by decide +kernel
theorem d_U_carry_80 : decode b_U_carry 80 = .ok (.lastore, 1) := by decide +kernel
theorem d_U_carry_81 : decode b_U_carry 81 = .ok (.return_, 1) := by decide +kernel
