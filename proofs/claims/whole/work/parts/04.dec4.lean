theorem dX10_sumOf_9 : decode cX10_sumOf 9 = .ok (.if_icmp .ge 27, 3) := by decide +kernel
theorem dX10_sumOf_12 : decode cX10_sumOf 12 = .ok (.lload_n 2, 1) := by decide +kernel
theorem dX10_sumOf_13 : decode cX10_sumOf 13 = .ok (.iload 4, 2) := by decide +kernel
theorem dX10_sumOf_15 : decode cX10_sumOf 15 = .ok (.aload_n 0, 1) := by decide +kernel
theorem dX10_sumOf_16 : decode cX10_sumOf 16 = .ok (.getfield 7, 3) := by decide +kernel
theorem dX10_sumOf_19 : decode cX10_sumOf 19 = .ok (.iload_n 1, 1) := by decide +kernel
theorem dX10_sumOf_20 : decode cX10_sumOf 20 = .ok (.iload 4, 2) := by decide +kernel
theorem dX10_sumOf_22 : decode cX10_sumOf 22 = .ok (.invokestatic 85, 3) := by decide +kernel
theorem dX10_sumOf_25 : decode cX10_sumOf 25 = .ok (.iaload, 1) := by decide +kernel
theorem dX10_sumOf_26 : decode cX10_sumOf 26 = .ok (.imul, 1) := by decide +kernel
theorem dX10_sumOf_27 : decode cX10_sumOf 27 = .ok (.i2l, 1) := by decide +kernel
theorem dX10_sumOf_28 : decode cX10_sumOf 28 = .ok (.ladd, 1) := by decide +kernel
theorem dX10_sumOf_29 : decode cX10_sumOf 29 = .ok (.lstore_n 2, 1) := by decide +kernel
theorem dX10_sumOf_30 : decode cX10_sumOf 30 = .ok (.iinc 4 1, 3) := by decide +kernel
theorem dX10_sumOf_33 : decode cX10_sumOf 33 = .ok (.goto (-28), 3) := by decide +kernel
theorem dX10_sumOf_36 : decode cX10_sumOf 36 = .ok (.lload_n 2, 1) := by decide +kernel
theorem dX10_sumOf_37 : decode cX10_sumOf 37 = .ok (.lreturn, 1) := by decide +kernel
theorem dX10_mean_0 : decode cX10_mean 0 = .ok (.iload_n 1, 1) := by decide +kernel
theorem dX10_mean_1 : decode cX10_mean 1 = .ok (.invokestatic 76, 3) := by decide +kernel
theorem dX10_mean_4 : decode cX10_mean 4 = .ok (.ifCond .ne 7, 3) := by decide +kernel
theorem dX10_mean_7 : decode cX10_mean 7 = .ok (.ldc2_w 216, 3) := by decide +kernel
theorem dX10_mean_10 : decode cX10_mean 10 = .ok (.lreturn, 1) := by decide +kernel
theorem dX10_mean_11 : decode cX10_mean 11 = .ok (.iload_n 2, 1) := by decide +kernel
theorem dX10_mean_12 : decode cX10_mean 12 = .ok (.invokestatic 124, 3) := by decide +kernel
theorem dX10_mean_15 : decode cX10_mean 15 = .ok (.ifCond .eq 21, 3) := by decide +kernel
theorem dX10_mean_18 : decode cX10_mean 18 = .ok (.aload_n 0, 1) := by decide +kernel
theorem dX10_mean_19 : decode cX10_mean 19 = .ok (.iload_n 1, 1) := by decide +kernel
theorem dX10_mean_20 : decode cX10_mean 20 = .ok (.invokevirtual 264, 3) := by decide +kernel
theorem dX10_mean_23 : decode cX10_mean 23 = .ok (.aload_n 0, 1) := by decide +kernel
theorem dX10_mean_24 : decode cX10_mean 24 = .ok (.iload_n 1, 1) := by decide +kernel
theorem dX10_mean_25 : decode cX10_mean 25 = .ok (.invokevirtual 172, 3) := by decide +kernel
theorem dX10_mean_28 : decode cX10_mean 28 = .ok (.i2l, 1) := by decide +kernel
theorem dX10_mean_29 : decode cX10_mean 29 = .ok (.iload_n 2, 1) := by decide +kernel
theorem dX10_mean_30 : decode cX10_mean 30 = .ok (.invokestatic 161, 3) := by decide +kernel
theorem dX10_mean_33 : decode cX10_mean 33 = .ok (.goto 6, 3) := by decide +kernel
theorem dX10_mean_36 : decode cX10_mean 36 = .ok (.ldc2_w 159, 3) := by decide +kernel
theorem dX10_mean_39 : decode cX10_mean 39 = .ok (.lreturn, 1) := by decide +kernel
theorem dX10_modeOf_0 : decode cX10_modeOf 0 = .ok (.bipush (-6), 2) := by decide +kernel
theorem dX10_modeOf_2 : decode cX10_modeOf 2 = .ok (.istore_n 2, 1) := by decide +kernel
theorem dX10_modeOf_3 : decode cX10_modeOf 3 = .ok (.iconst 0, 1) := by decide +kernel
theorem dX10_modeOf_4 : decode cX10_modeOf 4 = .ok (.istore_n 3, 1) := by decide +kernel
theorem dX10_modeOf_5 : decode cX10_modeOf 5 = .ok (.iload_n 3, 1) := by decide +kernel
theorem dX10_modeOf_6 : decode cX10_modeOf 6 = .ok (.bipush 64, 2) := by decide +kernel
theorem dX10_modeOf_8 : decode cX10_modeOf 8 = .ok (.if_icmp .ge 51, 3) := by decide +kernel
theorem dX10_modeOf_11 : decode cX10_modeOf 11 = .ok (.aload_n 0, 1) := by decide +kernel
theorem dX10_modeOf_12 : decode cX10_modeOf 12 = .ok (.getfield 7, 3) := by decide +kernel
theorem dX10_modeOf_15 : decode cX10_modeOf 15 = .ok (.iload_n 1, 1) := by decide +kernel
theorem dX10_modeOf_16 : decode cX10_modeOf 16 = .ok (.iload_n 3, 1) := by decide +kernel
theorem dX10_modeOf_17 : decode cX10_modeOf 17 = .ok (.invokestatic 85, 3) := by decide +kernel
theorem dX10_modeOf_20 : decode cX10_modeOf 20 = .ok (.iaload, 1) := by decide +kernel
theorem dX10_modeOf_21 : decode cX10_modeOf 21 = .ok (.istore 4, 2) := by decide +kernel
theorem dX10_modeOf_23 : decode cX10_modeOf 23 = .ok (.iload 4, 2) := by decide +kernel
theorem dX10_modeOf_25 : decode cX10_modeOf 25 = .ok (.ifCond .le 26, 3) := by decide +kernel
theorem dX10_modeOf_28 : decode cX10_modeOf 28 = .ok (.iload_n 2, 1) := by decide +kernel
theorem dX10_modeOf_29 : decode cX10_modeOf 29 = .ok (.ifCond .lt 18, 3) := by decide +kernel
theorem dX10_modeOf_32 : decode cX10_modeOf 32 = .ok (.iload 4, 2) := by decide +kernel
theorem dX10_modeOf_34 : decode cX10_modeOf 34 = .ok (.aload_n 0, 1) := by decide +kernel
theorem dX10_modeOf_35 : decode cX10_modeOf 35 = .ok (.getfield 7, 3) := by decide +kernel
theorem dX10_modeOf_38 : decode cX10_modeOf 38 = .ok (.iload_n 1, 1) := by decide +kernel
theorem dX10_modeOf_39 : decode cX10_modeOf 39 = .ok (.iload_n 2, 1) := by decide +kernel
theorem dX10_modeOf_40 : decode cX10_modeOf 40 = .ok (.invokestatic 85, 3) := by decide +kernel
theorem dX10_modeOf_43 : decode cX10_modeOf 43 = .ok (.iaload, 1) := by decide +kernel
theorem dX10_modeOf_44 : decode cX10_modeOf 44 = .ok (.if_icmp .le 7, 3) := by decide +kernel
theorem dX10_modeOf_47 : decode cX10_modeOf 47 = .ok (.iload_n 3, 1) := by decide +kernel
theorem dX10_modeOf_48 : decode cX10_modeOf 48 = .ok (.goto 4, 3) := by decide +kernel
theorem dX10_modeOf_51 : decode cX10_modeOf 51 = .ok (.iload_n 2, 1) := by decide +kernel
theorem dX10_modeOf_52 : decode cX10_modeOf 52 = .ok (.istore_n 2, 1) := by decide +kernel
theorem dX10_modeOf_53 : decode cX10_modeOf 53 = .ok (.iinc 3 1, 3) := by decide +kernel
theorem dX10_modeOf_56 : decode cX10_modeOf 56 = .ok (.goto (-51), 3) := by decide +kernel
theorem dX10_modeOf_59 : decode cX10_modeOf 59 = .ok (.iload_n 2, 1) := by decide +kernel
theorem dX10_modeOf_60 : decode cX10_modeOf 60 = .ok (.ireturn, 1) := by decide +kernel
theorem dX10_mode_0 : decode cX10_mode 0 = .ok (.iload_n 1, 1) := by decide +kernel
theorem dX10_mode_1 : decode cX10_mode 1 = .ok (.invokestatic 76, 3) := by decide +kernel
theorem dX10_mode_4 : decode cX10_mode 4 = .ok (.ifCond .eq 11, 3) := by decide +kernel
theorem dX10_mode_7 : decode cX10_mode 7 = .ok (.aload_n 0, 1) := by decide +kernel
theorem dX10_mode_8 : decode cX10_mode 8 = .ok (.iload_n 1, 1) := by decide +kernel
theorem dX10_mode_9 : decode cX10_mode 9 = .ok (.invokevirtual 268, 3) := by decide +kernel
theorem dX10_mode_12 : decode cX10_mode 12 = .ok (.goto 4, 3) := by decide +kernel
theorem dX10_mode_15 : decode cX10_mode 15 = .ok (.iconst (-1), 1) := by decide +kernel
theorem dX10_mode_16 : decode cX10_mode 16 = .ok (.ireturn, 1) := by decide +kernel
theorem dX10_about_0 : decode cX10_about 0 = .ok (.iload_n 1, 1) := by decide +kernel
theorem dX10_about_1 : decode cX10_about 1 = .ok (.invokestatic 76, 3) := by decide +kernel
theorem dX10_about_4 : decode cX10_about 4 = .ok (.ifCond .ne 7, 3) := by decide +kernel
theorem dX10_about_7 : decode cX10_about 7 = .ok (.ldc2_w 216, 3) := by decide +kernel
theorem dX10_about_10 : decode cX10_about 10 = .ok (.lreturn, 1) := by decide +kernel
theorem dX10_about_11 : decode cX10_about 11 = .ok (.iload_n 2, 1) := by decide +kernel
theorem dX10_about_12 : decode cX10_about 12 = .ok (.i2l, 1) := by decide +kernel
theorem dX10_about_13 : decode cX10_about 13 = .ok (.lconst 0, 1) := by decide +kernel
theorem dX10_about_14 : decode cX10_about 14 = .ok (.ldc2_w 70, 3) := by decide +kernel
theorem dX10_about_17 : decode cX10_about 17 = .ok (.invokestatic 64, 3) := by decide +kernel
theorem dX10_about_20 : decode cX10_about 20 = .ok (.ifCond .eq 18, 3) := by decide +kernel
theorem dX10_about_23 : decode cX10_about 23 = .ok (.iload_n 3, 1) := by decide +kernel
theorem dX10_about_24 : decode cX10_about 24 = .ok (.invokestatic 124, 3) := by decide +kernel
theorem dX10_about_27 : decode cX10_about 27 = .ok (.ifCond .eq 11, 3) := by decide +kernel
theorem dX10_about_30 : decode cX10_about 30 = .ok (.iload 4, 2) := by decide +kernel
theorem dX10_about_32 : decode cX10_about 32 = .ok (.invokestatic 124, 3) := by decide +kernel
theorem dX10_about_35 : decode cX10_about 35 = .ok (.ifCond .ne 7, 3) := by decide +kernel
theorem dX10_about_38 : decode cX10_about 38 = .ok (.ldc2_w 159, 3) := by decide +kernel
theorem dX10_about_41 : decode cX10_about 41 = .ok (.lreturn, 1) := by decide +kernel
theorem dX10_about_42 : decode cX10_about 42 = .ok (.aload_n 0, 1) := by decide +kernel
theorem dX10_about_43 : decode cX10_about 43 = .ok (.getfield 19, 3) := by decide +kernel
theorem dX10_about_46 : decode cX10_about 46 = .ok (.iload_n 1, 1) := by decide +kernel
theorem dX10_about_47 : decode cX10_about 47 = .ok (.iaload, 1) := by decide +kernel
theorem dX10_about_48 : decode cX10_about 48 = .ok (.iconst 2, 1) := by decide +kernel
theorem dX10_about_49 : decode cX10_about 49 = .ok (.if_icmp .eq 7, 3) := by decide +kernel
theorem dX10_about_52 : decode cX10_about 52 = .ok (.ldc2_w 271, 3) := by decide +kernel
theorem dX10_about_55 : decode cX10_about 55 = .ok (.lreturn, 1) := by decide +kernel
theorem dX10_about_56 : decode cX10_about 56 = .ok (.lconst 0, 1) := by decide +kernel
theorem dX10_about_57 : decode cX10_about 57 = .ok (.lstore 5, 2) := by decide +kernel
theorem dX10_about_59 : decode cX10_about 59 = .ok (.iconst 0, 1) := by decide +kernel
theorem dX10_about_60 : decode cX10_about 60 = .ok (.istore 7, 2) := by decide +kernel
theorem dX10_about_62 : decode cX10_about 62 = .ok (.iload 7, 2) := by decide +kernel
theorem dX10_about_64 : decode cX10_about 64 = .ok (.bipush 64, 2) := by decide +kernel
theorem dX10_about_66 : decode cX10_about 66 = .ok (.if_icmp .ge 67, 3) := by decide +kernel
theorem dX10_about_69 : decode cX10_about 69 = .ok (.iload_n 3, 1) := by decide +kernel
theorem dX10_about_70 : decode cX10_about 70 = .ok (.ifCond .ne 10, 3) := by decide +kernel
theorem dX10_about_73 : decode cX10_about 73 = .ok (.iload 7, 2) := by decide +kernel
theorem dX10_about_75 : decode cX10_about 75 = .ok (.iload_n 2, 1) := by decide +kernel
theorem dX10_about_76 : decode cX10_about 76 = .ok (.isub, 1) := by decide +kernel
theorem dX10_about_77 : decode cX10_about 77 = .ok (.goto 7, 3) := by decide +kernel
theorem dX10_about_80 : decode cX10_about 80 = .ok (.iload 7, 2) := by decide +kernel
theorem dX10_about_82 : decode cX10_about 82 = .ok (.iload_n 2, 1) := by decide +kernel
theorem dX10_about_83 : decode cX10_about 83 = .ok (.iadd, 1) := by decide +kernel
theorem dX10_about_84 : decode cX10_about 84 = .ok (.istore 8, 2) := by decide +kernel
theorem dX10_about_86 : decode cX10_about 86 = .ok (.lload 5, 2) := by decide +kernel
theorem dX10_about_88 : decode cX10_about 88 = .ok (.iload 8, 2) := by decide +kernel
theorem dX10_about_90 : decode cX10_about 90 = .ok (.ifCond .ge 7, 3) := by decide +kernel
theorem dX10_about_93 : decode cX10_about 93 = .ok (.iconst 0, 1) := by decide +kernel
theorem dX10_about_94 : decode cX10_about 94 = .ok (.goto 17, 3) := by decide +kernel
theorem dX10_about_97 : decode cX10_about 97 = .ok (.iload 8, 2) := by decide +kernel
theorem dX10_about_99 : decode cX10_about 99 = .ok (.bipush 63, 2) := by decide +kernel
theorem dX10_about_101 : decode cX10_about 101 = .ok (.if_icmp .le 8, 3) := by decide +kernel
theorem dX10_about_104 : decode cX10_about 104 = .ok (.bipush 63, 2) := by decide +kernel
theorem dX10_about_106 : decode cX10_about 106 = .ok (.goto 5, 3) := by decide +kernel
theorem dX10_about_109 : decode cX10_about 109 = .ok (.iload 8, 2) := by decide +kernel
theorem dX10_about_111 : decode cX10_about 111 = .ok (.aload_n 0, 1) := by decide +kernel
theorem dX10_about_112 : decode cX10_about 112 = .ok (.getfield 7, 3) := by decide +kernel
theorem dX10_about_115 : decode cX10_about 115 = .ok (.iload_n 1, 1) := by decide +kernel
theorem dX10_about_116 : decode cX10_about 116 = .ok (.iload 7, 2) := by decide +kernel
theorem dX10_about_118 : decode cX10_about 118 = .ok (.invokestatic 85, 3) := by decide +kernel
theorem dX10_about_121 : decode cX10_about 121 = .ok (.iaload, 1) := by decide +kernel
theorem dX10_about_122 : decode cX10_about 122 = .ok (.imul, 1) := by decide +kernel
theorem dX10_about_123 : decode cX10_about 123 = .ok (.i2l, 1) := by decide +kernel
theorem dX10_about_124 : decode cX10_about 124 = .ok (.ladd, 1) := by decide +kernel
theorem dX10_about_125 : decode cX10_about 125 = .ok (.lstore 5, 2) := by decide +kernel
theorem dX10_about_127 : decode cX10_about 127 = .ok (.iinc 7 1, 3) := by decide +kernel
theorem dX10_about_130 : decode cX10_about 130 = .ok (.goto (-68), 3) := by decide +kernel
theorem dX10_about_133 : decode cX10_about 133 = .ok (.lload 5, 2) := by decide +kernel
theorem dX10_about_135 : decode cX10_about 135 = .ok (.aload_n 0, 1) := by decide +kernel
theorem dX10_about_136 : decode cX10_about 136 = .ok (.iload_n 1, 1) := by decide +kernel
theorem dX10_about_137 : decode cX10_about 137 = .ok (.invokevirtual 172, 3) := by decide +kernel
theorem dX10_about_140 : decode cX10_about 140 = .ok (.i2l, 1) := by decide +kernel
theorem dX10_about_141 : decode cX10_about 141 = .ok (.iload 4, 2) := by decide +kernel
theorem dX10_about_143 : decode cX10_about 143 = .ok (.invokestatic 161, 3) := by decide +kernel
theorem dX10_about_146 : decode cX10_about 146 = .ok (.lreturn, 1) := by decide +kernel
theorem dX10_beside_0 : decode cX10_beside 0 = .ok (.iload_n 1, 1) := by decide +kernel
theorem dX10_beside_1 : decode cX10_beside 1 = .ok (.invokestatic 76, 3) := by decide +kernel
theorem dX10_beside_4 : decode cX10_beside 4 = .ok (.ifCond .eq 10, 3) := by decide +kernel
theorem dX10_beside_7 : decode cX10_beside 7 = .ok (.iload_n 2, 1) := by decide +kernel
theorem dX10_beside_8 : decode cX10_beside 8 = .ok (.invokestatic 76, 3) := by decide +kernel
theorem dX10_beside_11 : decode cX10_beside 11 = .ok (.ifCond .ne 7, 3) := by decide +kernel
theorem dX10_beside_14 : decode cX10_beside 14 = .ok (.ldc2_w 216, 3) := by decide +kernel
theorem dX10_beside_17 : decode cX10_beside 17 = .ok (.lreturn, 1) := by decide +kernel
theorem dX10_beside_18 : decode cX10_beside 18 = .ok (.iload_n 3, 1) := by decide +kernel
theorem dX10_beside_19 : decode cX10_beside 19 = .ok (.invokestatic 152, 3) := by decide +kernel
theorem dX10_beside_22 : decode cX10_beside 22 = .ok (.ifCond .eq 11, 3) := by decide +kernel
theorem dX10_beside_25 : decode cX10_beside 25 = .ok (.iload 4, 2) := by decide +kernel
theorem dX10_beside_27 : decode cX10_beside 27 = .ok (.invokestatic 124, 3) := by decide +kernel
theorem dX10_beside_30 : decode cX10_beside 30 = .ok (.ifCond .ne 7, 3) := by decide +kernel
theorem dX10_beside_33 : decode cX10_beside 33 = .ok (.ldc2_w 159, 3) := by decide +kernel
theorem dX10_beside_36 : decode cX10_beside 36 = .ok (.lreturn, 1) := by decide +kernel
theorem dX10_beside_37 : decode cX10_beside 37 = .ok (.aload_n 0, 1) := by decide +kernel
theorem dX10_beside_38 : decode cX10_beside 38 = .ok (.iload_n 1, 1) := by decide +kernel
theorem dX10_beside_39 : decode cX10_beside 39 = .ok (.invokevirtual 172, 3) := by decide +kernel
theorem dX10_beside_42 : decode cX10_beside 42 = .ok (.i2l, 1) := by decide +kernel
theorem dX10_beside_43 : decode cX10_beside 43 = .ok (.lstore 5, 2) := by decide +kernel
theorem dX10_beside_45 : decode cX10_beside 45 = .ok (.aload_n 0, 1) := by decide +kernel
theorem dX10_beside_46 : decode cX10_beside 46 = .ok (.getfield 19, 3) := by decide +kernel
theorem dX10_beside_49 : decode cX10_beside 49 = .ok (.iload_n 1, 1) := by decide +kernel
theorem dX10_beside_50 : decode cX10_beside 50 = .ok (.iaload, 1) := by decide +kernel
theorem dX10_beside_51 : decode cX10_beside 51 = .ok (.iconst 1, 1) := by decide +kernel
theorem dX10_beside_52 : decode cX10_beside 52 = .ok (.if_icmp .ne 10, 3) := by decide +kernel
theorem dX10_beside_55 : decode cX10_beside 55 = .ok (.lload 5, 2) := by decide +kernel
theorem dX10_beside_57 : decode cX10_beside 57 = .ok (.lconst 0, 1) := by decide +kernel
theorem dX10_beside_58 : decode cX10_beside 58 = .ok (.lcmp, 1) := by decide +kernel
theorem dX10_beside_59 : decode cX10_beside 59 = .ok (.ifCond .ne 7, 3) := by decide +kernel
theorem dX10_beside_62 : decode cX10_beside 62 = .ok (.ldc2_w 271, 3) := by decide +kernel
theorem dX10_beside_65 : decode cX10_beside 65 = .ok (.lreturn, 1) := by decide +kernel
theorem dX10_beside_66 : decode cX10_beside 66 = .ok (.aload_n 0, 1) := by decide +kernel
theorem dX10_beside_67 : decode cX10_beside 67 = .ok (.iload_n 2, 1) := by decide +kernel
theorem dX10_beside_68 : decode cX10_beside 68 = .ok (.iload_n 3, 1) := by decide +kernel
theorem dX10_beside_69 : decode cX10_beside 69 = .ok (.invokevirtual 192, 3) := by decide +kernel
theorem dX10_beside_72 : decode cX10_beside 72 = .ok (.aload_n 0, 1) := by decide +kernel
theorem dX10_beside_73 : decode cX10_beside 73 = .ok (.iload_n 1, 1) := by decide +kernel
theorem dX10_beside_74 : decode cX10_beside 74 = .ok (.invokevirtual 264, 3) := by decide +kernel
theorem dX10_beside_77 : decode cX10_beside 77 = .ok (.aload_n 0, 1) := by decide +kernel
theorem dX10_beside_78 : decode cX10_beside 78 = .ok (.getfield 185, 3) := by decide +kernel
theorem dX10_beside_81 : decode cX10_beside 81 = .ok (.i2l, 1) := by decide +kernel
theorem dX10_beside_82 : decode cX10_beside 82 = .ok (.lload 5, 2) := by decide +kernel
theorem dX10_beside_84 : decode cX10_beside 84 = .ok (.lmul, 1) := by decide +kernel
theorem dX10_beside_85 : decode cX10_beside 85 = .ok (.lsub, 1) := by decide +kernel
theorem dX10_beside_86 : decode cX10_beside 86 = .ok (.lload 5, 2) := by decide +kernel
theorem dX10_beside_88 : decode cX10_beside 88 = .ok (.iload 4, 2) := by decide +kernel
theorem dX10_beside_90 : decode cX10_beside 90 = .ok (.invokestatic 161, 3) := by decide +kernel
theorem dX10_beside_93 : decode cX10_beside 93 = .ok (.lreturn, 1) := by decide +kernel
theorem dX10_shorter_0 : decode cX10_shorter 0 = .ok (.iload_n 1, 1) := by decide +kernel
theorem dX10_shorter_1 : decode cX10_shorter 1 = .ok (.invokestatic 76, 3) := by decide +kernel
theorem dX10_shorter_4 : decode cX10_shorter 4 = .ok (.ifCond .eq 10, 3) := by decide +kernel
theorem dX10_shorter_7 : decode cX10_shorter 7 = .ok (.iload_n 2, 1) := by decide +kernel
theorem dX10_shorter_8 : decode cX10_shorter 8 = .ok (.invokestatic 76, 3) := by decide +kernel
theorem dX10_shorter_11 : decode cX10_shorter 11 = .ok (.ifCond .ne 5, 3) := by decide +kernel
theorem dX10_shorter_14 : decode cX10_shorter 14 = .ok (.iconst (-1), 1) := by decide +kernel
theorem dX10_shorter_15 : decode cX10_shorter 15 = .ok (.ireturn, 1) := by decide +kernel
theorem dX10_shorter_16 : decode cX10_shorter 16 = .ok (.iload_n 3, 1) := by decide +kernel
theorem dX10_shorter_17 : decode cX10_shorter 17 = .ok (.invokestatic 152, 3) := by decide +kernel
theorem dX10_shorter_20 : decode cX10_shorter 20 = .ok (.ifCond .eq 16, 3) := by decide +kernel
theorem dX10_shorter_23 : decode cX10_shorter 23 = .ok (.iload 4, 2) := by decide +kernel
theorem dX10_shorter_25 : decode cX10_shorter 25 = .ok (.i2l, 1) := by decide +kernel
theorem dX10_shorter_26 : decode cX10_shorter 26 = .ok (.lconst 0, 1) := by decide +kernel
theorem dX10_shorter_27 : decode cX10_shorter 27 = .ok (.ldc2_w 83, 3) := by decide +kernel
theorem dX10_shorter_30 : decode cX10_shorter 30 = .ok (.invokestatic 64, 3) := by decide +kernel
theorem dX10_shorter_33 : decode cX10_shorter 33 = .ok (.ifCond .ne 6, 3) := by decide +kernel
theorem dX10_shorter_36 : decode cX10_shorter 36 = .ok (.bipush (-2), 2) := by decide +kernel
theorem dX10_shorter_38 : decode cX10_shorter 38 = .ok (.ireturn, 1) := by decide +kernel
theorem dX10_shorter_39 : decode cX10_shorter 39 = .ok (.aload_n 0, 1) := by decide +kernel
theorem dX10_shorter_40 : decode cX10_shorter 40 = .ok (.iload_n 1, 1) := by decide +kernel
theorem dX10_shorter_41 : decode cX10_shorter 41 = .ok (.iload_n 3, 1) := by decide +kernel
theorem dX10_shorter_42 : decode cX10_shorter 42 = .ok (.iload 4, 2) := by decide +kernel
theorem dX10_shorter_44 : decode cX10_shorter 44 = .ok (.invokevirtual 202, 3) := by decide +kernel
theorem dX10_shorter_47 : decode cX10_shorter 47 = .ok (.aload_n 0, 1) := by decide +kernel
theorem dX10_shorter_48 : decode cX10_shorter 48 = .ok (.getfield 196, 3) := by decide +kernel
theorem dX10_shorter_51 : decode cX10_shorter 51 = .ok (.istore 5, 2) := by decide +kernel
theorem dX10_shorter_53 : decode cX10_shorter 53 = .ok (.aload_n 0, 1) := by decide +kernel
theorem dX10_shorter_54 : decode cX10_shorter 54 = .ok (.iload_n 2, 1) := by decide +kernel
theorem dX10_shorter_55 : decode cX10_shorter 55 = .ok (.iload_n 3, 1) := by decide +kernel
theorem dX10_shorter_56 : decode cX10_shorter 56 = .ok (.iload 4, 2) := by decide +kernel
theorem dX10_shorter_58 : decode cX10_shorter 58 = .ok (.invokevirtual 202, 3) := by decide +kernel
theorem dX10_shorter_61 : decode cX10_shorter 61 = .ok (.aload_n 0, 1) := by decide +kernel
theorem dX10_shorter_62 : decode cX10_shorter 62 = .ok (.getfield 199, 3) := by decide +kernel
theorem dX10_shorter_65 : decode cX10_shorter 65 = .ok (.iload 5, 2) := by decide +kernel
theorem dX10_shorter_67 : decode cX10_shorter 67 = .ok (.if_icmp .ge 7, 3) := by decide +kernel
theorem dX10_shorter_70 : decode cX10_shorter 70 = .ok (.iconst 2, 1) := by decide +kernel
theorem dX10_shorter_71 : decode cX10_shorter 71 = .ok (.goto 17, 3) := by decide +kernel
theorem dX10_shorter_74 : decode cX10_shorter 74 = .ok (.aload_n 0, 1) := by decide +kernel
theorem dX10_shorter_75 : decode cX10_shorter 75 = .ok (.getfield 196, 3) := by decide +kernel
theorem dX10_shorter_78 : decode cX10_shorter 78 = .ok (.iload 5, 2) := by decide +kernel
theorem dX10_shorter_80 : decode cX10_shorter 80 = .ok (.if_icmp .lt 7, 3) := by decide +kernel
theorem dX10_shorter_83 : decode cX10_shorter 83 = .ok (.iconst 0, 1) := by decide +kernel
theorem dX10_shorter_84 : decode cX10_shorter 84 = .ok (.goto 4, 3) := by decide +kernel
theorem dX10_shorter_87 : decode cX10_shorter 87 = .ok (.iconst 1, 1) := by decide +kernel
theorem dX10_shorter_88 : decode cX10_shorter 88 = .ok (.ireturn, 1) := by decide +kernel
theorem dX10_draw_0 : decode cX10_draw 0 = .ok (.aload_n 0, 1) := by decide +kernel
theorem dX10_draw_1 : decode cX10_draw 1 = .ok (.bipush 75, 2) := by decide +kernel
theorem dX10_draw_3 : decode cX10_draw 3 = .ok (.aload_n 0, 1) := by decide +kernel
theorem dX10_draw_4 : decode cX10_draw 4 = .ok (.getfield 273, 3) := by decide +kernel
theorem dX10_draw_7 : decode cX10_draw 7 = .ok (.imul, 1) := by decide +kernel
theorem dX10_draw_8 : decode cX10_draw 8 = .ok (.bipush 74, 2) := by decide +kernel
theorem dX10_draw_10 : decode cX10_draw 10 = .ok (.iadd, 1) := by decide +kernel
theorem dX10_draw_11 : decode cX10_draw 11 = .ok (.ldc_w 276, 3) := by decide +kernel
theorem dX10_draw_14 : decode cX10_draw 14 = .ok (.irem, 1) := by decide +kernel
theorem dX10_draw_15 : decode cX10_draw 15 = .ok (.putfield 273, 3) := by decide +kernel
theorem dX10_draw_18 : decode cX10_draw 18 = .ok (.aload_n 0, 1) := by decide +kernel
theorem dX10_draw_19 : decode cX10_draw 19 = .ok (.getfield 273, 3) := by decide +kernel
theorem dX10_draw_22 : decode cX10_draw 22 = .ok (.iload_n 1, 1) := by decide +kernel
theorem dX10_draw_23 : decode cX10_draw 23 = .ok (.irem, 1) := by decide +kernel
theorem dX10_draw_24 : decode cX10_draw 24 = .ok (.ireturn, 1) := by decide +kernel
theorem dX10_heightOf_0 : decode cX10_heightOf 0 = .ok (.iconst 0, 1) := by decide +kernel
theorem dX10_heightOf_1 : decode cX10_heightOf 1 = .ok (.istore 4, 2) := by decide +kernel
theorem dX10_heightOf_3 : decode cX10_heightOf 3 = .ok (.iload_n 3, 1) := by decide +kernel
theorem dX10_heightOf_4 : decode cX10_heightOf 4 = .ok (.istore 5, 2) := by decide +kernel
theorem dX10_heightOf_6 : decode cX10_heightOf 6 = .ok (.iload 5, 2) := by decide +kernel
theorem dX10_heightOf_8 : decode cX10_heightOf 8 = .ok (.aload_n 0, 1) := by decide +kernel
theorem dX10_heightOf_9 : decode cX10_heightOf 9 = .ok (.getfield 49, 3) := by decide +kernel
theorem dX10_heightOf_12 : decode cX10_heightOf 12 = .ok (.iload 4, 2) := by decide +kernel
theorem dX10_heightOf_14 : decode cX10_heightOf 14 = .ok (.iaload, 1) := by decide +kernel
theorem dX10_heightOf_15 : decode cX10_heightOf 15 = .ok (.if_icmp .lt 21, 3) := by decide +kernel
theorem dX10_heightOf_18 : decode cX10_heightOf 18 = .ok (.iload 5, 2) := by decide +kernel
theorem dX10_heightOf_20 : decode cX10_heightOf 20 = .ok (.aload_n 0, 1) := by decide +kernel
theorem dX10_heightOf_21 : decode cX10_heightOf 21 = .ok (.getfield 49, 3) := by decide +kernel
theorem dX10_heightOf_24 : decode cX10_heightOf 24 = .ok (.iload 4, 2) := by decide +kernel
theorem dX10_heightOf_26 : decode cX10_heightOf 26 = .ok (.iaload, 1) := by decide +kernel
theorem dX10_heightOf_27 : decode cX10_heightOf 27 = .ok (.isub, 1) := by decide +kernel
theorem dX10_heightOf_28 : decode cX10_heightOf 28 = .ok (.istore 5, 2) := by decide +kernel
theorem dX10_heightOf_30 : decode cX10_heightOf 30 = .ok (.iinc 4 1, 3) := by decide +kernel
theorem dX10_heightOf_33 : decode cX10_heightOf 33 = .ok (.goto (-27), 3) := by decide +kernel
theorem dX10_heightOf_36 : decode cX10_heightOf 36 = .ok (.iload_n 1, 1) := by decide +kernel
theorem dX10_heightOf_37 : decode cX10_heightOf 37 = .ok (.iload_n 2, 1) := by decide +kernel
theorem dX10_heightOf_38 : decode cX10_heightOf 38 = .ok (.isub, 1) := by decide +kernel
theorem dX10_heightOf_39 : decode cX10_heightOf 39 = .ok (.iload 4, 2) := by decide +kernel
theorem dX10_heightOf_41 : decode cX10_heightOf 41 = .ok (.iadd, 1) := by decide +kernel
theorem dX10_heightOf_42 : decode cX10_heightOf 42 = .ok (.ireturn, 1) := by decide +kernel
theorem dX10_writtenAt_0 : decode cX10_writtenAt 0 = .ok (.iload_n 1, 1) := by decide +kernel
theorem dX10_writtenAt_1 : decode cX10_writtenAt 1 = .ok (.iload_n 2, 1) := by decide +kernel
theorem dX10_writtenAt_2 : decode cX10_writtenAt 2 = .ok (.isub, 1) := by decide +kernel
theorem dX10_writtenAt_3 : decode cX10_writtenAt 3 = .ok (.istore_n 3, 1) := by decide +kernel
theorem dX10_writtenAt_4 : decode cX10_writtenAt 4 = .ok (.iload_n 3, 1) := by decide +kernel
theorem dX10_writtenAt_5 : decode cX10_writtenAt 5 = .ok (.ifCond .le 48, 3) := by decide +kernel
theorem dX10_writtenAt_8 : decode cX10_writtenAt 8 = .ok (.iload_n 3, 1) := by decide +kernel
theorem dX10_writtenAt_9 : decode cX10_writtenAt 9 = .ok (.aload_n 0, 1) := by decide +kernel
theorem dX10_writtenAt_10 : decode cX10_writtenAt 10 = .ok (.getfield 22, 3) := by decide +kernel
theorem dX10_writtenAt_13 : decode cX10_writtenAt 13 = .ok (.iconst 2, 1) := by decide +kernel
theorem dX10_writtenAt_14 : decode cX10_writtenAt 14 = .ok (.iaload, 1) := by decide +kernel
theorem dX10_writtenAt_15 : decode cX10_writtenAt 15 = .ok (.if_icmp .gt 20, 3) := by decide +kernel
theorem dX10_writtenAt_18 : decode cX10_writtenAt 18 = .ok (.aload_n 0, 1) := by decide +kernel
theorem dX10_writtenAt_19 : decode cX10_writtenAt 19 = .ok (.bipush 10, 2) := by decide +kernel
theorem dX10_writtenAt_21 : decode cX10_writtenAt 21 = .ok (.invokevirtual 277, 3) := by decide +kernel
theorem dX10_writtenAt_24 : decode cX10_writtenAt 24 = .ok (.aload_n 0, 1) := by decide +kernel
theorem dX10_writtenAt_25 : decode cX10_writtenAt 25 = .ok (.getfield 22, 3) := by decide +kernel
theorem dX10_writtenAt_28 : decode cX10_writtenAt 28 = .ok (.iconst 3, 1) := by decide +kernel
theorem dX10_writtenAt_29 : decode cX10_writtenAt 29 = .ok (.iaload, 1) := by decide +kernel
theorem dX10_writtenAt_30 : decode cX10_writtenAt 30 = .ok (.if_icmp .ge 5, 3) := by decide +kernel
theorem dX10_writtenAt_33 : decode cX10_writtenAt 33 = .ok (.iload_n 1, 1) := by decide +kernel
theorem dX10_writtenAt_34 : decode cX10_writtenAt 34 = .ok (.ireturn, 1) := by decide +kernel
theorem dX10_writtenAt_35 : decode cX10_writtenAt 35 = .ok (.aload_n 0, 1) := by decide +kernel
theorem dX10_writtenAt_36 : decode cX10_writtenAt 36 = .ok (.bipush 10, 2) := by decide +kernel
theorem dX10_writtenAt_38 : decode cX10_writtenAt 38 = .ok (.invokevirtual 277, 3) := by decide +kernel
theorem dX10_writtenAt_41 : decode cX10_writtenAt 41 = .ok (.aload_n 0, 1) := by decide +kernel
theorem dX10_writtenAt_42 : decode cX10_writtenAt 42 = .ok (.getfield 22, 3) := by decide +kernel
theorem dX10_writtenAt_45 : decode cX10_writtenAt 45 = .ok (.iconst 0, 1) := by decide +kernel
theorem dX10_writtenAt_46 : decode cX10_writtenAt 46 = .ok (.iaload, 1) := by decide +kernel
theorem dX10_writtenAt_47 : decode cX10_writtenAt 47 = .ok (.if_icmp .lt 6, 3) := by decide +kernel
theorem dX10_writtenAt_50 : decode cX10_writtenAt 50 = .ok (.bipush (-6), 2) := by decide +kernel
theorem dX10_writtenAt_52 : decode cX10_writtenAt 52 = .ok (.ireturn, 1) := by decide +kernel
theorem dX10_writtenAt_53 : decode cX10_writtenAt 53 = .ok (.iload_n 2, 1) := by decide +kernel
theorem dX10_writtenAt_54 : decode cX10_writtenAt 54 = .ok (.iconst 4, 1) := by decide +kernel
theorem dX10_writtenAt_55 : decode cX10_writtenAt 55 = .ok (.irem, 1) := by decide +kernel
theorem dX10_writtenAt_56 : decode cX10_writtenAt 56 = .ok (.ifCond .eq 25, 3) := by decide +kernel
theorem dX10_writtenAt_59 : decode cX10_writtenAt 59 = .ok (.aload_n 0, 1) := by decide +kernel
theorem dX10_writtenAt_60 : decode cX10_writtenAt 60 = .ok (.bipush 10, 2) := by decide +kernel
theorem dX10_writtenAt_62 : decode cX10_writtenAt 62 = .ok (.invokevirtual 277, 3) := by decide +kernel
theorem dX10_writtenAt_65 : decode cX10_writtenAt 65 = .ok (.aload_n 0, 1) := by decide +kernel
theorem dX10_writtenAt_66 : decode cX10_writtenAt 66 = .ok (.getfield 22, 3) := by decide +kernel
theorem dX10_writtenAt_69 : decode cX10_writtenAt 69 = .ok (.iconst 1, 1) := by decide +kernel
theorem dX10_writtenAt_70 : decode cX10_writtenAt 70 = .ok (.iaload, 1) := by decide +kernel
theorem dX10_writtenAt_71 : decode cX10_writtenAt 71 = .ok (.if_icmp .ge 10, 3) := by decide +kernel
theorem dX10_writtenAt_74 : decode cX10_writtenAt 74 = .ok (.iload_n 2, 1) := by decide +kernel
theorem dX10_writtenAt_75 : decode cX10_writtenAt 75 = .ok (.invokestatic 208, 3) := by decide +kernel
theorem dX10_writtenAt_78 : decode cX10_writtenAt 78 = .ok (.goto 4, 3) := by decide +kernel
theorem dX10_writtenAt_81 : decode cX10_writtenAt 81 = .ok (.iload_n 2, 1) := by decide +kernel
theorem dX10_writtenAt_82 : decode cX10_writtenAt 82 = .ok (.ireturn, 1) := by decide +kernel
theorem dX10_makeIn_0 : decode cX10_makeIn 0 = .ok (.iconst 0, 1) := by decide +kernel
theorem dX10_makeIn_1 : decode cX10_makeIn 1 = .ok (.istore 6, 2) := by decide +kernel
theorem dX10_makeIn_3 : decode cX10_makeIn 3 = .ok (.iload 6, 2) := by decide +kernel
theorem dX10_makeIn_5 : decode cX10_makeIn 5 = .ok (.bipush 64, 2) := by decide +kernel
theorem dX10_makeIn_7 : decode cX10_makeIn 7 = .ok (.if_icmp .ge 21, 3) := by decide +kernel
theorem dX10_makeIn_10 : decode cX10_makeIn 10 = .ok (.aload_n 0, 1) := by decide +kernel
theorem dX10_makeIn_11 : decode cX10_makeIn 11 = .ok (.getfield 7, 3) := by decide +kernel
theorem dX10_makeIn_14 : decode cX10_makeIn 14 = .ok (.iload_n 1, 1) := by decide +kernel
theorem dX10_makeIn_15 : decode cX10_makeIn 15 = .ok (.iload 6, 2) := by decide +kernel
theorem dX10_makeIn_17 : decode cX10_makeIn 17 = .ok (.invokestatic 85, 3) := by decide +kernel
theorem dX10_makeIn_20 : decode cX10_makeIn 20 = .ok (.iconst 0, 1) := by decide +kernel
theorem dX10_makeIn_21 : decode cX10_makeIn 21 = .ok (.iastore, 1) := by decide +kernel
theorem dX10_makeIn_22 : decode cX10_makeIn 22 = .ok (.iinc 6 1, 3) := by decide +kernel
theorem dX10_makeIn_25 : decode cX10_makeIn 25 = .ok (.goto (-22), 3) := by decide +kernel
theorem dX10_makeIn_28 : decode cX10_makeIn 28 = .ok (.aload_n 0, 1) := by decide +kernel
theorem dX10_makeIn_29 : decode cX10_makeIn 29 = .ok (.iload 4, 2) := by decide +kernel
theorem dX10_makeIn_31 : decode cX10_makeIn 31 = .ok (.invokevirtual 168, 3) := by decide +kernel
theorem dX10_makeIn_34 : decode cX10_makeIn 34 = .ok (.aload_n 0, 1) := by decide +kernel
theorem dX10_makeIn_35 : decode cX10_makeIn 35 = .ok (.iload_n 1, 1) := by decide +kernel
theorem dX10_makeIn_36 : decode cX10_makeIn 36 = .ok (.invokevirtual 146, 3) := by decide +kernel
theorem dX10_makeIn_39 : decode cX10_makeIn 39 = .ok (.istore 6, 2) := by decide +kernel
theorem dX10_makeIn_41 : decode cX10_makeIn 41 = .ok (.iconst 0, 1) := by decide +kernel
theorem dX10_makeIn_42 : decode cX10_makeIn 42 = .ok (.istore 7, 2) := by decide +kernel
theorem dX10_makeIn_44 : decode cX10_makeIn 44 = .ok (.aload_n 0, 1) := by decide +kernel
theorem dX10_makeIn_45 : decode cX10_makeIn 45 = .ok (.iload_n 2, 1) := by decide +kernel
theorem dX10_makeIn_46 : decode cX10_makeIn 46 = .ok (.putfield 273, 3) := by decide +kernel
theorem dX10_makeIn_49 : decode cX10_makeIn 49 = .ok (.iconst 0, 1) := by decide +kernel
theorem dX10_makeIn_50 : decode cX10_makeIn 50 = .ok (.istore 8, 2) := by decide +kernel
theorem dX10_makeIn_52 : decode cX10_makeIn 52 = .ok (.iload 8, 2) := by decide +kernel
theorem dX10_makeIn_54 : decode cX10_makeIn 54 = .ok (.iload 5, 2) := by decide +kernel
theorem dX10_makeIn_56 : decode cX10_makeIn 56 = .ok (.if_icmp .ge 74, 3) := by decide +kernel
theorem dX10_makeIn_59 : decode cX10_makeIn 59 = .ok (.aload_n 0, 1) := by decide +kernel
theorem dX10_makeIn_60 : decode cX10_makeIn 60 = .ok (.iload_n 3, 1) := by decide +kernel
theorem dX10_makeIn_61 : decode cX10_makeIn 61 = .ok (.iload 4, 2) := by decide +kernel
theorem dX10_makeIn_63 : decode cX10_makeIn 63 = .ok (.aload_n 0, 1) := by decide +kernel
theorem dX10_makeIn_64 : decode cX10_makeIn 64 = .ok (.iconst 1, 1) := by decide +kernel
theorem dX10_makeIn_65 : decode cX10_makeIn 65 = .ok (.iconst 2, 1) := by decide +kernel
theorem dX10_makeIn_66 : decode cX10_makeIn 66 = .ok (.iload 4, 2) := by decide +kernel
theorem dX10_makeIn_68 : decode cX10_makeIn 68 = .ok (.imul, 1) := by decide +kernel
theorem dX10_makeIn_69 : decode cX10_makeIn 69 = .ok (.ishl, 1) := by decide +kernel
theorem dX10_makeIn_70 : decode cX10_makeIn 70 = .ok (.invokevirtual 277, 3) := by decide +kernel
theorem dX10_makeIn_73 : decode cX10_makeIn 73 = .ok (.invokevirtual 280, 3) := by decide +kernel
theorem dX10_makeIn_76 : decode cX10_makeIn 76 = .ok (.istore 9, 2) := by decide +kernel
theorem dX10_makeIn_78 : decode cX10_makeIn 78 = .ok (.iload 9, 2) := by decide +kernel
theorem dX10_makeIn_80 : decode cX10_makeIn 80 = .ok (.invokestatic 80, 3) := by decide +kernel
theorem dX10_makeIn_83 : decode cX10_makeIn 83 = .ok (.ifCond .eq 14, 3) := by decide +kernel
theorem dX10_makeIn_86 : decode cX10_makeIn 86 = .ok (.aload_n 0, 1) := by decide +kernel
theorem dX10_makeIn_87 : decode cX10_makeIn 87 = .ok (.iload 6, 2) := by decide +kernel
theorem dX10_makeIn_89 : decode cX10_makeIn 89 = .ok (.iload 9, 2) := by decide +kernel
theorem dX10_makeIn_91 : decode cX10_makeIn 91 = .ok (.invokevirtual 283, 3) := by decide +kernel
theorem dX10_makeIn_94 : decode cX10_makeIn 94 = .ok (.goto 5, 3) := by decide +kernel
theorem dX10_makeIn_97 : decode cX10_makeIn 97 = .ok (.bipush (-6), 2) := by decide +kernel
theorem dX10_makeIn_99 : decode cX10_makeIn 99 = .ok (.istore 10, 2) := by decide +kernel
theorem dX10_makeIn_101 : decode cX10_makeIn 101 = .ok (.iload 10, 2) := by decide +kernel
theorem dX10_makeIn_103 : decode cX10_makeIn 103 = .ok (.ifCond .lt 21, 3) := by decide +kernel
theorem dX10_makeIn_106 : decode cX10_makeIn 106 = .ok (.aload_n 0, 1) := by decide +kernel
theorem dX10_makeIn_107 : decode cX10_makeIn 107 = .ok (.getfield 7, 3) := by decide +kernel
theorem dX10_makeIn_110 : decode cX10_makeIn 110 = .ok (.iload_n 1, 1) := by decide +kernel
theorem dX10_makeIn_111 : decode cX10_makeIn 111 = .ok (.iload 10, 2) := by decide +kernel
theorem dX10_makeIn_113 : decode cX10_makeIn 113 = .ok (.invokestatic 85, 3) := by decide +kernel
theorem dX10_makeIn_116 : decode cX10_makeIn 116 = .ok (.dup2, 1) := by decide +kernel
theorem dX10_makeIn_117 : decode cX10_makeIn 117 = .ok (.iaload, 1) := by decide +kernel
theorem dX10_makeIn_118 : decode cX10_makeIn 118 = .ok (.iconst 1, 1) := by decide +kernel
theorem dX10_makeIn_119 : decode cX10_makeIn 119 = .ok (.iadd, 1) := by decide +kernel
theorem dX10_makeIn_120 : decode cX10_makeIn 120 = .ok (.iastore, 1) := by decide +kernel
theorem dX10_makeIn_121 : decode cX10_makeIn 121 = .ok (.iinc 7 1, 3) := by decide +kernel
theorem dX10_makeIn_124 : decode cX10_makeIn 124 = .ok (.iinc 8 1, 3) := by decide +kernel
theorem dX10_makeIn_127 : decode cX10_makeIn 127 = .ok (.goto (-75), 3) := by decide +kernel
theorem dX10_makeIn_130 : decode cX10_makeIn 130 = .ok (.iload 7, 2) := by decide +kernel
theorem dX10_makeIn_132 : decode cX10_makeIn 132 = .ok (.ireturn, 1) := by decide +kernel
theorem dX10_isWorld_0 : decode cX10_isWorld 0 = .ok (.iload_n 0, 1) := by decide +kernel
theorem dX10_isWorld_1 : decode cX10_isWorld 1 = .ok (.i2l, 1) := by decide +kernel
theorem dX10_isWorld_2 : decode cX10_isWorld 2 = .ok (.lconst 0, 1) := by decide +kernel
theorem dX10_isWorld_3 : decode cX10_isWorld 3 = .ok (.ldc2_w 286, 3) := by decide +kernel
theorem dX10_isWorld_6 : decode cX10_isWorld 6 = .ok (.invokestatic 64, 3) := by decide +kernel
theorem dX10_isWorld_9 : decode cX10_isWorld 9 = .ok (.ifCond .eq 33, 3) := by decide +kernel
theorem dX10_isWorld_12 : decode cX10_isWorld 12 = .ok (.iload_n 1, 1) := by decide +kernel
theorem dX10_isWorld_13 : decode cX10_isWorld 13 = .ok (.invokestatic 80, 3) := by decide +kernel
theorem dX10_isWorld_16 : decode cX10_isWorld 16 = .ok (.ifCond .eq 26, 3) := by decide +kernel
theorem dX10_isWorld_19 : decode cX10_isWorld 19 = .ok (.iload_n 2, 1) := by decide +kernel
theorem dX10_isWorld_20 : decode cX10_isWorld 20 = .ok (.invokestatic 152, 3) := by decide +kernel
theorem dX10_isWorld_23 : decode cX10_isWorld 23 = .ok (.ifCond .eq 19, 3) := by decide +kernel
theorem dX10_isWorld_26 : decode cX10_isWorld 26 = .ok (.iload_n 3, 1) := by decide +kernel
theorem dX10_isWorld_27 : decode cX10_isWorld 27 = .ok (.i2l, 1) := by decide +kernel
theorem dX10_isWorld_28 : decode cX10_isWorld 28 = .ok (.lconst 1, 1) := by decide +kernel
theorem dX10_isWorld_29 : decode cX10_isWorld 29 = .ok (.ldc2_w 288, 3) := by decide +kernel
theorem dX10_isWorld_32 : decode cX10_isWorld 32 = .ok (.invokestatic 64, 3) := by decide +kernel
theorem dX10_isWorld_35 : decode cX10_isWorld 35 = .ok (.ifCond .eq 7, 3) := by decide +kernel
theorem dX10_isWorld_38 : decode cX10_isWorld 38 = .ok (.iconst 1, 1) := by decide +kernel
theorem dX10_isWorld_39 : decode cX10_isWorld 39 = .ok (.goto 4, 3) := by decide +kernel
theorem dX10_isWorld_42 : decode cX10_isWorld 42 = .ok (.iconst 0, 1) := by decide +kernel
theorem dX10_isWorld_43 : decode cX10_isWorld 43 = .ok (.ireturn, 1) := by decide +kernel
theorem dX10_make_0 : decode cX10_make 0 = .ok (.iload_n 1, 1) := by decide +kernel
theorem dX10_make_1 : decode cX10_make 1 = .ok (.invokestatic 76, 3) := by decide +kernel
theorem dX10_make_4 : decode cX10_make 4 = .ok (.ifCond .ne 5, 3) := by decide +kernel
theorem dX10_make_7 : decode cX10_make 7 = .ok (.iconst (-1), 1) := by decide +kernel
theorem dX10_make_8 : decode cX10_make 8 = .ok (.ireturn, 1) := by decide +kernel
theorem dX10_make_9 : decode cX10_make 9 = .ok (.iload_n 2, 1) := by decide +kernel
theorem dX10_make_10 : decode cX10_make 10 = .ok (.iload_n 3, 1) := by decide +kernel
theorem dX10_make_11 : decode cX10_make 11 = .ok (.iload 4, 2) := by decide +kernel
theorem dX10_make_13 : decode cX10_make 13 = .ok (.iload 5, 2) := by decide +kernel
theorem dX10_make_15 : decode cX10_make 15 = .ok (.invokestatic 290, 3) := by decide +kernel
theorem dX10_make_18 : decode cX10_make 18 = .ok (.ifCond .eq 17, 3) := by decide +kernel
theorem dX10_make_21 : decode cX10_make 21 = .ok (.aload_n 0, 1) := by decide +kernel
theorem dX10_make_22 : decode cX10_make 22 = .ok (.iload_n 1, 1) := by decide +kernel
theorem dX10_make_23 : decode cX10_make 23 = .ok (.iload_n 2, 1) := by decide +kernel
theorem dX10_make_24 : decode cX10_make 24 = .ok (.iload_n 3, 1) := by decide +kernel
theorem dX10_make_25 : decode cX10_make 25 = .ok (.iload 4, 2) := by decide +kernel
theorem dX10_make_27 : decode cX10_make 27 = .ok (.iload 5, 2) := by decide +kernel
theorem dX10_make_29 : decode cX10_make 29 = .ok (.invokevirtual 293, 3) := by decide +kernel
theorem dX10_make_32 : decode cX10_make 32 = .ok (.goto 5, 3) := by decide +kernel
theorem dX10_make_35 : decode cX10_make 35 = .ok (.bipush (-2), 2) := by decide +kernel
theorem dX10_make_37 : decode cX10_make 37 = .ok (.ireturn, 1) := by decide +kernel
theorem dX10_undone_0 : decode cX10_undone 0 = .ok (.iload_n 3, 1) := by decide +kernel
theorem dX10_undone_1 : decode cX10_undone 1 = .ok (.ifCond .ne 17, 3) := by decide +kernel
theorem dX10_undone_4 : decode cX10_undone 4 = .ok (.aload_n 0, 1) := by decide +kernel
theorem dX10_undone_5 : decode cX10_undone 5 = .ok (.iload_n 1, 1) := by decide +kernel
theorem dX10_undone_6 : decode cX10_undone 6 = .ok (.invokevirtual 264, 3) := by decide +kernel
theorem dX10_undone_9 : decode cX10_undone 9 = .ok (.aload_n 0, 1) := by decide +kernel
theorem dX10_undone_10 : decode cX10_undone 10 = .ok (.iload_n 1, 1) := by decide +kernel
theorem dX10_undone_11 : decode cX10_undone 11 = .ok (.invokevirtual 172, 3) := by decide +kernel
theorem dX10_undone_14 : decode cX10_undone 14 = .ok (.i2l, 1) := by decide +kernel
theorem dX10_undone_15 : decode cX10_undone 15 = .ok (.ldiv, 1) := by decide +kernel
theorem dX10_undone_16 : decode cX10_undone 16 = .ok (.l2i, 1) := by decide +kernel
theorem dX10_undone_17 : decode cX10_undone 17 = .ok (.ireturn, 1) := by decide +kernel
theorem dX10_undone_18 : decode cX10_undone 18 = .ok (.iload_n 3, 1) := by decide +kernel
theorem dX10_undone_19 : decode cX10_undone 19 = .ok (.iconst 1, 1) := by decide +kernel
theorem dX10_undone_20 : decode cX10_undone 20 = .ok (.if_icmp .ne 9, 3) := by decide +kernel
theorem dX10_undone_23 : decode cX10_undone 23 = .ok (.aload_n 0, 1) := by decide +kernel
theorem dX10_undone_24 : decode cX10_undone 24 = .ok (.iload_n 1, 1) := by decide +kernel
theorem dX10_undone_25 : decode cX10_undone 25 = .ok (.invokevirtual 268, 3) := by decide +kernel
theorem dX10_undone_28 : decode cX10_undone 28 = .ok (.ireturn, 1) := by decide +kernel
theorem dX10_undone_29 : decode cX10_undone 29 = .ok (.iload_n 3, 1) := by decide +kernel
theorem dX10_undone_30 : decode cX10_undone 30 = .ok (.iconst 2, 1) := by decide +kernel
theorem dX10_undone_31 : decode cX10_undone 31 = .ok (.if_icmp .ne 12, 3) := by decide +kernel
theorem dX10_undone_34 : decode cX10_undone 34 = .ok (.aload_n 0, 1) := by decide +kernel
theorem dX10_undone_35 : decode cX10_undone 35 = .ok (.iload_n 1, 1) := by decide +kernel
theorem dX10_undone_36 : decode cX10_undone 36 = .ok (.iload_n 2, 1) := by decide +kernel
theorem dX10_undone_37 : decode cX10_undone 37 = .ok (.invokevirtual 192, 3) := by decide +kernel
theorem dX10_undone_40 : decode cX10_undone 40 = .ok (.goto 9, 3) := by decide +kernel
theorem dX10_undone_43 : decode cX10_undone 43 = .ok (.aload_n 0, 1) := by decide +kernel
theorem dX10_undone_44 : decode cX10_undone 44 = .ok (.iload_n 1, 1) := by decide +kernel
theorem dX10_undone_45 : decode cX10_undone 45 = .ok (.iload_n 2, 1) := by decide +kernel
theorem dX10_undone_46 : decode cX10_undone 46 = .ok (.invokevirtual 205, 3) := by decide +kernel
theorem dX10_undone_49 : decode cX10_undone 49 = .ok (.aload_n 0, 1) := by decide +kernel
theorem dX10_undone_50 : decode cX10_undone 50 = .ok (.getfield 185, 3) := by decide +kernel
theorem dX10_undone_53 : decode cX10_undone 53 = .ok (.ireturn, 1) := by decide +kernel
theorem dX10_offOf_0 : decode cX10_offOf 0 = .ok (.iconst 0, 1) := by decide +kernel
theorem dX10_offOf_1 : decode cX10_offOf 1 = .ok (.istore 8, 2) := by decide +kernel
theorem dX10_offOf_3 : decode cX10_offOf 3 = .ok (.iload 8, 2) := by decide +kernel
theorem dX10_offOf_5 : decode cX10_offOf 5 = .ok (.bipush 64, 2) := by decide +kernel
theorem dX10_offOf_7 : decode cX10_offOf 7 = .ok (.if_icmp .ge 27, 3) := by decide +kernel
theorem dX10_offOf_10 : decode cX10_offOf 10 = .ok (.aload_n 0, 1) := by decide +kernel
theorem dX10_offOf_11 : decode cX10_offOf 11 = .ok (.getfield 52, 3) := by decide +kernel
theorem dX10_offOf_14 : decode cX10_offOf 14 = .ok (.iload 8, 2) := by decide +kernel
theorem dX10_offOf_16 : decode cX10_offOf 16 = .ok (.aload_n 0, 1) := by decide +kernel
theorem dX10_offOf_17 : decode cX10_offOf 17 = .ok (.getfield 7, 3) := by decide +kernel
theorem dX10_offOf_20 : decode cX10_offOf 20 = .ok (.iload_n 1, 1) := by decide +kernel
theorem dX10_offOf_21 : decode cX10_offOf 21 = .ok (.iload 8, 2) := by decide +kernel
theorem dX10_offOf_23 : decode cX10_offOf 23 = .ok (.invokestatic 85, 3) := by decide +kernel
theorem dX10_offOf_26 : decode cX10_offOf 26 = .ok (.iaload, 1) := by decide +kernel
theorem dX10_offOf_27 : decode cX10_offOf 27 = .ok (.iastore, 1) := by decide +kernel
theorem dX10_offOf_28 : decode cX10_offOf 28 = .ok (.iinc 8 1, 3) := by decide +kernel
theorem dX10_offOf_31 : decode cX10_offOf 31 = .ok (.goto (-28), 3) := by decide +kernel
theorem dX10_offOf_34 : decode cX10_offOf 34 = .ok (.iconst 0, 1) := by decide +kernel
theorem dX10_offOf_35 : decode cX10_offOf 35 = .ok (.istore 8, 2) := by decide +kernel
theorem dX10_offOf_37 : decode cX10_offOf 37 = .ok (.iconst 0, 1) := by decide +kernel
theorem dX10_offOf_38 : decode cX10_offOf 38 = .ok (.istore 9, 2) := by decide +kernel
theorem dX10_offOf_40 : decode cX10_offOf 40 = .ok (.iload 9, 2) := by decide +kernel
theorem dX10_offOf_42 : decode cX10_offOf 42 = .ok (.iload 6, 2) := by decide +kernel
theorem dX10_offOf_44 : decode cX10_offOf 44 = .ok (.if_icmp .ge 53, 3) := by decide +kernel
theorem dX10_offOf_47 : decode cX10_offOf 47 = .ok (.aload_n 0, 1) := by decide +kernel
theorem dX10_offOf_48 : decode cX10_offOf 48 = .ok (.iload_n 1, 1) := by decide +kernel
theorem dX10_offOf_49 : decode cX10_offOf 49 = .ok (.iload_n 2, 1) := by decide +kernel
theorem dX10_offOf_50 : decode cX10_offOf 50 = .ok (.iload 9, 2) := by decide +kernel
theorem dX10_offOf_52 : decode cX10_offOf 52 = .ok (.iadd, 1) := by decide +kernel
theorem dX10_offOf_53 : decode cX10_offOf 53 = .ok (.iload_n 3, 1) := by decide +kernel
theorem dX10_offOf_54 : decode cX10_offOf 54 = .ok (.iload 4, 2) := by decide +kernel
theorem dX10_offOf_56 : decode cX10_offOf 56 = .ok (.iload 5, 2) := by decide +kernel
theorem dX10_offOf_58 : decode cX10_offOf 58 = .ok (.invokevirtual 293, 3) := by decide +kernel
theorem dX10_offOf_61 : decode cX10_offOf 61 = .ok (.istore 10, 2) := by decide +kernel
theorem dX10_offOf_63 : decode cX10_offOf 63 = .ok (.iload 8, 2) := by decide +kernel
theorem dX10_offOf_65 : decode cX10_offOf 65 = .ok (.iload 10, 2) := by decide +kernel
theorem dX10_offOf_67 : decode cX10_offOf 67 = .ok (.ifCond .ne 8, 3) := by decide +kernel
theorem dX10_offOf_70 : decode cX10_offOf 70 = .ok (.bipush 63, 2) := by decide +kernel
theorem dX10_offOf_72 : decode cX10_offOf 72 = .ok (.goto 16, 3) := by decide +kernel
theorem dX10_offOf_75 : decode cX10_offOf 75 = .ok (.aload_n 0, 1) := by decide +kernel
theorem dX10_offOf_76 : decode cX10_offOf 76 = .ok (.iload_n 1, 1) := by decide +kernel
theorem dX10_offOf_77 : decode cX10_offOf 77 = .ok (.iload 4, 2) := by decide +kernel
theorem dX10_offOf_79 : decode cX10_offOf 79 = .ok (.iload 7, 2) := by decide +kernel
theorem dX10_offOf_81 : decode cX10_offOf 81 = .ok (.invokevirtual 296, 3) := by decide +kernel
theorem dX10_offOf_84 : decode cX10_offOf 84 = .ok (.iload_n 3, 1) := by decide +kernel
theorem dX10_offOf_85 : decode cX10_offOf 85 = .ok (.invokestatic 165, 3) := by decide +kernel
theorem dX10_offOf_88 : decode cX10_offOf 88 = .ok (.iadd, 1) := by decide +kernel
theorem dX10_offOf_89 : decode cX10_offOf 89 = .ok (.istore 8, 2) := by decide +kernel
theorem dX10_offOf_91 : decode cX10_offOf 91 = .ok (.iinc 9 1, 3) := by decide +kernel
theorem dX10_offOf_94 : decode cX10_offOf 94 = .ok (.goto (-54), 3) := by decide +kernel
theorem dX10_offOf_97 : decode cX10_offOf 97 = .ok (.iconst 0, 1) := by decide +kernel
theorem dX10_offOf_98 : decode cX10_offOf 98 = .ok (.istore 9, 2) := by decide +kernel
theorem dX10_offOf_100 : decode cX10_offOf 100 = .ok (.iload 9, 2) := by decide +kernel
theorem dX10_offOf_102 : decode cX10_offOf 102 = .ok (.bipush 64, 2) := by decide +kernel
theorem dX10_offOf_104 : decode cX10_offOf 104 = .ok (.if_icmp .ge 27, 3) := by decide +kernel
theorem dX10_offOf_107 : decode cX10_offOf 107 = .ok (.aload_n 0, 1) := by decide +kernel
theorem dX10_offOf_108 : decode cX10_offOf 108 = .ok (.getfield 7, 3) := by decide +kernel
theorem dX10_offOf_111 : decode cX10_offOf 111 = .ok (.iload_n 1, 1) := by decide +kernel
theorem dX10_offOf_112 : decode cX10_offOf 112 = .ok (.iload 9, 2) := by decide +kernel
theorem dX10_offOf_114 : decode cX10_offOf 114 = .ok (.invokestatic 85, 3) := by decide +kernel
theorem dX10_offOf_117 : decode cX10_offOf 117 = .ok (.aload_n 0, 1) := by decide +kernel
theorem dX10_offOf_118 : decode cX10_offOf 118 = .ok (.getfield 52, 3) := by decide +kernel
theorem dX10_offOf_121 : decode cX10_offOf 121 = .ok (.iload 9, 2) := by decide +kernel
theorem dX10_offOf_123 : decode cX10_offOf 123 = .ok (.iaload, 1) := by decide +kernel
theorem dX10_offOf_124 : decode cX10_offOf 124 = .ok (.iastore, 1) := by decide +kernel
theorem dX10_offOf_125 : decode cX10_offOf 125 = .ok (.iinc 9 1, 3) := by decide +kernel
theorem dX10_offOf_128 : decode cX10_offOf 128 = .ok (.goto (-28), 3) := by decide +kernel
theorem dX10_offOf_131 : decode cX10_offOf 131 = .ok (.iload 8, 2) := by decide +kernel
theorem dX10_offOf_133 : decode cX10_offOf 133 = .ok (.ireturn, 1) := by decide +kernel
theorem dX10_off_0 : decode cX10_off 0 = .ok (.iload_n 1, 1) := by decide +kernel
theorem dX10_off_1 : decode cX10_off 1 = .ok (.invokestatic 76, 3) := by decide +kernel
theorem dX10_off_4 : decode cX10_off 4 = .ok (.ifCond .ne 5, 3) := by decide +kernel
theorem dX10_off_7 : decode cX10_off 7 = .ok (.iconst (-1), 1) := by decide +kernel
theorem dX10_off_8 : decode cX10_off 8 = .ok (.ireturn, 1) := by decide +kernel
theorem dX10_off_9 : decode cX10_off 9 = .ok (.iload_n 2, 1) := by decide +kernel
theorem dX10_off_10 : decode cX10_off 10 = .ok (.iload_n 3, 1) := by decide +kernel
theorem dX10_off_11 : decode cX10_off 11 = .ok (.iload 4, 2) := by decide +kernel
theorem dX10_off_13 : decode cX10_off 13 = .ok (.iload 5, 2) := by decide +kernel
theorem dX10_off_15 : decode cX10_off 15 = .ok (.invokestatic 290, 3) := by decide +kernel
theorem dX10_off_18 : decode cX10_off 18 = .ok (.ifCond .eq 29, 3) := by decide +kernel
theorem dX10_off_21 : decode cX10_off 21 = .ok (.iload 6, 2) := by decide +kernel
theorem dX10_off_23 : decode cX10_off 23 = .ok (.i2l, 1) := by decide +kernel
theorem dX10_off_24 : decode cX10_off 24 = .ok (.lconst 1, 1) := by decide +kernel
theorem dX10_off_25 : decode cX10_off 25 = .ok (.ldc2_w 70, 3) := by decide +kernel
theorem dX10_off_28 : decode cX10_off 28 = .ok (.invokestatic 64, 3) := by decide +kernel
theorem dX10_off_31 : decode cX10_off 31 = .ok (.ifCond .eq 16, 3) := by decide +kernel
theorem dX10_off_34 : decode cX10_off 34 = .ok (.iload 7, 2) := by decide +kernel
theorem dX10_off_36 : decode cX10_off 36 = .ok (.i2l, 1) := by decide +kernel
theorem dX10_off_37 : decode cX10_off 37 = .ok (.lconst 0, 1) := by decide +kernel
theorem dX10_off_38 : decode cX10_off 38 = .ok (.ldc2_w 299, 3) := by decide +kernel
theorem dX10_off_41 : decode cX10_off 41 = .ok (.invokestatic 64, 3) := by decide +kernel
theorem dX10_off_44 : decode cX10_off 44 = .ok (.ifCond .ne 6, 3) := by decide +kernel
theorem dX10_off_47 : decode cX10_off 47 = .ok (.bipush (-2), 2) := by decide +kernel
theorem dX10_off_49 : decode cX10_off 49 = .ok (.ireturn, 1) := by decide +kernel
theorem dX10_off_50 : decode cX10_off 50 = .ok (.aload_n 0, 1) := by decide +kernel
theorem dX10_off_51 : decode cX10_off 51 = .ok (.iload_n 1, 1) := by decide +kernel
theorem dX10_off_52 : decode cX10_off 52 = .ok (.iload_n 2, 1) := by decide +kernel
theorem dX10_off_53 : decode cX10_off 53 = .ok (.iload_n 3, 1) := by decide +kernel
theorem dX10_off_54 : decode cX10_off 54 = .ok (.iload 4, 2) := by decide +kernel
theorem dX10_off_56 : decode cX10_off 56 = .ok (.iload 5, 2) := by decide +kernel
theorem dX10_off_58 : decode cX10_off 58 = .ok (.iload 6, 2) := by decide +kernel
theorem dX10_off_60 : decode cX10_off 60 = .ok (.iload 7, 2) := by decide +kernel
theorem dX10_off_62 : decode cX10_off 62 = .ok (.invokevirtual 301, 3) := by decide +kernel
theorem dX10_off_65 : decode cX10_off 65 = .ok (.ireturn, 1) := by decide +kernel
theorem dX10_best_0 : decode cX10_best 0 = .ok (.iload_n 1, 1) := by decide +kernel
theorem dX10_best_1 : decode cX10_best 1 = .ok (.invokestatic 76, 3) := by decide +kernel
theorem dX10_best_4 : decode cX10_best 4 = .ok (.ifCond .ne 5, 3) := by decide +kernel
theorem dX10_best_7 : decode cX10_best 7 = .ok (.iconst (-1), 1) := by decide +kernel
theorem dX10_best_8 : decode cX10_best 8 = .ok (.ireturn, 1) := by decide +kernel
theorem dX10_best_9 : decode cX10_best 9 = .ok (.iload_n 2, 1) := by decide +kernel
theorem dX10_best_10 : decode cX10_best 10 = .ok (.iload_n 3, 1) := by decide +kernel
theorem dX10_best_11 : decode cX10_best 11 = .ok (.iload 4, 2) := by decide +kernel
theorem dX10_best_13 : decode cX10_best 13 = .ok (.iload 5, 2) := by decide +kernel
theorem dX10_best_15 : decode cX10_best 15 = .ok (.invokestatic 290, 3) := by decide +kernel
theorem dX10_best_18 : decode cX10_best 18 = .ok (.ifCond .eq 16, 3) := by decide +kernel
theorem dX10_best_21 : decode cX10_best 21 = .ok (.iload 6, 2) := by decide +kernel
theorem dX10_best_23 : decode cX10_best 23 = .ok (.i2l, 1) := by decide +kernel
theorem dX10_best_24 : decode cX10_best 24 = .ok (.lconst 1, 1) := by decide +kernel
theorem dX10_best_25 : decode cX10_best 25 = .ok (.ldc2_w 70, 3) := by decide +kernel
theorem dX10_best_28 : decode cX10_best 28 = .ok (.invokestatic 64, 3) := by decide +kernel
theorem dX10_best_31 : decode cX10_best 31 = .ok (.ifCond .ne 6, 3) := by decide +kernel
theorem dX10_best_34 : decode cX10_best 34 = .ok (.bipush (-2), 2) := by decide +kernel
theorem dX10_best_36 : decode cX10_best 36 = .ok (.ireturn, 1) := by decide +kernel
theorem dX10_best_37 : decode cX10_best 37 = .ok (.iconst 0, 1) := by decide +kernel
theorem dX10_best_38 : decode cX10_best 38 = .ok (.istore 7, 2) := by decide +kernel
theorem dX10_best_40 : decode cX10_best 40 = .ok (.aload_n 0, 1) := by decide +kernel
theorem dX10_best_41 : decode cX10_best 41 = .ok (.iload_n 1, 1) := by decide +kernel
theorem dX10_best_42 : decode cX10_best 42 = .ok (.iload_n 2, 1) := by decide +kernel
theorem dX10_best_43 : decode cX10_best 43 = .ok (.iload_n 3, 1) := by decide +kernel
theorem dX10_best_44 : decode cX10_best 44 = .ok (.iload 4, 2) := by decide +kernel
theorem dX10_best_46 : decode cX10_best 46 = .ok (.iload 5, 2) := by decide +kernel
theorem dX10_best_48 : decode cX10_best 48 = .ok (.iload 6, 2) := by decide +kernel
theorem dX10_best_50 : decode cX10_best 50 = .ok (.iconst 0, 1) := by decide +kernel
theorem dX10_best_51 : decode cX10_best 51 = .ok (.invokevirtual 301, 3) := by decide +kernel
theorem dX10_best_54 : decode cX10_best 54 = .ok (.istore 8, 2) := by decide +kernel
theorem dX10_best_56 : decode cX10_best 56 = .ok (.iconst 1, 1) := by decide +kernel
theorem dX10_best_57 : decode cX10_best 57 = .ok (.istore 9, 2) := by decide +kernel
theorem dX10_best_59 : decode cX10_best 59 = .ok (.iload 9, 2) := by decide +kernel
theorem dX10_best_61 : decode cX10_best 61 = .ok (.iconst 4, 1) := by decide +kernel
theorem dX10_best_62 : decode cX10_best 62 = .ok (.if_icmp .ge 41, 3) := by decide +kernel
theorem dX10_best_65 : decode cX10_best 65 = .ok (.aload_n 0, 1) := by decide +kernel
theorem dX10_best_66 : decode cX10_best 66 = .ok (.iload_n 1, 1) := by decide +kernel
theorem dX10_best_67 : decode cX10_best 67 = .ok (.iload_n 2, 1) := by decide +kernel
theorem dX10_best_68 : decode cX10_best 68 = .ok (.iload_n 3, 1) := by decide +kernel
theorem dX10_best_69 : decode cX10_best 69 = .ok (.iload 4, 2) := by decide +kernel
theorem dX10_best_71 : decode cX10_best 71 = .ok (.iload 5, 2) := by decide +kernel
theorem dX10_best_73 : decode cX10_best 73 = .ok (.iload 6, 2) := by decide +kernel
theorem dX10_best_75 : decode cX10_best 75 = .ok (.iload 9, 2) := by decide +kernel
theorem dX10_best_77 : decode cX10_best 77 = .ok (.invokevirtual 301, 3) := by decide +kernel
theorem dX10_best_80 : decode cX10_best 80 = .ok (.istore 10, 2) := by decide +kernel
theorem dX10_best_82 : decode cX10_best 82 = .ok (.iload 10, 2) := by decide +kernel
theorem dX10_best_84 : decode cX10_best 84 = .ok (.iload 8, 2) := by decide +kernel
theorem dX10_best_86 : decode cX10_best 86 = .ok (.if_icmp .ge 11, 3) := by decide +kernel
theorem dX10_best_89 : decode cX10_best 89 = .ok (.iload 9, 2) := by decide +kernel
theorem dX10_best_91 : decode cX10_best 91 = .ok (.istore 7, 2) := by decide +kernel
theorem dX10_best_93 : decode cX10_best 93 = .ok (.iload 10, 2) := by decide +kernel
theorem dX10_best_95 : decode cX10_best 95 = .ok (.istore 8, 2) := by decide +kernel
theorem dX10_best_97 : decode cX10_best 97 = .ok (.iinc 9 1, 3) := by decide +kernel
theorem dX10_best_100 : decode cX10_best 100 = .ok (.goto (-41), 3) := by decide +kernel
theorem dX10_best_103 : decode cX10_best 103 = .ok (.iload 7, 2) := by decide +kernel
theorem dX10_best_105 : decode cX10_best 105 = .ok (.ireturn, 1) := by decide +kernel
theorem dX10_pass_0 : decode cX10_pass 0 = .ok (.aload_n 0, 1) := by decide +kernel
theorem dX10_pass_1 : decode cX10_pass 1 = .ok (.getfield 305, 3) := by decide +kernel
theorem dX10_pass_4 : decode cX10_pass 4 = .ok (.ifCond .eq 7, 3) := by decide +kernel
theorem dX10_pass_7 : decode cX10_pass 7 = .ok (.iload_n 1, 1) := by decide +kernel
theorem dX10_pass_8 : decode cX10_pass 8 = .ok (.goto 12, 3) := by decide +kernel
theorem dX10_pass_11 : decode cX10_pass 11 = .ok (.aload_n 0, 1) := by decide +kernel
theorem dX10_pass_12 : decode cX10_pass 12 = .ok (.getfield 55, 3) := by decide +kernel
theorem dX10_pass_15 : decode cX10_pass 15 = .ok (.aload_n 0, 1) := by decide +kernel
theorem dX10_pass_16 : decode cX10_pass 16 = .ok (.getfield 309, 3) := by decide +kernel
theorem dX10_pass_19 : decode cX10_pass 19 = .ok (.iaload, 1) := by decide +kernel
theorem dX10_pass_20 : decode cX10_pass 20 = .ok (.istore_n 2, 1) := by decide +kernel
theorem dX10_pass_21 : decode cX10_pass 21 = .ok (.aload_n 0, 1) := by decide +kernel
theorem dX10_pass_22 : decode cX10_pass 22 = .ok (.getfield 55, 3) := by decide +kernel
theorem dX10_pass_25 : decode cX10_pass 25 = .ok (.aload_n 0, 1) := by decide +kernel
theorem dX10_pass_26 : decode cX10_pass 26 = .ok (.getfield 309, 3) := by decide +kernel
theorem dX10_pass_29 : decode cX10_pass 29 = .ok (.iload_n 2, 1) := by decide +kernel
theorem dX10_pass_30 : decode cX10_pass 30 = .ok (.iastore, 1) := by decide +kernel
theorem dX10_pass_31 : decode cX10_pass 31 = .ok (.aload_n 0, 1) := by decide +kernel
theorem dX10_pass_32 : decode cX10_pass 32 = .ok (.dup, 1) := by decide +kernel
theorem dX10_pass_33 : decode cX10_pass 33 = .ok (.getfield 309, 3) := by decide +kernel
theorem dX10_pass_36 : decode cX10_pass 36 = .ok (.iconst 1, 1) := by decide +kernel
theorem dX10_pass_37 : decode cX10_pass 37 = .ok (.iadd, 1) := by decide +kernel
theorem dX10_pass_38 : decode cX10_pass 38 = .ok (.putfield 309, 3) := by decide +kernel
theorem dX10_pass_41 : decode cX10_pass 41 = .ok (.iload_n 2, 1) := by decide +kernel
theorem dX10_pass_42 : decode cX10_pass 42 = .ok (.ireturn, 1) := by decide +kernel
theorem dX10_passAll_0 : decode cX10_passAll 0 = .ok (.aload_n 0, 1) := by decide +kernel
theorem dX10_passAll_1 : decode cX10_passAll 1 = .ok (.aload_n 0, 1) := by decide +kernel
theorem dX10_passAll_2 : decode cX10_passAll 2 = .ok (.aload_n 0, 1) := by decide +kernel
theorem dX10_passAll_3 : decode cX10_passAll 3 = .ok (.getfield 131, 3) := by decide +kernel
theorem dX10_passAll_6 : decode cX10_passAll 6 = .ok (.invokevirtual 312, 3) := by decide +kernel
theorem dX10_passAll_9 : decode cX10_passAll 9 = .ok (.putfield 131, 3) := by decide +kernel
theorem dX10_passAll_12 : decode cX10_passAll 12 = .ok (.aload_n 0, 1) := by decide +kernel
theorem dX10_passAll_13 : decode cX10_passAll 13 = .ok (.aload_n 0, 1) := by decide +kernel
theorem dX10_passAll_14 : decode cX10_passAll 14 = .ok (.aload_n 0, 1) := by decide +kernel
theorem dX10_passAll_15 : decode cX10_passAll 15 = .ok (.getfield 134, 3) := by decide +kernel
theorem dX10_passAll_18 : decode cX10_passAll 18 = .ok (.invokevirtual 312, 3) := by decide +kernel
theorem dX10_passAll_21 : decode cX10_passAll 21 = .ok (.putfield 134, 3) := by decide +kernel
theorem dX10_passAll_24 : decode cX10_passAll 24 = .ok (.aload_n 0, 1) := by decide +kernel
theorem dX10_passAll_25 : decode cX10_passAll 25 = .ok (.aload_n 0, 1) := by decide +kernel
theorem dX10_passAll_26 : decode cX10_passAll 26 = .ok (.aload_n 0, 1) := by decide +kernel
theorem dX10_passAll_27 : decode cX10_passAll 27 = .ok (.getfield 137, 3) := by decide +kernel
theorem dX10_passAll_30 : decode cX10_passAll 30 = .ok (.invokevirtual 312, 3) := by decide +kernel
theorem dX10_passAll_33 : decode cX10_passAll 33 = .ok (.putfield 137, 3) := by decide +kernel
theorem dX10_passAll_36 : decode cX10_passAll 36 = .ok (.iconst 0, 1) := by decide +kernel
theorem dX10_passAll_37 : decode cX10_passAll 37 = .ok (.istore_n 1, 1) := by decide +kernel
theorem dX10_passAll_38 : decode cX10_passAll 38 = .ok (.iload_n 1, 1) := by decide +kernel
theorem dX10_passAll_39 : decode cX10_passAll 39 = .ok (.sipush 384, 3) := by decide +kernel
theorem dX10_passAll_42 : decode cX10_passAll 42 = .ok (.if_icmp .ge 25, 3) := by decide +kernel
theorem dX10_passAll_45 : decode cX10_passAll 45 = .ok (.aload_n 0, 1) := by decide +kernel
theorem dX10_passAll_46 : decode cX10_passAll 46 = .ok (.getfield 7, 3) := by decide +kernel
theorem dX10_passAll_49 : decode cX10_passAll 49 = .ok (.iload_n 1, 1) := by decide +kernel
theorem dX10_passAll_50 : decode cX10_passAll 50 = .ok (.aload_n 0, 1) := by decide +kernel
theorem dX10_passAll_51 : decode cX10_passAll 51 = .ok (.aload_n 0, 1) := by decide +kernel
theorem dX10_passAll_52 : decode cX10_passAll 52 = .ok (.getfield 7, 3) := by decide +kernel
theorem dX10_passAll_55 : decode cX10_passAll 55 = .ok (.iload_n 1, 1) := by decide +kernel
theorem dX10_passAll_56 : decode cX10_passAll 56 = .ok (.iaload, 1) := by decide +kernel
theorem dX10_passAll_57 : decode cX10_passAll 57 = .ok (.invokevirtual 312, 3) := by decide +kernel
theorem dX10_passAll_60 : decode cX10_passAll 60 = .ok (.iastore, 1) := by decide +kernel
theorem dX10_passAll_61 : decode cX10_passAll 61 = .ok (.iinc 1 1, 3) := by decide +kernel
theorem dX10_passAll_64 : decode cX10_passAll 64 = .ok (.goto (-26), 3) := by decide +kernel
theorem dX10_passAll_67 : decode cX10_passAll 67 = .ok (.iconst 0, 1) := by decide +kernel
theorem dX10_passAll_68 : decode cX10_passAll 68 = .ok (.istore_n 1, 1) := by decide +kernel
theorem dX10_passAll_69 : decode cX10_passAll 69 = .ok (.iload_n 1, 1) := by decide +kernel
theorem dX10_passAll_70 : decode cX10_passAll 70 = .ok (.bipush 6, 2) := by decide +kernel
theorem dX10_passAll_72 : decode cX10_passAll 72 = .ok (.if_icmp .ge 57, 3) := by decide +kernel
theorem dX10_passAll_75 : decode cX10_passAll 75 = .ok (.aload_n 0, 1) := by decide +kernel
theorem dX10_passAll_76 : decode cX10_passAll 76 = .ok (.getfield 13, 3) := by decide +kernel
theorem dX10_passAll_79 : decode cX10_passAll 79 = .ok (.iload_n 1, 1) := by decide +kernel
theorem dX10_passAll_80 : decode cX10_passAll 80 = .ok (.aload_n 0, 1) := by decide +kernel
theorem dX10_passAll_81 : decode cX10_passAll 81 = .ok (.aload_n 0, 1) := by decide +kernel
theorem dX10_passAll_82 : decode cX10_passAll 82 = .ok (.getfield 13, 3) := by decide +kernel
theorem dX10_passAll_85 : decode cX10_passAll 85 = .ok (.iload_n 1, 1) := by decide +kernel
theorem dX10_passAll_86 : decode cX10_passAll 86 = .ok (.iaload, 1) := by decide +kernel
theorem dX10_passAll_87 : decode cX10_passAll 87 = .ok (.invokevirtual 312, 3) := by decide +kernel
theorem dX10_passAll_90 : decode cX10_passAll 90 = .ok (.iastore, 1) := by decide +kernel
theorem dX10_passAll_91 : decode cX10_passAll 91 = .ok (.aload_n 0, 1) := by decide +kernel
theorem dX10_passAll_92 : decode cX10_passAll 92 = .ok (.getfield 16, 3) := by decide +kernel
theorem dX10_passAll_95 : decode cX10_passAll 95 = .ok (.iload_n 1, 1) := by decide +kernel
theorem dX10_passAll_96 : decode cX10_passAll 96 = .ok (.aload_n 0, 1) := by decide +kernel
theorem dX10_passAll_97 : decode cX10_passAll 97 = .ok (.aload_n 0, 1) := by decide +kernel
theorem dX10_passAll_98 : decode cX10_passAll 98 = .ok (.getfield 16, 3) := by decide +kernel
theorem dX10_passAll_101 : decode cX10_passAll 101 = .ok (.iload_n 1, 1) := by decide +kernel
theorem dX10_passAll_102 : decode cX10_passAll 102 = .ok (.iaload, 1) := by decide +kernel
theorem dX10_passAll_103 : decode cX10_passAll 103 = .ok (.invokevirtual 312, 3) := by decide +kernel
theorem dX10_passAll_106 : decode cX10_passAll 106 = .ok (.iastore, 1) := by decide +kernel
theorem dX10_passAll_107 : decode cX10_passAll 107 = .ok (.aload_n 0, 1) := by decide +kernel
theorem dX10_passAll_108 : decode cX10_passAll 108 = .ok (.getfield 19, 3) := by decide +kernel
theorem dX10_passAll_111 : decode cX10_passAll 111 = .ok (.iload_n 1, 1) := by decide +kernel
theorem dX10_passAll_112 : decode cX10_passAll 112 = .ok (.aload_n 0, 1) := by decide +kernel
theorem dX10_passAll_113 : decode cX10_passAll 113 = .ok (.aload_n 0, 1) := by decide +kernel
theorem dX10_passAll_114 : decode cX10_passAll 114 = .ok (.getfield 19, 3) := by decide +kernel
theorem dX10_passAll_117 : decode cX10_passAll 117 = .ok (.iload_n 1, 1) := by decide +kernel
theorem dX10_passAll_118 : decode cX10_passAll 118 = .ok (.iaload, 1) := by decide +kernel
theorem dX10_passAll_119 : decode cX10_passAll 119 = .ok (.invokevirtual 312, 3) := by decide +kernel
theorem dX10_passAll_122 : decode cX10_passAll 122 = .ok (.iastore, 1) := by decide +kernel
theorem dX10_passAll_123 : decode cX10_passAll 123 = .ok (.iinc 1 1, 3) := by decide +kernel
theorem dX10_passAll_126 : decode cX10_passAll 126 = .ok (.goto (-57), 3) := by decide +kernel
theorem dX10_passAll_129 : decode cX10_passAll 129 = .ok (.iconst 0, 1) := by decide +kernel
theorem dX10_passAll_130 : decode cX10_passAll 130 = .ok (.istore_n 1, 1) := by decide +kernel
theorem dX10_passAll_131 : decode cX10_passAll 131 = .ok (.iload_n 1, 1) := by decide +kernel
theorem dX10_passAll_132 : decode cX10_passAll 132 = .ok (.iconst 5, 1) := by decide +kernel
theorem dX10_passAll_133 : decode cX10_passAll 133 = .ok (.if_icmp .ge 25, 3) := by decide +kernel
theorem dX10_passAll_136 : decode cX10_passAll 136 = .ok (.aload_n 0, 1) := by decide +kernel
theorem dX10_passAll_137 : decode cX10_passAll 137 = .ok (.getfield 22, 3) := by decide +kernel
theorem dX10_passAll_140 : decode cX10_passAll 140 = .ok (.iload_n 1, 1) := by decide +kernel
theorem dX10_passAll_141 : decode cX10_passAll 141 = .ok (.aload_n 0, 1) := by decide +kernel
theorem dX10_passAll_142 : decode cX10_passAll 142 = .ok (.aload_n 0, 1) := by decide +kernel
theorem dX10_passAll_143 : decode cX10_passAll 143 = .ok (.getfield 22, 3) := by decide +kernel
theorem dX10_passAll_146 : decode cX10_passAll 146 = .ok (.iload_n 1, 1) := by decide +kernel
theorem dX10_passAll_147 : decode cX10_passAll 147 = .ok (.iaload, 1) := by decide +kernel
theorem dX10_passAll_148 : decode cX10_passAll 148 = .ok (.invokevirtual 312, 3) := by decide +kernel
theorem dX10_passAll_151 : decode cX10_passAll 151 = .ok (.iastore, 1) := by decide +kernel
theorem dX10_passAll_152 : decode cX10_passAll 152 = .ok (.iinc 1 1, 3) := by decide +kernel
theorem dX10_passAll_155 : decode cX10_passAll 155 = .ok (.goto (-24), 3) := by decide +kernel
theorem dX10_passAll_158 : decode cX10_passAll 158 = .ok (.iconst 0, 1) := by decide +kernel
theorem dX10_passAll_159 : decode cX10_passAll 159 = .ok (.istore_n 1, 1) := by decide +kernel
theorem dX10_passAll_160 : decode cX10_passAll 160 = .ok (.iload_n 1, 1) := by decide +kernel
theorem dX10_passAll_161 : decode cX10_passAll 161 = .ok (.bipush 20, 2) := by decide +kernel
theorem dX10_passAll_163 : decode cX10_passAll 163 = .ok (.if_icmp .ge 45, 3) := by decide +kernel
theorem dX10_passAll_166 : decode cX10_passAll 166 = .ok (.aload_n 0, 1) := by decide +kernel
theorem dX10_passAll_167 : decode cX10_passAll 167 = .ok (.getfield 28, 3) := by decide +kernel
theorem dX10_passAll_170 : decode cX10_passAll 170 = .ok (.iload_n 1, 1) := by decide +kernel
theorem dX10_passAll_171 : decode cX10_passAll 171 = .ok (.iconst 1, 1) := by decide +kernel
theorem dX10_passAll_172 : decode cX10_passAll 172 = .ok (.iadd, 1) := by decide +kernel
theorem dX10_passAll_173 : decode cX10_passAll 173 = .ok (.aload_n 0, 1) := by decide +kernel
theorem dX10_passAll_174 : decode cX10_passAll 174 = .ok (.aload_n 0, 1) := by decide +kernel
theorem dX10_passAll_175 : decode cX10_passAll 175 = .ok (.getfield 28, 3) := by decide +kernel
theorem dX10_passAll_178 : decode cX10_passAll 178 = .ok (.iload_n 1, 1) := by decide +kernel
theorem dX10_passAll_179 : decode cX10_passAll 179 = .ok (.iconst 1, 1) := by decide +kernel
theorem dX10_passAll_180 : decode cX10_passAll 180 = .ok (.iadd, 1) := by decide +kernel
theorem dX10_passAll_181 : decode cX10_passAll 181 = .ok (.iaload, 1) := by decide +kernel
theorem dX10_passAll_182 : decode cX10_passAll 182 = .ok (.invokevirtual 312, 3) := by decide +kernel
theorem dX10_passAll_185 : decode cX10_passAll 185 = .ok (.iastore, 1) := by decide +kernel
theorem dX10_passAll_186 : decode cX10_passAll 186 = .ok (.aload_n 0, 1) := by decide +kernel
theorem dX10_passAll_187 : decode cX10_passAll 187 = .ok (.getfield 31, 3) := by decide +kernel
theorem dX10_passAll_190 : decode cX10_passAll 190 = .ok (.iload_n 1, 1) := by decide +kernel
theorem dX10_passAll_191 : decode cX10_passAll 191 = .ok (.aload_n 0, 1) := by decide +kernel
theorem dX10_passAll_192 : decode cX10_passAll 192 = .ok (.aload_n 0, 1) := by decide +kernel
theorem dX10_passAll_193 : decode cX10_passAll 193 = .ok (.getfield 31, 3) := by decide +kernel
theorem dX10_passAll_196 : decode cX10_passAll 196 = .ok (.iload_n 1, 1) := by decide +kernel
theorem dX10_passAll_197 : decode cX10_passAll 197 = .ok (.iaload, 1) := by decide +kernel
theorem dX10_passAll_198 : decode cX10_passAll 198 = .ok (.invokevirtual 312, 3) := by decide +kernel
theorem dX10_passAll_201 : decode cX10_passAll 201 = .ok (.iastore, 1) := by decide +kernel
theorem dX10_passAll_202 : decode cX10_passAll 202 = .ok (.iinc 1 1, 3) := by decide +kernel
theorem dX10_passAll_205 : decode cX10_passAll 205 = .ok (.goto (-45), 3) := by decide +kernel
theorem dX10_passAll_208 : decode cX10_passAll 208 = .ok (.iconst 0, 1) := by decide +kernel
theorem dX10_passAll_209 : decode cX10_passAll 209 = .ok (.istore_n 1, 1) := by decide +kernel
theorem dX10_passAll_210 : decode cX10_passAll 210 = .ok (.iload_n 1, 1) := by decide +kernel
theorem dX10_passAll_211 : decode cX10_passAll 211 = .ok (.bipush 20, 2) := by decide +kernel
theorem dX10_passAll_213 : decode cX10_passAll 213 = .ok (.if_icmp .ge 57, 3) := by decide +kernel
theorem dX10_passAll_216 : decode cX10_passAll 216 = .ok (.aload_n 0, 1) := by decide +kernel
theorem dX10_passAll_217 : decode cX10_passAll 217 = .ok (.getfield 34, 3) := by decide +kernel
theorem dX10_passAll_220 : decode cX10_passAll 220 = .ok (.iload_n 1, 1) := by decide +kernel
theorem dX10_passAll_221 : decode cX10_passAll 221 = .ok (.aload_n 0, 1) := by decide +kernel
theorem dX10_passAll_222 : decode cX10_passAll 222 = .ok (.aload_n 0, 1) := by decide +kernel
theorem dX10_passAll_223 : decode cX10_passAll 223 = .ok (.getfield 34, 3) := by decide +kernel
theorem dX10_passAll_226 : decode cX10_passAll 226 = .ok (.iload_n 1, 1) := by decide +kernel
theorem dX10_passAll_227 : decode cX10_passAll 227 = .ok (.iaload, 1) := by decide +kernel
theorem dX10_passAll_228 : decode cX10_passAll 228 = .ok (.invokevirtual 312, 3) := by decide +kernel
theorem dX10_passAll_231 : decode cX10_passAll 231 = .ok (.iastore, 1) := by decide +kernel
theorem dX10_passAll_232 : decode cX10_passAll 232 = .ok (.aload_n 0, 1) := by decide +kernel
theorem dX10_passAll_233 : decode cX10_passAll 233 = .ok (.getfield 37, 3) := by decide +kernel
theorem dX10_passAll_236 : decode cX10_passAll 236 = .ok (.iload_n 1, 1) := by decide +kernel
theorem dX10_passAll_237 : decode cX10_passAll 237 = .ok (.aload_n 0, 1) := by decide +kernel
theorem dX10_passAll_238 : decode cX10_passAll 238 = .ok (.aload_n 0, 1) := by decide +kernel
theorem dX10_passAll_239 : decode cX10_passAll 239 = .ok (.getfield 37, 3) := by decide +kernel
theorem dX10_passAll_242 : decode cX10_passAll 242 = .ok (.iload_n 1, 1) := by decide +kernel
theorem dX10_passAll_243 : decode cX10_passAll 243 = .ok (.iaload, 1) := by decide +kernel
theorem dX10_passAll_244 : decode cX10_passAll 244 = .ok (.invokevirtual 312, 3) := by decide +kernel
theorem dX10_passAll_247 : decode cX10_passAll 247 = .ok (.iastore, 1) := by decide +kernel
theorem dX10_passAll_248 : decode cX10_passAll 248 = .ok (.aload_n 0, 1) := by decide +kernel
theorem dX10_passAll_249 : decode cX10_passAll 249 = .ok (.getfield 40, 3) := by decide +kernel
theorem dX10_passAll_252 : decode cX10_passAll 252 = .ok (.iload_n 1, 1) := by decide +kernel
theorem dX10_passAll_253 : decode cX10_passAll 253 = .ok (.aload_n 0, 1) := by decide +kernel
theorem dX10_passAll_254 : decode cX10_passAll 254 = .ok (.aload_n 0, 1) := by decide +kernel
theorem dX10_passAll_255 : decode cX10_passAll 255 = .ok (.getfield 40, 3) := by decide +kernel
theorem dX10_passAll_258 : decode cX10_passAll 258 = .ok (.iload_n 1, 1) := by decide +kernel
theorem dX10_passAll_259 : decode cX10_passAll 259 = .ok (.iaload, 1) := by decide +kernel
theorem dX10_passAll_260 : decode cX10_passAll 260 = .ok (.invokevirtual 312, 3) := by decide +kernel
theorem dX10_passAll_263 : decode cX10_passAll 263 = .ok (.iastore, 1) := by decide +kernel
theorem dX10_passAll_264 : decode cX10_passAll 264 = .ok (.iinc 1 1, 3) := by decide +kernel
theorem dX10_passAll_267 : decode cX10_passAll 267 = .ok (.goto (-57), 3) := by decide +kernel
theorem dX10_passAll_270 : decode cX10_passAll 270 = .ok (.iconst 0, 1) := by decide +kernel
theorem dX10_passAll_271 : decode cX10_passAll 271 = .ok (.istore_n 1, 1) := by decide +kernel
theorem dX10_passAll_272 : decode cX10_passAll 272 = .ok (.iload_n 1, 1) := by decide +kernel
theorem dX10_passAll_273 : decode cX10_passAll 273 = .ok (.bipush 20, 2) := by decide +kernel
theorem dX10_passAll_275 : decode cX10_passAll 275 = .ok (.if_icmp .ge 41, 3) := by decide +kernel
theorem dX10_passAll_278 : decode cX10_passAll 278 = .ok (.aload_n 0, 1) := by decide +kernel
theorem dX10_passAll_279 : decode cX10_passAll 279 = .ok (.getfield 43, 3) := by decide +kernel
theorem dX10_passAll_282 : decode cX10_passAll 282 = .ok (.iload_n 1, 1) := by decide +kernel
theorem dX10_passAll_283 : decode cX10_passAll 283 = .ok (.aload_n 0, 1) := by decide +kernel
theorem dX10_passAll_284 : decode cX10_passAll 284 = .ok (.aload_n 0, 1) := by decide +kernel
theorem dX10_passAll_285 : decode cX10_passAll 285 = .ok (.getfield 43, 3) := by decide +kernel
theorem dX10_passAll_288 : decode cX10_passAll 288 = .ok (.iload_n 1, 1) := by decide +kernel
theorem dX10_passAll_289 : decode cX10_passAll 289 = .ok (.iaload, 1) := by decide +kernel
theorem dX10_passAll_290 : decode cX10_passAll 290 = .ok (.invokevirtual 312, 3) := by decide +kernel
theorem dX10_passAll_293 : decode cX10_passAll 293 = .ok (.iastore, 1) := by decide +kernel
theorem dX10_passAll_294 : decode cX10_passAll 294 = .ok (.aload_n 0, 1) := by decide +kernel
theorem dX10_passAll_295 : decode cX10_passAll 295 = .ok (.getfield 46, 3) := by decide +kernel
theorem dX10_passAll_298 : decode cX10_passAll 298 = .ok (.iload_n 1, 1) := by decide +kernel
theorem dX10_passAll_299 : decode cX10_passAll 299 = .ok (.aload_n 0, 1) := by decide +kernel
theorem dX10_passAll_300 : decode cX10_passAll 300 = .ok (.aload_n 0, 1) := by decide +kernel
theorem dX10_passAll_301 : decode cX10_passAll 301 = .ok (.getfield 46, 3) := by decide +kernel
theorem dX10_passAll_304 : decode cX10_passAll 304 = .ok (.iload_n 1, 1) := by decide +kernel
theorem dX10_passAll_305 : decode cX10_passAll 305 = .ok (.iaload, 1) := by decide +kernel
theorem dX10_passAll_306 : decode cX10_passAll 306 = .ok (.invokevirtual 312, 3) := by decide +kernel
theorem dX10_passAll_309 : decode cX10_passAll 309 = .ok (.iastore, 1) := by decide +kernel
theorem dX10_passAll_310 : decode cX10_passAll 310 = .ok (.iinc 1 1, 3) := by decide +kernel
theorem dX10_passAll_313 : decode cX10_passAll 313 = .ok (.goto (-41), 3) := by decide +kernel
theorem dX10_passAll_316 : decode cX10_passAll 316 = .ok (.return_, 1) := by decide +kernel
theorem dX10_image_0 : decode cX10_image 0 = .ok (.iload_n 1, 1) := by decide +kernel
theorem dX10_image_1 : decode cX10_image 1 = .ok (.invokestatic 124, 3) := by decide +kernel
theorem dX10_image_4 : decode cX10_image 4 = .ok (.ifCond .ne 6, 3) := by decide +kernel
theorem dX10_image_7 : decode cX10_image 7 = .ok (.bipush (-2), 2) := by decide +kernel
theorem dX10_image_9 : decode cX10_image 9 = .ok (.ireturn, 1) := by decide +kernel
theorem dX10_image_10 : decode cX10_image 10 = .ok (.aload_n 0, 1) := by decide +kernel
theorem dX10_image_11 : decode cX10_image 11 = .ok (.sipush 700, 3) := by decide +kernel
theorem dX10_image_14 : decode cX10_image 14 = .ok (.iload_n 1, 1) := by decide +kernel
theorem dX10_image_15 : decode cX10_image 15 = .ok (.imul, 1) := by decide +kernel
theorem dX10_image_16 : decode cX10_image 16 = .ok (.putfield 309, 3) := by decide +kernel
theorem dX10_image_19 : decode cX10_image 19 = .ok (.aload_n 0, 1) := by decide +kernel
theorem dX10_image_20 : decode cX10_image 20 = .ok (.iconst 1, 1) := by decide +kernel
theorem dX10_image_21 : decode cX10_image 21 = .ok (.putfield 305, 3) := by decide +kernel
theorem dX10_image_24 : decode cX10_image 24 = .ok (.aload_n 0, 1) := by decide +kernel
theorem dX10_image_25 : decode cX10_image 25 = .ok (.invokevirtual 315, 3) := by decide +kernel
theorem dX10_image_28 : decode cX10_image 28 = .ok (.aload_n 0, 1) := by decide +kernel
theorem dX10_image_29 : decode cX10_image 29 = .ok (.getfield 58, 3) := by decide +kernel
theorem dX10_image_32 : decode cX10_image 32 = .ok (.iload_n 1, 1) := by decide +kernel
theorem dX10_image_33 : decode cX10_image 33 = .ok (.iconst 1, 1) := by decide +kernel
theorem dX10_image_34 : decode cX10_image 34 = .ok (.bastore, 1) := by decide +kernel
theorem dX10_image_35 : decode cX10_image 35 = .ok (.iconst 1, 1) := by decide +kernel
theorem dX10_image_36 : decode cX10_image 36 = .ok (.ireturn, 1) := by decide +kernel
theorem dX10_restore_0 : decode cX10_restore 0 = .ok (.iload_n 1, 1) := by decide +kernel
theorem dX10_restore_1 : decode cX10_restore 1 = .ok (.invokestatic 124, 3) := by decide +kernel
theorem dX10_restore_4 : decode cX10_restore 4 = .ok (.ifCond .ne 6, 3) := by decide +kernel
theorem dX10_restore_7 : decode cX10_restore 7 = .ok (.bipush (-2), 2) := by decide +kernel
theorem dX10_restore_9 : decode cX10_restore 9 = .ok (.ireturn, 1) := by decide +kernel
theorem dX10_restore_10 : decode cX10_restore 10 = .ok (.aload_n 0, 1) := by decide +kernel
theorem dX10_restore_11 : decode cX10_restore 11 = .ok (.getfield 58, 3) := by decide +kernel
theorem dX10_restore_14 : decode cX10_restore 14 = .ok (.iload_n 1, 1) := by decide +kernel
theorem dX10_restore_15 : decode cX10_restore 15 = .ok (.baload, 1) := by decide +kernel
theorem dX10_restore_16 : decode cX10_restore 16 = .ok (.ifCond .ne 6, 3) := by decide +kernel
theorem dX10_restore_19 : decode cX10_restore 19 = .ok (.bipush (-3), 2) := by decide +kernel
theorem dX10_restore_21 : decode cX10_restore 21 = .ok (.ireturn, 1) := by decide +kernel
theorem dX10_restore_22 : decode cX10_restore 22 = .ok (.aload_n 0, 1) := by decide +kernel
theorem dX10_restore_23 : decode cX10_restore 23 = .ok (.sipush 700, 3) := by decide +kernel
theorem dX10_restore_26 : decode cX10_restore 26 = .ok (.iload_n 1, 1) := by decide +kernel
theorem dX10_restore_27 : decode cX10_restore 27 = .ok (.imul, 1) := by decide +kernel
theorem dX10_restore_28 : decode cX10_restore 28 = .ok (.putfield 309, 3) := by decide +kernel
theorem dX10_restore_31 : decode cX10_restore 31 = .ok (.aload_n 0, 1) := by decide +kernel
theorem dX10_restore_32 : decode cX10_restore 32 = .ok (.iconst 0, 1) := by decide +kernel
theorem dX10_restore_33 : decode cX10_restore 33 = .ok (.putfield 305, 3) := by decide +kernel
theorem dX10_restore_36 : decode cX10_restore 36 = .ok (.aload_n 0, 1) := by decide +kernel
theorem dX10_restore_37 : decode cX10_restore 37 = .ok (.invokevirtual 315, 3) := by decide +kernel
theorem dX10_restore_40 : decode cX10_restore 40 = .ok (.iconst 1, 1) := by decide +kernel
theorem dX10_restore_41 : decode cX10_restore 41 = .ok (.ireturn, 1) := by decide +kernel
theorem dX10_told_0 : decode cX10_told 0 = .ok (.iload_n 1, 1) := by decide +kernel
theorem dX10_told_1 : decode cX10_told 1 = .ok (.i2l, 1) := by decide +kernel
theorem dX10_told_2 : decode cX10_told 2 = .ok (.ldc2_w 299, 3) := by decide +kernel
theorem dX10_told_5 : decode cX10_told 5 = .ok (.ldc2_w 318, 3) := by decide +kernel
theorem dX10_told_8 : decode cX10_told 8 = .ok (.invokestatic 64, 3) := by decide +kernel
theorem dX10_told_11 : decode cX10_told 11 = .ok (.ifCond .eq 12, 3) := by decide +kernel
theorem dX10_told_14 : decode cX10_told 14 = .ok (.aload_n 0, 1) := by decide +kernel
theorem dX10_told_15 : decode cX10_told 15 = .ok (.getfield 22, 3) := by decide +kernel
theorem dX10_told_18 : decode cX10_told 18 = .ok (.iload_n 1, 1) := by decide +kernel
theorem dX10_told_19 : decode cX10_told 19 = .ok (.iconst 3, 1) := by decide +kernel
theorem dX10_told_20 : decode cX10_told 20 = .ok (.isub, 1) := by decide +kernel
theorem dX10_told_21 : decode cX10_told 21 = .ok (.iaload, 1) := by decide +kernel
theorem dX10_told_22 : decode cX10_told 22 = .ok (.ireturn, 1) := by decide +kernel
theorem dX10_told_23 : decode cX10_told 23 = .ok (.iload_n 1, 1) := by decide +kernel
theorem dX10_told_24 : decode cX10_told 24 = .ok (.i2l, 1) := by decide +kernel
theorem dX10_told_25 : decode cX10_told 25 = .ok (.ldc2_w 101, 3) := by decide +kernel
theorem dX10_told_28 : decode cX10_told 28 = .ok (.ldc2_w 320, 3) := by decide +kernel
theorem dX10_told_31 : decode cX10_told 31 = .ok (.invokestatic 64, 3) := by decide +kernel
theorem dX10_told_34 : decode cX10_told 34 = .ok (.ifCond .eq 12, 3) := by decide +kernel
theorem dX10_told_37 : decode cX10_told 37 = .ok (.aload_n 0, 1) := by decide +kernel
theorem dX10_told_38 : decode cX10_told 38 = .ok (.iload_n 1, 1) := by decide +kernel
theorem dX10_told_39 : decode cX10_told 39 = .ok (.bipush 10, 2) := by decide +kernel
theorem dX10_told_41 : decode cX10_told 41 = .ok (.isub, 1) := by decide +kernel
theorem dX10_told_42 : decode cX10_told 42 = .ok (.invokevirtual 172, 3) := by decide +kernel
theorem dX10_told_45 : decode cX10_told 45 = .ok (.ireturn, 1) := by decide +kernel
theorem dX10_told_46 : decode cX10_told 46 = .ok (.iload_n 1, 1) := by decide +kernel
theorem dX10_told_47 : decode cX10_told 47 = .ok (.i2l, 1) := by decide +kernel
theorem dX10_told_48 : decode cX10_told 48 = .ok (.ldc2_w 322, 3) := by decide +kernel
theorem dX10_told_51 : decode cX10_told 51 = .ok (.ldc2_w 324, 3) := by decide +kernel
theorem dX10_told_54 : decode cX10_told 54 = .ok (.invokestatic 64, 3) := by decide +kernel
theorem dX10_told_57 : decode cX10_told 57 = .ok (.ifCond .eq 13, 3) := by decide +kernel
theorem dX10_told_60 : decode cX10_told 60 = .ok (.aload_n 0, 1) := by decide +kernel
theorem dX10_told_61 : decode cX10_told 61 = .ok (.getfield 13, 3) := by decide +kernel
theorem dX10_told_64 : decode cX10_told 64 = .ok (.iload_n 1, 1) := by decide +kernel
theorem dX10_told_65 : decode cX10_told 65 = .ok (.bipush 20, 2) := by decide +kernel
theorem dX10_told_67 : decode cX10_told 67 = .ok (.isub, 1) := by decide +kernel
theorem dX10_told_68 : decode cX10_told 68 = .ok (.iaload, 1) := by decide +kernel
theorem dX10_told_69 : decode cX10_told 69 = .ok (.ireturn, 1) := by decide +kernel
theorem dX10_told_70 : decode cX10_told 70 = .ok (.iload_n 1, 1) := by decide +kernel
theorem dX10_told_71 : decode cX10_told 71 = .ok (.i2l, 1) := by decide +kernel
theorem dX10_told_72 : decode cX10_told 72 = .ok (.ldc2_w 326, 3) := by decide +kernel
theorem dX10_told_75 : decode cX10_told 75 = .ok (.ldc2_w 328, 3) := by decide +kernel
theorem dX10_told_78 : decode cX10_told 78 = .ok (.invokestatic 64, 3) := by decide +kernel
theorem dX10_told_81 : decode cX10_told 81 = .ok (.ifCond .eq 13, 3) := by decide +kernel
theorem dX10_told_84 : decode cX10_told 84 = .ok (.aload_n 0, 1) := by decide +kernel
theorem dX10_told_85 : decode cX10_told 85 = .ok (.getfield 16, 3) := by decide +kernel
theorem dX10_told_88 : decode cX10_told 88 = .ok (.iload_n 1, 1) := by decide +kernel
theorem dX10_told_89 : decode cX10_told 89 = .ok (.bipush 30, 2) := by decide +kernel
theorem dX10_told_91 : decode cX10_told 91 = .ok (.isub, 1) := by decide +kernel
theorem dX10_told_92 : decode cX10_told 92 = .ok (.iaload, 1) := by decide +kernel
theorem dX10_told_93 : decode cX10_told 93 = .ok (.ireturn, 1) := by decide +kernel
theorem dX10_told_94 : decode cX10_told 94 = .ok (.iload_n 1, 1) := by decide +kernel
theorem dX10_told_95 : decode cX10_told 95 = .ok (.i2l, 1) := by decide +kernel
theorem dX10_told_96 : decode cX10_told 96 = .ok (.ldc2_w 95, 3) := by decide +kernel
theorem dX10_told_99 : decode cX10_told 99 = .ok (.ldc2_w 330, 3) := by decide +kernel
theorem dX10_told_102 : decode cX10_told 102 = .ok (.invokestatic 64, 3) := by decide +kernel
theorem dX10_told_105 : decode cX10_told 105 = .ok (.ifCond .eq 13, 3) := by decide +kernel
theorem dX10_told_108 : decode cX10_told 108 = .ok (.aload_n 0, 1) := by decide +kernel
theorem dX10_told_109 : decode cX10_told 109 = .ok (.getfield 19, 3) := by decide +kernel
theorem dX10_told_112 : decode cX10_told 112 = .ok (.iload_n 1, 1) := by decide +kernel
theorem dX10_told_113 : decode cX10_told 113 = .ok (.bipush 40, 2) := by decide +kernel
theorem dX10_told_115 : decode cX10_told 115 = .ok (.isub, 1) := by decide +kernel
theorem dX10_told_116 : decode cX10_told 116 = .ok (.iaload, 1) := by decide +kernel
theorem dX10_told_117 : decode cX10_told 117 = .ok (.ireturn, 1) := by decide +kernel
theorem dX10_told_118 : decode cX10_told 118 = .ok (.iload_n 1, 1) := by decide +kernel
theorem dX10_told_119 : decode cX10_told 119 = .ok (.ifCond .ne 10, 3) := by decide +kernel
theorem dX10_told_122 : decode cX10_told 122 = .ok (.aload_n 0, 1) := by decide +kernel
theorem dX10_told_123 : decode cX10_told 123 = .ok (.getfield 107, 3) := by decide +kernel
theorem dX10_told_126 : decode cX10_told 126 = .ok (.goto 29, 3) := by decide +kernel
theorem dX10_told_129 : decode cX10_told 129 = .ok (.iload_n 1, 1) := by decide +kernel
theorem dX10_told_130 : decode cX10_told 130 = .ok (.iconst 1, 1) := by decide +kernel
theorem dX10_told_131 : decode cX10_told 131 = .ok (.if_icmp .ne 10, 3) := by decide +kernel
theorem dX10_told_134 : decode cX10_told 134 = .ok (.aload_n 0, 1) := by decide +kernel
theorem dX10_told_135 : decode cX10_told 135 = .ok (.getfield 131, 3) := by decide +kernel
theorem dX10_told_138 : decode cX10_told 138 = .ok (.goto 17, 3) := by decide +kernel
theorem dX10_told_141 : decode cX10_told 141 = .ok (.iload_n 1, 1) := by decide +kernel
theorem dX10_told_142 : decode cX10_told 142 = .ok (.iconst 2, 1) := by decide +kernel
theorem dX10_told_143 : decode cX10_told 143 = .ok (.if_icmp .ne 10, 3) := by decide +kernel
theorem dX10_told_146 : decode cX10_told 146 = .ok (.aload_n 0, 1) := by decide +kernel
theorem dX10_told_147 : decode cX10_told 147 = .ok (.getfield 137, 3) := by decide +kernel
theorem dX10_told_150 : decode cX10_told 150 = .ok (.goto 5, 3) := by decide +kernel
theorem dX10_told_153 : decode cX10_told 153 = .ok (.bipush (-2), 2) := by decide +kernel
theorem dX10_told_155 : decode cX10_told 155 = .ok (.ireturn, 1) := by decide +kernel
theorem dJ9_abs_0f7a4_0 : decode cJ9_abs_0f7a4 0 = .ok (.iload_n 0, 1) := by decide +kernel
theorem dJ9_abs_0f7a4_1 : decode cJ9_abs_0f7a4 1 = .ok (.ifCond .ge 8, 3) := by decide +kernel
theorem dJ9_abs_0f7a4_4 : decode cJ9_abs_0f7a4 4 = .ok (.iload_n 0, 1) := by decide +kernel
theorem dJ9_abs_0f7a4_5 : decode cJ9_abs_0f7a4 5 = .ok (.ineg, 1) := by decide +kernel
theorem dJ9_abs_0f7a4_6 : decode cJ9_abs_0f7a4 6 = .ok (.goto 4, 3) := by decide +kernel
theorem dJ9_abs_0f7a4_9 : decode cJ9_abs_0f7a4 9 = .ok (.iload_n 0, 1) := by decide +kernel
theorem dJ9_abs_0f7a4_10 : decode cJ9_abs_0f7a4 10 = .ok (.ireturn, 1) := by decide +kernel
theorem dJ9_abs_067f4_0 : decode cJ9_abs_067f4 0 = .ok (.lload_n 0, 1) := by decide +kernel
theorem dJ9_abs_067f4_1 : decode cJ9_abs_067f4 1 = .ok (.lconst 0, 1) := by decide +kernel
theorem dJ9_abs_067f4_2 : decode cJ9_abs_067f4 2 = .ok (.lcmp, 1) := by decide +kernel
theorem dJ9_abs_067f4_3 : decode cJ9_abs_067f4 3 = .ok (.ifCond .ge 8, 3) := by decide +kernel
theorem dJ9_abs_067f4_6 : decode cJ9_abs_067f4 6 = .ok (.lload_n 0, 1) := by decide +kernel
theorem dJ9_abs_067f4_7 : decode cJ9_abs_067f4 7 = .ok (.lneg, 1) := by decide +kernel
theorem dJ9_abs_067f4_8 : decode cJ9_abs_067f4 8 = .ok (.goto 4, 3) := by decide +kernel
theorem dJ9_abs_067f4_11 : decode cJ9_abs_067f4 11 = .ok (.lload_n 0, 1) := by decide +kernel
theorem dJ9_abs_067f4_12 : decode cJ9_abs_067f4 12 = .ok (.lreturn, 1) := by decide +kernel
theorem dJ9_max_7cf53_0 : decode cJ9_max_7cf53 0 = .ok (.iload_n 0, 1) := by decide +kernel
theorem dJ9_max_7cf53_1 : decode cJ9_max_7cf53 1 = .ok (.iload_n 1, 1) := by decide +kernel
theorem dJ9_max_7cf53_2 : decode cJ9_max_7cf53 2 = .ok (.if_icmp .lt 7, 3) := by decide +kernel
theorem dJ9_max_7cf53_5 : decode cJ9_max_7cf53 5 = .ok (.iload_n 0, 1) := by decide +kernel
theorem dJ9_max_7cf53_6 : decode cJ9_max_7cf53 6 = .ok (.goto 4, 3) := by decide +kernel
theorem dJ9_max_7cf53_9 : decode cJ9_max_7cf53 9 = .ok (.iload_n 1, 1) := by decide +kernel
theorem dJ9_max_7cf53_10 : decode cJ9_max_7cf53 10 = .ok (.ireturn, 1) := by decide +kernel
theorem dJ9_max_f86c9_0 : decode cJ9_max_f86c9 0 = .ok (.lload_n 0, 1) := by decide +kernel
theorem dJ9_max_f86c9_1 : decode cJ9_max_f86c9 1 = .ok (.lload_n 2, 1) := by decide +kernel
theorem dJ9_max_f86c9_2 : decode cJ9_max_f86c9 2 = .ok (.lcmp, 1) := by decide +kernel
theorem dJ9_max_f86c9_3 : decode cJ9_max_f86c9 3 = .ok (.ifCond .lt 7, 3) := by decide +kernel
theorem dJ9_max_f86c9_6 : decode cJ9_max_f86c9 6 = .ok (.lload_n 0, 1) := by decide +kernel
theorem dJ9_max_f86c9_7 : decode cJ9_max_f86c9 7 = .ok (.goto 4, 3) := by decide +kernel
theorem dJ9_max_f86c9_10 : decode cJ9_max_f86c9 10 = .ok (.lload_n 2, 1) := by decide +kernel
theorem dJ9_max_f86c9_11 : decode cJ9_max_f86c9 11 = .ok (.lreturn, 1) := by decide +kernel
theorem dJ9_min_7cf53_0 : decode cJ9_min_7cf53 0 = .ok (.iload_n 0, 1) := by decide +kernel
theorem dJ9_min_7cf53_1 : decode cJ9_min_7cf53 1 = .ok (.iload_n 1, 1) := by decide +kernel
theorem dJ9_min_7cf53_2 : decode cJ9_min_7cf53 2 = .ok (.if_icmp .gt 7, 3) := by decide +kernel
theorem dJ9_min_7cf53_5 : decode cJ9_min_7cf53 5 = .ok (.iload_n 0, 1) := by decide +kernel
theorem dJ9_min_7cf53_6 : decode cJ9_min_7cf53 6 = .ok (.goto 4, 3) := by decide +kernel
theorem dJ9_min_7cf53_9 : decode cJ9_min_7cf53 9 = .ok (.iload_n 1, 1) := by decide +kernel
theorem dJ9_min_7cf53_10 : decode cJ9_min_7cf53 10 = .ok (.ireturn, 1) := by decide +kernel
theorem dJ7_fill_53178_0 : decode cJ7_fill_53178 0 = .ok (.iconst 0, 1) := by decide +kernel
theorem dJ7_fill_53178_1 : decode cJ7_fill_53178 1 = .ok (.istore_n 2, 1) := by decide +kernel
theorem dJ7_fill_53178_2 : decode cJ7_fill_53178 2 = .ok (.aload_n 0, 1) := by decide +kernel
theorem dJ7_fill_53178_3 : decode cJ7_fill_53178 3 = .ok (.arraylength, 1) := by decide +kernel
theorem dJ7_fill_53178_4 : decode cJ7_fill_53178 4 = .ok (.istore_n 3, 1) := by decide +kernel
theorem dJ7_fill_53178_5 : decode cJ7_fill_53178 5 = .ok (.iload_n 2, 1) := by decide +kernel
theorem dJ7_fill_53178_6 : decode cJ7_fill_53178 6 = .ok (.iload_n 3, 1) := by decide +kernel
theorem dJ7_fill_53178_7 : decode cJ7_fill_53178 7 = .ok (.if_icmp .ge 13, 3) := by decide +kernel
theorem dJ7_fill_53178_10 : decode cJ7_fill_53178 10 = .ok (.aload_n 0, 1) := by decide +kernel
theorem dJ7_fill_53178_11 : decode cJ7_fill_53178 11 = .ok (.iload_n 2, 1) := by decide +kernel
theorem dJ7_fill_53178_12 : decode cJ7_fill_53178 12 = .ok (.iload_n 1, 1) := by decide +kernel
theorem dJ7_fill_53178_13 : decode cJ7_fill_53178 13 = .ok (.iastore, 1) := by decide +kernel
theorem dJ7_fill_53178_14 : decode cJ7_fill_53178 14 = .ok (.iinc 2 1, 3) := by decide +kernel
theorem dJ7_fill_53178_17 : decode cJ7_fill_53178 17 = .ok (.goto (-12), 3) := by decide +kernel
theorem dJ7_fill_53178_20 : decode cJ7_fill_53178 20 = .ok (.return_, 1) := by decide +kernel
theorem dL_law_0 : decode cL_law 0 = .ok (.new 7, 3) := by decide +kernel
theorem dL_law_3 : decode cL_law 3 = .ok (.dup, 1) := by decide +kernel
theorem dL_law_4 : decode cL_law 4 = .ok (.invokespecial 9, 3) := by decide +kernel
theorem dL_law_7 : decode cL_law 7 = .ok (.astore_n 1, 1) := by decide +kernel
theorem dL_law_8 : decode cL_law 8 = .ok (.new 10, 3) := by decide +kernel
theorem dL_law_11 : decode cL_law 11 = .ok (.dup, 1) := by decide +kernel
theorem dL_law_12 : decode cL_law 12 = .ok (.invokespecial 12, 3) := by decide +kernel
theorem dL_law_15 : decode cL_law 15 = .ok (.astore_n 2, 1) := by decide +kernel
theorem dL_law_16 : decode cL_law 16 = .ok (.iconst 0, 1) := by decide +kernel
theorem dL_law_17 : decode cL_law 17 = .ok (.istore_n 3, 1) := by decide +kernel
theorem dL_law_18 : decode cL_law 18 = .ok (.iload_n 3, 1) := by decide +kernel
theorem dL_law_19 : decode cL_law 19 = .ok (.aload_n 0, 1) := by decide +kernel
theorem dL_law_20 : decode cL_law 20 = .ok (.arraylength, 1) := by decide +kernel
theorem dL_law_21 : decode cL_law 21 = .ok (.bipush 9, 2) := by decide +kernel
theorem dL_law_23 : decode cL_law 23 = .ok (.isub, 1) := by decide +kernel
theorem dL_law_24 : decode cL_law 24 = .ok (.if_icmp .gt 1713, 3) := by decide +kernel
theorem dL_law_27 : decode cL_law 27 = .ok (.aload_n 0, 1) := by decide +kernel
theorem dL_law_28 : decode cL_law 28 = .ok (.iload_n 3, 1) := by decide +kernel
theorem dL_law_29 : decode cL_law 29 = .ok (.iaload, 1) := by decide +kernel
theorem dL_law_30 : decode cL_law 30 = .ok (.bipush 63, 2) := by decide +kernel
theorem dL_law_32 : decode cL_law 32 = .ok (.iand, 1) := by decide +kernel
theorem dL_law_33 : decode cL_law 33 = .ok (.tableswitch 1698 0 32 #[147, 190, 233, 266, 289, 302, 325, 348, 371, 414, 478, 531, 574, 627, 670, 724, 800, 834, 878, 922, 998, 1086, 1186, 1220, 1243, 1297, 1351, 1404, 1467, 1554, 1629, 1652, 1675], 147) := by decide +kernel
theorem dL_law_180 : decode cL_law 180 = .ok (.aload_n 1, 1) := by decide +kernel
theorem dL_law_181 : decode cL_law 181 = .ok (.aload_n 0, 1) := by decide +kernel
theorem dL_law_182 : decode cL_law 182 = .ok (.iload_n 3, 1) := by decide +kernel
theorem dL_law_183 : decode cL_law 183 = .ok (.iconst 1, 1) := by decide +kernel
theorem dL_law_184 : decode cL_law 184 = .ok (.iadd, 1) := by decide +kernel
theorem dL_law_185 : decode cL_law 185 = .ok (.iaload, 1) := by decide +kernel
theorem dL_law_186 : decode cL_law 186 = .ok (.aload_n 0, 1) := by decide +kernel
theorem dL_law_187 : decode cL_law 187 = .ok (.iload_n 3, 1) := by decide +kernel
theorem dL_law_188 : decode cL_law 188 = .ok (.iconst 2, 1) := by decide +kernel
theorem dL_law_189 : decode cL_law 189 = .ok (.iadd, 1) := by decide +kernel
theorem dL_law_190 : decode cL_law 190 = .ok (.iaload, 1) := by decide +kernel
theorem dL_law_191 : decode cL_law 191 = .ok (.aload_n 0, 1) := by decide +kernel
theorem dL_law_192 : decode cL_law 192 = .ok (.iload_n 3, 1) := by decide +kernel
theorem dL_law_193 : decode cL_law 193 = .ok (.iconst 3, 1) := by decide +kernel
theorem dL_law_194 : decode cL_law 194 = .ok (.iadd, 1) := by decide +kernel
theorem dL_law_195 : decode cL_law 195 = .ok (.iaload, 1) := by decide +kernel
theorem dL_law_196 : decode cL_law 196 = .ok (.invokevirtual 13, 3) := by decide +kernel
theorem dL_law_199 : decode cL_law 199 = .ok (.aload_n 2, 1) := by decide +kernel
theorem dL_law_200 : decode cL_law 200 = .ok (.aload_n 0, 1) := by decide +kernel
theorem dL_law_201 : decode cL_law 201 = .ok (.iload_n 3, 1) := by decide +kernel
theorem dL_law_202 : decode cL_law 202 = .ok (.iconst 1, 1) := by decide +kernel
theorem dL_law_203 : decode cL_law 203 = .ok (.iadd, 1) := by decide +kernel
theorem dL_law_204 : decode cL_law 204 = .ok (.iaload, 1) := by decide +kernel
theorem dL_law_205 : decode cL_law 205 = .ok (.aload_n 0, 1) := by decide +kernel
theorem dL_law_206 : decode cL_law 206 = .ok (.iload_n 3, 1) := by decide +kernel
theorem dL_law_207 : decode cL_law 207 = .ok (.iconst 2, 1) := by decide +kernel
theorem dL_law_208 : decode cL_law 208 = .ok (.iadd, 1) := by decide +kernel
theorem dL_law_209 : decode cL_law 209 = .ok (.iaload, 1) := by decide +kernel
theorem dL_law_210 : decode cL_law 210 = .ok (.aload_n 0, 1) := by decide +kernel
theorem dL_law_211 : decode cL_law 211 = .ok (.iload_n 3, 1) := by decide +kernel
theorem dL_law_212 : decode cL_law 212 = .ok (.iconst 3, 1) := by decide +kernel
theorem dL_law_213 : decode cL_law 213 = .ok (.iadd, 1) := by decide +kernel
theorem dL_law_214 : decode cL_law 214 = .ok (.iaload, 1) := by decide +kernel
theorem dL_law_215 : decode cL_law 215 = .ok (.invokevirtual 17, 3) := by decide +kernel
theorem dL_law_218 : decode cL_law 218 = .ok (.if_icmp .eq 1513, 3) := by decide +kernel
theorem dL_law_221 : decode cL_law 221 = .ok (.iconst 0, 1) := by decide +kernel
theorem dL_law_222 : decode cL_law 222 = .ok (.ireturn, 1) := by decide +kernel
theorem dL_law_223 : decode cL_law 223 = .ok (.aload_n 1, 1) := by decide +kernel
theorem dL_law_224 : decode cL_law 224 = .ok (.aload_n 0, 1) := by decide +kernel
theorem dL_law_225 : decode cL_law 225 = .ok (.iload_n 3, 1) := by decide +kernel
theorem dL_law_226 : decode cL_law 226 = .ok (.iconst 1, 1) := by decide +kernel
theorem dL_law_227 : decode cL_law 227 = .ok (.iadd, 1) := by decide +kernel
theorem dL_law_228 : decode cL_law 228 = .ok (.iaload, 1) := by decide +kernel
theorem dL_law_229 : decode cL_law 229 = .ok (.aload_n 0, 1) := by decide +kernel
theorem dL_law_230 : decode cL_law 230 = .ok (.iload_n 3, 1) := by decide +kernel
theorem dL_law_231 : decode cL_law 231 = .ok (.iconst 2, 1) := by decide +kernel
theorem dL_law_232 : decode cL_law 232 = .ok (.iadd, 1) := by decide +kernel
theorem dL_law_233 : decode cL_law 233 = .ok (.iaload, 1) := by decide +kernel
theorem dL_law_234 : decode cL_law 234 = .ok (.aload_n 0, 1) := by decide +kernel
theorem dL_law_235 : decode cL_law 235 = .ok (.iload_n 3, 1) := by decide +kernel
theorem dL_law_236 : decode cL_law 236 = .ok (.iconst 3, 1) := by decide +kernel
theorem dL_law_237 : decode cL_law 237 = .ok (.iadd, 1) := by decide +kernel
theorem dL_law_238 : decode cL_law 238 = .ok (.iaload, 1) := by decide +kernel
theorem dL_law_239 : decode cL_law 239 = .ok (.invokevirtual 18, 3) := by decide +kernel
theorem dL_law_242 : decode cL_law 242 = .ok (.aload_n 2, 1) := by decide +kernel
theorem dL_law_243 : decode cL_law 243 = .ok (.aload_n 0, 1) := by decide +kernel
theorem dL_law_244 : decode cL_law 244 = .ok (.iload_n 3, 1) := by decide +kernel
theorem dL_law_245 : decode cL_law 245 = .ok (.iconst 1, 1) := by decide +kernel
theorem dL_law_246 : decode cL_law 246 = .ok (.iadd, 1) := by decide +kernel
theorem dL_law_247 : decode cL_law 247 = .ok (.iaload, 1) := by decide +kernel
theorem dL_law_248 : decode cL_law 248 = .ok (.aload_n 0, 1) := by decide +kernel
theorem dL_law_249 : decode cL_law 249 = .ok (.iload_n 3, 1) := by decide +kernel
theorem dL_law_250 : decode cL_law 250 = .ok (.iconst 2, 1) := by decide +kernel
theorem dL_law_251 : decode cL_law 251 = .ok (.iadd, 1) := by decide +kernel
theorem dL_law_252 : decode cL_law 252 = .ok (.iaload, 1) := by decide +kernel
theorem dL_law_253 : decode cL_law 253 = .ok (.aload_n 0, 1) := by decide +kernel
theorem dL_law_254 : decode cL_law 254 = .ok (.iload_n 3, 1) := by decide +kernel
theorem dL_law_255 : decode cL_law 255 = .ok (.iconst 3, 1) := by decide +kernel
theorem dL_law_256 : decode cL_law 256 = .ok (.iadd, 1) := by decide +kernel
theorem dL_law_257 : decode cL_law 257 = .ok (.iaload, 1) := by decide +kernel
theorem dL_law_258 : decode cL_law 258 = .ok (.invokevirtual 21, 3) := by decide +kernel
theorem dL_law_261 : decode cL_law 261 = .ok (.if_icmp .eq 1470, 3) := by decide +kernel
theorem dL_law_264 : decode cL_law 264 = .ok (.iconst 0, 1) := by decide +kernel
theorem dL_law_265 : decode cL_law 265 = .ok (.ireturn, 1) := by decide +kernel
theorem dL_law_266 : decode cL_law 266 = .ok (.aload_n 1, 1) := by decide +kernel
theorem dL_law_267 : decode cL_law 267 = .ok (.aload_n 0, 1) := by decide +kernel
theorem dL_law_268 : decode cL_law 268 = .ok (.iload_n 3, 1) := by decide +kernel
theorem dL_law_269 : decode cL_law 269 = .ok (.iconst 1, 1) := by decide +kernel
theorem dL_law_270 : decode cL_law 270 = .ok (.iadd, 1) := by decide +kernel
theorem dL_law_271 : decode cL_law 271 = .ok (.iaload, 1) := by decide +kernel
theorem dL_law_272 : decode cL_law 272 = .ok (.aload_n 0, 1) := by decide +kernel
theorem dL_law_273 : decode cL_law 273 = .ok (.iload_n 3, 1) := by decide +kernel
theorem dL_law_274 : decode cL_law 274 = .ok (.iconst 2, 1) := by decide +kernel
theorem dL_law_275 : decode cL_law 275 = .ok (.iadd, 1) := by decide +kernel
theorem dL_law_276 : decode cL_law 276 = .ok (.iaload, 1) := by decide +kernel
theorem dL_law_277 : decode cL_law 277 = .ok (.invokevirtual 22, 3) := by decide +kernel
theorem dL_law_280 : decode cL_law 280 = .ok (.aload_n 2, 1) := by decide +kernel
theorem dL_law_281 : decode cL_law 281 = .ok (.aload_n 0, 1) := by decide +kernel
theorem dL_law_282 : decode cL_law 282 = .ok (.iload_n 3, 1) := by decide +kernel
theorem dL_law_283 : decode cL_law 283 = .ok (.iconst 1, 1) := by decide +kernel
theorem dL_law_284 : decode cL_law 284 = .ok (.iadd, 1) := by decide +kernel
theorem dL_law_285 : decode cL_law 285 = .ok (.iaload, 1) := by decide +kernel
theorem dL_law_286 : decode cL_law 286 = .ok (.aload_n 0, 1) := by decide +kernel
theorem dL_law_287 : decode cL_law 287 = .ok (.iload_n 3, 1) := by decide +kernel
theorem dL_law_288 : decode cL_law 288 = .ok (.iconst 2, 1) := by decide +kernel
theorem dL_law_289 : decode cL_law 289 = .ok (.iadd, 1) := by decide +kernel
theorem dL_law_290 : decode cL_law 290 = .ok (.iaload, 1) := by decide +kernel
theorem dL_law_291 : decode cL_law 291 = .ok (.invokevirtual 26, 3) := by decide +kernel
theorem dL_law_294 : decode cL_law 294 = .ok (.if_icmp .eq 1437, 3) := by decide +kernel
theorem dL_law_297 : decode cL_law 297 = .ok (.iconst 0, 1) := by decide +kernel
theorem dL_law_298 : decode cL_law 298 = .ok (.ireturn, 1) := by decide +kernel
theorem dL_law_299 : decode cL_law 299 = .ok (.aload_n 1, 1) := by decide +kernel
theorem dL_law_300 : decode cL_law 300 = .ok (.aload_n 0, 1) := by decide +kernel
theorem dL_law_301 : decode cL_law 301 = .ok (.iload_n 3, 1) := by decide +kernel
theorem dL_law_302 : decode cL_law 302 = .ok (.iconst 1, 1) := by decide +kernel
theorem dL_law_303 : decode cL_law 303 = .ok (.iadd, 1) := by decide +kernel
theorem dL_law_304 : decode cL_law 304 = .ok (.iaload, 1) := by decide +kernel
theorem dL_law_305 : decode cL_law 305 = .ok (.invokevirtual 27, 3) := by decide +kernel
theorem dL_law_308 : decode cL_law 308 = .ok (.aload_n 2, 1) := by decide +kernel
theorem dL_law_309 : decode cL_law 309 = .ok (.aload_n 0, 1) := by decide +kernel
theorem dL_law_310 : decode cL_law 310 = .ok (.iload_n 3, 1) := by decide +kernel
theorem dL_law_311 : decode cL_law 311 = .ok (.iconst 1, 1) := by decide +kernel
theorem dL_law_312 : decode cL_law 312 = .ok (.iadd, 1) := by decide +kernel
theorem dL_law_313 : decode cL_law 313 = .ok (.iaload, 1) := by decide +kernel
theorem dL_law_314 : decode cL_law 314 = .ok (.invokevirtual 31, 3) := by decide +kernel
theorem dL_law_317 : decode cL_law 317 = .ok (.if_icmp .eq 1414, 3) := by decide +kernel
theorem dL_law_320 : decode cL_law 320 = .ok (.iconst 0, 1) := by decide +kernel
theorem dL_law_321 : decode cL_law 321 = .ok (.ireturn, 1) := by decide +kernel
theorem dL_law_322 : decode cL_law 322 = .ok (.aload_n 1, 1) := by decide +kernel
theorem dL_law_323 : decode cL_law 323 = .ok (.invokevirtual 32, 3) := by decide +kernel
theorem dL_law_326 : decode cL_law 326 = .ok (.aload_n 2, 1) := by decide +kernel
theorem dL_law_327 : decode cL_law 327 = .ok (.invokevirtual 36, 3) := by decide +kernel
theorem dL_law_330 : decode cL_law 330 = .ok (.if_icmp .eq 1401, 3) := by decide +kernel
theorem dL_law_333 : decode cL_law 333 = .ok (.iconst 0, 1) := by decide +kernel
theorem dL_law_334 : decode cL_law 334 = .ok (.ireturn, 1) := by decide +kernel
theorem dL_law_335 : decode cL_law 335 = .ok (.aload_n 1, 1) := by decide +kernel
theorem dL_law_336 : decode cL_law 336 = .ok (.aload_n 0, 1) := by decide +kernel
theorem dL_law_337 : decode cL_law 337 = .ok (.iload_n 3, 1) := by decide +kernel
theorem dL_law_338 : decode cL_law 338 = .ok (.iconst 1, 1) := by decide +kernel
theorem dL_law_339 : decode cL_law 339 = .ok (.iadd, 1) := by decide +kernel
theorem dL_law_340 : decode cL_law 340 = .ok (.iaload, 1) := by decide +kernel
theorem dL_law_341 : decode cL_law 341 = .ok (.invokevirtual 37, 3) := by decide +kernel
theorem dL_law_344 : decode cL_law 344 = .ok (.aload_n 2, 1) := by decide +kernel
theorem dL_law_345 : decode cL_law 345 = .ok (.aload_n 0, 1) := by decide +kernel
theorem dL_law_346 : decode cL_law 346 = .ok (.iload_n 3, 1) := by decide +kernel
theorem dL_law_347 : decode cL_law 347 = .ok (.iconst 1, 1) := by decide +kernel
theorem dL_law_348 : decode cL_law 348 = .ok (.iadd, 1) := by decide +kernel
theorem dL_law_349 : decode cL_law 349 = .ok (.iaload, 1) := by decide +kernel
theorem dL_law_350 : decode cL_law 350 = .ok (.invokevirtual 40, 3) := by decide +kernel
theorem dL_law_353 : decode cL_law 353 = .ok (.if_icmp .eq 1378, 3) := by decide +kernel
theorem dL_law_356 : decode cL_law 356 = .ok (.iconst 0, 1) := by decide +kernel
theorem dL_law_357 : decode cL_law 357 = .ok (.ireturn, 1) := by decide +kernel
theorem dL_law_358 : decode cL_law 358 = .ok (.aload_n 1, 1) := by decide +kernel
theorem dL_law_359 : decode cL_law 359 = .ok (.aload_n 0, 1) := by decide +kernel
theorem dL_law_360 : decode cL_law 360 = .ok (.iload_n 3, 1) := by decide +kernel
theorem dL_law_361 : decode cL_law 361 = .ok (.iconst 1, 1) := by decide +kernel
theorem dL_law_362 : decode cL_law 362 = .ok (.iadd, 1) := by decide +kernel
theorem dL_law_363 : decode cL_law 363 = .ok (.iaload, 1) := by decide +kernel
theorem dL_law_364 : decode cL_law 364 = .ok (.invokevirtual 41, 3) := by decide +kernel
theorem dL_law_367 : decode cL_law 367 = .ok (.aload_n 2, 1) := by decide +kernel
theorem dL_law_368 : decode cL_law 368 = .ok (.aload_n 0, 1) := by decide +kernel
theorem dL_law_369 : decode cL_law 369 = .ok (.iload_n 3, 1) := by decide +kernel
theorem dL_law_370 : decode cL_law 370 = .ok (.iconst 1, 1) := by decide +kernel
theorem dL_law_371 : decode cL_law 371 = .ok (.iadd, 1) := by decide +kernel
theorem dL_law_372 : decode cL_law 372 = .ok (.iaload, 1) := by decide +kernel
theorem dL_law_373 : decode cL_law 373 = .ok (.invokevirtual 44, 3) := by decide +kernel
theorem dL_law_376 : decode cL_law 376 = .ok (.if_icmp .eq 1355, 3) := by decide +kernel
theorem dL_law_379 : decode cL_law 379 = .ok (.iconst 0, 1) := by decide +kernel
theorem dL_law_380 : decode cL_law 380 = .ok (.ireturn, 1) := by decide +kernel
theorem dL_law_381 : decode cL_law 381 = .ok (.aload_n 1, 1) := by decide +kernel
theorem dL_law_382 : decode cL_law 382 = .ok (.aload_n 0, 1) := by decide +kernel
theorem dL_law_383 : decode cL_law 383 = .ok (.iload_n 3, 1) := by decide +kernel
theorem dL_law_384 : decode cL_law 384 = .ok (.iconst 1, 1) := by decide +kernel
theorem dL_law_385 : decode cL_law 385 = .ok (.iadd, 1) := by decide +kernel
theorem dL_law_386 : decode cL_law 386 = .ok (.iaload, 1) := by decide +kernel
theorem dL_law_387 : decode cL_law 387 = .ok (.invokevirtual 45, 3) := by decide +kernel
theorem dL_law_390 : decode cL_law 390 = .ok (.aload_n 2, 1) := by decide +kernel
theorem dL_law_391 : decode cL_law 391 = .ok (.aload_n 0, 1) := by decide +kernel
theorem dL_law_392 : decode cL_law 392 = .ok (.iload_n 3, 1) := by decide +kernel
theorem dL_law_393 : decode cL_law 393 = .ok (.iconst 1, 1) := by decide +kernel
theorem dL_law_394 : decode cL_law 394 = .ok (.iadd, 1) := by decide +kernel
theorem dL_law_395 : decode cL_law 395 = .ok (.iaload, 1) := by decide +kernel
theorem dL_law_396 : decode cL_law 396 = .ok (.invokevirtual 48, 3) := by decide +kernel
theorem dL_law_399 : decode cL_law 399 = .ok (.if_icmp .eq 1332, 3) := by decide +kernel
theorem dL_law_402 : decode cL_law 402 = .ok (.iconst 0, 1) := by decide +kernel
theorem dL_law_403 : decode cL_law 403 = .ok (.ireturn, 1) := by decide +kernel
theorem dL_law_404 : decode cL_law 404 = .ok (.aload_n 1, 1) := by decide +kernel
theorem dL_law_405 : decode cL_law 405 = .ok (.aload_n 0, 1) := by decide +kernel
theorem dL_law_406 : decode cL_law 406 = .ok (.iload_n 3, 1) := by decide +kernel
theorem dL_law_407 : decode cL_law 407 = .ok (.iconst 1, 1) := by decide +kernel
theorem dL_law_408 : decode cL_law 408 = .ok (.iadd, 1) := by decide +kernel
theorem dL_law_409 : decode cL_law 409 = .ok (.iaload, 1) := by decide +kernel
theorem dL_law_410 : decode cL_law 410 = .ok (.aload_n 0, 1) := by decide +kernel
theorem dL_law_411 : decode cL_law 411 = .ok (.iload_n 3, 1) := by decide +kernel
theorem dL_law_412 : decode cL_law 412 = .ok (.iconst 2, 1) := by decide +kernel
theorem dL_law_413 : decode cL_law 413 = .ok (.iadd, 1) := by decide +kernel
theorem dL_law_414 : decode cL_law 414 = .ok (.iaload, 1) := by decide +kernel
theorem dL_law_415 : decode cL_law 415 = .ok (.aload_n 0, 1) := by decide +kernel
theorem dL_law_416 : decode cL_law 416 = .ok (.iload_n 3, 1) := by decide +kernel
theorem dL_law_417 : decode cL_law 417 = .ok (.iconst 3, 1) := by decide +kernel
theorem dL_law_418 : decode cL_law 418 = .ok (.iadd, 1) := by decide +kernel
theorem dL_law_419 : decode cL_law 419 = .ok (.iaload, 1) := by decide +kernel
theorem dL_law_420 : decode cL_law 420 = .ok (.invokevirtual 49, 3) := by decide +kernel
theorem dL_law_423 : decode cL_law 423 = .ok (.aload_n 2, 1) := by decide +kernel
theorem dL_law_424 : decode cL_law 424 = .ok (.aload_n 0, 1) := by decide +kernel
theorem dL_law_425 : decode cL_law 425 = .ok (.iload_n 3, 1) := by decide +kernel
theorem dL_law_426 : decode cL_law 426 = .ok (.iconst 1, 1) := by decide +kernel
theorem dL_law_427 : decode cL_law 427 = .ok (.iadd, 1) := by decide +kernel
theorem dL_law_428 : decode cL_law 428 = .ok (.iaload, 1) := by decide +kernel
theorem dL_law_429 : decode cL_law 429 = .ok (.aload_n 0, 1) := by decide +kernel
theorem dL_law_430 : decode cL_law 430 = .ok (.iload_n 3, 1) := by decide +kernel
theorem dL_law_431 : decode cL_law 431 = .ok (.iconst 2, 1) := by decide +kernel
theorem dL_law_432 : decode cL_law 432 = .ok (.iadd, 1) := by decide +kernel
theorem dL_law_433 : decode cL_law 433 = .ok (.iaload, 1) := by decide +kernel
theorem dL_law_434 : decode cL_law 434 = .ok (.aload_n 0, 1) := by decide +kernel
theorem dL_law_435 : decode cL_law 435 = .ok (.iload_n 3, 1) := by decide +kernel
theorem dL_law_436 : decode cL_law 436 = .ok (.iconst 3, 1) := by decide +kernel
theorem dL_law_437 : decode cL_law 437 = .ok (.iadd, 1) := by decide +kernel
theorem dL_law_438 : decode cL_law 438 = .ok (.iaload, 1) := by decide +kernel
theorem dL_law_439 : decode cL_law 439 = .ok (.invokevirtual 52, 3) := by decide +kernel
theorem dL_law_442 : decode cL_law 442 = .ok (.if_icmp .eq 1289, 3) := by decide +kernel
theorem dL_law_445 : decode cL_law 445 = .ok (.iconst 0, 1) := by decide +kernel
theorem dL_law_446 : decode cL_law 446 = .ok (.ireturn, 1) := by decide +kernel
theorem dL_law_447 : decode cL_law 447 = .ok (.aload_n 1, 1) := by decide +kernel
theorem dL_law_448 : decode cL_law 448 = .ok (.aload_n 0, 1) := by decide +kernel
theorem dL_law_449 : decode cL_law 449 = .ok (.iload_n 3, 1) := by decide +kernel
theorem dL_law_450 : decode cL_law 450 = .ok (.iconst 1, 1) := by decide +kernel
theorem dL_law_451 : decode cL_law 451 = .ok (.iadd, 1) := by decide +kernel
theorem dL_law_452 : decode cL_law 452 = .ok (.iaload, 1) := by decide +kernel
theorem dL_law_453 : decode cL_law 453 = .ok (.aload_n 0, 1) := by decide +kernel
theorem dL_law_454 : decode cL_law 454 = .ok (.iload_n 3, 1) := by decide +kernel
theorem dL_law_455 : decode cL_law 455 = .ok (.iconst 2, 1) := by decide +kernel
theorem dL_law_456 : decode cL_law 456 = .ok (.iadd, 1) := by decide +kernel
theorem dL_law_457 : decode cL_law 457 = .ok (.iaload, 1) := by decide +kernel
theorem dL_law_458 : decode cL_law 458 = .ok (.aload_n 0, 1) := by decide +kernel
theorem dL_law_459 : decode cL_law 459 = .ok (.iload_n 3, 1) := by decide +kernel
theorem dL_law_460 : decode cL_law 460 = .ok (.iconst 3, 1) := by decide +kernel
theorem dL_law_461 : decode cL_law 461 = .ok (.iadd, 1) := by decide +kernel
theorem dL_law_462 : decode cL_law 462 = .ok (.iaload, 1) := by decide +kernel
theorem dL_law_463 : decode cL_law 463 = .ok (.aload_n 0, 1) := by decide +kernel
theorem dL_law_464 : decode cL_law 464 = .ok (.iload_n 3, 1) := by decide +kernel
theorem dL_law_465 : decode cL_law 465 = .ok (.iconst 4, 1) := by decide +kernel
theorem dL_law_466 : decode cL_law 466 = .ok (.iadd, 1) := by decide +kernel
theorem dL_law_467 : decode cL_law 467 = .ok (.iaload, 1) := by decide +kernel
theorem dL_law_468 : decode cL_law 468 = .ok (.aload_n 0, 1) := by decide +kernel
theorem dL_law_469 : decode cL_law 469 = .ok (.iload_n 3, 1) := by decide +kernel
theorem dL_law_470 : decode cL_law 470 = .ok (.iconst 5, 1) := by decide +kernel
theorem dL_law_471 : decode cL_law 471 = .ok (.iadd, 1) := by decide +kernel
