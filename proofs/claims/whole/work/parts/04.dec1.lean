theorem dX8_misfitOf_7 : decode cX8_misfitOf 7 = .ok (.istore 6, 2) := by decide +kernel
theorem dX8_misfitOf_9 : decode cX8_misfitOf 9 = .ok (.aload_n 0, 1) := by decide +kernel
theorem dX8_misfitOf_10 : decode cX8_misfitOf 10 = .ok (.getfield 9, 3) := by decide +kernel
theorem dX8_misfitOf_13 : decode cX8_misfitOf 13 = .ok (.arraylength, 1) := by decide +kernel
theorem dX8_misfitOf_14 : decode cX8_misfitOf 14 = .ok (.iconst 1, 1) := by decide +kernel
theorem dX8_misfitOf_15 : decode cX8_misfitOf 15 = .ok (.isub, 1) := by decide +kernel
theorem dX8_misfitOf_16 : decode cX8_misfitOf 16 = .ok (.iload_n 2, 1) := by decide +kernel
theorem dX8_misfitOf_17 : decode cX8_misfitOf 17 = .ok (.iload_n 3, 1) := by decide +kernel
theorem dX8_misfitOf_18 : decode cX8_misfitOf 18 = .ok (.iadd, 1) := by decide +kernel
theorem dX8_misfitOf_19 : decode cX8_misfitOf 19 = .ok (.invokestatic 25, 3) := by decide +kernel
theorem dX8_misfitOf_22 : decode cX8_misfitOf 22 = .ok (.istore 7, 2) := by decide +kernel
theorem dX8_misfitOf_24 : decode cX8_misfitOf 24 = .ok (.lconst 0, 1) := by decide +kernel
theorem dX8_misfitOf_25 : decode cX8_misfitOf 25 = .ok (.lstore 8, 2) := by decide +kernel
theorem dX8_misfitOf_27 : decode cX8_misfitOf 27 = .ok (.iload 6, 2) := by decide +kernel
theorem dX8_misfitOf_29 : decode cX8_misfitOf 29 = .ok (.istore 10, 2) := by decide +kernel
theorem dX8_misfitOf_31 : decode cX8_misfitOf 31 = .ok (.iload 10, 2) := by decide +kernel
theorem dX8_misfitOf_33 : decode cX8_misfitOf 33 = .ok (.iload 7, 2) := by decide +kernel
theorem dX8_misfitOf_35 : decode cX8_misfitOf 35 = .ok (.if_icmp .gt 56, 3) := by decide +kernel
theorem dX8_misfitOf_38 : decode cX8_misfitOf 38 = .ok (.aload_n 0, 1) := by decide +kernel
theorem dX8_misfitOf_39 : decode cX8_misfitOf 39 = .ok (.getfield 9, 3) := by decide +kernel
theorem dX8_misfitOf_42 : decode cX8_misfitOf 42 = .ok (.iload 10, 2) := by decide +kernel
theorem dX8_misfitOf_44 : decode cX8_misfitOf 44 = .ok (.aload_n 0, 1) := by decide +kernel
theorem dX8_misfitOf_45 : decode cX8_misfitOf 45 = .ok (.getfield 15, 3) := by decide +kernel
theorem dX8_misfitOf_48 : decode cX8_misfitOf 48 = .ok (.iload_n 2, 1) := by decide +kernel
theorem dX8_misfitOf_49 : decode cX8_misfitOf 49 = .ok (.iload_n 3, 1) := by decide +kernel
theorem dX8_misfitOf_50 : decode cX8_misfitOf 50 = .ok (.iload 10, 2) := by decide +kernel
theorem dX8_misfitOf_52 : decode cX8_misfitOf 52 = .ok (.invokevirtual 28, 3) := by decide +kernel
theorem dX8_misfitOf_55 : decode cX8_misfitOf 55 = .ok (.i2l, 1) := by decide +kernel
theorem dX8_misfitOf_56 : decode cX8_misfitOf 56 = .ok (.iload 10, 2) := by decide +kernel
theorem dX8_misfitOf_58 : decode cX8_misfitOf 58 = .ok (.iload 4, 2) := by decide +kernel
theorem dX8_misfitOf_60 : decode cX8_misfitOf 60 = .ok (.if_icmp .lt 8, 3) := by decide +kernel
theorem dX8_misfitOf_63 : decode cX8_misfitOf 63 = .ok (.bipush 10, 2) := by decide +kernel
theorem dX8_misfitOf_65 : decode cX8_misfitOf 65 = .ok (.goto 5, 3) := by decide +kernel
theorem dX8_misfitOf_68 : decode cX8_misfitOf 68 = .ok (.iload 5, 2) := by decide +kernel
theorem dX8_misfitOf_70 : decode cX8_misfitOf 70 = .ok (.i2l, 1) := by decide +kernel
theorem dX8_misfitOf_71 : decode cX8_misfitOf 71 = .ok (.lmul, 1) := by decide +kernel
theorem dX8_misfitOf_72 : decode cX8_misfitOf 72 = .ok (.lastore, 1) := by decide +kernel
theorem dX8_misfitOf_73 : decode cX8_misfitOf 73 = .ok (.lload 8, 2) := by decide +kernel
theorem dX8_misfitOf_75 : decode cX8_misfitOf 75 = .ok (.aload_n 0, 1) := by decide +kernel
theorem dX8_misfitOf_76 : decode cX8_misfitOf 76 = .ok (.getfield 9, 3) := by decide +kernel
theorem dX8_misfitOf_79 : decode cX8_misfitOf 79 = .ok (.iload 10, 2) := by decide +kernel
theorem dX8_misfitOf_81 : decode cX8_misfitOf 81 = .ok (.laload, 1) := by decide +kernel
theorem dX8_misfitOf_82 : decode cX8_misfitOf 82 = .ok (.ladd, 1) := by decide +kernel
theorem dX8_misfitOf_83 : decode cX8_misfitOf 83 = .ok (.lstore 8, 2) := by decide +kernel
theorem dX8_misfitOf_85 : decode cX8_misfitOf 85 = .ok (.iinc 10 1, 3) := by decide +kernel
theorem dX8_misfitOf_88 : decode cX8_misfitOf 88 = .ok (.goto (-57), 3) := by decide +kernel
theorem dX8_misfitOf_91 : decode cX8_misfitOf 91 = .ok (.lload 8, 2) := by decide +kernel
theorem dX8_misfitOf_93 : decode cX8_misfitOf 93 = .ok (.lconst 0, 1) := by decide +kernel
theorem dX8_misfitOf_94 : decode cX8_misfitOf 94 = .ok (.lcmp, 1) := by decide +kernel
theorem dX8_misfitOf_95 : decode cX8_misfitOf 95 = .ok (.ifCond .gt 6, 3) := by decide +kernel
theorem dX8_misfitOf_98 : decode cX8_misfitOf 98 = .ok (.bipush (-5), 2) := by decide +kernel
theorem dX8_misfitOf_100 : decode cX8_misfitOf 100 = .ok (.ireturn, 1) := by decide +kernel
theorem dX8_misfitOf_101 : decode cX8_misfitOf 101 = .ok (.aload_n 1, 1) := by decide +kernel
theorem dX8_misfitOf_102 : decode cX8_misfitOf 102 = .ok (.getfield 34, 3) := by decide +kernel
theorem dX8_misfitOf_105 : decode cX8_misfitOf 105 = .ok (.i2l, 1) := by decide +kernel
theorem dX8_misfitOf_106 : decode cX8_misfitOf 106 = .ok (.lstore 10, 2) := by decide +kernel
theorem dX8_misfitOf_108 : decode cX8_misfitOf 108 = .ok (.iload 6, 2) := by decide +kernel
theorem dX8_misfitOf_110 : decode cX8_misfitOf 110 = .ok (.istore 12, 2) := by decide +kernel
theorem dX8_misfitOf_112 : decode cX8_misfitOf 112 = .ok (.iload 12, 2) := by decide +kernel
theorem dX8_misfitOf_114 : decode cX8_misfitOf 114 = .ok (.iload 7, 2) := by decide +kernel
theorem dX8_misfitOf_116 : decode cX8_misfitOf 116 = .ok (.if_icmp .gt 49, 3) := by decide +kernel
theorem dX8_misfitOf_119 : decode cX8_misfitOf 119 = .ok (.aload_n 1, 1) := by decide +kernel
theorem dX8_misfitOf_120 : decode cX8_misfitOf 120 = .ok (.iload 12, 2) := by decide +kernel
theorem dX8_misfitOf_122 : decode cX8_misfitOf 122 = .ok (.invokevirtual 40, 3) := by decide +kernel
theorem dX8_misfitOf_125 : decode cX8_misfitOf 125 = .ok (.istore 13, 2) := by decide +kernel
theorem dX8_misfitOf_127 : decode cX8_misfitOf 127 = .ok (.lload 10, 2) := by decide +kernel
theorem dX8_misfitOf_129 : decode cX8_misfitOf 129 = .ok (.iload 13, 2) := by decide +kernel
theorem dX8_misfitOf_131 : decode cX8_misfitOf 131 = .ok (.i2l, 1) := by decide +kernel
theorem dX8_misfitOf_132 : decode cX8_misfitOf 132 = .ok (.aload_n 1, 1) := by decide +kernel
theorem dX8_misfitOf_133 : decode cX8_misfitOf 133 = .ok (.getfield 34, 3) := by decide +kernel
theorem dX8_misfitOf_136 : decode cX8_misfitOf 136 = .ok (.i2l, 1) := by decide +kernel
theorem dX8_misfitOf_137 : decode cX8_misfitOf 137 = .ok (.aload_n 0, 1) := by decide +kernel
theorem dX8_misfitOf_138 : decode cX8_misfitOf 138 = .ok (.getfield 9, 3) := by decide +kernel
theorem dX8_misfitOf_141 : decode cX8_misfitOf 141 = .ok (.iload 12, 2) := by decide +kernel
theorem dX8_misfitOf_143 : decode cX8_misfitOf 143 = .ok (.laload, 1) := by decide +kernel
theorem dX8_misfitOf_144 : decode cX8_misfitOf 144 = .ok (.lmul, 1) := by decide +kernel
theorem dX8_misfitOf_145 : decode cX8_misfitOf 145 = .ok (.lload 8, 2) := by decide +kernel
theorem dX8_misfitOf_147 : decode cX8_misfitOf 147 = .ok (.ldiv, 1) := by decide +kernel
theorem dX8_misfitOf_148 : decode cX8_misfitOf 148 = .ok (.lsub, 1) := by decide +kernel
theorem dX8_misfitOf_149 : decode cX8_misfitOf 149 = .ok (.invokestatic 43, 3) := by decide +kernel
theorem dX8_misfitOf_152 : decode cX8_misfitOf 152 = .ok (.iload 13, 2) := by decide +kernel
theorem dX8_misfitOf_154 : decode cX8_misfitOf 154 = .ok (.i2l, 1) := by decide +kernel
theorem dX8_misfitOf_155 : decode cX8_misfitOf 155 = .ok (.lsub, 1) := by decide +kernel
theorem dX8_misfitOf_156 : decode cX8_misfitOf 156 = .ok (.ladd, 1) := by decide +kernel
theorem dX8_misfitOf_157 : decode cX8_misfitOf 157 = .ok (.lstore 10, 2) := by decide +kernel
theorem dX8_misfitOf_159 : decode cX8_misfitOf 159 = .ok (.iinc 12 1, 3) := by decide +kernel
theorem dX8_misfitOf_162 : decode cX8_misfitOf 162 = .ok (.goto (-50), 3) := by decide +kernel
theorem dX8_misfitOf_165 : decode cX8_misfitOf 165 = .ok (.lload 10, 2) := by decide +kernel
theorem dX8_misfitOf_167 : decode cX8_misfitOf 167 = .ok (.l2i, 1) := by decide +kernel
theorem dX8_misfitOf_168 : decode cX8_misfitOf 168 = .ok (.ireturn, 1) := by decide +kernel
theorem dX8_seekMiddle_0 : decode cX8_seekMiddle 0 = .ok (.aload_n 0, 1) := by decide +kernel
theorem dX8_seekMiddle_1 : decode cX8_seekMiddle 1 = .ok (.bipush (-6), 2) := by decide +kernel
theorem dX8_seekMiddle_3 : decode cX8_seekMiddle 3 = .ok (.putfield 47, 3) := by decide +kernel
theorem dX8_seekMiddle_6 : decode cX8_seekMiddle 6 = .ok (.iconst 0, 1) := by decide +kernel
theorem dX8_seekMiddle_7 : decode cX8_seekMiddle 7 = .ok (.istore 5, 2) := by decide +kernel
theorem dX8_seekMiddle_9 : decode cX8_seekMiddle 9 = .ok (.iload 5, 2) := by decide +kernel
theorem dX8_seekMiddle_11 : decode cX8_seekMiddle 11 = .ok (.bipush 64, 2) := by decide +kernel
theorem dX8_seekMiddle_13 : decode cX8_seekMiddle 13 = .ok (.if_icmp .ge 27, 3) := by decide +kernel
theorem dX8_seekMiddle_16 : decode cX8_seekMiddle 16 = .ok (.aload_n 0, 1) := by decide +kernel
theorem dX8_seekMiddle_17 : decode cX8_seekMiddle 17 = .ok (.iload_n 3, 1) := by decide +kernel
theorem dX8_seekMiddle_18 : decode cX8_seekMiddle 18 = .ok (.iload 5, 2) := by decide +kernel
theorem dX8_seekMiddle_20 : decode cX8_seekMiddle 20 = .ok (.aload_n 0, 1) := by decide +kernel
theorem dX8_seekMiddle_21 : decode cX8_seekMiddle 21 = .ok (.aload_n 1, 1) := by decide +kernel
theorem dX8_seekMiddle_22 : decode cX8_seekMiddle 22 = .ok (.iload 5, 2) := by decide +kernel
theorem dX8_seekMiddle_24 : decode cX8_seekMiddle 24 = .ok (.iload_n 2, 1) := by decide +kernel
theorem dX8_seekMiddle_25 : decode cX8_seekMiddle 25 = .ok (.iload_n 3, 1) := by decide +kernel
theorem dX8_seekMiddle_26 : decode cX8_seekMiddle 26 = .ok (.iload 4, 2) := by decide +kernel
theorem dX8_seekMiddle_28 : decode cX8_seekMiddle 28 = .ok (.invokevirtual 50, 3) := by decide +kernel
theorem dX8_seekMiddle_31 : decode cX8_seekMiddle 31 = .ok (.invokevirtual 54, 3) := by decide +kernel
theorem dX8_seekMiddle_34 : decode cX8_seekMiddle 34 = .ok (.iinc 5 1, 3) := by decide +kernel
theorem dX8_seekMiddle_37 : decode cX8_seekMiddle 37 = .ok (.goto (-28), 3) := by decide +kernel
theorem dX8_seekMiddle_40 : decode cX8_seekMiddle 40 = .ok (.return_, 1) := by decide +kernel
theorem dX8_seekSpan_0 : decode cX8_seekSpan 0 = .ok (.aload_n 0, 1) := by decide +kernel
theorem dX8_seekSpan_1 : decode cX8_seekSpan 1 = .ok (.aload_n 1, 1) := by decide +kernel
theorem dX8_seekSpan_2 : decode cX8_seekSpan 2 = .ok (.iload_n 2, 1) := by decide +kernel
theorem dX8_seekSpan_3 : decode cX8_seekSpan 3 = .ok (.iload_n 3, 1) := by decide +kernel
theorem dX8_seekSpan_4 : decode cX8_seekSpan 4 = .ok (.iload 4, 2) := by decide +kernel
theorem dX8_seekSpan_6 : decode cX8_seekSpan 6 = .ok (.invokevirtual 58, 3) := by decide +kernel
theorem dX8_seekSpan_9 : decode cX8_seekSpan 9 = .ok (.aload_n 0, 1) := by decide +kernel
theorem dX8_seekSpan_10 : decode cX8_seekSpan 10 = .ok (.aload_n 0, 1) := by decide +kernel
theorem dX8_seekSpan_11 : decode cX8_seekSpan 11 = .ok (.getfield 62, 3) := by decide +kernel
theorem dX8_seekSpan_14 : decode cX8_seekSpan 14 = .ok (.putfield 65, 3) := by decide +kernel
theorem dX8_seekSpan_17 : decode cX8_seekSpan 17 = .ok (.aload_n 0, 1) := by decide +kernel
theorem dX8_seekSpan_18 : decode cX8_seekSpan 18 = .ok (.aload_n 0, 1) := by decide +kernel
theorem dX8_seekSpan_19 : decode cX8_seekSpan 19 = .ok (.getfield 62, 3) := by decide +kernel
theorem dX8_seekSpan_22 : decode cX8_seekSpan 22 = .ok (.putfield 68, 3) := by decide +kernel
theorem dX8_seekSpan_25 : decode cX8_seekSpan 25 = .ok (.iconst 0, 1) := by decide +kernel
theorem dX8_seekSpan_26 : decode cX8_seekSpan 26 = .ok (.istore 6, 2) := by decide +kernel
theorem dX8_seekSpan_28 : decode cX8_seekSpan 28 = .ok (.iload 6, 2) := by decide +kernel
theorem dX8_seekSpan_30 : decode cX8_seekSpan 30 = .ok (.bipush 64, 2) := by decide +kernel
theorem dX8_seekSpan_32 : decode cX8_seekSpan 32 = .ok (.if_icmp .ge 67, 3) := by decide +kernel
theorem dX8_seekSpan_35 : decode cX8_seekSpan 35 = .ok (.aload_n 0, 1) := by decide +kernel
theorem dX8_seekSpan_36 : decode cX8_seekSpan 36 = .ok (.aload_n 1, 1) := by decide +kernel
theorem dX8_seekSpan_37 : decode cX8_seekSpan 37 = .ok (.iload 6, 2) := by decide +kernel
theorem dX8_seekSpan_39 : decode cX8_seekSpan 39 = .ok (.iload_n 2, 1) := by decide +kernel
theorem dX8_seekSpan_40 : decode cX8_seekSpan 40 = .ok (.iload_n 3, 1) := by decide +kernel
theorem dX8_seekSpan_41 : decode cX8_seekSpan 41 = .ok (.iload 4, 2) := by decide +kernel
theorem dX8_seekSpan_43 : decode cX8_seekSpan 43 = .ok (.invokevirtual 50, 3) := by decide +kernel
theorem dX8_seekSpan_46 : decode cX8_seekSpan 46 = .ok (.istore 7, 2) := by decide +kernel
theorem dX8_seekSpan_48 : decode cX8_seekSpan 48 = .ok (.iload 7, 2) := by decide +kernel
theorem dX8_seekSpan_50 : decode cX8_seekSpan 50 = .ok (.bipush (-5), 2) := by decide +kernel
theorem dX8_seekSpan_52 : decode cX8_seekSpan 52 = .ok (.if_icmp .eq 41, 3) := by decide +kernel
theorem dX8_seekSpan_55 : decode cX8_seekSpan 55 = .ok (.iload 7, 2) := by decide +kernel
theorem dX8_seekSpan_57 : decode cX8_seekSpan 57 = .ok (.aload_n 0, 1) := by decide +kernel
theorem dX8_seekSpan_58 : decode cX8_seekSpan 58 = .ok (.getfield 47, 3) := by decide +kernel
theorem dX8_seekSpan_61 : decode cX8_seekSpan 61 = .ok (.iload 5, 2) := by decide +kernel
theorem dX8_seekSpan_63 : decode cX8_seekSpan 63 = .ok (.iadd, 1) := by decide +kernel
theorem dX8_seekSpan_64 : decode cX8_seekSpan 64 = .ok (.if_icmp .gt 29, 3) := by decide +kernel
theorem dX8_seekSpan_67 : decode cX8_seekSpan 67 = .ok (.aload_n 0, 1) := by decide +kernel
theorem dX8_seekSpan_68 : decode cX8_seekSpan 68 = .ok (.aload_n 0, 1) := by decide +kernel
theorem dX8_seekSpan_69 : decode cX8_seekSpan 69 = .ok (.getfield 65, 3) := by decide +kernel
theorem dX8_seekSpan_72 : decode cX8_seekSpan 72 = .ok (.iload 6, 2) := by decide +kernel
theorem dX8_seekSpan_74 : decode cX8_seekSpan 74 = .ok (.invokestatic 25, 3) := by decide +kernel
theorem dX8_seekSpan_77 : decode cX8_seekSpan 77 = .ok (.putfield 65, 3) := by decide +kernel
theorem dX8_seekSpan_80 : decode cX8_seekSpan 80 = .ok (.aload_n 0, 1) := by decide +kernel
theorem dX8_seekSpan_81 : decode cX8_seekSpan 81 = .ok (.aload_n 0, 1) := by decide +kernel
theorem dX8_seekSpan_82 : decode cX8_seekSpan 82 = .ok (.getfield 68, 3) := by decide +kernel
theorem dX8_seekSpan_85 : decode cX8_seekSpan 85 = .ok (.iload 6, 2) := by decide +kernel
theorem dX8_seekSpan_87 : decode cX8_seekSpan 87 = .ok (.invokestatic 19, 3) := by decide +kernel
theorem dX8_seekSpan_90 : decode cX8_seekSpan 90 = .ok (.putfield 68, 3) := by decide +kernel
theorem dX8_seekSpan_93 : decode cX8_seekSpan 93 = .ok (.iinc 6 1, 3) := by decide +kernel
theorem dX8_seekSpan_96 : decode cX8_seekSpan 96 = .ok (.goto (-68), 3) := by decide +kernel
theorem dX8_seekSpan_99 : decode cX8_seekSpan 99 = .ok (.return_, 1) := by decide +kernel
theorem dX8_seekLine_0 : decode cX8_seekLine 0 = .ok (.aload_n 0, 1) := by decide +kernel
theorem dX8_seekLine_1 : decode cX8_seekLine 1 = .ok (.aload_n 1, 1) := by decide +kernel
theorem dX8_seekLine_2 : decode cX8_seekLine 2 = .ok (.iload_n 2, 1) := by decide +kernel
theorem dX8_seekLine_3 : decode cX8_seekLine 3 = .ok (.iconst 0, 1) := by decide +kernel
theorem dX8_seekLine_4 : decode cX8_seekLine 4 = .ok (.iload_n 3, 1) := by decide +kernel
theorem dX8_seekLine_5 : decode cX8_seekLine 5 = .ok (.invokevirtual 58, 3) := by decide +kernel
theorem dX8_seekLine_8 : decode cX8_seekLine 8 = .ok (.iconst 1, 1) := by decide +kernel
theorem dX8_seekLine_9 : decode cX8_seekLine 9 = .ok (.istore 4, 2) := by decide +kernel
theorem dX8_seekLine_11 : decode cX8_seekLine 11 = .ok (.iload 4, 2) := by decide +kernel
theorem dX8_seekLine_13 : decode cX8_seekLine 13 = .ok (.bipush 64, 2) := by decide +kernel
theorem dX8_seekLine_15 : decode cX8_seekLine 15 = .ok (.if_icmp .ge 64, 3) := by decide +kernel
theorem dX8_seekLine_18 : decode cX8_seekLine 18 = .ok (.bipush 63, 2) := by decide +kernel
theorem dX8_seekLine_20 : decode cX8_seekLine 20 = .ok (.iload 4, 2) := by decide +kernel
theorem dX8_seekLine_22 : decode cX8_seekLine 22 = .ok (.iload_n 2, 1) := by decide +kernel
theorem dX8_seekLine_23 : decode cX8_seekLine 23 = .ok (.iadd, 1) := by decide +kernel
theorem dX8_seekLine_24 : decode cX8_seekLine 24 = .ok (.iconst 1, 1) := by decide +kernel
theorem dX8_seekLine_25 : decode cX8_seekLine 25 = .ok (.isub, 1) := by decide +kernel
theorem dX8_seekLine_26 : decode cX8_seekLine 26 = .ok (.invokestatic 25, 3) := by decide +kernel
theorem dX8_seekLine_29 : decode cX8_seekLine 29 = .ok (.istore 5, 2) := by decide +kernel
theorem dX8_seekLine_31 : decode cX8_seekLine 31 = .ok (.iconst 0, 1) := by decide +kernel
theorem dX8_seekLine_32 : decode cX8_seekLine 32 = .ok (.iload 4, 2) := by decide +kernel
theorem dX8_seekLine_34 : decode cX8_seekLine 34 = .ok (.iload_n 2, 1) := by decide +kernel
theorem dX8_seekLine_35 : decode cX8_seekLine 35 = .ok (.isub, 1) := by decide +kernel
theorem dX8_seekLine_36 : decode cX8_seekLine 36 = .ok (.invokestatic 19, 3) := by decide +kernel
theorem dX8_seekLine_39 : decode cX8_seekLine 39 = .ok (.istore 6, 2) := by decide +kernel
theorem dX8_seekLine_41 : decode cX8_seekLine 41 = .ok (.iload 6, 2) := by decide +kernel
theorem dX8_seekLine_43 : decode cX8_seekLine 43 = .ok (.iload 5, 2) := by decide +kernel
theorem dX8_seekLine_45 : decode cX8_seekLine 45 = .ok (.if_icmp .gt 28, 3) := by decide +kernel
theorem dX8_seekLine_48 : decode cX8_seekLine 48 = .ok (.aload_n 0, 1) := by decide +kernel
theorem dX8_seekLine_49 : decode cX8_seekLine 49 = .ok (.iload 4, 2) := by decide +kernel
theorem dX8_seekLine_51 : decode cX8_seekLine 51 = .ok (.iload 6, 2) := by decide +kernel
theorem dX8_seekLine_53 : decode cX8_seekLine 53 = .ok (.aload_n 0, 1) := by decide +kernel
theorem dX8_seekLine_54 : decode cX8_seekLine 54 = .ok (.aload_n 1, 1) := by decide +kernel
theorem dX8_seekLine_55 : decode cX8_seekLine 55 = .ok (.iload 6, 2) := by decide +kernel
theorem dX8_seekLine_57 : decode cX8_seekLine 57 = .ok (.iload_n 2, 1) := by decide +kernel
theorem dX8_seekLine_58 : decode cX8_seekLine 58 = .ok (.iload 4, 2) := by decide +kernel
theorem dX8_seekLine_60 : decode cX8_seekLine 60 = .ok (.iload_n 3, 1) := by decide +kernel
theorem dX8_seekLine_61 : decode cX8_seekLine 61 = .ok (.invokevirtual 50, 3) := by decide +kernel
theorem dX8_seekLine_64 : decode cX8_seekLine 64 = .ok (.invokevirtual 54, 3) := by decide +kernel
theorem dX8_seekLine_67 : decode cX8_seekLine 67 = .ok (.iinc 6 1, 3) := by decide +kernel
theorem dX8_seekLine_70 : decode cX8_seekLine 70 = .ok (.goto (-29), 3) := by decide +kernel
theorem dX8_seekLine_73 : decode cX8_seekLine 73 = .ok (.iinc 4 1, 3) := by decide +kernel
theorem dX8_seekLine_76 : decode cX8_seekLine 76 = .ok (.goto (-65), 3) := by decide +kernel
theorem dX8_seekLine_79 : decode cX8_seekLine 79 = .ok (.return_, 1) := by decide +kernel
theorem dX8_offer_0 : decode cX8_offer 0 = .ok (.iload_n 3, 1) := by decide +kernel
theorem dX8_offer_1 : decode cX8_offer 1 = .ok (.bipush (-5), 2) := by decide +kernel
theorem dX8_offer_3 : decode cX8_offer 3 = .ok (.if_icmp .eq 35, 3) := by decide +kernel
theorem dX8_offer_6 : decode cX8_offer 6 = .ok (.aload_n 0, 1) := by decide +kernel
theorem dX8_offer_7 : decode cX8_offer 7 = .ok (.getfield 47, 3) := by decide +kernel
theorem dX8_offer_10 : decode cX8_offer 10 = .ok (.bipush (-6), 2) := by decide +kernel
theorem dX8_offer_12 : decode cX8_offer 12 = .ok (.if_icmp .eq 11, 3) := by decide +kernel
theorem dX8_offer_15 : decode cX8_offer 15 = .ok (.iload_n 3, 1) := by decide +kernel
theorem dX8_offer_16 : decode cX8_offer 16 = .ok (.aload_n 0, 1) := by decide +kernel
theorem dX8_offer_17 : decode cX8_offer 17 = .ok (.getfield 47, 3) := by decide +kernel
theorem dX8_offer_20 : decode cX8_offer 20 = .ok (.if_icmp .ge 18, 3) := by decide +kernel
theorem dX8_offer_23 : decode cX8_offer 23 = .ok (.aload_n 0, 1) := by decide +kernel
theorem dX8_offer_24 : decode cX8_offer 24 = .ok (.iload_n 1, 1) := by decide +kernel
theorem dX8_offer_25 : decode cX8_offer 25 = .ok (.putfield 71, 3) := by decide +kernel
theorem dX8_offer_28 : decode cX8_offer 28 = .ok (.aload_n 0, 1) := by decide +kernel
theorem dX8_offer_29 : decode cX8_offer 29 = .ok (.iload_n 2, 1) := by decide +kernel
theorem dX8_offer_30 : decode cX8_offer 30 = .ok (.putfield 62, 3) := by decide +kernel
theorem dX8_offer_33 : decode cX8_offer 33 = .ok (.aload_n 0, 1) := by decide +kernel
theorem dX8_offer_34 : decode cX8_offer 34 = .ok (.iload_n 3, 1) := by decide +kernel
theorem dX8_offer_35 : decode cX8_offer 35 = .ok (.putfield 47, 3) := by decide +kernel
theorem dX8_offer_38 : decode cX8_offer 38 = .ok (.return_, 1) := by decide +kernel
theorem dX9_init_0 : decode cX9_init 0 = .ok (.aload_n 0, 1) := by decide +kernel
theorem dX9_init_1 : decode cX9_init 1 = .ok (.invokespecial 1, 3) := by decide +kernel
theorem dX9_init_4 : decode cX9_init 4 = .ok (.aload_n 0, 1) := by decide +kernel
theorem dX9_init_5 : decode cX9_init 5 = .ok (.new 7, 3) := by decide +kernel
theorem dX9_init_8 : decode cX9_init 8 = .ok (.dup, 1) := by decide +kernel
theorem dX9_init_9 : decode cX9_init 9 = .ok (.invokespecial 9, 3) := by decide +kernel
theorem dX9_init_12 : decode cX9_init 12 = .ok (.putfield 10, 3) := by decide +kernel
theorem dX9_init_15 : decode cX9_init 15 = .ok (.aload_n 0, 1) := by decide +kernel
theorem dX9_init_16 : decode cX9_init 16 = .ok (.new 16, 3) := by decide +kernel
theorem dX9_init_19 : decode cX9_init 19 = .ok (.dup, 1) := by decide +kernel
theorem dX9_init_20 : decode cX9_init 20 = .ok (.invokespecial 18, 3) := by decide +kernel
theorem dX9_init_23 : decode cX9_init 23 = .ok (.putfield 19, 3) := by decide +kernel
theorem dX9_init_26 : decode cX9_init 26 = .ok (.aload_n 0, 1) := by decide +kernel
theorem dX9_init_27 : decode cX9_init 27 = .ok (.iconst 2, 1) := by decide +kernel
theorem dX9_init_28 : decode cX9_init 28 = .ok (.anewarray 16, 3) := by decide +kernel
theorem dX9_init_31 : decode cX9_init 31 = .ok (.putfield 23, 3) := by decide +kernel
theorem dX9_init_34 : decode cX9_init 34 = .ok (.iconst 0, 1) := by decide +kernel
theorem dX9_init_35 : decode cX9_init 35 = .ok (.istore_n 1, 1) := by decide +kernel
theorem dX9_init_36 : decode cX9_init 36 = .ok (.iload_n 1, 1) := by decide +kernel
theorem dX9_init_37 : decode cX9_init 37 = .ok (.aload_n 0, 1) := by decide +kernel
theorem dX9_init_38 : decode cX9_init 38 = .ok (.getfield 23, 3) := by decide +kernel
theorem dX9_init_41 : decode cX9_init 41 = .ok (.arraylength, 1) := by decide +kernel
theorem dX9_init_42 : decode cX9_init 42 = .ok (.if_icmp .ge 22, 3) := by decide +kernel
theorem dX9_init_45 : decode cX9_init 45 = .ok (.aload_n 0, 1) := by decide +kernel
theorem dX9_init_46 : decode cX9_init 46 = .ok (.getfield 23, 3) := by decide +kernel
theorem dX9_init_49 : decode cX9_init 49 = .ok (.iload_n 1, 1) := by decide +kernel
theorem dX9_init_50 : decode cX9_init 50 = .ok (.new 16, 3) := by decide +kernel
theorem dX9_init_53 : decode cX9_init 53 = .ok (.dup, 1) := by decide +kernel
theorem dX9_init_54 : decode cX9_init 54 = .ok (.invokespecial 18, 3) := by decide +kernel
theorem dX9_init_57 : decode cX9_init 57 = .ok (.aastore, 1) := by decide +kernel
theorem dX9_init_58 : decode cX9_init 58 = .ok (.iinc 1 1, 3) := by decide +kernel
theorem dX9_init_61 : decode cX9_init 61 = .ok (.goto (-25), 3) := by decide +kernel
theorem dX9_init_64 : decode cX9_init 64 = .ok (.aload_n 0, 1) := by decide +kernel
theorem dX9_init_65 : decode cX9_init 65 = .ok (.iconst 2, 1) := by decide +kernel
theorem dX9_init_66 : decode cX9_init 66 = .ok (.newarray .boolean, 2) := by decide +kernel
theorem dX9_init_68 : decode cX9_init 68 = .ok (.putfield 27, 3) := by decide +kernel
theorem dX9_init_71 : decode cX9_init 71 = .ok (.aload_n 0, 1) := by decide +kernel
theorem dX9_init_72 : decode cX9_init 72 = .ok (.new 31, 3) := by decide +kernel
theorem dX9_init_75 : decode cX9_init 75 = .ok (.dup, 1) := by decide +kernel
theorem dX9_init_76 : decode cX9_init 76 = .ok (.invokespecial 33, 3) := by decide +kernel
theorem dX9_init_79 : decode cX9_init 79 = .ok (.putfield 34, 3) := by decide +kernel
theorem dX9_init_82 : decode cX9_init 82 = .ok (.aload_n 0, 1) := by decide +kernel
theorem dX9_init_83 : decode cX9_init 83 = .ok (.new 38, 3) := by decide +kernel
theorem dX9_init_86 : decode cX9_init 86 = .ok (.dup, 1) := by decide +kernel
theorem dX9_init_87 : decode cX9_init 87 = .ok (.aload_n 0, 1) := by decide +kernel
theorem dX9_init_88 : decode cX9_init 88 = .ok (.getfield 34, 3) := by decide +kernel
theorem dX9_init_91 : decode cX9_init 91 = .ok (.invokespecial 40, 3) := by decide +kernel
theorem dX9_init_94 : decode cX9_init 94 = .ok (.putfield 43, 3) := by decide +kernel
theorem dX9_init_97 : decode cX9_init 97 = .ok (.aload_n 0, 1) := by decide +kernel
theorem dX9_init_98 : decode cX9_init 98 = .ok (.new 47, 3) := by decide +kernel
theorem dX9_init_101 : decode cX9_init 101 = .ok (.dup, 1) := by decide +kernel
theorem dX9_init_102 : decode cX9_init 102 = .ok (.aload_n 0, 1) := by decide +kernel
theorem dX9_init_103 : decode cX9_init 103 = .ok (.getfield 34, 3) := by decide +kernel
theorem dX9_init_106 : decode cX9_init 106 = .ok (.invokespecial 49, 3) := by decide +kernel
theorem dX9_init_109 : decode cX9_init 109 = .ok (.putfield 50, 3) := by decide +kernel
theorem dX9_init_112 : decode cX9_init 112 = .ok (.aload_n 0, 1) := by decide +kernel
theorem dX9_init_113 : decode cX9_init 113 = .ok (.new 54, 3) := by decide +kernel
theorem dX9_init_116 : decode cX9_init 116 = .ok (.dup, 1) := by decide +kernel
theorem dX9_init_117 : decode cX9_init 117 = .ok (.invokespecial 56, 3) := by decide +kernel
theorem dX9_init_120 : decode cX9_init 120 = .ok (.putfield 57, 3) := by decide +kernel
theorem dX9_init_123 : decode cX9_init 123 = .ok (.return_, 1) := by decide +kernel
theorem dX9_men_0 : decode cX9_men 0 = .ok (.aload_n 0, 1) := by decide +kernel
theorem dX9_men_1 : decode cX9_men 1 = .ok (.getfield 19, 3) := by decide +kernel
theorem dX9_men_4 : decode cX9_men 4 = .ok (.iload_n 1, 1) := by decide +kernel
theorem dX9_men_5 : decode cX9_men 5 = .ok (.invokevirtual 61, 3) := by decide +kernel
theorem dX9_men_8 : decode cX9_men 8 = .ok (.astore 4, 2) := by decide +kernel
theorem dX9_men_10 : decode cX9_men 10 = .ok (.aload 4, 2) := by decide +kernel
theorem dX9_men_12 : decode cX9_men 12 = .ok (.ifnonnull 5, 3) := by decide +kernel
theorem dX9_men_15 : decode cX9_men 15 = .ok (.iconst (-1), 1) := by decide +kernel
theorem dX9_men_16 : decode cX9_men 16 = .ok (.ireturn, 1) := by decide +kernel
theorem dX9_men_17 : decode cX9_men 17 = .ok (.iload_n 2, 1) := by decide +kernel
theorem dX9_men_18 : decode cX9_men 18 = .ok (.invokestatic 65, 3) := by decide +kernel
theorem dX9_men_21 : decode cX9_men 21 = .ok (.ifCond .eq 14, 3) := by decide +kernel
theorem dX9_men_24 : decode cX9_men 24 = .ok (.iload_n 3, 1) := by decide +kernel
theorem dX9_men_25 : decode cX9_men 25 = .ok (.iconst 0, 1) := by decide +kernel
theorem dX9_men_26 : decode cX9_men 26 = .ok (.sipush 999, 3) := by decide +kernel
theorem dX9_men_29 : decode cX9_men 29 = .ok (.invokestatic 69, 3) := by decide +kernel
theorem dX9_men_32 : decode cX9_men 32 = .ok (.ifCond .ne 6, 3) := by decide +kernel
theorem dX9_men_35 : decode cX9_men 35 = .ok (.bipush (-2), 2) := by decide +kernel
theorem dX9_men_37 : decode cX9_men 37 = .ok (.ireturn, 1) := by decide +kernel
theorem dX9_men_38 : decode cX9_men 38 = .ok (.aload 4, 2) := by decide +kernel
theorem dX9_men_40 : decode cX9_men 40 = .ok (.iload_n 2, 1) := by decide +kernel
theorem dX9_men_41 : decode cX9_men 41 = .ok (.invokevirtual 73, 3) := by decide +kernel
theorem dX9_men_44 : decode cX9_men 44 = .ok (.istore 5, 2) := by decide +kernel
theorem dX9_men_46 : decode cX9_men 46 = .ok (.aload 4, 2) := by decide +kernel
theorem dX9_men_48 : decode cX9_men 48 = .ok (.iload_n 2, 1) := by decide +kernel
theorem dX9_men_49 : decode cX9_men 49 = .ok (.iload_n 3, 1) := by decide +kernel
theorem dX9_men_50 : decode cX9_men 50 = .ok (.invokevirtual 77, 3) := by decide +kernel
theorem dX9_men_53 : decode cX9_men 53 = .ok (.iload 5, 2) := by decide +kernel
theorem dX9_men_55 : decode cX9_men 55 = .ok (.ireturn, 1) := by decide +kernel
theorem dX9_set_0 : decode cX9_set 0 = .ok (.aload_n 0, 1) := by decide +kernel
theorem dX9_set_1 : decode cX9_set 1 = .ok (.getfield 19, 3) := by decide +kernel
theorem dX9_set_4 : decode cX9_set 4 = .ok (.iload_n 1, 1) := by decide +kernel
theorem dX9_set_5 : decode cX9_set 5 = .ok (.invokevirtual 61, 3) := by decide +kernel
theorem dX9_set_8 : decode cX9_set 8 = .ok (.astore 4, 2) := by decide +kernel
theorem dX9_set_10 : decode cX9_set 10 = .ok (.aload 4, 2) := by decide +kernel
theorem dX9_set_12 : decode cX9_set 12 = .ok (.ifnonnull 5, 3) := by decide +kernel
theorem dX9_set_15 : decode cX9_set 15 = .ok (.iconst (-1), 1) := by decide +kernel
theorem dX9_set_16 : decode cX9_set 16 = .ok (.ireturn, 1) := by decide +kernel
theorem dX9_set_17 : decode cX9_set 17 = .ok (.iload_n 2, 1) := by decide +kernel
theorem dX9_set_18 : decode cX9_set 18 = .ok (.iconst 0, 1) := by decide +kernel
theorem dX9_set_19 : decode cX9_set 19 = .ok (.iconst 2, 1) := by decide +kernel
theorem dX9_set_20 : decode cX9_set 20 = .ok (.invokestatic 69, 3) := by decide +kernel
theorem dX9_set_23 : decode cX9_set 23 = .ok (.ifCond .eq 20, 3) := by decide +kernel
theorem dX9_set_26 : decode cX9_set 26 = .ok (.iload_n 3, 1) := by decide +kernel
theorem dX9_set_27 : decode cX9_set 27 = .ok (.getstatic 81, 3) := by decide +kernel
theorem dX9_set_30 : decode cX9_set 30 = .ok (.iload_n 2, 1) := by decide +kernel
theorem dX9_set_31 : decode cX9_set 31 = .ok (.iaload, 1) := by decide +kernel
theorem dX9_set_32 : decode cX9_set 32 = .ok (.getstatic 85, 3) := by decide +kernel
theorem dX9_set_35 : decode cX9_set 35 = .ok (.iload_n 2, 1) := by decide +kernel
theorem dX9_set_36 : decode cX9_set 36 = .ok (.iaload, 1) := by decide +kernel
theorem dX9_set_37 : decode cX9_set 37 = .ok (.invokestatic 69, 3) := by decide +kernel
theorem dX9_set_40 : decode cX9_set 40 = .ok (.ifCond .ne 6, 3) := by decide +kernel
theorem dX9_set_43 : decode cX9_set 43 = .ok (.bipush (-2), 2) := by decide +kernel
theorem dX9_set_45 : decode cX9_set 45 = .ok (.ireturn, 1) := by decide +kernel
theorem dX9_set_46 : decode cX9_set 46 = .ok (.aload 4, 2) := by decide +kernel
theorem dX9_set_48 : decode cX9_set 48 = .ok (.iload_n 2, 1) := by decide +kernel
theorem dX9_set_49 : decode cX9_set 49 = .ok (.invokevirtual 88, 3) := by decide +kernel
theorem dX9_set_52 : decode cX9_set 52 = .ok (.istore 5, 2) := by decide +kernel
theorem dX9_set_54 : decode cX9_set 54 = .ok (.aload 4, 2) := by decide +kernel
theorem dX9_set_56 : decode cX9_set 56 = .ok (.iload_n 2, 1) := by decide +kernel
theorem dX9_set_57 : decode cX9_set 57 = .ok (.iload_n 3, 1) := by decide +kernel
theorem dX9_set_58 : decode cX9_set 58 = .ok (.invokevirtual 91, 3) := by decide +kernel
theorem dX9_set_61 : decode cX9_set 61 = .ok (.iload 5, 2) := by decide +kernel
theorem dX9_set_63 : decode cX9_set 63 = .ok (.ireturn, 1) := by decide +kernel
theorem dX9_way_0 : decode cX9_way 0 = .ok (.iload_n 1, 1) := by decide +kernel
theorem dX9_way_1 : decode cX9_way 1 = .ok (.iconst 0, 1) := by decide +kernel
theorem dX9_way_2 : decode cX9_way 2 = .ok (.iconst 4, 1) := by decide +kernel
theorem dX9_way_3 : decode cX9_way 3 = .ok (.invokestatic 69, 3) := by decide +kernel
theorem dX9_way_6 : decode cX9_way 6 = .ok (.ifCond .eq 16, 3) := by decide +kernel
theorem dX9_way_9 : decode cX9_way 9 = .ok (.iload_n 2, 1) := by decide +kernel
theorem dX9_way_10 : decode cX9_way 10 = .ok (.iconst 0, 1) := by decide +kernel
theorem dX9_way_11 : decode cX9_way 11 = .ok (.getstatic 94, 3) := by decide +kernel
theorem dX9_way_14 : decode cX9_way 14 = .ok (.iload_n 1, 1) := by decide +kernel
theorem dX9_way_15 : decode cX9_way 15 = .ok (.iaload, 1) := by decide +kernel
theorem dX9_way_16 : decode cX9_way 16 = .ok (.invokestatic 69, 3) := by decide +kernel
theorem dX9_way_19 : decode cX9_way 19 = .ok (.ifCond .ne 6, 3) := by decide +kernel
theorem dX9_way_22 : decode cX9_way 22 = .ok (.bipush (-2), 2) := by decide +kernel
theorem dX9_way_24 : decode cX9_way 24 = .ok (.ireturn, 1) := by decide +kernel
theorem dX9_way_25 : decode cX9_way 25 = .ok (.aload_n 0, 1) := by decide +kernel
theorem dX9_way_26 : decode cX9_way 26 = .ok (.getfield 19, 3) := by decide +kernel
theorem dX9_way_29 : decode cX9_way 29 = .ok (.iload_n 1, 1) := by decide +kernel
theorem dX9_way_30 : decode cX9_way 30 = .ok (.invokevirtual 97, 3) := by decide +kernel
theorem dX9_way_33 : decode cX9_way 33 = .ok (.istore_n 3, 1) := by decide +kernel
theorem dX9_way_34 : decode cX9_way 34 = .ok (.aload_n 0, 1) := by decide +kernel
theorem dX9_way_35 : decode cX9_way 35 = .ok (.getfield 19, 3) := by decide +kernel
theorem dX9_way_38 : decode cX9_way 38 = .ok (.iload_n 1, 1) := by decide +kernel
theorem dX9_way_39 : decode cX9_way 39 = .ok (.iload_n 2, 1) := by decide +kernel
theorem dX9_way_40 : decode cX9_way 40 = .ok (.invokevirtual 100, 3) := by decide +kernel
theorem dX9_way_43 : decode cX9_way 43 = .ok (.iload_n 3, 1) := by decide +kernel
theorem dX9_way_44 : decode cX9_way 44 = .ok (.ireturn, 1) := by decide +kernel
theorem dX9_say_0 : decode cX9_say 0 = .ok (.iload_n 1, 1) := by decide +kernel
theorem dX9_say_1 : decode cX9_say 1 = .ok (.bipush 33, 2) := by decide +kernel
theorem dX9_say_3 : decode cX9_say 3 = .ok (.bipush 126, 2) := by decide +kernel
theorem dX9_say_5 : decode cX9_say 5 = .ok (.invokestatic 69, 3) := by decide +kernel
theorem dX9_say_8 : decode cX9_say 8 = .ok (.ifCond .ne 6, 3) := by decide +kernel
theorem dX9_say_11 : decode cX9_say 11 = .ok (.bipush (-2), 2) := by decide +kernel
theorem dX9_say_13 : decode cX9_say 13 = .ok (.ireturn, 1) := by decide +kernel
theorem dX9_say_14 : decode cX9_say 14 = .ok (.aload_n 0, 1) := by decide +kernel
theorem dX9_say_15 : decode cX9_say 15 = .ok (.getfield 10, 3) := by decide +kernel
theorem dX9_say_18 : decode cX9_say 18 = .ok (.iload_n 1, 1) := by decide +kernel
theorem dX9_say_19 : decode cX9_say 19 = .ok (.invokevirtual 103, 3) := by decide +kernel
theorem dX9_say_22 : decode cX9_say 22 = .ok (.ifCond .eq 13, 3) := by decide +kernel
theorem dX9_say_25 : decode cX9_say 25 = .ok (.aload_n 0, 1) := by decide +kernel
theorem dX9_say_26 : decode cX9_say 26 = .ok (.getfield 10, 3) := by decide +kernel
theorem dX9_say_29 : decode cX9_say 29 = .ok (.getfield 106, 3) := by decide +kernel
theorem dX9_say_32 : decode cX9_say 32 = .ok (.goto 5, 3) := by decide +kernel
theorem dX9_say_35 : decode cX9_say 35 = .ok (.bipush (-4), 2) := by decide +kernel
theorem dX9_say_37 : decode cX9_say 37 = .ok (.ireturn, 1) := by decide +kernel
theorem dX9_wipe_0 : decode cX9_wipe 0 = .ok (.aload_n 0, 1) := by decide +kernel
theorem dX9_wipe_1 : decode cX9_wipe 1 = .ok (.getfield 10, 3) := by decide +kernel
theorem dX9_wipe_4 : decode cX9_wipe 4 = .ok (.getfield 106, 3) := by decide +kernel
theorem dX9_wipe_7 : decode cX9_wipe 7 = .ok (.istore_n 1, 1) := by decide +kernel
theorem dX9_wipe_8 : decode cX9_wipe 8 = .ok (.aload_n 0, 1) := by decide +kernel
theorem dX9_wipe_9 : decode cX9_wipe 9 = .ok (.getfield 10, 3) := by decide +kernel
theorem dX9_wipe_12 : decode cX9_wipe 12 = .ok (.invokevirtual 110, 3) := by decide +kernel
theorem dX9_wipe_15 : decode cX9_wipe 15 = .ok (.iload_n 1, 1) := by decide +kernel
theorem dX9_wipe_16 : decode cX9_wipe 16 = .ok (.ireturn, 1) := by decide +kernel
theorem dX9_fault_0 : decode cX9_fault 0 = .ok (.iload_n 1, 1) := by decide +kernel
theorem dX9_fault_1 : decode cX9_fault 1 = .ok (.iconst 0, 1) := by decide +kernel
theorem dX9_fault_2 : decode cX9_fault 2 = .ok (.iconst 1, 1) := by decide +kernel
theorem dX9_fault_3 : decode cX9_fault 3 = .ok (.invokestatic 69, 3) := by decide +kernel
theorem dX9_fault_6 : decode cX9_fault 6 = .ok (.ifCond .eq 14, 3) := by decide +kernel
theorem dX9_fault_9 : decode cX9_fault 9 = .ok (.aload_n 0, 1) := by decide +kernel
theorem dX9_fault_10 : decode cX9_fault 10 = .ok (.getfield 10, 3) := by decide +kernel
theorem dX9_fault_13 : decode cX9_fault 13 = .ok (.iload_n 1, 1) := by decide +kernel
theorem dX9_fault_14 : decode cX9_fault 14 = .ok (.invokestatic 113, 3) := by decide +kernel
theorem dX9_fault_17 : decode cX9_fault 17 = .ok (.goto 5, 3) := by decide +kernel
theorem dX9_fault_20 : decode cX9_fault 20 = .ok (.bipush (-2), 2) := by decide +kernel
theorem dX9_fault_22 : decode cX9_fault 22 = .ok (.ireturn, 1) := by decide +kernel
theorem dX9_take_0 : decode cX9_take 0 = .ok (.iload_n 1, 1) := by decide +kernel
theorem dX9_take_1 : decode cX9_take 1 = .ok (.iconst 0, 1) := by decide +kernel
theorem dX9_take_2 : decode cX9_take 2 = .ok (.iconst 1, 1) := by decide +kernel
theorem dX9_take_3 : decode cX9_take 3 = .ok (.invokestatic 69, 3) := by decide +kernel
theorem dX9_take_6 : decode cX9_take 6 = .ok (.ifCond .ne 6, 3) := by decide +kernel
theorem dX9_take_9 : decode cX9_take 9 = .ok (.bipush (-2), 2) := by decide +kernel
theorem dX9_take_11 : decode cX9_take 11 = .ok (.ireturn, 1) := by decide +kernel
theorem dX9_take_12 : decode cX9_take 12 = .ok (.aload_n 0, 1) := by decide +kernel
theorem dX9_take_13 : decode cX9_take 13 = .ok (.getfield 10, 3) := by decide +kernel
theorem dX9_take_16 : decode cX9_take 16 = .ok (.iload_n 1, 1) := by decide +kernel
theorem dX9_take_17 : decode cX9_take 17 = .ok (.invokestatic 113, 3) := by decide +kernel
theorem dX9_take_20 : decode cX9_take 20 = .ok (.bipush (-6), 2) := by decide +kernel
theorem dX9_take_22 : decode cX9_take 22 = .ok (.if_icmp .eq 6, 3) := by decide +kernel
theorem dX9_take_25 : decode cX9_take 25 = .ok (.bipush (-5), 2) := by decide +kernel
theorem dX9_take_27 : decode cX9_take 27 = .ok (.ireturn, 1) := by decide +kernel
theorem dX9_take_28 : decode cX9_take 28 = .ok (.iload_n 1, 1) := by decide +kernel
theorem dX9_take_29 : decode cX9_take 29 = .ok (.ifCond .ne 13, 3) := by decide +kernel
theorem dX9_take_32 : decode cX9_take 32 = .ok (.aload_n 0, 1) := by decide +kernel
theorem dX9_take_33 : decode cX9_take 33 = .ok (.getfield 19, 3) := by decide +kernel
theorem dX9_take_36 : decode cX9_take 36 = .ok (.getfield 119, 3) := by decide +kernel
theorem dX9_take_39 : decode cX9_take 39 = .ok (.goto 10, 3) := by decide +kernel
theorem dX9_take_42 : decode cX9_take 42 = .ok (.aload_n 0, 1) := by decide +kernel
theorem dX9_take_43 : decode cX9_take 43 = .ok (.getfield 19, 3) := by decide +kernel
theorem dX9_take_46 : decode cX9_take 46 = .ok (.getfield 122, 3) := by decide +kernel
theorem dX9_take_49 : decode cX9_take 49 = .ok (.astore_n 2, 1) := by decide +kernel
theorem dX9_take_50 : decode cX9_take 50 = .ok (.aload_n 2, 1) := by decide +kernel
theorem dX9_take_51 : decode cX9_take 51 = .ok (.aload_n 0, 1) := by decide +kernel
theorem dX9_take_52 : decode cX9_take 52 = .ok (.getfield 10, 3) := by decide +kernel
theorem dX9_take_55 : decode cX9_take 55 = .ok (.invokevirtual 125, 3) := by decide +kernel
theorem dX9_take_58 : decode cX9_take 58 = .ok (.aload_n 0, 1) := by decide +kernel
theorem dX9_take_59 : decode cX9_take 59 = .ok (.getfield 10, 3) := by decide +kernel
theorem dX9_take_62 : decode cX9_take 62 = .ok (.invokevirtual 110, 3) := by decide +kernel
theorem dX9_take_65 : decode cX9_take 65 = .ok (.aload_n 2, 1) := by decide +kernel
theorem dX9_take_66 : decode cX9_take 66 = .ok (.invokevirtual 129, 3) := by decide +kernel
theorem dX9_take_69 : decode cX9_take 69 = .ok (.ireturn, 1) := by decide +kernel
theorem dX9_line_0 : decode cX9_line 0 = .ok (.aload_n 0, 1) := by decide +kernel
theorem dX9_line_1 : decode cX9_line 1 = .ok (.getfield 19, 3) := by decide +kernel
theorem dX9_line_4 : decode cX9_line 4 = .ok (.iload_n 1, 1) := by decide +kernel
theorem dX9_line_5 : decode cX9_line 5 = .ok (.invokevirtual 61, 3) := by decide +kernel
theorem dX9_line_8 : decode cX9_line 8 = .ok (.astore_n 2, 1) := by decide +kernel
theorem dX9_line_9 : decode cX9_line 9 = .ok (.aload_n 2, 1) := by decide +kernel
theorem dX9_line_10 : decode cX9_line 10 = .ok (.ifnonnull 7, 3) := by decide +kernel
theorem dX9_line_13 : decode cX9_line 13 = .ok (.iconst (-1), 1) := by decide +kernel
theorem dX9_line_14 : decode cX9_line 14 = .ok (.goto 11, 3) := by decide +kernel
theorem dX9_line_17 : decode cX9_line 17 = .ok (.aload_n 0, 1) := by decide +kernel
theorem dX9_line_18 : decode cX9_line 18 = .ok (.getfield 19, 3) := by decide +kernel
theorem dX9_line_21 : decode cX9_line 21 = .ok (.aload_n 2, 1) := by decide +kernel
theorem dX9_line_22 : decode cX9_line 22 = .ok (.invokevirtual 133, 3) := by decide +kernel
theorem dX9_line_25 : decode cX9_line 25 = .ok (.ireturn, 1) := by decide +kernel
theorem dX9_hump_0 : decode cX9_hump 0 = .ok (.iload_n 1, 1) := by decide +kernel
theorem dX9_hump_1 : decode cX9_hump 1 = .ok (.iload_n 2, 1) := by decide +kernel
theorem dX9_hump_2 : decode cX9_hump 2 = .ok (.invokestatic 137, 3) := by decide +kernel
theorem dX9_hump_5 : decode cX9_hump 5 = .ok (.ifCond .eq 23, 3) := by decide +kernel
theorem dX9_hump_8 : decode cX9_hump 8 = .ok (.iload_n 3, 1) := by decide +kernel
theorem dX9_hump_9 : decode cX9_hump 9 = .ok (.invokestatic 65, 3) := by decide +kernel
theorem dX9_hump_12 : decode cX9_hump 12 = .ok (.ifCond .eq 16, 3) := by decide +kernel
theorem dX9_hump_15 : decode cX9_hump 15 = .ok (.aload_n 0, 1) := by decide +kernel
theorem dX9_hump_16 : decode cX9_hump 16 = .ok (.getfield 34, 3) := by decide +kernel
theorem dX9_hump_19 : decode cX9_hump 19 = .ok (.iload_n 1, 1) := by decide +kernel
theorem dX9_hump_20 : decode cX9_hump 20 = .ok (.iload_n 2, 1) := by decide +kernel
theorem dX9_hump_21 : decode cX9_hump 21 = .ok (.iload_n 3, 1) := by decide +kernel
theorem dX9_hump_22 : decode cX9_hump 22 = .ok (.invokevirtual 141, 3) := by decide +kernel
theorem dX9_hump_25 : decode cX9_hump 25 = .ok (.goto 5, 3) := by decide +kernel
theorem dX9_hump_28 : decode cX9_hump 28 = .ok (.bipush (-2), 2) := by decide +kernel
theorem dX9_hump_30 : decode cX9_hump 30 = .ok (.ireturn, 1) := by decide +kernel
theorem dX9_upper_0 : decode cX9_upper 0 = .ok (.iload_n 1, 1) := by decide +kernel
theorem dX9_upper_1 : decode cX9_upper 1 = .ok (.iload_n 2, 1) := by decide +kernel
theorem dX9_upper_2 : decode cX9_upper 2 = .ok (.invokestatic 137, 3) := by decide +kernel
theorem dX9_upper_5 : decode cX9_upper 5 = .ok (.ifCond .eq 28, 3) := by decide +kernel
theorem dX9_upper_8 : decode cX9_upper 8 = .ok (.iload_n 3, 1) := by decide +kernel
theorem dX9_upper_9 : decode cX9_upper 9 = .ok (.invokestatic 65, 3) := by decide +kernel
theorem dX9_upper_12 : decode cX9_upper 12 = .ok (.ifCond .eq 21, 3) := by decide +kernel
theorem dX9_upper_15 : decode cX9_upper 15 = .ok (.iload 4, 2) := by decide +kernel
theorem dX9_upper_17 : decode cX9_upper 17 = .ok (.iconst 0, 1) := by decide +kernel
theorem dX9_upper_18 : decode cX9_upper 18 = .ok (.iconst 1, 1) := by decide +kernel
theorem dX9_upper_19 : decode cX9_upper 19 = .ok (.invokestatic 69, 3) := by decide +kernel
theorem dX9_upper_22 : decode cX9_upper 22 = .ok (.ifCond .eq 11, 3) := by decide +kernel
theorem dX9_upper_25 : decode cX9_upper 25 = .ok (.iload 5, 2) := by decide +kernel
theorem dX9_upper_27 : decode cX9_upper 27 = .ok (.invokestatic 144, 3) := by decide +kernel
theorem dX9_upper_30 : decode cX9_upper 30 = .ok (.ifCond .ne 7, 3) := by decide +kernel
theorem dX9_upper_33 : decode cX9_upper 33 = .ok (.ldc2_w 147, 3) := by decide +kernel
theorem dX9_upper_36 : decode cX9_upper 36 = .ok (.lreturn, 1) := by decide +kernel
theorem dX9_upper_37 : decode cX9_upper 37 = .ok (.aload_n 0, 1) := by decide +kernel
theorem dX9_upper_38 : decode cX9_upper 38 = .ok (.getfield 34, 3) := by decide +kernel
theorem dX9_upper_41 : decode cX9_upper 41 = .ok (.iload_n 1, 1) := by decide +kernel
theorem dX9_upper_42 : decode cX9_upper 42 = .ok (.iload_n 2, 1) := by decide +kernel
theorem dX9_upper_43 : decode cX9_upper 43 = .ok (.iload_n 3, 1) := by decide +kernel
theorem dX9_upper_44 : decode cX9_upper 44 = .ok (.invokevirtual 149, 3) := by decide +kernel
theorem dX9_upper_47 : decode cX9_upper 47 = .ok (.lstore 6, 2) := by decide +kernel
theorem dX9_upper_49 : decode cX9_upper 49 = .ok (.iload 4, 2) := by decide +kernel
theorem dX9_upper_51 : decode cX9_upper 51 = .ok (.ifCond .ne 21, 3) := by decide +kernel
theorem dX9_upper_54 : decode cX9_upper 54 = .ok (.lload 6, 2) := by decide +kernel
theorem dX9_upper_56 : decode cX9_upper 56 = .ok (.aload_n 0, 1) := by decide +kernel
theorem dX9_upper_57 : decode cX9_upper 57 = .ok (.getfield 34, 3) := by decide +kernel
theorem dX9_upper_60 : decode cX9_upper 60 = .ok (.iload_n 1, 1) := by decide +kernel
theorem dX9_upper_61 : decode cX9_upper 61 = .ok (.iload_n 2, 1) := by decide +kernel
theorem dX9_upper_62 : decode cX9_upper 62 = .ok (.iconst 0, 1) := by decide +kernel
theorem dX9_upper_63 : decode cX9_upper 63 = .ok (.invokevirtual 149, 3) := by decide +kernel
theorem dX9_upper_66 : decode cX9_upper 66 = .ok (.iload 5, 2) := by decide +kernel
theorem dX9_upper_68 : decode cX9_upper 68 = .ok (.invokestatic 153, 3) := by decide +kernel
theorem dX9_upper_71 : decode cX9_upper 71 = .ok (.lreturn, 1) := by decide +kernel
theorem dX9_upper_72 : decode cX9_upper 72 = .ok (.aload_n 0, 1) := by decide +kernel
theorem dX9_upper_73 : decode cX9_upper 73 = .ok (.getfield 34, 3) := by decide +kernel
theorem dX9_upper_76 : decode cX9_upper 76 = .ok (.iload_n 1, 1) := by decide +kernel
theorem dX9_upper_77 : decode cX9_upper 77 = .ok (.iload_n 2, 1) := by decide +kernel
theorem dX9_upper_78 : decode cX9_upper 78 = .ok (.iload_n 3, 1) := by decide +kernel
theorem dX9_upper_79 : decode cX9_upper 79 = .ok (.invokevirtual 157, 3) := by decide +kernel
theorem dX9_upper_82 : decode cX9_upper 82 = .ok (.lload 6, 2) := by decide +kernel
theorem dX9_upper_84 : decode cX9_upper 84 = .ok (.iload 5, 2) := by decide +kernel
theorem dX9_upper_86 : decode cX9_upper 86 = .ok (.invokestatic 153, 3) := by decide +kernel
theorem dX9_upper_89 : decode cX9_upper 89 = .ok (.lreturn, 1) := by decide +kernel
theorem dX9_misfit_0 : decode cX9_misfit 0 = .ok (.aload_n 0, 1) := by decide +kernel
theorem dX9_misfit_1 : decode cX9_misfit 1 = .ok (.getfield 19, 3) := by decide +kernel
theorem dX9_misfit_4 : decode cX9_misfit 4 = .ok (.iload_n 1, 1) := by decide +kernel
theorem dX9_misfit_5 : decode cX9_misfit 5 = .ok (.invokevirtual 61, 3) := by decide +kernel
theorem dX9_misfit_8 : decode cX9_misfit 8 = .ok (.astore 5, 2) := by decide +kernel
theorem dX9_misfit_10 : decode cX9_misfit 10 = .ok (.aload 5, 2) := by decide +kernel
theorem dX9_misfit_12 : decode cX9_misfit 12 = .ok (.ifnonnull 5, 3) := by decide +kernel
theorem dX9_misfit_15 : decode cX9_misfit 15 = .ok (.iconst (-1), 1) := by decide +kernel
theorem dX9_misfit_16 : decode cX9_misfit 16 = .ok (.ireturn, 1) := by decide +kernel
theorem dX9_misfit_17 : decode cX9_misfit 17 = .ok (.iload_n 2, 1) := by decide +kernel
theorem dX9_misfit_18 : decode cX9_misfit 18 = .ok (.iload_n 3, 1) := by decide +kernel
theorem dX9_misfit_19 : decode cX9_misfit 19 = .ok (.invokestatic 137, 3) := by decide +kernel
theorem dX9_misfit_22 : decode cX9_misfit 22 = .ok (.ifCond .eq 11, 3) := by decide +kernel
theorem dX9_misfit_25 : decode cX9_misfit 25 = .ok (.iload 4, 2) := by decide +kernel
theorem dX9_misfit_27 : decode cX9_misfit 27 = .ok (.invokestatic 65, 3) := by decide +kernel
theorem dX9_misfit_30 : decode cX9_misfit 30 = .ok (.ifCond .ne 6, 3) := by decide +kernel
theorem dX9_misfit_33 : decode cX9_misfit 33 = .ok (.bipush (-2), 2) := by decide +kernel
theorem dX9_misfit_35 : decode cX9_misfit 35 = .ok (.ireturn, 1) := by decide +kernel
theorem dX9_misfit_36 : decode cX9_misfit 36 = .ok (.aload_n 0, 1) := by decide +kernel
theorem dX9_misfit_37 : decode cX9_misfit 37 = .ok (.getfield 43, 3) := by decide +kernel
theorem dX9_misfit_40 : decode cX9_misfit 40 = .ok (.aload 5, 2) := by decide +kernel
theorem dX9_misfit_42 : decode cX9_misfit 42 = .ok (.iload_n 2, 1) := by decide +kernel
theorem dX9_misfit_43 : decode cX9_misfit 43 = .ok (.iload_n 3, 1) := by decide +kernel
theorem dX9_misfit_44 : decode cX9_misfit 44 = .ok (.iload 4, 2) := by decide +kernel
theorem dX9_misfit_46 : decode cX9_misfit 46 = .ok (.aload_n 0, 1) := by decide +kernel
theorem dX9_misfit_47 : decode cX9_misfit 47 = .ok (.getfield 19, 3) := by decide +kernel
theorem dX9_misfit_50 : decode cX9_misfit 50 = .ok (.iconst 0, 1) := by decide +kernel
theorem dX9_misfit_51 : decode cX9_misfit 51 = .ok (.invokevirtual 97, 3) := by decide +kernel
theorem dX9_misfit_54 : decode cX9_misfit 54 = .ok (.invokevirtual 160, 3) := by decide +kernel
theorem dX9_misfit_57 : decode cX9_misfit 57 = .ok (.ireturn, 1) := by decide +kernel
theorem dX9_fit_0 : decode cX9_fit 0 = .ok (.aload_n 0, 1) := by decide +kernel
theorem dX9_fit_1 : decode cX9_fit 1 = .ok (.getfield 19, 3) := by decide +kernel
theorem dX9_fit_4 : decode cX9_fit 4 = .ok (.iload_n 1, 1) := by decide +kernel
theorem dX9_fit_5 : decode cX9_fit 5 = .ok (.invokevirtual 61, 3) := by decide +kernel
theorem dX9_fit_8 : decode cX9_fit 8 = .ok (.astore 4, 2) := by decide +kernel
theorem dX9_fit_10 : decode cX9_fit 10 = .ok (.aload 4, 2) := by decide +kernel
theorem dX9_fit_12 : decode cX9_fit 12 = .ok (.ifnonnull 5, 3) := by decide +kernel
theorem dX9_fit_15 : decode cX9_fit 15 = .ok (.iconst (-1), 1) := by decide +kernel
theorem dX9_fit_16 : decode cX9_fit 16 = .ok (.ireturn, 1) := by decide +kernel
theorem dX9_fit_17 : decode cX9_fit 17 = .ok (.iload_n 2, 1) := by decide +kernel
theorem dX9_fit_18 : decode cX9_fit 18 = .ok (.invokestatic 164, 3) := by decide +kernel
theorem dX9_fit_21 : decode cX9_fit 21 = .ok (.ifCond .eq 12, 3) := by decide +kernel
theorem dX9_fit_24 : decode cX9_fit 24 = .ok (.iload_n 3, 1) := by decide +kernel
theorem dX9_fit_25 : decode cX9_fit 25 = .ok (.iconst 0, 1) := by decide +kernel
theorem dX9_fit_26 : decode cX9_fit 26 = .ok (.iconst 1, 1) := by decide +kernel
theorem dX9_fit_27 : decode cX9_fit 27 = .ok (.invokestatic 69, 3) := by decide +kernel
theorem dX9_fit_30 : decode cX9_fit 30 = .ok (.ifCond .ne 6, 3) := by decide +kernel
theorem dX9_fit_33 : decode cX9_fit 33 = .ok (.bipush (-2), 2) := by decide +kernel
theorem dX9_fit_35 : decode cX9_fit 35 = .ok (.ireturn, 1) := by decide +kernel
theorem dX9_fit_36 : decode cX9_fit 36 = .ok (.aload_n 0, 1) := by decide +kernel
theorem dX9_fit_37 : decode cX9_fit 37 = .ok (.aload 4, 2) := by decide +kernel
theorem dX9_fit_39 : decode cX9_fit 39 = .ok (.iload_n 2, 1) := by decide +kernel
theorem dX9_fit_40 : decode cX9_fit 40 = .ok (.invokevirtual 167, 3) := by decide +kernel
theorem dX9_fit_43 : decode cX9_fit 43 = .ok (.iload_n 3, 1) := by decide +kernel
theorem dX9_fit_44 : decode cX9_fit 44 = .ok (.ifCond .ne 13, 3) := by decide +kernel
theorem dX9_fit_47 : decode cX9_fit 47 = .ok (.aload_n 0, 1) := by decide +kernel
theorem dX9_fit_48 : decode cX9_fit 48 = .ok (.getfield 43, 3) := by decide +kernel
theorem dX9_fit_51 : decode cX9_fit 51 = .ok (.getfield 171, 3) := by decide +kernel
theorem dX9_fit_54 : decode cX9_fit 54 = .ok (.goto 10, 3) := by decide +kernel
theorem dX9_fit_57 : decode cX9_fit 57 = .ok (.aload_n 0, 1) := by decide +kernel
theorem dX9_fit_58 : decode cX9_fit 58 = .ok (.getfield 43, 3) := by decide +kernel
theorem dX9_fit_61 : decode cX9_fit 61 = .ok (.getfield 174, 3) := by decide +kernel
theorem dX9_fit_64 : decode cX9_fit 64 = .ok (.ireturn, 1) := by decide +kernel
theorem dX9_span_0 : decode cX9_span 0 = .ok (.aload_n 0, 1) := by decide +kernel
theorem dX9_span_1 : decode cX9_span 1 = .ok (.getfield 19, 3) := by decide +kernel
theorem dX9_span_4 : decode cX9_span 4 = .ok (.iload_n 1, 1) := by decide +kernel
theorem dX9_span_5 : decode cX9_span 5 = .ok (.invokevirtual 61, 3) := by decide +kernel
theorem dX9_span_8 : decode cX9_span 8 = .ok (.astore 5, 2) := by decide +kernel
theorem dX9_span_10 : decode cX9_span 10 = .ok (.aload 5, 2) := by decide +kernel
theorem dX9_span_12 : decode cX9_span 12 = .ok (.ifnonnull 5, 3) := by decide +kernel
theorem dX9_span_15 : decode cX9_span 15 = .ok (.iconst (-1), 1) := by decide +kernel
theorem dX9_span_16 : decode cX9_span 16 = .ok (.ireturn, 1) := by decide +kernel
theorem dX9_span_17 : decode cX9_span 17 = .ok (.iload_n 2, 1) := by decide +kernel
theorem dX9_span_18 : decode cX9_span 18 = .ok (.invokestatic 164, 3) := by decide +kernel
theorem dX9_span_21 : decode cX9_span 21 = .ok (.ifCond .eq 24, 3) := by decide +kernel
theorem dX9_span_24 : decode cX9_span 24 = .ok (.iload_n 3, 1) := by decide +kernel
theorem dX9_span_25 : decode cX9_span 25 = .ok (.iconst 0, 1) := by decide +kernel
theorem dX9_span_26 : decode cX9_span 26 = .ok (.sipush 999, 3) := by decide +kernel
theorem dX9_span_29 : decode cX9_span 29 = .ok (.invokestatic 69, 3) := by decide +kernel
theorem dX9_span_32 : decode cX9_span 32 = .ok (.ifCond .eq 13, 3) := by decide +kernel
theorem dX9_span_35 : decode cX9_span 35 = .ok (.iload 4, 2) := by decide +kernel
theorem dX9_span_37 : decode cX9_span 37 = .ok (.iconst 0, 1) := by decide +kernel
theorem dX9_span_38 : decode cX9_span 38 = .ok (.iconst 1, 1) := by decide +kernel
theorem dX9_span_39 : decode cX9_span 39 = .ok (.invokestatic 69, 3) := by decide +kernel
theorem dX9_span_42 : decode cX9_span 42 = .ok (.ifCond .ne 6, 3) := by decide +kernel
theorem dX9_span_45 : decode cX9_span 45 = .ok (.bipush (-2), 2) := by decide +kernel
theorem dX9_span_47 : decode cX9_span 47 = .ok (.ireturn, 1) := by decide +kernel
theorem dX9_span_48 : decode cX9_span 48 = .ok (.aload_n 0, 1) := by decide +kernel
theorem dX9_span_49 : decode cX9_span 49 = .ok (.aload 5, 2) := by decide +kernel
theorem dX9_span_51 : decode cX9_span 51 = .ok (.iload_n 2, 1) := by decide +kernel
theorem dX9_span_52 : decode cX9_span 52 = .ok (.iload_n 3, 1) := by decide +kernel
theorem dX9_span_53 : decode cX9_span 53 = .ok (.invokevirtual 177, 3) := by decide +kernel
theorem dX9_span_56 : decode cX9_span 56 = .ok (.iload 4, 2) := by decide +kernel
theorem dX9_span_58 : decode cX9_span 58 = .ok (.ifCond .ne 13, 3) := by decide +kernel
theorem dX9_span_61 : decode cX9_span 61 = .ok (.aload_n 0, 1) := by decide +kernel
theorem dX9_span_62 : decode cX9_span 62 = .ok (.getfield 43, 3) := by decide +kernel
theorem dX9_span_65 : decode cX9_span 65 = .ok (.getfield 181, 3) := by decide +kernel
theorem dX9_span_68 : decode cX9_span 68 = .ok (.goto 10, 3) := by decide +kernel
theorem dX9_span_71 : decode cX9_span 71 = .ok (.aload_n 0, 1) := by decide +kernel
theorem dX9_span_72 : decode cX9_span 72 = .ok (.getfield 43, 3) := by decide +kernel
theorem dX9_span_75 : decode cX9_span 75 = .ok (.getfield 184, 3) := by decide +kernel
theorem dX9_span_78 : decode cX9_span 78 = .ok (.ireturn, 1) := by decide +kernel
theorem dX9_found_0 : decode cX9_found 0 = .ok (.aload_n 0, 1) := by decide +kernel
theorem dX9_found_1 : decode cX9_found 1 = .ok (.getfield 19, 3) := by decide +kernel
theorem dX9_found_4 : decode cX9_found 4 = .ok (.iload_n 1, 1) := by decide +kernel
theorem dX9_found_5 : decode cX9_found 5 = .ok (.invokevirtual 61, 3) := by decide +kernel
theorem dX9_found_8 : decode cX9_found 8 = .ok (.astore 4, 2) := by decide +kernel
theorem dX9_found_10 : decode cX9_found 10 = .ok (.aload 4, 2) := by decide +kernel
theorem dX9_found_12 : decode cX9_found 12 = .ok (.ifnonnull 5, 3) := by decide +kernel
theorem dX9_found_15 : decode cX9_found 15 = .ok (.iconst (-1), 1) := by decide +kernel
theorem dX9_found_16 : decode cX9_found 16 = .ok (.ireturn, 1) := by decide +kernel
theorem dX9_found_17 : decode cX9_found 17 = .ok (.iload_n 2, 1) := by decide +kernel
theorem dX9_found_18 : decode cX9_found 18 = .ok (.invokestatic 164, 3) := by decide +kernel
theorem dX9_found_21 : decode cX9_found 21 = .ok (.ifCond .eq 12, 3) := by decide +kernel
theorem dX9_found_24 : decode cX9_found 24 = .ok (.iload_n 3, 1) := by decide +kernel
theorem dX9_found_25 : decode cX9_found 25 = .ok (.iconst 0, 1) := by decide +kernel
theorem dX9_found_26 : decode cX9_found 26 = .ok (.iconst 2, 1) := by decide +kernel
theorem dX9_found_27 : decode cX9_found 27 = .ok (.invokestatic 69, 3) := by decide +kernel
theorem dX9_found_30 : decode cX9_found 30 = .ok (.ifCond .ne 6, 3) := by decide +kernel
theorem dX9_found_33 : decode cX9_found 33 = .ok (.bipush (-2), 2) := by decide +kernel
theorem dX9_found_35 : decode cX9_found 35 = .ok (.ireturn, 1) := by decide +kernel
theorem dX9_found_36 : decode cX9_found 36 = .ok (.aload_n 0, 1) := by decide +kernel
theorem dX9_found_37 : decode cX9_found 37 = .ok (.getfield 43, 3) := by decide +kernel
theorem dX9_found_40 : decode cX9_found 40 = .ok (.aload 4, 2) := by decide +kernel
theorem dX9_found_42 : decode cX9_found 42 = .ok (.iload_n 2, 1) := by decide +kernel
theorem dX9_found_43 : decode cX9_found 43 = .ok (.aload_n 0, 1) := by decide +kernel
theorem dX9_found_44 : decode cX9_found 44 = .ok (.getfield 19, 3) := by decide +kernel
theorem dX9_found_47 : decode cX9_found 47 = .ok (.iconst 0, 1) := by decide +kernel
theorem dX9_found_48 : decode cX9_found 48 = .ok (.invokevirtual 97, 3) := by decide +kernel
theorem dX9_found_51 : decode cX9_found 51 = .ok (.invokevirtual 187, 3) := by decide +kernel
theorem dX9_found_54 : decode cX9_found 54 = .ok (.iload_n 3, 1) := by decide +kernel
theorem dX9_found_55 : decode cX9_found 55 = .ok (.ifCond .ne 11, 3) := by decide +kernel
theorem dX9_found_58 : decode cX9_found 58 = .ok (.aload_n 0, 1) := by decide +kernel
theorem dX9_found_59 : decode cX9_found 59 = .ok (.getfield 43, 3) := by decide +kernel
theorem dX9_found_62 : decode cX9_found 62 = .ok (.getfield 190, 3) := by decide +kernel
theorem dX9_found_65 : decode cX9_found 65 = .ok (.ireturn, 1) := by decide +kernel
theorem dX9_found_66 : decode cX9_found 66 = .ok (.iload_n 3, 1) := by decide +kernel
theorem dX9_found_67 : decode cX9_found 67 = .ok (.iconst 1, 1) := by decide +kernel
theorem dX9_found_68 : decode cX9_found 68 = .ok (.if_icmp .ne 13, 3) := by decide +kernel
theorem dX9_found_71 : decode cX9_found 71 = .ok (.aload_n 0, 1) := by decide +kernel
theorem dX9_found_72 : decode cX9_found 72 = .ok (.getfield 43, 3) := by decide +kernel
theorem dX9_found_75 : decode cX9_found 75 = .ok (.getfield 171, 3) := by decide +kernel
theorem dX9_found_78 : decode cX9_found 78 = .ok (.goto 10, 3) := by decide +kernel
theorem dX9_found_81 : decode cX9_found 81 = .ok (.aload_n 0, 1) := by decide +kernel
theorem dX9_found_82 : decode cX9_found 82 = .ok (.getfield 43, 3) := by decide +kernel
theorem dX9_found_85 : decode cX9_found 85 = .ok (.getfield 174, 3) := by decide +kernel
theorem dX9_found_88 : decode cX9_found 88 = .ok (.ireturn, 1) := by decide +kernel
theorem dX9_written_0 : decode cX9_written 0 = .ok (.iload_n 1, 1) := by decide +kernel
theorem dX9_written_1 : decode cX9_written 1 = .ok (.invokestatic 65, 3) := by decide +kernel
theorem dX9_written_4 : decode cX9_written 4 = .ok (.ifCond .eq 25, 3) := by decide +kernel
theorem dX9_written_7 : decode cX9_written 7 = .ok (.iload_n 2, 1) := by decide +kernel
theorem dX9_written_8 : decode cX9_written 8 = .ok (.invokestatic 65, 3) := by decide +kernel
theorem dX9_written_11 : decode cX9_written 11 = .ok (.ifCond .eq 18, 3) := by decide +kernel
theorem dX9_written_14 : decode cX9_written 14 = .ok (.iload_n 3, 1) := by decide +kernel
theorem dX9_written_15 : decode cX9_written 15 = .ok (.invokestatic 65, 3) := by decide +kernel
theorem dX9_written_18 : decode cX9_written 18 = .ok (.ifCond .eq 11, 3) := by decide +kernel
theorem dX9_written_21 : decode cX9_written 21 = .ok (.iload 4, 2) := by decide +kernel
theorem dX9_written_23 : decode cX9_written 23 = .ok (.invokestatic 144, 3) := by decide +kernel
theorem dX9_written_26 : decode cX9_written 26 = .ok (.ifCond .ne 7, 3) := by decide +kernel
theorem dX9_written_29 : decode cX9_written 29 = .ok (.ldc2_w 147, 3) := by decide +kernel
theorem dX9_written_32 : decode cX9_written 32 = .ok (.lreturn, 1) := by decide +kernel
theorem dX9_written_33 : decode cX9_written 33 = .ok (.aload_n 0, 1) := by decide +kernel
theorem dX9_written_34 : decode cX9_written 34 = .ok (.getfield 19, 3) := by decide +kernel
theorem dX9_written_37 : decode cX9_written 37 = .ok (.iload_n 1, 1) := by decide +kernel
theorem dX9_written_38 : decode cX9_written 38 = .ok (.iload_n 2, 1) := by decide +kernel
theorem dX9_written_39 : decode cX9_written 39 = .ok (.iload_n 3, 1) := by decide +kernel
theorem dX9_written_40 : decode cX9_written 40 = .ok (.invokevirtual 193, 3) := by decide +kernel
theorem dX9_written_43 : decode cX9_written 43 = .ok (.i2l, 1) := by decide +kernel
theorem dX9_written_44 : decode cX9_written 44 = .ok (.ldc2_w 196, 3) := by decide +kernel
theorem dX9_written_47 : decode cX9_written 47 = .ok (.iload 4, 2) := by decide +kernel
theorem dX9_written_49 : decode cX9_written 49 = .ok (.invokestatic 153, 3) := by decide +kernel
theorem dX9_written_52 : decode cX9_written 52 = .ok (.lreturn, 1) := by decide +kernel
theorem dX9_back_0 : decode cX9_back 0 = .ok (.iload_n 1, 1) := by decide +kernel
theorem dX9_back_1 : decode cX9_back 1 = .ok (.iload_n 2, 1) := by decide +kernel
theorem dX9_back_2 : decode cX9_back 2 = .ok (.invokestatic 137, 3) := by decide +kernel
theorem dX9_back_5 : decode cX9_back 5 = .ok (.ifCond .eq 34, 3) := by decide +kernel
theorem dX9_back_8 : decode cX9_back 8 = .ok (.iload_n 3, 1) := by decide +kernel
theorem dX9_back_9 : decode cX9_back 9 = .ok (.invokestatic 65, 3) := by decide +kernel
theorem dX9_back_12 : decode cX9_back 12 = .ok (.ifCond .eq 27, 3) := by decide +kernel
theorem dX9_back_15 : decode cX9_back 15 = .ok (.iload 4, 2) := by decide +kernel
theorem dX9_back_17 : decode cX9_back 17 = .ok (.invokestatic 65, 3) := by decide +kernel
theorem dX9_back_20 : decode cX9_back 20 = .ok (.ifCond .eq 19, 3) := by decide +kernel
theorem dX9_back_23 : decode cX9_back 23 = .ok (.iload 5, 2) := by decide +kernel
theorem dX9_back_25 : decode cX9_back 25 = .ok (.invokestatic 65, 3) := by decide +kernel
theorem dX9_back_28 : decode cX9_back 28 = .ok (.ifCond .eq 11, 3) := by decide +kernel
theorem dX9_back_31 : decode cX9_back 31 = .ok (.iload 6, 2) := by decide +kernel
theorem dX9_back_33 : decode cX9_back 33 = .ok (.invokestatic 144, 3) := by decide +kernel
theorem dX9_back_36 : decode cX9_back 36 = .ok (.ifCond .ne 7, 3) := by decide +kernel
theorem dX9_back_39 : decode cX9_back 39 = .ok (.ldc2_w 147, 3) := by decide +kernel
theorem dX9_back_42 : decode cX9_back 42 = .ok (.lreturn, 1) := by decide +kernel
theorem dX9_back_43 : decode cX9_back 43 = .ok (.lconst 0, 1) := by decide +kernel
theorem dX9_back_44 : decode cX9_back 44 = .ok (.lstore 7, 2) := by decide +kernel
theorem dX9_back_46 : decode cX9_back 46 = .ok (.iconst 0, 1) := by decide +kernel
theorem dX9_back_47 : decode cX9_back 47 = .ok (.istore 9, 2) := by decide +kernel
theorem dX9_back_49 : decode cX9_back 49 = .ok (.iload 9, 2) := by decide +kernel
theorem dX9_back_51 : decode cX9_back 51 = .ok (.bipush 64, 2) := by decide +kernel
theorem dX9_back_53 : decode cX9_back 53 = .ok (.if_icmp .ge 40, 3) := by decide +kernel
theorem dX9_back_56 : decode cX9_back 56 = .ok (.lload 7, 2) := by decide +kernel
theorem dX9_back_58 : decode cX9_back 58 = .ok (.aload_n 0, 1) := by decide +kernel
theorem dX9_back_59 : decode cX9_back 59 = .ok (.getfield 34, 3) := by decide +kernel
theorem dX9_back_62 : decode cX9_back 62 = .ok (.iload_n 1, 1) := by decide +kernel
theorem dX9_back_63 : decode cX9_back 63 = .ok (.iload_n 2, 1) := by decide +kernel
theorem dX9_back_64 : decode cX9_back 64 = .ok (.iload 9, 2) := by decide +kernel
theorem dX9_back_66 : decode cX9_back 66 = .ok (.invokevirtual 141, 3) := by decide +kernel
theorem dX9_back_69 : decode cX9_back 69 = .ok (.i2l, 1) := by decide +kernel
theorem dX9_back_70 : decode cX9_back 70 = .ok (.aload_n 0, 1) := by decide +kernel
theorem dX9_back_71 : decode cX9_back 71 = .ok (.getfield 19, 3) := by decide +kernel
theorem dX9_back_74 : decode cX9_back 74 = .ok (.iload_n 3, 1) := by decide +kernel
theorem dX9_back_75 : decode cX9_back 75 = .ok (.iload 9, 2) := by decide +kernel
theorem dX9_back_77 : decode cX9_back 77 = .ok (.iload 4, 2) := by decide +kernel
theorem dX9_back_79 : decode cX9_back 79 = .ok (.invokevirtual 193, 3) := by decide +kernel
theorem dX9_back_82 : decode cX9_back 82 = .ok (.i2l, 1) := by decide +kernel
theorem dX9_back_83 : decode cX9_back 83 = .ok (.lmul, 1) := by decide +kernel
theorem dX9_back_84 : decode cX9_back 84 = .ok (.ladd, 1) := by decide +kernel
theorem dX9_back_85 : decode cX9_back 85 = .ok (.lstore 7, 2) := by decide +kernel
theorem dX9_back_87 : decode cX9_back 87 = .ok (.iinc 9 1, 3) := by decide +kernel
theorem dX9_back_90 : decode cX9_back 90 = .ok (.goto (-41), 3) := by decide +kernel
theorem dX9_back_93 : decode cX9_back 93 = .ok (.aload_n 0, 1) := by decide +kernel
theorem dX9_back_94 : decode cX9_back 94 = .ok (.getfield 34, 3) := by decide +kernel
theorem dX9_back_97 : decode cX9_back 97 = .ok (.iload_n 1, 1) := by decide +kernel
theorem dX9_back_98 : decode cX9_back 98 = .ok (.iload_n 2, 1) := by decide +kernel
theorem dX9_back_99 : decode cX9_back 99 = .ok (.iload 5, 2) := by decide +kernel
theorem dX9_back_101 : decode cX9_back 101 = .ok (.invokevirtual 141, 3) := by decide +kernel
theorem dX9_back_104 : decode cX9_back 104 = .ok (.i2l, 1) := by decide +kernel
theorem dX9_back_105 : decode cX9_back 105 = .ok (.aload_n 0, 1) := by decide +kernel
theorem dX9_back_106 : decode cX9_back 106 = .ok (.getfield 19, 3) := by decide +kernel
theorem dX9_back_109 : decode cX9_back 109 = .ok (.iload_n 3, 1) := by decide +kernel
theorem dX9_back_110 : decode cX9_back 110 = .ok (.iload 5, 2) := by decide +kernel
theorem dX9_back_112 : decode cX9_back 112 = .ok (.iload 4, 2) := by decide +kernel
theorem dX9_back_114 : decode cX9_back 114 = .ok (.invokevirtual 193, 3) := by decide +kernel
theorem dX9_back_117 : decode cX9_back 117 = .ok (.i2l, 1) := by decide +kernel
theorem dX9_back_118 : decode cX9_back 118 = .ok (.lmul, 1) := by decide +kernel
theorem dX9_back_119 : decode cX9_back 119 = .ok (.lstore 9, 2) := by decide +kernel
theorem dX9_back_121 : decode cX9_back 121 = .ok (.lload 9, 2) := by decide +kernel
theorem dX9_back_123 : decode cX9_back 123 = .ok (.lload 7, 2) := by decide +kernel
theorem dX9_back_125 : decode cX9_back 125 = .ok (.iload 6, 2) := by decide +kernel
theorem dX9_back_127 : decode cX9_back 127 = .ok (.invokestatic 153, 3) := by decide +kernel
theorem dX9_back_130 : decode cX9_back 130 = .ok (.lreturn, 1) := by decide +kernel
theorem dX9_pile_0 : decode cX9_pile 0 = .ok (.aload_n 0, 1) := by decide +kernel
theorem dX9_pile_1 : decode cX9_pile 1 = .ok (.getfield 19, 3) := by decide +kernel
theorem dX9_pile_4 : decode cX9_pile 4 = .ok (.iload_n 1, 1) := by decide +kernel
theorem dX9_pile_5 : decode cX9_pile 5 = .ok (.invokevirtual 61, 3) := by decide +kernel
theorem dX9_pile_8 : decode cX9_pile 8 = .ok (.astore_n 3, 1) := by decide +kernel
theorem dX9_pile_9 : decode cX9_pile 9 = .ok (.aload_n 3, 1) := by decide +kernel
theorem dX9_pile_10 : decode cX9_pile 10 = .ok (.ifnonnull 7, 3) := by decide +kernel
theorem dX9_pile_13 : decode cX9_pile 13 = .ok (.ldc2_w 198, 3) := by decide +kernel
theorem dX9_pile_16 : decode cX9_pile 16 = .ok (.lreturn, 1) := by decide +kernel
theorem dX9_pile_17 : decode cX9_pile 17 = .ok (.iload_n 2, 1) := by decide +kernel
theorem dX9_pile_18 : decode cX9_pile 18 = .ok (.invokestatic 144, 3) := by decide +kernel
theorem dX9_pile_21 : decode cX9_pile 21 = .ok (.ifCond .ne 7, 3) := by decide +kernel
theorem dX9_pile_24 : decode cX9_pile 24 = .ok (.ldc2_w 147, 3) := by decide +kernel
theorem dX9_pile_27 : decode cX9_pile 27 = .ok (.lreturn, 1) := by decide +kernel
theorem dX9_pile_28 : decode cX9_pile 28 = .ok (.ldc2_w 200, 3) := by decide +kernel
theorem dX9_pile_31 : decode cX9_pile 31 = .ok (.aload_n 3, 1) := by decide +kernel
theorem dX9_pile_32 : decode cX9_pile 32 = .ok (.invokevirtual 202, 3) := by decide +kernel
theorem dX9_pile_35 : decode cX9_pile 35 = .ok (.i2l, 1) := by decide +kernel
theorem dX9_pile_36 : decode cX9_pile 36 = .ok (.lmul, 1) := by decide +kernel
theorem dX9_pile_37 : decode cX9_pile 37 = .ok (.aload_n 3, 1) := by decide +kernel
theorem dX9_pile_38 : decode cX9_pile 38 = .ok (.getfield 205, 3) := by decide +kernel
theorem dX9_pile_41 : decode cX9_pile 41 = .ok (.i2l, 1) := by decide +kernel
theorem dX9_pile_42 : decode cX9_pile 42 = .ok (.iload_n 2, 1) := by decide +kernel
theorem dX9_pile_43 : decode cX9_pile 43 = .ok (.invokestatic 153, 3) := by decide +kernel
theorem dX9_pile_46 : decode cX9_pile 46 = .ok (.lreturn, 1) := by decide +kernel
theorem dX9_grown_0 : decode cX9_grown 0 = .ok (.aload_n 0, 1) := by decide +kernel
theorem dX9_grown_1 : decode cX9_grown 1 = .ok (.getfield 19, 3) := by decide +kernel
theorem dX9_grown_4 : decode cX9_grown 4 = .ok (.iload_n 1, 1) := by decide +kernel
theorem dX9_grown_5 : decode cX9_grown 5 = .ok (.invokevirtual 61, 3) := by decide +kernel
theorem dX9_grown_8 : decode cX9_grown 8 = .ok (.astore 4, 2) := by decide +kernel
theorem dX9_grown_10 : decode cX9_grown 10 = .ok (.aload 4, 2) := by decide +kernel
theorem dX9_grown_12 : decode cX9_grown 12 = .ok (.ifnonnull 7, 3) := by decide +kernel
theorem dX9_grown_15 : decode cX9_grown 15 = .ok (.ldc2_w 198, 3) := by decide +kernel
theorem dX9_grown_18 : decode cX9_grown 18 = .ok (.lreturn, 1) := by decide +kernel
theorem dX9_grown_19 : decode cX9_grown 19 = .ok (.iload_n 2, 1) := by decide +kernel
theorem dX9_grown_20 : decode cX9_grown 20 = .ok (.iconst 0, 1) := by decide +kernel
theorem dX9_grown_21 : decode cX9_grown 21 = .ok (.iconst 1, 1) := by decide +kernel
theorem dX9_grown_22 : decode cX9_grown 22 = .ok (.invokestatic 69, 3) := by decide +kernel
theorem dX9_grown_25 : decode cX9_grown 25 = .ok (.ifCond .eq 10, 3) := by decide +kernel
theorem dX9_grown_28 : decode cX9_grown 28 = .ok (.iload_n 3, 1) := by decide +kernel
theorem dX9_grown_29 : decode cX9_grown 29 = .ok (.invokestatic 144, 3) := by decide +kernel
theorem dX9_grown_32 : decode cX9_grown 32 = .ok (.ifCond .ne 7, 3) := by decide +kernel
theorem dX9_grown_35 : decode cX9_grown 35 = .ok (.ldc2_w 147, 3) := by decide +kernel
theorem dX9_grown_38 : decode cX9_grown 38 = .ok (.lreturn, 1) := by decide +kernel
theorem dX9_grown_39 : decode cX9_grown 39 = .ok (.iload_n 2, 1) := by decide +kernel
theorem dX9_grown_40 : decode cX9_grown 40 = .ok (.ifCond .ne 23, 3) := by decide +kernel
theorem dX9_grown_43 : decode cX9_grown 43 = .ok (.aload_n 0, 1) := by decide +kernel
theorem dX9_grown_44 : decode cX9_grown 44 = .ok (.getfield 19, 3) := by decide +kernel
theorem dX9_grown_47 : decode cX9_grown 47 = .ok (.aload 4, 2) := by decide +kernel
theorem dX9_grown_49 : decode cX9_grown 49 = .ok (.iconst 1, 1) := by decide +kernel
theorem dX9_grown_50 : decode cX9_grown 50 = .ok (.invokevirtual 88, 3) := by decide +kernel
theorem dX9_grown_53 : decode cX9_grown 53 = .ok (.invokevirtual 208, 3) := by decide +kernel
theorem dX9_grown_56 : decode cX9_grown 56 = .ok (.i2l, 1) := by decide +kernel
theorem dX9_grown_57 : decode cX9_grown 57 = .ok (.lconst 1, 1) := by decide +kernel
theorem dX9_grown_58 : decode cX9_grown 58 = .ok (.iload_n 3, 1) := by decide +kernel
theorem dX9_grown_59 : decode cX9_grown 59 = .ok (.invokestatic 153, 3) := by decide +kernel
theorem dX9_grown_62 : decode cX9_grown 62 = .ok (.lreturn, 1) := by decide +kernel
theorem dX9_grown_63 : decode cX9_grown 63 = .ok (.aload_n 0, 1) := by decide +kernel
theorem dX9_grown_64 : decode cX9_grown 64 = .ok (.getfield 19, 3) := by decide +kernel
theorem dX9_grown_67 : decode cX9_grown 67 = .ok (.aload 4, 2) := by decide +kernel
theorem dX9_grown_69 : decode cX9_grown 69 = .ok (.invokevirtual 211, 3) := by decide +kernel
theorem dX9_grown_72 : decode cX9_grown 72 = .ok (.i2l, 1) := by decide +kernel
theorem dX9_grown_73 : decode cX9_grown 73 = .ok (.ldc2_w 214, 3) := by decide +kernel
theorem dX9_grown_76 : decode cX9_grown 76 = .ok (.iload_n 3, 1) := by decide +kernel
theorem dX9_grown_77 : decode cX9_grown 77 = .ok (.invokestatic 153, 3) := by decide +kernel
theorem dX9_grown_80 : decode cX9_grown 80 = .ok (.lreturn, 1) := by decide +kernel
theorem dX9_right_0 : decode cX9_right 0 = .ok (.aload_n 0, 1) := by decide +kernel
theorem dX9_right_1 : decode cX9_right 1 = .ok (.getfield 19, 3) := by decide +kernel
theorem dX9_right_4 : decode cX9_right 4 = .ok (.iload_n 1, 1) := by decide +kernel
theorem dX9_right_5 : decode cX9_right 5 = .ok (.invokevirtual 61, 3) := by decide +kernel
theorem dX9_right_8 : decode cX9_right 8 = .ok (.astore 4, 2) := by decide +kernel
theorem dX9_right_10 : decode cX9_right 10 = .ok (.aload 4, 2) := by decide +kernel
theorem dX9_right_12 : decode cX9_right 12 = .ok (.ifnonnull 7, 3) := by decide +kernel
theorem dX9_right_15 : decode cX9_right 15 = .ok (.ldc2_w 198, 3) := by decide +kernel
theorem dX9_right_18 : decode cX9_right 18 = .ok (.lreturn, 1) := by decide +kernel
theorem dX9_right_19 : decode cX9_right 19 = .ok (.iload_n 2, 1) := by decide +kernel
theorem dX9_right_20 : decode cX9_right 20 = .ok (.invokestatic 164, 3) := by decide +kernel
theorem dX9_right_23 : decode cX9_right 23 = .ok (.ifCond .eq 10, 3) := by decide +kernel
theorem dX9_right_26 : decode cX9_right 26 = .ok (.iload_n 3, 1) := by decide +kernel
theorem dX9_right_27 : decode cX9_right 27 = .ok (.invokestatic 144, 3) := by decide +kernel
theorem dX9_right_30 : decode cX9_right 30 = .ok (.ifCond .ne 7, 3) := by decide +kernel
theorem dX9_right_33 : decode cX9_right 33 = .ok (.ldc2_w 147, 3) := by decide +kernel
theorem dX9_right_36 : decode cX9_right 36 = .ok (.lreturn, 1) := by decide +kernel
theorem dX9_right_37 : decode cX9_right 37 = .ok (.aload_n 0, 1) := by decide +kernel
theorem dX9_right_38 : decode cX9_right 38 = .ok (.aload 4, 2) := by decide +kernel
theorem dX9_right_40 : decode cX9_right 40 = .ok (.iload_n 2, 1) := by decide +kernel
theorem dX9_right_41 : decode cX9_right 41 = .ok (.invokevirtual 167, 3) := by decide +kernel
theorem dX9_right_44 : decode cX9_right 44 = .ok (.ldc2_w 214, 3) := by decide +kernel
theorem dX9_right_47 : decode cX9_right 47 = .ok (.aload_n 0, 1) := by decide +kernel
theorem dX9_right_48 : decode cX9_right 48 = .ok (.getfield 43, 3) := by decide +kernel
theorem dX9_right_51 : decode cX9_right 51 = .ok (.getfield 171, 3) := by decide +kernel
theorem dX9_right_54 : decode cX9_right 54 = .ok (.i2l, 1) := by decide +kernel
theorem dX9_right_55 : decode cX9_right 55 = .ok (.lmul, 1) := by decide +kernel
theorem dX9_right_56 : decode cX9_right 56 = .ok (.aload_n 0, 1) := by decide +kernel
theorem dX9_right_57 : decode cX9_right 57 = .ok (.getfield 19, 3) := by decide +kernel
theorem dX9_right_60 : decode cX9_right 60 = .ok (.aload 4, 2) := by decide +kernel
theorem dX9_right_62 : decode cX9_right 62 = .ok (.invokevirtual 211, 3) := by decide +kernel
theorem dX9_right_65 : decode cX9_right 65 = .ok (.i2l, 1) := by decide +kernel
theorem dX9_right_66 : decode cX9_right 66 = .ok (.ladd, 1) := by decide +kernel
theorem dX9_right_67 : decode cX9_right 67 = .ok (.ldc2_w 214, 3) := by decide +kernel
theorem dX9_right_70 : decode cX9_right 70 = .ok (.iload_n 3, 1) := by decide +kernel
theorem dX9_right_71 : decode cX9_right 71 = .ok (.invokestatic 153, 3) := by decide +kernel
theorem dX9_right_74 : decode cX9_right 74 = .ok (.lreturn, 1) := by decide +kernel
theorem dX9_mix_0 : decode cX9_mix 0 = .ok (.iload_n 1, 1) := by decide +kernel
theorem dX9_mix_1 : decode cX9_mix 1 = .ok (.iload_n 2, 1) := by decide +kernel
theorem dX9_mix_2 : decode cX9_mix 2 = .ok (.iload_n 3, 1) := by decide +kernel
theorem dX9_mix_3 : decode cX9_mix 3 = .ok (.iload 4, 2) := by decide +kernel
theorem dX9_mix_5 : decode cX9_mix 5 = .ok (.invokestatic 216, 3) := by decide +kernel
theorem dX9_mix_8 : decode cX9_mix 8 = .ok (.ifCond .eq 19, 3) := by decide +kernel
theorem dX9_mix_11 : decode cX9_mix 11 = .ok (.iload 5, 2) := by decide +kernel
theorem dX9_mix_13 : decode cX9_mix 13 = .ok (.invokestatic 220, 3) := by decide +kernel
theorem dX9_mix_16 : decode cX9_mix 16 = .ok (.ifCond .eq 11, 3) := by decide +kernel
theorem dX9_mix_19 : decode cX9_mix 19 = .ok (.iload 6, 2) := by decide +kernel
theorem dX9_mix_21 : decode cX9_mix 21 = .ok (.invokestatic 144, 3) := by decide +kernel
theorem dX9_mix_24 : decode cX9_mix 24 = .ok (.ifCond .ne 7, 3) := by decide +kernel
theorem dX9_mix_27 : decode cX9_mix 27 = .ok (.ldc2_w 147, 3) := by decide +kernel
theorem dX9_mix_30 : decode cX9_mix 30 = .ok (.lreturn, 1) := by decide +kernel
theorem dX9_mix_31 : decode cX9_mix 31 = .ok (.new 223, 3) := by decide +kernel
theorem dX9_mix_34 : decode cX9_mix 34 = .ok (.dup, 1) := by decide +kernel
theorem dX9_mix_35 : decode cX9_mix 35 = .ok (.aload_n 0, 1) := by decide +kernel
theorem dX9_mix_36 : decode cX9_mix 36 = .ok (.getfield 34, 3) := by decide +kernel
theorem dX9_mix_39 : decode cX9_mix 39 = .ok (.iload_n 1, 1) := by decide +kernel
theorem dX9_mix_40 : decode cX9_mix 40 = .ok (.iload_n 2, 1) := by decide +kernel
theorem dX9_mix_41 : decode cX9_mix 41 = .ok (.iload_n 3, 1) := by decide +kernel
theorem dX9_mix_42 : decode cX9_mix 42 = .ok (.iload 4, 2) := by decide +kernel
theorem dX9_mix_44 : decode cX9_mix 44 = .ok (.invokespecial 225, 3) := by decide +kernel
theorem dX9_mix_47 : decode cX9_mix 47 = .ok (.astore 7, 2) := by decide +kernel
theorem dX9_mix_49 : decode cX9_mix 49 = .ok (.aload 7, 2) := by decide +kernel
theorem dX9_mix_51 : decode cX9_mix 51 = .ok (.iload 5, 2) := by decide +kernel
theorem dX9_mix_53 : decode cX9_mix 53 = .ok (.invokevirtual 228, 3) := by decide +kernel
theorem dX9_mix_56 : decode cX9_mix 56 = .ok (.ifCond .eq 7, 3) := by decide +kernel
theorem dX9_mix_59 : decode cX9_mix 59 = .ok (.ldc2_w 231, 3) := by decide +kernel
theorem dX9_mix_62 : decode cX9_mix 62 = .ok (.lreturn, 1) := by decide +kernel
theorem dX9_mix_63 : decode cX9_mix 63 = .ok (.aload 7, 2) := by decide +kernel
theorem dX9_mix_65 : decode cX9_mix 65 = .ok (.iload 5, 2) := by decide +kernel
theorem dX9_mix_67 : decode cX9_mix 67 = .ok (.invokevirtual 233, 3) := by decide +kernel
theorem dX9_mix_70 : decode cX9_mix 70 = .ok (.aload 7, 2) := by decide +kernel
theorem dX9_mix_72 : decode cX9_mix 72 = .ok (.iload 5, 2) := by decide +kernel
theorem dX9_mix_74 : decode cX9_mix 74 = .ok (.invokevirtual 237, 3) := by decide +kernel
theorem dX9_mix_77 : decode cX9_mix 77 = .ok (.iload 6, 2) := by decide +kernel
theorem dX9_mix_79 : decode cX9_mix 79 = .ok (.invokestatic 153, 3) := by decide +kernel
theorem dX9_mix_82 : decode cX9_mix 82 = .ok (.lreturn, 1) := by decide +kernel
theorem dX9_fall_0 : decode cX9_fall 0 = .ok (.iload_n 1, 1) := by decide +kernel
theorem dX9_fall_1 : decode cX9_fall 1 = .ok (.iload_n 2, 1) := by decide +kernel
theorem dX9_fall_2 : decode cX9_fall 2 = .ok (.iload_n 3, 1) := by decide +kernel
theorem dX9_fall_3 : decode cX9_fall 3 = .ok (.iload 4, 2) := by decide +kernel
theorem dX9_fall_5 : decode cX9_fall 5 = .ok (.invokestatic 216, 3) := by decide +kernel
theorem dX9_fall_8 : decode cX9_fall 8 = .ok (.ifCond .eq 27, 3) := by decide +kernel
theorem dX9_fall_11 : decode cX9_fall 11 = .ok (.iload 5, 2) := by decide +kernel
theorem dX9_fall_13 : decode cX9_fall 13 = .ok (.invokestatic 220, 3) := by decide +kernel
theorem dX9_fall_16 : decode cX9_fall 16 = .ok (.ifCond .eq 19, 3) := by decide +kernel
theorem dX9_fall_19 : decode cX9_fall 19 = .ok (.iload 6, 2) := by decide +kernel
theorem dX9_fall_21 : decode cX9_fall 21 = .ok (.invokestatic 220, 3) := by decide +kernel
theorem dX9_fall_24 : decode cX9_fall 24 = .ok (.ifCond .eq 11, 3) := by decide +kernel
theorem dX9_fall_27 : decode cX9_fall 27 = .ok (.iload 7, 2) := by decide +kernel
theorem dX9_fall_29 : decode cX9_fall 29 = .ok (.invokestatic 144, 3) := by decide +kernel
theorem dX9_fall_32 : decode cX9_fall 32 = .ok (.ifCond .ne 7, 3) := by decide +kernel
theorem dX9_fall_35 : decode cX9_fall 35 = .ok (.ldc2_w 147, 3) := by decide +kernel
theorem dX9_fall_38 : decode cX9_fall 38 = .ok (.lreturn, 1) := by decide +kernel
theorem dX9_fall_39 : decode cX9_fall 39 = .ok (.new 223, 3) := by decide +kernel
theorem dX9_fall_42 : decode cX9_fall 42 = .ok (.dup, 1) := by decide +kernel
theorem dX9_fall_43 : decode cX9_fall 43 = .ok (.aload_n 0, 1) := by decide +kernel
theorem dX9_fall_44 : decode cX9_fall 44 = .ok (.getfield 34, 3) := by decide +kernel
theorem dX9_fall_47 : decode cX9_fall 47 = .ok (.iload_n 1, 1) := by decide +kernel
theorem dX9_fall_48 : decode cX9_fall 48 = .ok (.iload_n 2, 1) := by decide +kernel
theorem dX9_fall_49 : decode cX9_fall 49 = .ok (.iload_n 3, 1) := by decide +kernel
theorem dX9_fall_50 : decode cX9_fall 50 = .ok (.iload 4, 2) := by decide +kernel
theorem dX9_fall_52 : decode cX9_fall 52 = .ok (.invokespecial 225, 3) := by decide +kernel
theorem dX9_fall_55 : decode cX9_fall 55 = .ok (.astore 8, 2) := by decide +kernel
theorem dX9_fall_57 : decode cX9_fall 57 = .ok (.aload 8, 2) := by decide +kernel
theorem dX9_fall_59 : decode cX9_fall 59 = .ok (.iload 5, 2) := by decide +kernel
theorem dX9_fall_61 : decode cX9_fall 61 = .ok (.invokevirtual 228, 3) := by decide +kernel
theorem dX9_fall_64 : decode cX9_fall 64 = .ok (.ifCond .ne 13, 3) := by decide +kernel
theorem dX9_fall_67 : decode cX9_fall 67 = .ok (.aload 8, 2) := by decide +kernel
theorem dX9_fall_69 : decode cX9_fall 69 = .ok (.iload 6, 2) := by decide +kernel
theorem dX9_fall_71 : decode cX9_fall 71 = .ok (.invokevirtual 228, 3) := by decide +kernel
theorem dX9_fall_74 : decode cX9_fall 74 = .ok (.ifCond .eq 7, 3) := by decide +kernel
theorem dX9_fall_77 : decode cX9_fall 77 = .ok (.ldc2_w 231, 3) := by decide +kernel
theorem dX9_fall_80 : decode cX9_fall 80 = .ok (.lreturn, 1) := by decide +kernel
theorem dX9_fall_81 : decode cX9_fall 81 = .ok (.aload 8, 2) := by decide +kernel
theorem dX9_fall_83 : decode cX9_fall 83 = .ok (.iload 5, 2) := by decide +kernel
theorem dX9_fall_85 : decode cX9_fall 85 = .ok (.iload 6, 2) := by decide +kernel
theorem dX9_fall_87 : decode cX9_fall 87 = .ok (.iload 7, 2) := by decide +kernel
theorem dX9_fall_89 : decode cX9_fall 89 = .ok (.invokestatic 239, 3) := by decide +kernel
theorem dX9_fall_92 : decode cX9_fall 92 = .ok (.lreturn, 1) := by decide +kernel
theorem dX9_alone_0 : decode cX9_alone 0 = .ok (.iload_n 1, 1) := by decide +kernel
theorem dX9_alone_1 : decode cX9_alone 1 = .ok (.iload_n 2, 1) := by decide +kernel
theorem dX9_alone_2 : decode cX9_alone 2 = .ok (.iload_n 3, 1) := by decide +kernel
theorem dX9_alone_3 : decode cX9_alone 3 = .ok (.iload 4, 2) := by decide +kernel
theorem dX9_alone_5 : decode cX9_alone 5 = .ok (.invokestatic 216, 3) := by decide +kernel
theorem dX9_alone_8 : decode cX9_alone 8 = .ok (.ifCond .eq 37, 3) := by decide +kernel
theorem dX9_alone_11 : decode cX9_alone 11 = .ok (.iload 5, 2) := by decide +kernel
theorem dX9_alone_13 : decode cX9_alone 13 = .ok (.invokestatic 243, 3) := by decide +kernel
theorem dX9_alone_16 : decode cX9_alone 16 = .ok (.ifCond .eq 29, 3) := by decide +kernel
theorem dX9_alone_19 : decode cX9_alone 19 = .ok (.iload 6, 2) := by decide +kernel
theorem dX9_alone_21 : decode cX9_alone 21 = .ok (.invokestatic 243, 3) := by decide +kernel
theorem dX9_alone_24 : decode cX9_alone 24 = .ok (.ifCond .eq 21, 3) := by decide +kernel
theorem dX9_alone_27 : decode cX9_alone 27 = .ok (.iload 7, 2) := by decide +kernel
theorem dX9_alone_29 : decode cX9_alone 29 = .ok (.iconst 0, 1) := by decide +kernel
theorem dX9_alone_30 : decode cX9_alone 30 = .ok (.iconst 1, 1) := by decide +kernel
theorem dX9_alone_31 : decode cX9_alone 31 = .ok (.invokestatic 69, 3) := by decide +kernel
theorem dX9_alone_34 : decode cX9_alone 34 = .ok (.ifCond .eq 11, 3) := by decide +kernel
theorem dX9_alone_37 : decode cX9_alone 37 = .ok (.iload 8, 2) := by decide +kernel
theorem dX9_alone_39 : decode cX9_alone 39 = .ok (.invokestatic 144, 3) := by decide +kernel
theorem dX9_alone_42 : decode cX9_alone 42 = .ok (.ifCond .ne 7, 3) := by decide +kernel
theorem dX9_alone_45 : decode cX9_alone 45 = .ok (.ldc2_w 147, 3) := by decide +kernel
theorem dX9_alone_48 : decode cX9_alone 48 = .ok (.lreturn, 1) := by decide +kernel
theorem dX9_alone_49 : decode cX9_alone 49 = .ok (.iload 5, 2) := by decide +kernel
theorem dX9_alone_51 : decode cX9_alone 51 = .ok (.sipush 1000, 3) := by decide +kernel
theorem dX9_alone_54 : decode cX9_alone 54 = .ok (.idiv, 1) := by decide +kernel
theorem dX9_alone_55 : decode cX9_alone 55 = .ok (.istore 9, 2) := by decide +kernel
theorem dX9_alone_57 : decode cX9_alone 57 = .ok (.iload 5, 2) := by decide +kernel
theorem dX9_alone_59 : decode cX9_alone 59 = .ok (.sipush 1000, 3) := by decide +kernel
theorem dX9_alone_62 : decode cX9_alone 62 = .ok (.irem, 1) := by decide +kernel
theorem dX9_alone_63 : decode cX9_alone 63 = .ok (.istore 10, 2) := by decide +kernel
theorem dX9_alone_65 : decode cX9_alone 65 = .ok (.iload 6, 2) := by decide +kernel
theorem dX9_alone_67 : decode cX9_alone 67 = .ok (.sipush 1000, 3) := by decide +kernel
theorem dX9_alone_70 : decode cX9_alone 70 = .ok (.idiv, 1) := by decide +kernel
theorem dX9_alone_71 : decode cX9_alone 71 = .ok (.istore 11, 2) := by decide +kernel
theorem dX9_alone_73 : decode cX9_alone 73 = .ok (.iload 6, 2) := by decide +kernel
theorem dX9_alone_75 : decode cX9_alone 75 = .ok (.sipush 1000, 3) := by decide +kernel
theorem dX9_alone_78 : decode cX9_alone 78 = .ok (.irem, 1) := by decide +kernel
theorem dX9_alone_79 : decode cX9_alone 79 = .ok (.istore 12, 2) := by decide +kernel
theorem dX9_alone_81 : decode cX9_alone 81 = .ok (.new 223, 3) := by decide +kernel
theorem dX9_alone_84 : decode cX9_alone 84 = .ok (.dup, 1) := by decide +kernel
theorem dX9_alone_85 : decode cX9_alone 85 = .ok (.aload_n 0, 1) := by decide +kernel
theorem dX9_alone_86 : decode cX9_alone 86 = .ok (.getfield 34, 3) := by decide +kernel
theorem dX9_alone_89 : decode cX9_alone 89 = .ok (.iload_n 1, 1) := by decide +kernel
theorem dX9_alone_90 : decode cX9_alone 90 = .ok (.iload_n 2, 1) := by decide +kernel
theorem dX9_alone_91 : decode cX9_alone 91 = .ok (.iload_n 3, 1) := by decide +kernel
theorem dX9_alone_92 : decode cX9_alone 92 = .ok (.iload 4, 2) := by decide +kernel
theorem dX9_alone_94 : decode cX9_alone 94 = .ok (.invokespecial 225, 3) := by decide +kernel
theorem dX9_alone_97 : decode cX9_alone 97 = .ok (.astore 13, 2) := by decide +kernel
theorem dX9_alone_99 : decode cX9_alone 99 = .ok (.aload 13, 2) := by decide +kernel
theorem dX9_alone_101 : decode cX9_alone 101 = .ok (.iload 9, 2) := by decide +kernel
theorem dX9_alone_103 : decode cX9_alone 103 = .ok (.invokevirtual 228, 3) := by decide +kernel
theorem dX9_alone_106 : decode cX9_alone 106 = .ok (.ifCond .ne 33, 3) := by decide +kernel
theorem dX9_alone_109 : decode cX9_alone 109 = .ok (.aload 13, 2) := by decide +kernel
theorem dX9_alone_111 : decode cX9_alone 111 = .ok (.iload 10, 2) := by decide +kernel
theorem dX9_alone_113 : decode cX9_alone 113 = .ok (.invokevirtual 228, 3) := by decide +kernel
theorem dX9_alone_116 : decode cX9_alone 116 = .ok (.ifCond .ne 23, 3) := by decide +kernel
theorem dX9_alone_119 : decode cX9_alone 119 = .ok (.aload 13, 2) := by decide +kernel
theorem dX9_alone_121 : decode cX9_alone 121 = .ok (.iload 11, 2) := by decide +kernel
theorem dX9_alone_123 : decode cX9_alone 123 = .ok (.invokevirtual 228, 3) := by decide +kernel
theorem dX9_alone_126 : decode cX9_alone 126 = .ok (.ifCond .ne 13, 3) := by decide +kernel
theorem dX9_alone_129 : decode cX9_alone 129 = .ok (.aload 13, 2) := by decide +kernel
theorem dX9_alone_131 : decode cX9_alone 131 = .ok (.iload 12, 2) := by decide +kernel
theorem dX9_alone_133 : decode cX9_alone 133 = .ok (.invokevirtual 228, 3) := by decide +kernel
theorem dX9_alone_136 : decode cX9_alone 136 = .ok (.ifCond .eq 7, 3) := by decide +kernel
theorem dX9_alone_139 : decode cX9_alone 139 = .ok (.ldc2_w 231, 3) := by decide +kernel
theorem dX9_alone_142 : decode cX9_alone 142 = .ok (.lreturn, 1) := by decide +kernel
theorem dX9_alone_143 : decode cX9_alone 143 = .ok (.iload 7, 2) := by decide +kernel
theorem dX9_alone_145 : decode cX9_alone 145 = .ok (.ifCond .ne 29, 3) := by decide +kernel
theorem dX9_alone_148 : decode cX9_alone 148 = .ok (.aload 13, 2) := by decide +kernel
theorem dX9_alone_150 : decode cX9_alone 150 = .ok (.aload 13, 2) := by decide +kernel
theorem dX9_alone_152 : decode cX9_alone 152 = .ok (.iload 9, 2) := by decide +kernel
theorem dX9_alone_154 : decode cX9_alone 154 = .ok (.iload 10, 2) := by decide +kernel
theorem dX9_alone_156 : decode cX9_alone 156 = .ok (.invokevirtual 246, 3) := by decide +kernel
theorem dX9_alone_159 : decode cX9_alone 159 = .ok (.aload 13, 2) := by decide +kernel
theorem dX9_alone_161 : decode cX9_alone 161 = .ok (.iload 11, 2) := by decide +kernel
theorem dX9_alone_163 : decode cX9_alone 163 = .ok (.iload 12, 2) := by decide +kernel
theorem dX9_alone_165 : decode cX9_alone 165 = .ok (.invokevirtual 250, 3) := by decide +kernel
theorem dX9_alone_168 : decode cX9_alone 168 = .ok (.iload 8, 2) := by decide +kernel
theorem dX9_alone_170 : decode cX9_alone 170 = .ok (.invokestatic 239, 3) := by decide +kernel
theorem dX9_alone_173 : decode cX9_alone 173 = .ok (.lreturn, 1) := by decide +kernel
theorem dX9_alone_174 : decode cX9_alone 174 = .ok (.aload 13, 2) := by decide +kernel
theorem dX9_alone_176 : decode cX9_alone 176 = .ok (.aload 13, 2) := by decide +kernel
theorem dX9_alone_178 : decode cX9_alone 178 = .ok (.iload 9, 2) := by decide +kernel
theorem dX9_alone_180 : decode cX9_alone 180 = .ok (.iload 10, 2) := by decide +kernel
theorem dX9_alone_182 : decode cX9_alone 182 = .ok (.invokevirtual 250, 3) := by decide +kernel
theorem dX9_alone_185 : decode cX9_alone 185 = .ok (.aload 13, 2) := by decide +kernel
theorem dX9_alone_187 : decode cX9_alone 187 = .ok (.iload 11, 2) := by decide +kernel
theorem dX9_alone_189 : decode cX9_alone 189 = .ok (.iload 12, 2) := by decide +kernel
theorem dX9_alone_191 : decode cX9_alone 191 = .ok (.invokevirtual 246, 3) := by decide +kernel
theorem dX9_alone_194 : decode cX9_alone 194 = .ok (.iload 8, 2) := by decide +kernel
theorem dX9_alone_196 : decode cX9_alone 196 = .ok (.invokestatic 239, 3) := by decide +kernel
theorem dX9_alone_199 : decode cX9_alone 199 = .ok (.lreturn, 1) := by decide +kernel
theorem dX9_mean_0 : decode cX9_mean 0 = .ok (.aload_n 0, 1) := by decide +kernel
theorem dX9_mean_1 : decode cX9_mean 1 = .ok (.getfield 19, 3) := by decide +kernel
theorem dX9_mean_4 : decode cX9_mean 4 = .ok (.iload_n 1, 1) := by decide +kernel
theorem dX9_mean_5 : decode cX9_mean 5 = .ok (.invokevirtual 61, 3) := by decide +kernel
theorem dX9_mean_8 : decode cX9_mean 8 = .ok (.astore_n 3, 1) := by decide +kernel
theorem dX9_mean_9 : decode cX9_mean 9 = .ok (.aload_n 3, 1) := by decide +kernel
theorem dX9_mean_10 : decode cX9_mean 10 = .ok (.ifnonnull 7, 3) := by decide +kernel
theorem dX9_mean_13 : decode cX9_mean 13 = .ok (.ldc2_w 198, 3) := by decide +kernel
theorem dX9_mean_16 : decode cX9_mean 16 = .ok (.lreturn, 1) := by decide +kernel
theorem dX9_mean_17 : decode cX9_mean 17 = .ok (.iload_n 2, 1) := by decide +kernel
theorem dX9_mean_18 : decode cX9_mean 18 = .ok (.invokestatic 144, 3) := by decide +kernel
theorem dX9_mean_21 : decode cX9_mean 21 = .ok (.ifCond .ne 7, 3) := by decide +kernel
theorem dX9_mean_24 : decode cX9_mean 24 = .ok (.ldc2_w 147, 3) := by decide +kernel
theorem dX9_mean_27 : decode cX9_mean 27 = .ok (.lreturn, 1) := by decide +kernel
theorem dX9_mean_28 : decode cX9_mean 28 = .ok (.aload_n 3, 1) := by decide +kernel
theorem dX9_mean_29 : decode cX9_mean 29 = .ok (.iconst 0, 1) := by decide +kernel
theorem dX9_mean_30 : decode cX9_mean 30 = .ok (.invokevirtual 253, 3) := by decide +kernel
theorem dX9_mean_33 : decode cX9_mean 33 = .ok (.aload_n 3, 1) := by decide +kernel
theorem dX9_mean_34 : decode cX9_mean 34 = .ok (.getfield 205, 3) := by decide +kernel
theorem dX9_mean_37 : decode cX9_mean 37 = .ok (.i2l, 1) := by decide +kernel
theorem dX9_mean_38 : decode cX9_mean 38 = .ok (.iload_n 2, 1) := by decide +kernel
theorem dX9_mean_39 : decode cX9_mean 39 = .ok (.invokestatic 153, 3) := by decide +kernel
theorem dX9_mean_42 : decode cX9_mean 42 = .ok (.lreturn, 1) := by decide +kernel
theorem dX9_mode_0 : decode cX9_mode 0 = .ok (.aload_n 0, 1) := by decide +kernel
theorem dX9_mode_1 : decode cX9_mode 1 = .ok (.getfield 19, 3) := by decide +kernel
theorem dX9_mode_4 : decode cX9_mode 4 = .ok (.iload_n 1, 1) := by decide +kernel
theorem dX9_mode_5 : decode cX9_mode 5 = .ok (.invokevirtual 61, 3) := by decide +kernel
theorem dX9_mode_8 : decode cX9_mode 8 = .ok (.astore_n 2, 1) := by decide +kernel
theorem dX9_mode_9 : decode cX9_mode 9 = .ok (.aload_n 2, 1) := by decide +kernel
theorem dX9_mode_10 : decode cX9_mode 10 = .ok (.ifnonnull 5, 3) := by decide +kernel
theorem dX9_mode_13 : decode cX9_mode 13 = .ok (.iconst (-1), 1) := by decide +kernel
theorem dX9_mode_14 : decode cX9_mode 14 = .ok (.ireturn, 1) := by decide +kernel
theorem dX9_mode_15 : decode cX9_mode 15 = .ok (.aload_n 2, 1) := by decide +kernel
theorem dX9_mode_16 : decode cX9_mode 16 = .ok (.getfield 205, 3) := by decide +kernel
theorem dX9_mode_19 : decode cX9_mode 19 = .ok (.ifCond .ne 8, 3) := by decide +kernel
theorem dX9_mode_22 : decode cX9_mode 22 = .ok (.bipush (-6), 2) := by decide +kernel
theorem dX9_mode_24 : decode cX9_mode 24 = .ok (.goto 7, 3) := by decide +kernel
theorem dX9_mode_27 : decode cX9_mode 27 = .ok (.aload_n 2, 1) := by decide +kernel
theorem dX9_mode_28 : decode cX9_mode 28 = .ok (.invokevirtual 256, 3) := by decide +kernel
theorem dX9_mode_31 : decode cX9_mode 31 = .ok (.ireturn, 1) := by decide +kernel
theorem dX9_about_0 : decode cX9_about 0 = .ok (.aload_n 0, 1) := by decide +kernel
theorem dX9_about_1 : decode cX9_about 1 = .ok (.getfield 19, 3) := by decide +kernel
theorem dX9_about_4 : decode cX9_about 4 = .ok (.iload_n 1, 1) := by decide +kernel
theorem dX9_about_5 : decode cX9_about 5 = .ok (.invokevirtual 61, 3) := by decide +kernel
theorem dX9_about_8 : decode cX9_about 8 = .ok (.astore 5, 2) := by decide +kernel
theorem dX9_about_10 : decode cX9_about 10 = .ok (.aload 5, 2) := by decide +kernel
theorem dX9_about_12 : decode cX9_about 12 = .ok (.ifnonnull 7, 3) := by decide +kernel
theorem dX9_about_15 : decode cX9_about 15 = .ok (.ldc2_w 198, 3) := by decide +kernel
theorem dX9_about_18 : decode cX9_about 18 = .ok (.lreturn, 1) := by decide +kernel
theorem dX9_about_19 : decode cX9_about 19 = .ok (.iload_n 2, 1) := by decide +kernel
theorem dX9_about_20 : decode cX9_about 20 = .ok (.iconst 0, 1) := by decide +kernel
theorem dX9_about_21 : decode cX9_about 21 = .ok (.bipush 8, 2) := by decide +kernel
theorem dX9_about_23 : decode cX9_about 23 = .ok (.invokestatic 69, 3) := by decide +kernel
theorem dX9_about_26 : decode cX9_about 26 = .ok (.ifCond .eq 20, 3) := by decide +kernel
theorem dX9_about_29 : decode cX9_about 29 = .ok (.iload_n 3, 1) := by decide +kernel
theorem dX9_about_30 : decode cX9_about 30 = .ok (.iconst 0, 1) := by decide +kernel
theorem dX9_about_31 : decode cX9_about 31 = .ok (.iconst 1, 1) := by decide +kernel
theorem dX9_about_32 : decode cX9_about 32 = .ok (.invokestatic 69, 3) := by decide +kernel
theorem dX9_about_35 : decode cX9_about 35 = .ok (.ifCond .eq 11, 3) := by decide +kernel
theorem dX9_about_38 : decode cX9_about 38 = .ok (.iload 4, 2) := by decide +kernel
theorem dX9_about_40 : decode cX9_about 40 = .ok (.invokestatic 144, 3) := by decide +kernel
theorem dX9_about_43 : decode cX9_about 43 = .ok (.ifCond .ne 7, 3) := by decide +kernel
theorem dX9_about_46 : decode cX9_about 46 = .ok (.ldc2_w 147, 3) := by decide +kernel
theorem dX9_about_49 : decode cX9_about 49 = .ok (.lreturn, 1) := by decide +kernel
theorem dX9_about_50 : decode cX9_about 50 = .ok (.aload 5, 2) := by decide +kernel
theorem dX9_about_52 : decode cX9_about 52 = .ok (.iconst 2, 1) := by decide +kernel
theorem dX9_about_53 : decode cX9_about 53 = .ok (.invokevirtual 88, 3) := by decide +kernel
theorem dX9_about_56 : decode cX9_about 56 = .ok (.iconst 2, 1) := by decide +kernel
theorem dX9_about_57 : decode cX9_about 57 = .ok (.if_icmp .eq 7, 3) := by decide +kernel
theorem dX9_about_60 : decode cX9_about 60 = .ok (.ldc2_w 259, 3) := by decide +kernel
theorem dX9_about_63 : decode cX9_about 63 = .ok (.lreturn, 1) := by decide +kernel
theorem dX9_about_64 : decode cX9_about 64 = .ok (.aload 5, 2) := by decide +kernel
theorem dX9_about_66 : decode cX9_about 66 = .ok (.iload_n 3, 1) := by decide +kernel
theorem dX9_about_67 : decode cX9_about 67 = .ok (.ifCond .ne 8, 3) := by decide +kernel
theorem dX9_about_70 : decode cX9_about 70 = .ok (.iload_n 2, 1) := by decide +kernel
theorem dX9_about_71 : decode cX9_about 71 = .ok (.ineg, 1) := by decide +kernel
theorem dX9_about_72 : decode cX9_about 72 = .ok (.goto 4, 3) := by decide +kernel
theorem dX9_about_75 : decode cX9_about 75 = .ok (.iload_n 2, 1) := by decide +kernel
theorem dX9_about_76 : decode cX9_about 76 = .ok (.invokevirtual 253, 3) := by decide +kernel
theorem dX9_about_79 : decode cX9_about 79 = .ok (.aload 5, 2) := by decide +kernel
theorem dX9_about_81 : decode cX9_about 81 = .ok (.getfield 205, 3) := by decide +kernel
theorem dX9_about_84 : decode cX9_about 84 = .ok (.i2l, 1) := by decide +kernel
theorem dX9_about_85 : decode cX9_about 85 = .ok (.iload 4, 2) := by decide +kernel
theorem dX9_about_87 : decode cX9_about 87 = .ok (.invokestatic 153, 3) := by decide +kernel
theorem dX9_about_90 : decode cX9_about 90 = .ok (.lreturn, 1) := by decide +kernel
theorem dX9_beside_0 : decode cX9_beside 0 = .ok (.aload_n 0, 1) := by decide +kernel
theorem dX9_beside_1 : decode cX9_beside 1 = .ok (.getfield 19, 3) := by decide +kernel
theorem dX9_beside_4 : decode cX9_beside 4 = .ok (.iload_n 1, 1) := by decide +kernel
theorem dX9_beside_5 : decode cX9_beside 5 = .ok (.invokevirtual 61, 3) := by decide +kernel
theorem dX9_beside_8 : decode cX9_beside 8 = .ok (.astore 5, 2) := by decide +kernel
theorem dX9_beside_10 : decode cX9_beside 10 = .ok (.aload_n 0, 1) := by decide +kernel
theorem dX9_beside_11 : decode cX9_beside 11 = .ok (.getfield 19, 3) := by decide +kernel
theorem dX9_beside_14 : decode cX9_beside 14 = .ok (.iload_n 2, 1) := by decide +kernel
theorem dX9_beside_15 : decode cX9_beside 15 = .ok (.invokevirtual 61, 3) := by decide +kernel
theorem dX9_beside_18 : decode cX9_beside 18 = .ok (.astore 6, 2) := by decide +kernel
theorem dX9_beside_20 : decode cX9_beside 20 = .ok (.aload 5, 2) := by decide +kernel
theorem dX9_beside_22 : decode cX9_beside 22 = .ok (.ifnull 8, 3) := by decide +kernel
theorem dX9_beside_25 : decode cX9_beside 25 = .ok (.aload 6, 2) := by decide +kernel
theorem dX9_beside_27 : decode cX9_beside 27 = .ok (.ifnonnull 7, 3) := by decide +kernel
theorem dX9_beside_30 : decode cX9_beside 30 = .ok (.ldc2_w 198, 3) := by decide +kernel
theorem dX9_beside_33 : decode cX9_beside 33 = .ok (.lreturn, 1) := by decide +kernel
theorem dX9_beside_34 : decode cX9_beside 34 = .ok (.iload_n 3, 1) := by decide +kernel
theorem dX9_beside_35 : decode cX9_beside 35 = .ok (.invokestatic 164, 3) := by decide +kernel
theorem dX9_beside_38 : decode cX9_beside 38 = .ok (.ifCond .eq 11, 3) := by decide +kernel
theorem dX9_beside_41 : decode cX9_beside 41 = .ok (.iload 4, 2) := by decide +kernel
theorem dX9_beside_43 : decode cX9_beside 43 = .ok (.invokestatic 144, 3) := by decide +kernel
theorem dX9_beside_46 : decode cX9_beside 46 = .ok (.ifCond .ne 7, 3) := by decide +kernel
theorem dX9_beside_49 : decode cX9_beside 49 = .ok (.ldc2_w 147, 3) := by decide +kernel
theorem dX9_beside_52 : decode cX9_beside 52 = .ok (.lreturn, 1) := by decide +kernel
theorem dX9_beside_53 : decode cX9_beside 53 = .ok (.aload 5, 2) := by decide +kernel
theorem dX9_beside_55 : decode cX9_beside 55 = .ok (.iconst 2, 1) := by decide +kernel
theorem dX9_beside_56 : decode cX9_beside 56 = .ok (.invokevirtual 88, 3) := by decide +kernel
theorem dX9_beside_59 : decode cX9_beside 59 = .ok (.iconst 1, 1) := by decide +kernel
theorem dX9_beside_60 : decode cX9_beside 60 = .ok (.if_icmp .ne 11, 3) := by decide +kernel
theorem dX9_beside_63 : decode cX9_beside 63 = .ok (.aload 5, 2) := by decide +kernel
theorem dX9_beside_65 : decode cX9_beside 65 = .ok (.getfield 205, 3) := by decide +kernel
theorem dX9_beside_68 : decode cX9_beside 68 = .ok (.ifCond .ne 7, 3) := by decide +kernel
theorem dX9_beside_71 : decode cX9_beside 71 = .ok (.ldc2_w 259, 3) := by decide +kernel
theorem dX9_beside_74 : decode cX9_beside 74 = .ok (.lreturn, 1) := by decide +kernel
theorem dX9_beside_75 : decode cX9_beside 75 = .ok (.aload_n 0, 1) := by decide +kernel
theorem dX9_beside_76 : decode cX9_beside 76 = .ok (.aload 6, 2) := by decide +kernel
theorem dX9_beside_78 : decode cX9_beside 78 = .ok (.iload_n 3, 1) := by decide +kernel
theorem dX9_beside_79 : decode cX9_beside 79 = .ok (.invokevirtual 167, 3) := by decide +kernel
theorem dX9_beside_82 : decode cX9_beside 82 = .ok (.aload 5, 2) := by decide +kernel
theorem dX9_beside_84 : decode cX9_beside 84 = .ok (.getfield 205, 3) := by decide +kernel
theorem dX9_beside_87 : decode cX9_beside 87 = .ok (.i2l, 1) := by decide +kernel
theorem dX9_beside_88 : decode cX9_beside 88 = .ok (.lstore 7, 2) := by decide +kernel
theorem dX9_beside_90 : decode cX9_beside 90 = .ok (.aload 5, 2) := by decide +kernel
theorem dX9_beside_92 : decode cX9_beside 92 = .ok (.iconst 0, 1) := by decide +kernel
theorem dX9_beside_93 : decode cX9_beside 93 = .ok (.invokevirtual 253, 3) := by decide +kernel
theorem dX9_beside_96 : decode cX9_beside 96 = .ok (.aload_n 0, 1) := by decide +kernel
theorem dX9_beside_97 : decode cX9_beside 97 = .ok (.getfield 43, 3) := by decide +kernel
theorem dX9_beside_100 : decode cX9_beside 100 = .ok (.getfield 171, 3) := by decide +kernel
theorem dX9_beside_103 : decode cX9_beside 103 = .ok (.i2l, 1) := by decide +kernel
theorem dX9_beside_104 : decode cX9_beside 104 = .ok (.lload 7, 2) := by decide +kernel
theorem dX9_beside_106 : decode cX9_beside 106 = .ok (.lmul, 1) := by decide +kernel
theorem dX9_beside_107 : decode cX9_beside 107 = .ok (.lsub, 1) := by decide +kernel
theorem dX9_beside_108 : decode cX9_beside 108 = .ok (.lload 7, 2) := by decide +kernel
theorem dX9_beside_110 : decode cX9_beside 110 = .ok (.iload 4, 2) := by decide +kernel
theorem dX9_beside_112 : decode cX9_beside 112 = .ok (.invokestatic 153, 3) := by decide +kernel
theorem dX9_beside_115 : decode cX9_beside 115 = .ok (.lreturn, 1) := by decide +kernel
theorem dX9_shorter_0 : decode cX9_shorter 0 = .ok (.aload_n 0, 1) := by decide +kernel
theorem dX9_shorter_1 : decode cX9_shorter 1 = .ok (.getfield 19, 3) := by decide +kernel
theorem dX9_shorter_4 : decode cX9_shorter 4 = .ok (.iload_n 1, 1) := by decide +kernel
theorem dX9_shorter_5 : decode cX9_shorter 5 = .ok (.invokevirtual 61, 3) := by decide +kernel
theorem dX9_shorter_8 : decode cX9_shorter 8 = .ok (.astore 5, 2) := by decide +kernel
theorem dX9_shorter_10 : decode cX9_shorter 10 = .ok (.aload_n 0, 1) := by decide +kernel
theorem dX9_shorter_11 : decode cX9_shorter 11 = .ok (.getfield 19, 3) := by decide +kernel
theorem dX9_shorter_14 : decode cX9_shorter 14 = .ok (.iload_n 2, 1) := by decide +kernel
theorem dX9_shorter_15 : decode cX9_shorter 15 = .ok (.invokevirtual 61, 3) := by decide +kernel
theorem dX9_shorter_18 : decode cX9_shorter 18 = .ok (.astore 6, 2) := by decide +kernel
theorem dX9_shorter_20 : decode cX9_shorter 20 = .ok (.aload 5, 2) := by decide +kernel
theorem dX9_shorter_22 : decode cX9_shorter 22 = .ok (.ifnull 8, 3) := by decide +kernel
theorem dX9_shorter_25 : decode cX9_shorter 25 = .ok (.aload 6, 2) := by decide +kernel
theorem dX9_shorter_27 : decode cX9_shorter 27 = .ok (.ifnonnull 5, 3) := by decide +kernel
theorem dX9_shorter_30 : decode cX9_shorter 30 = .ok (.iconst (-1), 1) := by decide +kernel
theorem dX9_shorter_31 : decode cX9_shorter 31 = .ok (.ireturn, 1) := by decide +kernel
theorem dX9_shorter_32 : decode cX9_shorter 32 = .ok (.iload_n 3, 1) := by decide +kernel
theorem dX9_shorter_33 : decode cX9_shorter 33 = .ok (.invokestatic 164, 3) := by decide +kernel
theorem dX9_shorter_36 : decode cX9_shorter 36 = .ok (.ifCond .eq 15, 3) := by decide +kernel
theorem dX9_shorter_39 : decode cX9_shorter 39 = .ok (.iload 4, 2) := by decide +kernel
theorem dX9_shorter_41 : decode cX9_shorter 41 = .ok (.iconst 0, 1) := by decide +kernel
theorem dX9_shorter_42 : decode cX9_shorter 42 = .ok (.sipush 999, 3) := by decide +kernel
theorem dX9_shorter_45 : decode cX9_shorter 45 = .ok (.invokestatic 69, 3) := by decide +kernel
theorem dX9_shorter_48 : decode cX9_shorter 48 = .ok (.ifCond .ne 6, 3) := by decide +kernel
theorem dX9_shorter_51 : decode cX9_shorter 51 = .ok (.bipush (-2), 2) := by decide +kernel
theorem dX9_shorter_53 : decode cX9_shorter 53 = .ok (.ireturn, 1) := by decide +kernel
theorem dX9_shorter_54 : decode cX9_shorter 54 = .ok (.aload_n 0, 1) := by decide +kernel
theorem dX9_shorter_55 : decode cX9_shorter 55 = .ok (.aload 5, 2) := by decide +kernel
theorem dX9_shorter_57 : decode cX9_shorter 57 = .ok (.iload_n 3, 1) := by decide +kernel
theorem dX9_shorter_58 : decode cX9_shorter 58 = .ok (.iload 4, 2) := by decide +kernel
theorem dX9_shorter_60 : decode cX9_shorter 60 = .ok (.invokevirtual 177, 3) := by decide +kernel
theorem dX9_shorter_63 : decode cX9_shorter 63 = .ok (.aload_n 0, 1) := by decide +kernel
theorem dX9_shorter_64 : decode cX9_shorter 64 = .ok (.getfield 43, 3) := by decide +kernel
theorem dX9_shorter_67 : decode cX9_shorter 67 = .ok (.getfield 181, 3) := by decide +kernel
theorem dX9_shorter_70 : decode cX9_shorter 70 = .ok (.istore 7, 2) := by decide +kernel
theorem dX9_shorter_72 : decode cX9_shorter 72 = .ok (.aload_n 0, 1) := by decide +kernel
theorem dX9_shorter_73 : decode cX9_shorter 73 = .ok (.aload 6, 2) := by decide +kernel
theorem dX9_shorter_75 : decode cX9_shorter 75 = .ok (.iload_n 3, 1) := by decide +kernel
theorem dX9_shorter_76 : decode cX9_shorter 76 = .ok (.iload 4, 2) := by decide +kernel
theorem dX9_shorter_78 : decode cX9_shorter 78 = .ok (.invokevirtual 177, 3) := by decide +kernel
theorem dX9_shorter_81 : decode cX9_shorter 81 = .ok (.aload_n 0, 1) := by decide +kernel
theorem dX9_shorter_82 : decode cX9_shorter 82 = .ok (.getfield 43, 3) := by decide +kernel
theorem dX9_shorter_85 : decode cX9_shorter 85 = .ok (.getfield 184, 3) := by decide +kernel
theorem dX9_shorter_88 : decode cX9_shorter 88 = .ok (.iload 7, 2) := by decide +kernel
theorem dX9_shorter_90 : decode cX9_shorter 90 = .ok (.if_icmp .ge 5, 3) := by decide +kernel
theorem dX9_shorter_93 : decode cX9_shorter 93 = .ok (.iconst 2, 1) := by decide +kernel
theorem dX9_shorter_94 : decode cX9_shorter 94 = .ok (.ireturn, 1) := by decide +kernel
theorem dX9_shorter_95 : decode cX9_shorter 95 = .ok (.aload_n 0, 1) := by decide +kernel
theorem dX9_shorter_96 : decode cX9_shorter 96 = .ok (.getfield 43, 3) := by decide +kernel
theorem dX9_shorter_99 : decode cX9_shorter 99 = .ok (.getfield 181, 3) := by decide +kernel
theorem dX9_shorter_102 : decode cX9_shorter 102 = .ok (.iload 7, 2) := by decide +kernel
theorem dX9_shorter_104 : decode cX9_shorter 104 = .ok (.if_icmp .lt 7, 3) := by decide +kernel
theorem dX9_shorter_107 : decode cX9_shorter 107 = .ok (.iconst 0, 1) := by decide +kernel
theorem dX9_shorter_108 : decode cX9_shorter 108 = .ok (.goto 4, 3) := by decide +kernel
theorem dX9_shorter_111 : decode cX9_shorter 111 = .ok (.iconst 1, 1) := by decide +kernel
theorem dX9_shorter_112 : decode cX9_shorter 112 = .ok (.ireturn, 1) := by decide +kernel
theorem dX9_make_0 : decode cX9_make 0 = .ok (.aload_n 0, 1) := by decide +kernel
theorem dX9_make_1 : decode cX9_make 1 = .ok (.getfield 19, 3) := by decide +kernel
theorem dX9_make_4 : decode cX9_make 4 = .ok (.iload_n 1, 1) := by decide +kernel
theorem dX9_make_5 : decode cX9_make 5 = .ok (.invokevirtual 61, 3) := by decide +kernel
theorem dX9_make_8 : decode cX9_make 8 = .ok (.astore 6, 2) := by decide +kernel
theorem dX9_make_10 : decode cX9_make 10 = .ok (.aload 6, 2) := by decide +kernel
theorem dX9_make_12 : decode cX9_make 12 = .ok (.ifnonnull 5, 3) := by decide +kernel
theorem dX9_make_15 : decode cX9_make 15 = .ok (.iconst (-1), 1) := by decide +kernel
theorem dX9_make_16 : decode cX9_make 16 = .ok (.ireturn, 1) := by decide +kernel
theorem dX9_make_17 : decode cX9_make 17 = .ok (.iload_n 2, 1) := by decide +kernel
theorem dX9_make_18 : decode cX9_make 18 = .ok (.iload_n 3, 1) := by decide +kernel
theorem dX9_make_19 : decode cX9_make 19 = .ok (.iload 4, 2) := by decide +kernel
theorem dX9_make_21 : decode cX9_make 21 = .ok (.iload 5, 2) := by decide +kernel
theorem dX9_make_23 : decode cX9_make 23 = .ok (.invokestatic 261, 3) := by decide +kernel
theorem dX9_make_26 : decode cX9_make 26 = .ok (.ifCond .eq 25, 3) := by decide +kernel
theorem dX9_make_29 : decode cX9_make 29 = .ok (.aload_n 0, 1) := by decide +kernel
theorem dX9_make_30 : decode cX9_make 30 = .ok (.getfield 50, 3) := by decide +kernel
theorem dX9_make_33 : decode cX9_make 33 = .ok (.aload 6, 2) := by decide +kernel
theorem dX9_make_35 : decode cX9_make 35 = .ok (.aload_n 0, 1) := by decide +kernel
theorem dX9_make_36 : decode cX9_make 36 = .ok (.getfield 19, 3) := by decide +kernel
theorem dX9_make_39 : decode cX9_make 39 = .ok (.iload_n 2, 1) := by decide +kernel
theorem dX9_make_40 : decode cX9_make 40 = .ok (.iload_n 3, 1) := by decide +kernel
theorem dX9_make_41 : decode cX9_make 41 = .ok (.iload 4, 2) := by decide +kernel
theorem dX9_make_43 : decode cX9_make 43 = .ok (.iload 5, 2) := by decide +kernel
theorem dX9_make_45 : decode cX9_make 45 = .ok (.invokevirtual 264, 3) := by decide +kernel
theorem dX9_make_48 : decode cX9_make 48 = .ok (.goto 5, 3) := by decide +kernel
theorem dX9_make_51 : decode cX9_make 51 = .ok (.bipush (-2), 2) := by decide +kernel
theorem dX9_make_53 : decode cX9_make 53 = .ok (.ireturn, 1) := by decide +kernel
theorem dX9_off_0 : decode cX9_off 0 = .ok (.aload_n 0, 1) := by decide +kernel
theorem dX9_off_1 : decode cX9_off 1 = .ok (.getfield 19, 3) := by decide +kernel
theorem dX9_off_4 : decode cX9_off 4 = .ok (.iload_n 1, 1) := by decide +kernel
theorem dX9_off_5 : decode cX9_off 5 = .ok (.invokevirtual 61, 3) := by decide +kernel
theorem dX9_off_8 : decode cX9_off 8 = .ok (.astore 8, 2) := by decide +kernel
theorem dX9_off_10 : decode cX9_off 10 = .ok (.aload 8, 2) := by decide +kernel
theorem dX9_off_12 : decode cX9_off 12 = .ok (.ifnonnull 5, 3) := by decide +kernel
theorem dX9_off_15 : decode cX9_off 15 = .ok (.iconst (-1), 1) := by decide +kernel
theorem dX9_off_16 : decode cX9_off 16 = .ok (.ireturn, 1) := by decide +kernel
theorem dX9_off_17 : decode cX9_off 17 = .ok (.iload_n 2, 1) := by decide +kernel
theorem dX9_off_18 : decode cX9_off 18 = .ok (.iload_n 3, 1) := by decide +kernel
theorem dX9_off_19 : decode cX9_off 19 = .ok (.iload 4, 2) := by decide +kernel
theorem dX9_off_21 : decode cX9_off 21 = .ok (.iload 5, 2) := by decide +kernel
theorem dX9_off_23 : decode cX9_off 23 = .ok (.invokestatic 261, 3) := by decide +kernel
theorem dX9_off_26 : decode cX9_off 26 = .ok (.ifCond .eq 24, 3) := by decide +kernel
theorem dX9_off_29 : decode cX9_off 29 = .ok (.iload 6, 2) := by decide +kernel
theorem dX9_off_31 : decode cX9_off 31 = .ok (.iconst 1, 1) := by decide +kernel
theorem dX9_off_32 : decode cX9_off 32 = .ok (.bipush 8, 2) := by decide +kernel
theorem dX9_off_34 : decode cX9_off 34 = .ok (.invokestatic 69, 3) := by decide +kernel
theorem dX9_off_37 : decode cX9_off 37 = .ok (.ifCond .eq 13, 3) := by decide +kernel
theorem dX9_off_40 : decode cX9_off 40 = .ok (.iload 7, 2) := by decide +kernel
theorem dX9_off_42 : decode cX9_off 42 = .ok (.iconst 0, 1) := by decide +kernel
theorem dX9_off_43 : decode cX9_off 43 = .ok (.iconst 3, 1) := by decide +kernel
theorem dX9_off_44 : decode cX9_off 44 = .ok (.invokestatic 69, 3) := by decide +kernel
theorem dX9_off_47 : decode cX9_off 47 = .ok (.ifCond .ne 6, 3) := by decide +kernel
theorem dX9_off_50 : decode cX9_off 50 = .ok (.bipush (-2), 2) := by decide +kernel
theorem dX9_off_52 : decode cX9_off 52 = .ok (.ireturn, 1) := by decide +kernel
theorem dX9_off_53 : decode cX9_off 53 = .ok (.aload_n 0, 1) := by decide +kernel
theorem dX9_off_54 : decode cX9_off 54 = .ok (.aload 8, 2) := by decide +kernel
theorem dX9_off_56 : decode cX9_off 56 = .ok (.iload_n 2, 1) := by decide +kernel
theorem dX9_off_57 : decode cX9_off 57 = .ok (.iload_n 3, 1) := by decide +kernel
