theorem dX10_lineOf_42 : decode cX10_lineOf 42 = .ok (.aload_n 0, 1) := by decide +kernel
theorem dX10_lineOf_43 : decode cX10_lineOf 43 = .ok (.getfield 34, 3) := by decide +kernel
theorem dX10_lineOf_46 : decode cX10_lineOf 46 = .ok (.iload 4, 2) := by decide +kernel
theorem dX10_lineOf_48 : decode cX10_lineOf 48 = .ok (.iaload, 1) := by decide +kernel
theorem dX10_lineOf_49 : decode cX10_lineOf 49 = .ok (.bipush 121, 2) := by decide +kernel
theorem dX10_lineOf_51 : decode cX10_lineOf 51 = .ok (.if_icmp .ne 12, 3) := by decide +kernel
theorem dX10_lineOf_54 : decode cX10_lineOf 54 = .ok (.aload_n 0, 1) := by decide +kernel
theorem dX10_lineOf_55 : decode cX10_lineOf 55 = .ok (.getfield 13, 3) := by decide +kernel
theorem dX10_lineOf_58 : decode cX10_lineOf 58 = .ok (.iload_n 1, 1) := by decide +kernel
theorem dX10_lineOf_59 : decode cX10_lineOf 59 = .ok (.iaload, 1) := by decide +kernel
theorem dX10_lineOf_60 : decode cX10_lineOf 60 = .ok (.goto 9, 3) := by decide +kernel
theorem dX10_lineOf_63 : decode cX10_lineOf 63 = .ok (.aload_n 0, 1) := by decide +kernel
theorem dX10_lineOf_64 : decode cX10_lineOf 64 = .ok (.getfield 16, 3) := by decide +kernel
theorem dX10_lineOf_67 : decode cX10_lineOf 67 = .ok (.iload_n 1, 1) := by decide +kernel
theorem dX10_lineOf_68 : decode cX10_lineOf 68 = .ok (.iaload, 1) := by decide +kernel
theorem dX10_lineOf_69 : decode cX10_lineOf 69 = .ok (.istore 5, 2) := by decide +kernel
theorem dX10_lineOf_71 : decode cX10_lineOf 71 = .ok (.aload_n 0, 1) := by decide +kernel
theorem dX10_lineOf_72 : decode cX10_lineOf 72 = .ok (.getfield 37, 3) := by decide +kernel
theorem dX10_lineOf_75 : decode cX10_lineOf 75 = .ok (.iload 4, 2) := by decide +kernel
theorem dX10_lineOf_77 : decode cX10_lineOf 77 = .ok (.iaload, 1) := by decide +kernel
theorem dX10_lineOf_78 : decode cX10_lineOf 78 = .ok (.istore 6, 2) := by decide +kernel
theorem dX10_lineOf_80 : decode cX10_lineOf 80 = .ok (.iload_n 3, 1) := by decide +kernel
theorem dX10_lineOf_81 : decode cX10_lineOf 81 = .ok (.ifCond .eq 63, 3) := by decide +kernel
theorem dX10_lineOf_84 : decode cX10_lineOf 84 = .ok (.iload 6, 2) := by decide +kernel
theorem dX10_lineOf_86 : decode cX10_lineOf 86 = .ok (.bipush 60, 2) := by decide +kernel
theorem dX10_lineOf_88 : decode cX10_lineOf 88 = .ok (.if_icmp .ne 18, 3) := by decide +kernel
theorem dX10_lineOf_91 : decode cX10_lineOf 91 = .ok (.iload 5, 2) := by decide +kernel
theorem dX10_lineOf_93 : decode cX10_lineOf 93 = .ok (.aload_n 0, 1) := by decide +kernel
theorem dX10_lineOf_94 : decode cX10_lineOf 94 = .ok (.getfield 40, 3) := by decide +kernel
theorem dX10_lineOf_97 : decode cX10_lineOf 97 = .ok (.iload 4, 2) := by decide +kernel
theorem dX10_lineOf_99 : decode cX10_lineOf 99 = .ok (.iaload, 1) := by decide +kernel
theorem dX10_lineOf_100 : decode cX10_lineOf 100 = .ok (.if_icmp .ge 44, 3) := by decide +kernel
theorem dX10_lineOf_103 : decode cX10_lineOf 103 = .ok (.goto 37, 3) := by decide +kernel
theorem dX10_lineOf_106 : decode cX10_lineOf 106 = .ok (.iload 6, 2) := by decide +kernel
theorem dX10_lineOf_108 : decode cX10_lineOf 108 = .ok (.bipush 62, 2) := by decide +kernel
theorem dX10_lineOf_110 : decode cX10_lineOf 110 = .ok (.if_icmp .ne 18, 3) := by decide +kernel
theorem dX10_lineOf_113 : decode cX10_lineOf 113 = .ok (.iload 5, 2) := by decide +kernel
theorem dX10_lineOf_115 : decode cX10_lineOf 115 = .ok (.aload_n 0, 1) := by decide +kernel
theorem dX10_lineOf_116 : decode cX10_lineOf 116 = .ok (.getfield 40, 3) := by decide +kernel
theorem dX10_lineOf_119 : decode cX10_lineOf 119 = .ok (.iload 4, 2) := by decide +kernel
theorem dX10_lineOf_121 : decode cX10_lineOf 121 = .ok (.iaload, 1) := by decide +kernel
theorem dX10_lineOf_122 : decode cX10_lineOf 122 = .ok (.if_icmp .le 22, 3) := by decide +kernel
theorem dX10_lineOf_125 : decode cX10_lineOf 125 = .ok (.goto 15, 3) := by decide +kernel
theorem dX10_lineOf_128 : decode cX10_lineOf 128 = .ok (.iload 5, 2) := by decide +kernel
theorem dX10_lineOf_130 : decode cX10_lineOf 130 = .ok (.aload_n 0, 1) := by decide +kernel
theorem dX10_lineOf_131 : decode cX10_lineOf 131 = .ok (.getfield 40, 3) := by decide +kernel
theorem dX10_lineOf_134 : decode cX10_lineOf 134 = .ok (.iload 4, 2) := by decide +kernel
theorem dX10_lineOf_136 : decode cX10_lineOf 136 = .ok (.iaload, 1) := by decide +kernel
theorem dX10_lineOf_137 : decode cX10_lineOf 137 = .ok (.if_icmp .ne 7, 3) := by decide +kernel
theorem dX10_lineOf_140 : decode cX10_lineOf 140 = .ok (.iconst 1, 1) := by decide +kernel
theorem dX10_lineOf_141 : decode cX10_lineOf 141 = .ok (.goto 4, 3) := by decide +kernel
theorem dX10_lineOf_144 : decode cX10_lineOf 144 = .ok (.iconst 0, 1) := by decide +kernel
theorem dX10_lineOf_145 : decode cX10_lineOf 145 = .ok (.istore_n 3, 1) := by decide +kernel
theorem dX10_lineOf_146 : decode cX10_lineOf 146 = .ok (.iinc 4 1, 3) := by decide +kernel
theorem dX10_lineOf_149 : decode cX10_lineOf 149 = .ok (.goto (-120), 3) := by decide +kernel
theorem dX10_lineOf_152 : decode cX10_lineOf 152 = .ok (.iload_n 3, 1) := by decide +kernel
theorem dX10_lineOf_153 : decode cX10_lineOf 153 = .ok (.ifCond .eq 26, 3) := by decide +kernel
theorem dX10_lineOf_156 : decode cX10_lineOf 156 = .ok (.aload_n 0, 1) := by decide +kernel
theorem dX10_lineOf_157 : decode cX10_lineOf 157 = .ok (.getfield 31, 3) := by decide +kernel
theorem dX10_lineOf_160 : decode cX10_lineOf 160 = .ok (.iload_n 2, 1) := by decide +kernel
theorem dX10_lineOf_161 : decode cX10_lineOf 161 = .ok (.iaload, 1) := by decide +kernel
theorem dX10_lineOf_162 : decode cX10_lineOf 162 = .ok (.bipush 63, 2) := by decide +kernel
theorem dX10_lineOf_164 : decode cX10_lineOf 164 = .ok (.if_icmp .le 8, 3) := by decide +kernel
theorem dX10_lineOf_167 : decode cX10_lineOf 167 = .ok (.bipush 63, 2) := by decide +kernel
theorem dX10_lineOf_169 : decode cX10_lineOf 169 = .ok (.goto 9, 3) := by decide +kernel
theorem dX10_lineOf_172 : decode cX10_lineOf 172 = .ok (.aload_n 0, 1) := by decide +kernel
theorem dX10_lineOf_173 : decode cX10_lineOf 173 = .ok (.getfield 31, 3) := by decide +kernel
theorem dX10_lineOf_176 : decode cX10_lineOf 176 = .ok (.iload_n 2, 1) := by decide +kernel
theorem dX10_lineOf_177 : decode cX10_lineOf 177 = .ok (.iaload, 1) := by decide +kernel
theorem dX10_lineOf_178 : decode cX10_lineOf 178 = .ok (.ireturn, 1) := by decide +kernel
theorem dX10_lineOf_179 : decode cX10_lineOf 179 = .ok (.iinc 2 1, 3) := by decide +kernel
theorem dX10_lineOf_182 : decode cX10_lineOf 182 = .ok (.goto (-180), 3) := by decide +kernel
theorem dX10_lineOf_185 : decode cX10_lineOf 185 = .ok (.iconst 0, 1) := by decide +kernel
theorem dX10_lineOf_186 : decode cX10_lineOf 186 = .ok (.ireturn, 1) := by decide +kernel
theorem dX10_line_0 : decode cX10_line 0 = .ok (.iload_n 1, 1) := by decide +kernel
theorem dX10_line_1 : decode cX10_line 1 = .ok (.invokestatic 76, 3) := by decide +kernel
theorem dX10_line_4 : decode cX10_line 4 = .ok (.ifCond .eq 11, 3) := by decide +kernel
theorem dX10_line_7 : decode cX10_line 7 = .ok (.aload_n 0, 1) := by decide +kernel
theorem dX10_line_8 : decode cX10_line 8 = .ok (.iload_n 1, 1) := by decide +kernel
theorem dX10_line_9 : decode cX10_line 9 = .ok (.invokevirtual 146, 3) := by decide +kernel
theorem dX10_line_12 : decode cX10_line 12 = .ok (.goto 4, 3) := by decide +kernel
theorem dX10_line_15 : decode cX10_line 15 = .ok (.iconst (-1), 1) := by decide +kernel
theorem dX10_line_16 : decode cX10_line 16 = .ok (.ireturn, 1) := by decide +kernel
theorem dX10_choose_0 : decode cX10_choose 0 = .ok (.iload_n 1, 1) := by decide +kernel
theorem dX10_choose_1 : decode cX10_choose 1 = .ok (.ifCond .lt 8, 3) := by decide +kernel
theorem dX10_choose_4 : decode cX10_choose 4 = .ok (.iload_n 1, 1) := by decide +kernel
theorem dX10_choose_5 : decode cX10_choose 5 = .ok (.iload_n 0, 1) := by decide +kernel
theorem dX10_choose_6 : decode cX10_choose 6 = .ok (.if_icmp .le 5, 3) := by decide +kernel
theorem dX10_choose_9 : decode cX10_choose 9 = .ok (.iconst 0, 1) := by decide +kernel
theorem dX10_choose_10 : decode cX10_choose 10 = .ok (.ireturn, 1) := by decide +kernel
theorem dX10_choose_11 : decode cX10_choose 11 = .ok (.iconst 1, 1) := by decide +kernel
theorem dX10_choose_12 : decode cX10_choose 12 = .ok (.istore_n 2, 1) := by decide +kernel
theorem dX10_choose_13 : decode cX10_choose 13 = .ok (.iconst 1, 1) := by decide +kernel
theorem dX10_choose_14 : decode cX10_choose 14 = .ok (.istore_n 3, 1) := by decide +kernel
theorem dX10_choose_15 : decode cX10_choose 15 = .ok (.iload_n 3, 1) := by decide +kernel
theorem dX10_choose_16 : decode cX10_choose 16 = .ok (.iload_n 1, 1) := by decide +kernel
theorem dX10_choose_17 : decode cX10_choose 17 = .ok (.if_icmp .gt 19, 3) := by decide +kernel
theorem dX10_choose_20 : decode cX10_choose 20 = .ok (.iload_n 2, 1) := by decide +kernel
theorem dX10_choose_21 : decode cX10_choose 21 = .ok (.iload_n 0, 1) := by decide +kernel
theorem dX10_choose_22 : decode cX10_choose 22 = .ok (.iload_n 1, 1) := by decide +kernel
theorem dX10_choose_23 : decode cX10_choose 23 = .ok (.isub, 1) := by decide +kernel
theorem dX10_choose_24 : decode cX10_choose 24 = .ok (.iload_n 3, 1) := by decide +kernel
theorem dX10_choose_25 : decode cX10_choose 25 = .ok (.iadd, 1) := by decide +kernel
theorem dX10_choose_26 : decode cX10_choose 26 = .ok (.imul, 1) := by decide +kernel
theorem dX10_choose_27 : decode cX10_choose 27 = .ok (.iload_n 3, 1) := by decide +kernel
theorem dX10_choose_28 : decode cX10_choose 28 = .ok (.idiv, 1) := by decide +kernel
theorem dX10_choose_29 : decode cX10_choose 29 = .ok (.istore_n 2, 1) := by decide +kernel
theorem dX10_choose_30 : decode cX10_choose 30 = .ok (.iinc 3 1, 3) := by decide +kernel
theorem dX10_choose_33 : decode cX10_choose 33 = .ok (.goto (-18), 3) := by decide +kernel
theorem dX10_choose_36 : decode cX10_choose 36 = .ok (.iload_n 2, 1) := by decide +kernel
theorem dX10_choose_37 : decode cX10_choose 37 = .ok (.ireturn, 1) := by decide +kernel
theorem dX10_humpOf_0 : decode cX10_humpOf 0 = .ok (.iload_n 2, 1) := by decide +kernel
theorem dX10_humpOf_1 : decode cX10_humpOf 1 = .ok (.invokestatic 80, 3) := by decide +kernel
theorem dX10_humpOf_4 : decode cX10_humpOf 4 = .ok (.ifCond .eq 17, 3) := by decide +kernel
theorem dX10_humpOf_7 : decode cX10_humpOf 7 = .ok (.iconst 2, 1) := by decide +kernel
theorem dX10_humpOf_8 : decode cX10_humpOf 8 = .ok (.iload_n 1, 1) := by decide +kernel
theorem dX10_humpOf_9 : decode cX10_humpOf 9 = .ok (.imul, 1) := by decide +kernel
theorem dX10_humpOf_10 : decode cX10_humpOf 10 = .ok (.iload_n 2, 1) := by decide +kernel
theorem dX10_humpOf_11 : decode cX10_humpOf 11 = .ok (.iload_n 0, 1) := by decide +kernel
theorem dX10_humpOf_12 : decode cX10_humpOf 12 = .ok (.isub, 1) := by decide +kernel
theorem dX10_humpOf_13 : decode cX10_humpOf 13 = .ok (.iload_n 1, 1) := by decide +kernel
theorem dX10_humpOf_14 : decode cX10_humpOf 14 = .ok (.iadd, 1) := by decide +kernel
theorem dX10_humpOf_15 : decode cX10_humpOf 15 = .ok (.invokestatic 149, 3) := by decide +kernel
theorem dX10_humpOf_18 : decode cX10_humpOf 18 = .ok (.goto 4, 3) := by decide +kernel
theorem dX10_humpOf_21 : decode cX10_humpOf 21 = .ok (.iconst 0, 1) := by decide +kernel
theorem dX10_humpOf_22 : decode cX10_humpOf 22 = .ok (.ireturn, 1) := by decide +kernel
theorem dX10_hump_0 : decode cX10_hump 0 = .ok (.iload_n 1, 1) := by decide +kernel
theorem dX10_hump_1 : decode cX10_hump 1 = .ok (.invokestatic 80, 3) := by decide +kernel
theorem dX10_hump_4 : decode cX10_hump 4 = .ok (.ifCond .eq 26, 3) := by decide +kernel
theorem dX10_hump_7 : decode cX10_hump 7 = .ok (.iload_n 2, 1) := by decide +kernel
theorem dX10_hump_8 : decode cX10_hump 8 = .ok (.invokestatic 152, 3) := by decide +kernel
theorem dX10_hump_11 : decode cX10_hump 11 = .ok (.ifCond .eq 19, 3) := by decide +kernel
theorem dX10_hump_14 : decode cX10_hump 14 = .ok (.iload_n 3, 1) := by decide +kernel
theorem dX10_hump_15 : decode cX10_hump 15 = .ok (.invokestatic 80, 3) := by decide +kernel
theorem dX10_hump_18 : decode cX10_hump 18 = .ok (.ifCond .eq 12, 3) := by decide +kernel
theorem dX10_hump_21 : decode cX10_hump 21 = .ok (.iload_n 1, 1) := by decide +kernel
theorem dX10_hump_22 : decode cX10_hump 22 = .ok (.iload_n 2, 1) := by decide +kernel
theorem dX10_hump_23 : decode cX10_hump 23 = .ok (.iload_n 3, 1) := by decide +kernel
theorem dX10_hump_24 : decode cX10_hump 24 = .ok (.invokestatic 155, 3) := by decide +kernel
theorem dX10_hump_27 : decode cX10_hump 27 = .ok (.goto 5, 3) := by decide +kernel
theorem dX10_hump_30 : decode cX10_hump 30 = .ok (.bipush (-2), 2) := by decide +kernel
theorem dX10_hump_32 : decode cX10_hump 32 = .ok (.ireturn, 1) := by decide +kernel
theorem dX10_upper_0 : decode cX10_upper 0 = .ok (.iload_n 1, 1) := by decide +kernel
theorem dX10_upper_1 : decode cX10_upper 1 = .ok (.invokestatic 80, 3) := by decide +kernel
theorem dX10_upper_4 : decode cX10_upper 4 = .ok (.ifCond .eq 33, 3) := by decide +kernel
theorem dX10_upper_7 : decode cX10_upper 7 = .ok (.iload_n 2, 1) := by decide +kernel
theorem dX10_upper_8 : decode cX10_upper 8 = .ok (.invokestatic 152, 3) := by decide +kernel
theorem dX10_upper_11 : decode cX10_upper 11 = .ok (.ifCond .eq 26, 3) := by decide +kernel
theorem dX10_upper_14 : decode cX10_upper 14 = .ok (.iload_n 3, 1) := by decide +kernel
theorem dX10_upper_15 : decode cX10_upper 15 = .ok (.invokestatic 80, 3) := by decide +kernel
theorem dX10_upper_18 : decode cX10_upper 18 = .ok (.ifCond .eq 19, 3) := by decide +kernel
theorem dX10_upper_21 : decode cX10_upper 21 = .ok (.iload 4, 2) := by decide +kernel
theorem dX10_upper_23 : decode cX10_upper 23 = .ok (.invokestatic 124, 3) := by decide +kernel
theorem dX10_upper_26 : decode cX10_upper 26 = .ok (.ifCond .eq 11, 3) := by decide +kernel
theorem dX10_upper_29 : decode cX10_upper 29 = .ok (.iload 5, 2) := by decide +kernel
theorem dX10_upper_31 : decode cX10_upper 31 = .ok (.invokestatic 124, 3) := by decide +kernel
theorem dX10_upper_34 : decode cX10_upper 34 = .ok (.ifCond .ne 7, 3) := by decide +kernel
theorem dX10_upper_37 : decode cX10_upper 37 = .ok (.ldc2_w 159, 3) := by decide +kernel
theorem dX10_upper_40 : decode cX10_upper 40 = .ok (.lreturn, 1) := by decide +kernel
theorem dX10_upper_41 : decode cX10_upper 41 = .ok (.lconst 0, 1) := by decide +kernel
theorem dX10_upper_42 : decode cX10_upper 42 = .ok (.lstore 6, 2) := by decide +kernel
theorem dX10_upper_44 : decode cX10_upper 44 = .ok (.lconst 0, 1) := by decide +kernel
theorem dX10_upper_45 : decode cX10_upper 45 = .ok (.lstore 8, 2) := by decide +kernel
theorem dX10_upper_47 : decode cX10_upper 47 = .ok (.lconst 0, 1) := by decide +kernel
theorem dX10_upper_48 : decode cX10_upper 48 = .ok (.lstore 10, 2) := by decide +kernel
theorem dX10_upper_50 : decode cX10_upper 50 = .ok (.iconst 0, 1) := by decide +kernel
theorem dX10_upper_51 : decode cX10_upper 51 = .ok (.istore 12, 2) := by decide +kernel
theorem dX10_upper_53 : decode cX10_upper 53 = .ok (.iload 12, 2) := by decide +kernel
theorem dX10_upper_55 : decode cX10_upper 55 = .ok (.bipush 64, 2) := by decide +kernel
theorem dX10_upper_57 : decode cX10_upper 57 = .ok (.if_icmp .ge 65, 3) := by decide +kernel
theorem dX10_upper_60 : decode cX10_upper 60 = .ok (.iload_n 1, 1) := by decide +kernel
theorem dX10_upper_61 : decode cX10_upper 61 = .ok (.iload_n 2, 1) := by decide +kernel
theorem dX10_upper_62 : decode cX10_upper 62 = .ok (.iload 12, 2) := by decide +kernel
theorem dX10_upper_64 : decode cX10_upper 64 = .ok (.invokestatic 155, 3) := by decide +kernel
theorem dX10_upper_67 : decode cX10_upper 67 = .ok (.istore 13, 2) := by decide +kernel
theorem dX10_upper_69 : decode cX10_upper 69 = .ok (.lload 6, 2) := by decide +kernel
theorem dX10_upper_71 : decode cX10_upper 71 = .ok (.iload 13, 2) := by decide +kernel
theorem dX10_upper_73 : decode cX10_upper 73 = .ok (.i2l, 1) := by decide +kernel
theorem dX10_upper_74 : decode cX10_upper 74 = .ok (.ladd, 1) := by decide +kernel
theorem dX10_upper_75 : decode cX10_upper 75 = .ok (.lstore 6, 2) := by decide +kernel
theorem dX10_upper_77 : decode cX10_upper 77 = .ok (.lload 8, 2) := by decide +kernel
theorem dX10_upper_79 : decode cX10_upper 79 = .ok (.iload 12, 2) := by decide +kernel
theorem dX10_upper_81 : decode cX10_upper 81 = .ok (.iload_n 3, 1) := by decide +kernel
theorem dX10_upper_82 : decode cX10_upper 82 = .ok (.if_icmp .lt 9, 3) := by decide +kernel
theorem dX10_upper_85 : decode cX10_upper 85 = .ok (.iload 13, 2) := by decide +kernel
theorem dX10_upper_87 : decode cX10_upper 87 = .ok (.i2l, 1) := by decide +kernel
theorem dX10_upper_88 : decode cX10_upper 88 = .ok (.goto 4, 3) := by decide +kernel
theorem dX10_upper_91 : decode cX10_upper 91 = .ok (.lconst 0, 1) := by decide +kernel
theorem dX10_upper_92 : decode cX10_upper 92 = .ok (.ladd, 1) := by decide +kernel
theorem dX10_upper_93 : decode cX10_upper 93 = .ok (.lstore 8, 2) := by decide +kernel
theorem dX10_upper_95 : decode cX10_upper 95 = .ok (.lload 10, 2) := by decide +kernel
theorem dX10_upper_97 : decode cX10_upper 97 = .ok (.iload 12, 2) := by decide +kernel
theorem dX10_upper_99 : decode cX10_upper 99 = .ok (.iload_n 3, 1) := by decide +kernel
theorem dX10_upper_100 : decode cX10_upper 100 = .ok (.if_icmp .lt 12, 3) := by decide +kernel
theorem dX10_upper_103 : decode cX10_upper 103 = .ok (.iload 12, 2) := by decide +kernel
theorem dX10_upper_105 : decode cX10_upper 105 = .ok (.iload 13, 2) := by decide +kernel
theorem dX10_upper_107 : decode cX10_upper 107 = .ok (.imul, 1) := by decide +kernel
theorem dX10_upper_108 : decode cX10_upper 108 = .ok (.i2l, 1) := by decide +kernel
theorem dX10_upper_109 : decode cX10_upper 109 = .ok (.goto 4, 3) := by decide +kernel
theorem dX10_upper_112 : decode cX10_upper 112 = .ok (.lconst 0, 1) := by decide +kernel
theorem dX10_upper_113 : decode cX10_upper 113 = .ok (.ladd, 1) := by decide +kernel
theorem dX10_upper_114 : decode cX10_upper 114 = .ok (.lstore 10, 2) := by decide +kernel
theorem dX10_upper_116 : decode cX10_upper 116 = .ok (.iinc 12 1, 3) := by decide +kernel
theorem dX10_upper_119 : decode cX10_upper 119 = .ok (.goto (-66), 3) := by decide +kernel
theorem dX10_upper_122 : decode cX10_upper 122 = .ok (.iload 4, 2) := by decide +kernel
theorem dX10_upper_124 : decode cX10_upper 124 = .ok (.ifCond .ne 15, 3) := by decide +kernel
theorem dX10_upper_127 : decode cX10_upper 127 = .ok (.lload 8, 2) := by decide +kernel
theorem dX10_upper_129 : decode cX10_upper 129 = .ok (.lload 6, 2) := by decide +kernel
theorem dX10_upper_131 : decode cX10_upper 131 = .ok (.iload 5, 2) := by decide +kernel
theorem dX10_upper_133 : decode cX10_upper 133 = .ok (.invokestatic 161, 3) := by decide +kernel
theorem dX10_upper_136 : decode cX10_upper 136 = .ok (.goto 12, 3) := by decide +kernel
theorem dX10_upper_139 : decode cX10_upper 139 = .ok (.lload 10, 2) := by decide +kernel
theorem dX10_upper_141 : decode cX10_upper 141 = .ok (.lload 8, 2) := by decide +kernel
theorem dX10_upper_143 : decode cX10_upper 143 = .ok (.iload 5, 2) := by decide +kernel
theorem dX10_upper_145 : decode cX10_upper 145 = .ok (.invokestatic 161, 3) := by decide +kernel
theorem dX10_upper_148 : decode cX10_upper 148 = .ok (.lreturn, 1) := by decide +kernel
theorem dX10_findChosen_0 : decode cX10_findChosen 0 = .ok (.iconst 0, 1) := by decide +kernel
theorem dX10_findChosen_1 : decode cX10_findChosen 1 = .ok (.istore_n 2, 1) := by decide +kernel
theorem dX10_findChosen_2 : decode cX10_findChosen 2 = .ok (.iload_n 2, 1) := by decide +kernel
theorem dX10_findChosen_3 : decode cX10_findChosen 3 = .ok (.iconst 2, 1) := by decide +kernel
theorem dX10_findChosen_4 : decode cX10_findChosen 4 = .ok (.iload_n 1, 1) := by decide +kernel
theorem dX10_findChosen_5 : decode cX10_findChosen 5 = .ok (.imul, 1) := by decide +kernel
theorem dX10_findChosen_6 : decode cX10_findChosen 6 = .ok (.if_icmp .gt 22, 3) := by decide +kernel
theorem dX10_findChosen_9 : decode cX10_findChosen 9 = .ok (.aload_n 0, 1) := by decide +kernel
theorem dX10_findChosen_10 : decode cX10_findChosen 10 = .ok (.getfield 49, 3) := by decide +kernel
theorem dX10_findChosen_13 : decode cX10_findChosen 13 = .ok (.iload_n 2, 1) := by decide +kernel
theorem dX10_findChosen_14 : decode cX10_findChosen 14 = .ok (.iconst 2, 1) := by decide +kernel
theorem dX10_findChosen_15 : decode cX10_findChosen 15 = .ok (.iload_n 1, 1) := by decide +kernel
theorem dX10_findChosen_16 : decode cX10_findChosen 16 = .ok (.imul, 1) := by decide +kernel
theorem dX10_findChosen_17 : decode cX10_findChosen 17 = .ok (.iload_n 2, 1) := by decide +kernel
theorem dX10_findChosen_18 : decode cX10_findChosen 18 = .ok (.invokestatic 149, 3) := by decide +kernel
theorem dX10_findChosen_21 : decode cX10_findChosen 21 = .ok (.iastore, 1) := by decide +kernel
theorem dX10_findChosen_22 : decode cX10_findChosen 22 = .ok (.iinc 2 1, 3) := by decide +kernel
theorem dX10_findChosen_25 : decode cX10_findChosen 25 = .ok (.goto (-23), 3) := by decide +kernel
theorem dX10_findChosen_28 : decode cX10_findChosen 28 = .ok (.return_, 1) := by decide +kernel
theorem dX10_misfitOf_0 : decode cX10_misfitOf 0 = .ok (.lconst 0, 1) := by decide +kernel
theorem dX10_misfitOf_1 : decode cX10_misfitOf 1 = .ok (.lstore 6, 2) := by decide +kernel
theorem dX10_misfitOf_3 : decode cX10_misfitOf 3 = .ok (.iconst 0, 1) := by decide +kernel
theorem dX10_misfitOf_4 : decode cX10_misfitOf 4 = .ok (.istore 8, 2) := by decide +kernel
theorem dX10_misfitOf_6 : decode cX10_misfitOf 6 = .ok (.iload 8, 2) := by decide +kernel
theorem dX10_misfitOf_8 : decode cX10_misfitOf 8 = .ok (.iconst 2, 1) := by decide +kernel
theorem dX10_misfitOf_9 : decode cX10_misfitOf 9 = .ok (.iload 4, 2) := by decide +kernel
theorem dX10_misfitOf_11 : decode cX10_misfitOf 11 = .ok (.imul, 1) := by decide +kernel
theorem dX10_misfitOf_12 : decode cX10_misfitOf 12 = .ok (.if_icmp .gt 62, 3) := by decide +kernel
theorem dX10_misfitOf_15 : decode cX10_misfitOf 15 = .ok (.iload_n 3, 1) := by decide +kernel
theorem dX10_misfitOf_16 : decode cX10_misfitOf 16 = .ok (.iload 4, 2) := by decide +kernel
theorem dX10_misfitOf_18 : decode cX10_misfitOf 18 = .ok (.isub, 1) := by decide +kernel
theorem dX10_misfitOf_19 : decode cX10_misfitOf 19 = .ok (.iload 8, 2) := by decide +kernel
theorem dX10_misfitOf_21 : decode cX10_misfitOf 21 = .ok (.iadd, 1) := by decide +kernel
theorem dX10_misfitOf_22 : decode cX10_misfitOf 22 = .ok (.istore 9, 2) := by decide +kernel
theorem dX10_misfitOf_24 : decode cX10_misfitOf 24 = .ok (.lload 6, 2) := by decide +kernel
theorem dX10_misfitOf_26 : decode cX10_misfitOf 26 = .ok (.iload 9, 2) := by decide +kernel
theorem dX10_misfitOf_28 : decode cX10_misfitOf 28 = .ok (.invokestatic 80, 3) := by decide +kernel
theorem dX10_misfitOf_31 : decode cX10_misfitOf 31 = .ok (.ifCond .ne 7, 3) := by decide +kernel
theorem dX10_misfitOf_34 : decode cX10_misfitOf 34 = .ok (.lconst 0, 1) := by decide +kernel
theorem dX10_misfitOf_35 : decode cX10_misfitOf 35 = .ok (.goto 30, 3) := by decide +kernel
theorem dX10_misfitOf_38 : decode cX10_misfitOf 38 = .ok (.aload_n 0, 1) := by decide +kernel
theorem dX10_misfitOf_39 : decode cX10_misfitOf 39 = .ok (.getfield 49, 3) := by decide +kernel
theorem dX10_misfitOf_42 : decode cX10_misfitOf 42 = .ok (.iload 8, 2) := by decide +kernel
theorem dX10_misfitOf_44 : decode cX10_misfitOf 44 = .ok (.iaload, 1) := by decide +kernel
theorem dX10_misfitOf_45 : decode cX10_misfitOf 45 = .ok (.iload 9, 2) := by decide +kernel
theorem dX10_misfitOf_47 : decode cX10_misfitOf 47 = .ok (.iload 5, 2) := by decide +kernel
theorem dX10_misfitOf_49 : decode cX10_misfitOf 49 = .ok (.if_icmp .lt 8, 3) := by decide +kernel
theorem dX10_misfitOf_52 : decode cX10_misfitOf 52 = .ok (.bipush 10, 2) := by decide +kernel
theorem dX10_misfitOf_54 : decode cX10_misfitOf 54 = .ok (.goto 9, 3) := by decide +kernel
theorem dX10_misfitOf_57 : decode cX10_misfitOf 57 = .ok (.aload_n 0, 1) := by decide +kernel
theorem dX10_misfitOf_58 : decode cX10_misfitOf 58 = .ok (.getfield 22, 3) := by decide +kernel
theorem dX10_misfitOf_61 : decode cX10_misfitOf 61 = .ok (.iconst 0, 1) := by decide +kernel
theorem dX10_misfitOf_62 : decode cX10_misfitOf 62 = .ok (.iaload, 1) := by decide +kernel
theorem dX10_misfitOf_63 : decode cX10_misfitOf 63 = .ok (.imul, 1) := by decide +kernel
theorem dX10_misfitOf_64 : decode cX10_misfitOf 64 = .ok (.i2l, 1) := by decide +kernel
theorem dX10_misfitOf_65 : decode cX10_misfitOf 65 = .ok (.ladd, 1) := by decide +kernel
theorem dX10_misfitOf_66 : decode cX10_misfitOf 66 = .ok (.lstore 6, 2) := by decide +kernel
theorem dX10_misfitOf_68 : decode cX10_misfitOf 68 = .ok (.iinc 8 1, 3) := by decide +kernel
theorem dX10_misfitOf_71 : decode cX10_misfitOf 71 = .ok (.goto (-65), 3) := by decide +kernel
theorem dX10_misfitOf_74 : decode cX10_misfitOf 74 = .ok (.lload 6, 2) := by decide +kernel
theorem dX10_misfitOf_76 : decode cX10_misfitOf 76 = .ok (.lconst 0, 1) := by decide +kernel
theorem dX10_misfitOf_77 : decode cX10_misfitOf 77 = .ok (.lcmp, 1) := by decide +kernel
theorem dX10_misfitOf_78 : decode cX10_misfitOf 78 = .ok (.ifCond .ne 6, 3) := by decide +kernel
theorem dX10_misfitOf_81 : decode cX10_misfitOf 81 = .ok (.bipush (-5), 2) := by decide +kernel
theorem dX10_misfitOf_83 : decode cX10_misfitOf 83 = .ok (.ireturn, 1) := by decide +kernel
theorem dX10_misfitOf_84 : decode cX10_misfitOf 84 = .ok (.iload_n 2, 1) := by decide +kernel
theorem dX10_misfitOf_85 : decode cX10_misfitOf 85 = .ok (.istore 8, 2) := by decide +kernel
theorem dX10_misfitOf_87 : decode cX10_misfitOf 87 = .ok (.iconst 0, 1) := by decide +kernel
theorem dX10_misfitOf_88 : decode cX10_misfitOf 88 = .ok (.istore 9, 2) := by decide +kernel
theorem dX10_misfitOf_90 : decode cX10_misfitOf 90 = .ok (.iload 9, 2) := by decide +kernel
theorem dX10_misfitOf_92 : decode cX10_misfitOf 92 = .ok (.iconst 2, 1) := by decide +kernel
theorem dX10_misfitOf_93 : decode cX10_misfitOf 93 = .ok (.iload 4, 2) := by decide +kernel
theorem dX10_misfitOf_95 : decode cX10_misfitOf 95 = .ok (.imul, 1) := by decide +kernel
theorem dX10_misfitOf_96 : decode cX10_misfitOf 96 = .ok (.if_icmp .gt 90, 3) := by decide +kernel
theorem dX10_misfitOf_99 : decode cX10_misfitOf 99 = .ok (.iload_n 3, 1) := by decide +kernel
theorem dX10_misfitOf_100 : decode cX10_misfitOf 100 = .ok (.iload 4, 2) := by decide +kernel
theorem dX10_misfitOf_102 : decode cX10_misfitOf 102 = .ok (.isub, 1) := by decide +kernel
theorem dX10_misfitOf_103 : decode cX10_misfitOf 103 = .ok (.iload 9, 2) := by decide +kernel
theorem dX10_misfitOf_105 : decode cX10_misfitOf 105 = .ok (.iadd, 1) := by decide +kernel
theorem dX10_misfitOf_106 : decode cX10_misfitOf 106 = .ok (.istore 10, 2) := by decide +kernel
theorem dX10_misfitOf_108 : decode cX10_misfitOf 108 = .ok (.iload 10, 2) := by decide +kernel
theorem dX10_misfitOf_110 : decode cX10_misfitOf 110 = .ok (.invokestatic 80, 3) := by decide +kernel
theorem dX10_misfitOf_113 : decode cX10_misfitOf 113 = .ok (.ifCond .eq 67, 3) := by decide +kernel
theorem dX10_misfitOf_116 : decode cX10_misfitOf 116 = .ok (.aload_n 0, 1) := by decide +kernel
theorem dX10_misfitOf_117 : decode cX10_misfitOf 117 = .ok (.getfield 7, 3) := by decide +kernel
theorem dX10_misfitOf_120 : decode cX10_misfitOf 120 = .ok (.iload_n 1, 1) := by decide +kernel
theorem dX10_misfitOf_121 : decode cX10_misfitOf 121 = .ok (.iload 10, 2) := by decide +kernel
theorem dX10_misfitOf_123 : decode cX10_misfitOf 123 = .ok (.invokestatic 85, 3) := by decide +kernel
theorem dX10_misfitOf_126 : decode cX10_misfitOf 126 = .ok (.iaload, 1) := by decide +kernel
theorem dX10_misfitOf_127 : decode cX10_misfitOf 127 = .ok (.istore 11, 2) := by decide +kernel
theorem dX10_misfitOf_129 : decode cX10_misfitOf 129 = .ok (.iload_n 2, 1) := by decide +kernel
theorem dX10_misfitOf_130 : decode cX10_misfitOf 130 = .ok (.i2l, 1) := by decide +kernel
theorem dX10_misfitOf_131 : decode cX10_misfitOf 131 = .ok (.aload_n 0, 1) := by decide +kernel
theorem dX10_misfitOf_132 : decode cX10_misfitOf 132 = .ok (.getfield 49, 3) := by decide +kernel
theorem dX10_misfitOf_135 : decode cX10_misfitOf 135 = .ok (.iload 9, 2) := by decide +kernel
theorem dX10_misfitOf_137 : decode cX10_misfitOf 137 = .ok (.iaload, 1) := by decide +kernel
theorem dX10_misfitOf_138 : decode cX10_misfitOf 138 = .ok (.iload 10, 2) := by decide +kernel
theorem dX10_misfitOf_140 : decode cX10_misfitOf 140 = .ok (.iload 5, 2) := by decide +kernel
theorem dX10_misfitOf_142 : decode cX10_misfitOf 142 = .ok (.if_icmp .lt 8, 3) := by decide +kernel
theorem dX10_misfitOf_145 : decode cX10_misfitOf 145 = .ok (.bipush 10, 2) := by decide +kernel
theorem dX10_misfitOf_147 : decode cX10_misfitOf 147 = .ok (.goto 9, 3) := by decide +kernel
theorem dX10_misfitOf_150 : decode cX10_misfitOf 150 = .ok (.aload_n 0, 1) := by decide +kernel
theorem dX10_misfitOf_151 : decode cX10_misfitOf 151 = .ok (.getfield 22, 3) := by decide +kernel
theorem dX10_misfitOf_154 : decode cX10_misfitOf 154 = .ok (.iconst 0, 1) := by decide +kernel
theorem dX10_misfitOf_155 : decode cX10_misfitOf 155 = .ok (.iaload, 1) := by decide +kernel
theorem dX10_misfitOf_156 : decode cX10_misfitOf 156 = .ok (.imul, 1) := by decide +kernel
theorem dX10_misfitOf_157 : decode cX10_misfitOf 157 = .ok (.i2l, 1) := by decide +kernel
theorem dX10_misfitOf_158 : decode cX10_misfitOf 158 = .ok (.lmul, 1) := by decide +kernel
theorem dX10_misfitOf_159 : decode cX10_misfitOf 159 = .ok (.lload 6, 2) := by decide +kernel
theorem dX10_misfitOf_161 : decode cX10_misfitOf 161 = .ok (.ldiv, 1) := by decide +kernel
theorem dX10_misfitOf_162 : decode cX10_misfitOf 162 = .ok (.lstore 12, 2) := by decide +kernel
theorem dX10_misfitOf_164 : decode cX10_misfitOf 164 = .ok (.iload 8, 2) := by decide +kernel
theorem dX10_misfitOf_166 : decode cX10_misfitOf 166 = .ok (.iload 11, 2) := by decide +kernel
theorem dX10_misfitOf_168 : decode cX10_misfitOf 168 = .ok (.lload 12, 2) := by decide +kernel
theorem dX10_misfitOf_170 : decode cX10_misfitOf 170 = .ok (.l2i, 1) := by decide +kernel
theorem dX10_misfitOf_171 : decode cX10_misfitOf 171 = .ok (.invokestatic 165, 3) := by decide +kernel
theorem dX10_misfitOf_174 : decode cX10_misfitOf 174 = .ok (.iload 11, 2) := by decide +kernel
theorem dX10_misfitOf_176 : decode cX10_misfitOf 176 = .ok (.isub, 1) := by decide +kernel
theorem dX10_misfitOf_177 : decode cX10_misfitOf 177 = .ok (.iadd, 1) := by decide +kernel
theorem dX10_misfitOf_178 : decode cX10_misfitOf 178 = .ok (.istore 8, 2) := by decide +kernel
theorem dX10_misfitOf_180 : decode cX10_misfitOf 180 = .ok (.iinc 9 1, 3) := by decide +kernel
theorem dX10_misfitOf_183 : decode cX10_misfitOf 183 = .ok (.goto (-93), 3) := by decide +kernel
theorem dX10_misfitOf_186 : decode cX10_misfitOf 186 = .ok (.iload 8, 2) := by decide +kernel
theorem dX10_misfitOf_188 : decode cX10_misfitOf 188 = .ok (.ireturn, 1) := by decide +kernel
theorem dX10_misfit_0 : decode cX10_misfit 0 = .ok (.iload_n 1, 1) := by decide +kernel
theorem dX10_misfit_1 : decode cX10_misfit 1 = .ok (.invokestatic 76, 3) := by decide +kernel
theorem dX10_misfit_4 : decode cX10_misfit 4 = .ok (.ifCond .ne 5, 3) := by decide +kernel
theorem dX10_misfit_7 : decode cX10_misfit 7 = .ok (.iconst (-1), 1) := by decide +kernel
theorem dX10_misfit_8 : decode cX10_misfit 8 = .ok (.ireturn, 1) := by decide +kernel
theorem dX10_misfit_9 : decode cX10_misfit 9 = .ok (.iload_n 2, 1) := by decide +kernel
theorem dX10_misfit_10 : decode cX10_misfit 10 = .ok (.invokestatic 80, 3) := by decide +kernel
theorem dX10_misfit_13 : decode cX10_misfit 13 = .ok (.ifCond .eq 18, 3) := by decide +kernel
theorem dX10_misfit_16 : decode cX10_misfit 16 = .ok (.iload_n 3, 1) := by decide +kernel
theorem dX10_misfit_17 : decode cX10_misfit 17 = .ok (.invokestatic 152, 3) := by decide +kernel
theorem dX10_misfit_20 : decode cX10_misfit 20 = .ok (.ifCond .eq 11, 3) := by decide +kernel
theorem dX10_misfit_23 : decode cX10_misfit 23 = .ok (.iload 4, 2) := by decide +kernel
theorem dX10_misfit_25 : decode cX10_misfit 25 = .ok (.invokestatic 80, 3) := by decide +kernel
theorem dX10_misfit_28 : decode cX10_misfit 28 = .ok (.ifCond .ne 6, 3) := by decide +kernel
theorem dX10_misfit_31 : decode cX10_misfit 31 = .ok (.bipush (-2), 2) := by decide +kernel
theorem dX10_misfit_33 : decode cX10_misfit 33 = .ok (.ireturn, 1) := by decide +kernel
theorem dX10_misfit_34 : decode cX10_misfit 34 = .ok (.aload_n 0, 1) := by decide +kernel
theorem dX10_misfit_35 : decode cX10_misfit 35 = .ok (.iload_n 3, 1) := by decide +kernel
theorem dX10_misfit_36 : decode cX10_misfit 36 = .ok (.invokevirtual 168, 3) := by decide +kernel
theorem dX10_misfit_39 : decode cX10_misfit 39 = .ok (.aload_n 0, 1) := by decide +kernel
theorem dX10_misfit_40 : decode cX10_misfit 40 = .ok (.iload_n 1, 1) := by decide +kernel
theorem dX10_misfit_41 : decode cX10_misfit 41 = .ok (.aload_n 0, 1) := by decide +kernel
theorem dX10_misfit_42 : decode cX10_misfit 42 = .ok (.iload_n 1, 1) := by decide +kernel
theorem dX10_misfit_43 : decode cX10_misfit 43 = .ok (.invokevirtual 172, 3) := by decide +kernel
theorem dX10_misfit_46 : decode cX10_misfit 46 = .ok (.iload_n 2, 1) := by decide +kernel
theorem dX10_misfit_47 : decode cX10_misfit 47 = .ok (.iload_n 3, 1) := by decide +kernel
theorem dX10_misfit_48 : decode cX10_misfit 48 = .ok (.iload 4, 2) := by decide +kernel
theorem dX10_misfit_50 : decode cX10_misfit 50 = .ok (.invokevirtual 175, 3) := by decide +kernel
theorem dX10_misfit_53 : decode cX10_misfit 53 = .ok (.ireturn, 1) := by decide +kernel
theorem dX10_keepBest_0 : decode cX10_keepBest 0 = .ok (.iload_n 3, 1) := by decide +kernel
theorem dX10_keepBest_1 : decode cX10_keepBest 1 = .ok (.ifCond .lt 33, 3) := by decide +kernel
theorem dX10_keepBest_4 : decode cX10_keepBest 4 = .ok (.aload_n 0, 1) := by decide +kernel
theorem dX10_keepBest_5 : decode cX10_keepBest 5 = .ok (.getfield 179, 3) := by decide +kernel
theorem dX10_keepBest_8 : decode cX10_keepBest 8 = .ok (.ifCond .lt 11, 3) := by decide +kernel
theorem dX10_keepBest_11 : decode cX10_keepBest 11 = .ok (.iload_n 3, 1) := by decide +kernel
theorem dX10_keepBest_12 : decode cX10_keepBest 12 = .ok (.aload_n 0, 1) := by decide +kernel
theorem dX10_keepBest_13 : decode cX10_keepBest 13 = .ok (.getfield 179, 3) := by decide +kernel
theorem dX10_keepBest_16 : decode cX10_keepBest 16 = .ok (.if_icmp .ge 18, 3) := by decide +kernel
theorem dX10_keepBest_19 : decode cX10_keepBest 19 = .ok (.aload_n 0, 1) := by decide +kernel
theorem dX10_keepBest_20 : decode cX10_keepBest 20 = .ok (.iload_n 1, 1) := by decide +kernel
theorem dX10_keepBest_21 : decode cX10_keepBest 21 = .ok (.putfield 182, 3) := by decide +kernel
theorem dX10_keepBest_24 : decode cX10_keepBest 24 = .ok (.aload_n 0, 1) := by decide +kernel
theorem dX10_keepBest_25 : decode cX10_keepBest 25 = .ok (.iload_n 2, 1) := by decide +kernel
theorem dX10_keepBest_26 : decode cX10_keepBest 26 = .ok (.putfield 185, 3) := by decide +kernel
theorem dX10_keepBest_29 : decode cX10_keepBest 29 = .ok (.aload_n 0, 1) := by decide +kernel
theorem dX10_keepBest_30 : decode cX10_keepBest 30 = .ok (.iload_n 3, 1) := by decide +kernel
theorem dX10_keepBest_31 : decode cX10_keepBest 31 = .ok (.putfield 179, 3) := by decide +kernel
theorem dX10_keepBest_34 : decode cX10_keepBest 34 = .ok (.return_, 1) := by decide +kernel
theorem dX10_findFit_0 : decode cX10_findFit 0 = .ok (.aload_n 0, 1) := by decide +kernel
theorem dX10_findFit_1 : decode cX10_findFit 1 = .ok (.iload_n 2, 1) := by decide +kernel
theorem dX10_findFit_2 : decode cX10_findFit 2 = .ok (.invokevirtual 168, 3) := by decide +kernel
theorem dX10_findFit_5 : decode cX10_findFit 5 = .ok (.aload_n 0, 1) := by decide +kernel
theorem dX10_findFit_6 : decode cX10_findFit 6 = .ok (.iload_n 1, 1) := by decide +kernel
theorem dX10_findFit_7 : decode cX10_findFit 7 = .ok (.invokevirtual 172, 3) := by decide +kernel
theorem dX10_findFit_10 : decode cX10_findFit 10 = .ok (.istore_n 3, 1) := by decide +kernel
theorem dX10_findFit_11 : decode cX10_findFit 11 = .ok (.aload_n 0, 1) := by decide +kernel
theorem dX10_findFit_12 : decode cX10_findFit 12 = .ok (.iload_n 1, 1) := by decide +kernel
theorem dX10_findFit_13 : decode cX10_findFit 13 = .ok (.invokevirtual 146, 3) := by decide +kernel
theorem dX10_findFit_16 : decode cX10_findFit 16 = .ok (.istore 4, 2) := by decide +kernel
theorem dX10_findFit_18 : decode cX10_findFit 18 = .ok (.aload_n 0, 1) := by decide +kernel
theorem dX10_findFit_19 : decode cX10_findFit 19 = .ok (.bipush (-6), 2) := by decide +kernel
theorem dX10_findFit_21 : decode cX10_findFit 21 = .ok (.putfield 179, 3) := by decide +kernel
theorem dX10_findFit_24 : decode cX10_findFit 24 = .ok (.iconst 0, 1) := by decide +kernel
theorem dX10_findFit_25 : decode cX10_findFit 25 = .ok (.istore 5, 2) := by decide +kernel
theorem dX10_findFit_27 : decode cX10_findFit 27 = .ok (.iload 5, 2) := by decide +kernel
theorem dX10_findFit_29 : decode cX10_findFit 29 = .ok (.bipush 64, 2) := by decide +kernel
theorem dX10_findFit_31 : decode cX10_findFit 31 = .ok (.if_icmp .ge 28, 3) := by decide +kernel
theorem dX10_findFit_34 : decode cX10_findFit 34 = .ok (.aload_n 0, 1) := by decide +kernel
theorem dX10_findFit_35 : decode cX10_findFit 35 = .ok (.iload 4, 2) := by decide +kernel
theorem dX10_findFit_37 : decode cX10_findFit 37 = .ok (.iload 5, 2) := by decide +kernel
theorem dX10_findFit_39 : decode cX10_findFit 39 = .ok (.aload_n 0, 1) := by decide +kernel
theorem dX10_findFit_40 : decode cX10_findFit 40 = .ok (.iload_n 1, 1) := by decide +kernel
theorem dX10_findFit_41 : decode cX10_findFit 41 = .ok (.iload_n 3, 1) := by decide +kernel
theorem dX10_findFit_42 : decode cX10_findFit 42 = .ok (.iload 5, 2) := by decide +kernel
theorem dX10_findFit_44 : decode cX10_findFit 44 = .ok (.iload_n 2, 1) := by decide +kernel
theorem dX10_findFit_45 : decode cX10_findFit 45 = .ok (.iload 4, 2) := by decide +kernel
theorem dX10_findFit_47 : decode cX10_findFit 47 = .ok (.invokevirtual 175, 3) := by decide +kernel
theorem dX10_findFit_50 : decode cX10_findFit 50 = .ok (.invokevirtual 188, 3) := by decide +kernel
theorem dX10_findFit_53 : decode cX10_findFit 53 = .ok (.iinc 5 1, 3) := by decide +kernel
theorem dX10_findFit_56 : decode cX10_findFit 56 = .ok (.goto (-29), 3) := by decide +kernel
theorem dX10_findFit_59 : decode cX10_findFit 59 = .ok (.return_, 1) := by decide +kernel
theorem dX10_fit_0 : decode cX10_fit 0 = .ok (.iload_n 1, 1) := by decide +kernel
theorem dX10_fit_1 : decode cX10_fit 1 = .ok (.invokestatic 76, 3) := by decide +kernel
theorem dX10_fit_4 : decode cX10_fit 4 = .ok (.ifCond .ne 5, 3) := by decide +kernel
theorem dX10_fit_7 : decode cX10_fit 7 = .ok (.iconst (-1), 1) := by decide +kernel
theorem dX10_fit_8 : decode cX10_fit 8 = .ok (.ireturn, 1) := by decide +kernel
theorem dX10_fit_9 : decode cX10_fit 9 = .ok (.iload_n 2, 1) := by decide +kernel
theorem dX10_fit_10 : decode cX10_fit 10 = .ok (.invokestatic 152, 3) := by decide +kernel
theorem dX10_fit_13 : decode cX10_fit 13 = .ok (.ifCond .eq 10, 3) := by decide +kernel
theorem dX10_fit_16 : decode cX10_fit 16 = .ok (.iload_n 3, 1) := by decide +kernel
theorem dX10_fit_17 : decode cX10_fit 17 = .ok (.invokestatic 124, 3) := by decide +kernel
theorem dX10_fit_20 : decode cX10_fit 20 = .ok (.ifCond .ne 6, 3) := by decide +kernel
theorem dX10_fit_23 : decode cX10_fit 23 = .ok (.bipush (-2), 2) := by decide +kernel
theorem dX10_fit_25 : decode cX10_fit 25 = .ok (.ireturn, 1) := by decide +kernel
theorem dX10_fit_26 : decode cX10_fit 26 = .ok (.aload_n 0, 1) := by decide +kernel
theorem dX10_fit_27 : decode cX10_fit 27 = .ok (.iload_n 1, 1) := by decide +kernel
theorem dX10_fit_28 : decode cX10_fit 28 = .ok (.iload_n 2, 1) := by decide +kernel
theorem dX10_fit_29 : decode cX10_fit 29 = .ok (.invokevirtual 192, 3) := by decide +kernel
theorem dX10_fit_32 : decode cX10_fit 32 = .ok (.iload_n 3, 1) := by decide +kernel
theorem dX10_fit_33 : decode cX10_fit 33 = .ok (.ifCond .ne 10, 3) := by decide +kernel
theorem dX10_fit_36 : decode cX10_fit 36 = .ok (.aload_n 0, 1) := by decide +kernel
theorem dX10_fit_37 : decode cX10_fit 37 = .ok (.getfield 185, 3) := by decide +kernel
theorem dX10_fit_40 : decode cX10_fit 40 = .ok (.goto 7, 3) := by decide +kernel
theorem dX10_fit_43 : decode cX10_fit 43 = .ok (.aload_n 0, 1) := by decide +kernel
theorem dX10_fit_44 : decode cX10_fit 44 = .ok (.getfield 179, 3) := by decide +kernel
theorem dX10_fit_47 : decode cX10_fit 47 = .ok (.ireturn, 1) := by decide +kernel
theorem dX10_findSpan_0 : decode cX10_findSpan 0 = .ok (.aload_n 0, 1) := by decide +kernel
theorem dX10_findSpan_1 : decode cX10_findSpan 1 = .ok (.iload_n 1, 1) := by decide +kernel
theorem dX10_findSpan_2 : decode cX10_findSpan 2 = .ok (.iload_n 2, 1) := by decide +kernel
theorem dX10_findSpan_3 : decode cX10_findSpan 3 = .ok (.invokevirtual 192, 3) := by decide +kernel
theorem dX10_findSpan_6 : decode cX10_findSpan 6 = .ok (.aload_n 0, 1) := by decide +kernel
theorem dX10_findSpan_7 : decode cX10_findSpan 7 = .ok (.iload_n 1, 1) := by decide +kernel
theorem dX10_findSpan_8 : decode cX10_findSpan 8 = .ok (.invokevirtual 172, 3) := by decide +kernel
theorem dX10_findSpan_11 : decode cX10_findSpan 11 = .ok (.istore 4, 2) := by decide +kernel
theorem dX10_findSpan_13 : decode cX10_findSpan 13 = .ok (.aload_n 0, 1) := by decide +kernel
theorem dX10_findSpan_14 : decode cX10_findSpan 14 = .ok (.iload_n 1, 1) := by decide +kernel
theorem dX10_findSpan_15 : decode cX10_findSpan 15 = .ok (.invokevirtual 146, 3) := by decide +kernel
theorem dX10_findSpan_18 : decode cX10_findSpan 18 = .ok (.istore 5, 2) := by decide +kernel
theorem dX10_findSpan_20 : decode cX10_findSpan 20 = .ok (.aload_n 0, 1) := by decide +kernel
theorem dX10_findSpan_21 : decode cX10_findSpan 21 = .ok (.bipush (-6), 2) := by decide +kernel
theorem dX10_findSpan_23 : decode cX10_findSpan 23 = .ok (.putfield 196, 3) := by decide +kernel
theorem dX10_findSpan_26 : decode cX10_findSpan 26 = .ok (.iconst 0, 1) := by decide +kernel
theorem dX10_findSpan_27 : decode cX10_findSpan 27 = .ok (.istore 6, 2) := by decide +kernel
theorem dX10_findSpan_29 : decode cX10_findSpan 29 = .ok (.iload 6, 2) := by decide +kernel
theorem dX10_findSpan_31 : decode cX10_findSpan 31 = .ok (.bipush 64, 2) := by decide +kernel
theorem dX10_findSpan_33 : decode cX10_findSpan 33 = .ok (.if_icmp .ge 65, 3) := by decide +kernel
theorem dX10_findSpan_36 : decode cX10_findSpan 36 = .ok (.aload_n 0, 1) := by decide +kernel
theorem dX10_findSpan_37 : decode cX10_findSpan 37 = .ok (.iload_n 1, 1) := by decide +kernel
theorem dX10_findSpan_38 : decode cX10_findSpan 38 = .ok (.iload 4, 2) := by decide +kernel
theorem dX10_findSpan_40 : decode cX10_findSpan 40 = .ok (.iload 6, 2) := by decide +kernel
theorem dX10_findSpan_42 : decode cX10_findSpan 42 = .ok (.iload_n 2, 1) := by decide +kernel
theorem dX10_findSpan_43 : decode cX10_findSpan 43 = .ok (.iload 5, 2) := by decide +kernel
theorem dX10_findSpan_45 : decode cX10_findSpan 45 = .ok (.invokevirtual 175, 3) := by decide +kernel
theorem dX10_findSpan_48 : decode cX10_findSpan 48 = .ok (.istore 7, 2) := by decide +kernel
theorem dX10_findSpan_50 : decode cX10_findSpan 50 = .ok (.iload 7, 2) := by decide +kernel
theorem dX10_findSpan_52 : decode cX10_findSpan 52 = .ok (.ifCond .lt 40, 3) := by decide +kernel
theorem dX10_findSpan_55 : decode cX10_findSpan 55 = .ok (.iload 7, 2) := by decide +kernel
theorem dX10_findSpan_57 : decode cX10_findSpan 57 = .ok (.aload_n 0, 1) := by decide +kernel
theorem dX10_findSpan_58 : decode cX10_findSpan 58 = .ok (.getfield 179, 3) := by decide +kernel
theorem dX10_findSpan_61 : decode cX10_findSpan 61 = .ok (.iload_n 3, 1) := by decide +kernel
theorem dX10_findSpan_62 : decode cX10_findSpan 62 = .ok (.iadd, 1) := by decide +kernel
theorem dX10_findSpan_63 : decode cX10_findSpan 63 = .ok (.if_icmp .gt 29, 3) := by decide +kernel
theorem dX10_findSpan_66 : decode cX10_findSpan 66 = .ok (.aload_n 0, 1) := by decide +kernel
theorem dX10_findSpan_67 : decode cX10_findSpan 67 = .ok (.aload_n 0, 1) := by decide +kernel
theorem dX10_findSpan_68 : decode cX10_findSpan 68 = .ok (.getfield 196, 3) := by decide +kernel
theorem dX10_findSpan_71 : decode cX10_findSpan 71 = .ok (.ifCond .ge 8, 3) := by decide +kernel
theorem dX10_findSpan_74 : decode cX10_findSpan 74 = .ok (.iload 6, 2) := by decide +kernel
theorem dX10_findSpan_76 : decode cX10_findSpan 76 = .ok (.goto 7, 3) := by decide +kernel
theorem dX10_findSpan_79 : decode cX10_findSpan 79 = .ok (.aload_n 0, 1) := by decide +kernel
theorem dX10_findSpan_80 : decode cX10_findSpan 80 = .ok (.getfield 196, 3) := by decide +kernel
theorem dX10_findSpan_83 : decode cX10_findSpan 83 = .ok (.putfield 196, 3) := by decide +kernel
theorem dX10_findSpan_86 : decode cX10_findSpan 86 = .ok (.aload_n 0, 1) := by decide +kernel
theorem dX10_findSpan_87 : decode cX10_findSpan 87 = .ok (.iload 6, 2) := by decide +kernel
theorem dX10_findSpan_89 : decode cX10_findSpan 89 = .ok (.putfield 199, 3) := by decide +kernel
theorem dX10_findSpan_92 : decode cX10_findSpan 92 = .ok (.iinc 6 1, 3) := by decide +kernel
theorem dX10_findSpan_95 : decode cX10_findSpan 95 = .ok (.goto (-66), 3) := by decide +kernel
theorem dX10_findSpan_98 : decode cX10_findSpan 98 = .ok (.return_, 1) := by decide +kernel
theorem dX10_span_0 : decode cX10_span 0 = .ok (.iload_n 1, 1) := by decide +kernel
theorem dX10_span_1 : decode cX10_span 1 = .ok (.invokestatic 76, 3) := by decide +kernel
theorem dX10_span_4 : decode cX10_span 4 = .ok (.ifCond .ne 5, 3) := by decide +kernel
theorem dX10_span_7 : decode cX10_span 7 = .ok (.iconst (-1), 1) := by decide +kernel
theorem dX10_span_8 : decode cX10_span 8 = .ok (.ireturn, 1) := by decide +kernel
theorem dX10_span_9 : decode cX10_span 9 = .ok (.iload_n 2, 1) := by decide +kernel
theorem dX10_span_10 : decode cX10_span 10 = .ok (.invokestatic 152, 3) := by decide +kernel
theorem dX10_span_13 : decode cX10_span 13 = .ok (.ifCond .eq 23, 3) := by decide +kernel
theorem dX10_span_16 : decode cX10_span 16 = .ok (.iload_n 3, 1) := by decide +kernel
theorem dX10_span_17 : decode cX10_span 17 = .ok (.i2l, 1) := by decide +kernel
theorem dX10_span_18 : decode cX10_span 18 = .ok (.lconst 0, 1) := by decide +kernel
theorem dX10_span_19 : decode cX10_span 19 = .ok (.ldc2_w 83, 3) := by decide +kernel
theorem dX10_span_22 : decode cX10_span 22 = .ok (.invokestatic 64, 3) := by decide +kernel
theorem dX10_span_25 : decode cX10_span 25 = .ok (.ifCond .eq 11, 3) := by decide +kernel
theorem dX10_span_28 : decode cX10_span 28 = .ok (.iload 4, 2) := by decide +kernel
theorem dX10_span_30 : decode cX10_span 30 = .ok (.invokestatic 124, 3) := by decide +kernel
theorem dX10_span_33 : decode cX10_span 33 = .ok (.ifCond .ne 6, 3) := by decide +kernel
theorem dX10_span_36 : decode cX10_span 36 = .ok (.bipush (-2), 2) := by decide +kernel
theorem dX10_span_38 : decode cX10_span 38 = .ok (.ireturn, 1) := by decide +kernel
theorem dX10_span_39 : decode cX10_span 39 = .ok (.aload_n 0, 1) := by decide +kernel
theorem dX10_span_40 : decode cX10_span 40 = .ok (.iload_n 1, 1) := by decide +kernel
theorem dX10_span_41 : decode cX10_span 41 = .ok (.iload_n 2, 1) := by decide +kernel
theorem dX10_span_42 : decode cX10_span 42 = .ok (.iload_n 3, 1) := by decide +kernel
theorem dX10_span_43 : decode cX10_span 43 = .ok (.invokevirtual 202, 3) := by decide +kernel
theorem dX10_span_46 : decode cX10_span 46 = .ok (.iload 4, 2) := by decide +kernel
theorem dX10_span_48 : decode cX10_span 48 = .ok (.ifCond .ne 10, 3) := by decide +kernel
theorem dX10_span_51 : decode cX10_span 51 = .ok (.aload_n 0, 1) := by decide +kernel
theorem dX10_span_52 : decode cX10_span 52 = .ok (.getfield 196, 3) := by decide +kernel
theorem dX10_span_55 : decode cX10_span 55 = .ok (.goto 7, 3) := by decide +kernel
theorem dX10_span_58 : decode cX10_span 58 = .ok (.aload_n 0, 1) := by decide +kernel
theorem dX10_span_59 : decode cX10_span 59 = .ok (.getfield 199, 3) := by decide +kernel
theorem dX10_span_62 : decode cX10_span 62 = .ok (.ireturn, 1) := by decide +kernel
theorem dX10_findLine_0 : decode cX10_findLine 0 = .ok (.aload_n 0, 1) := by decide +kernel
theorem dX10_findLine_1 : decode cX10_findLine 1 = .ok (.iload_n 2, 1) := by decide +kernel
theorem dX10_findLine_2 : decode cX10_findLine 2 = .ok (.invokevirtual 168, 3) := by decide +kernel
theorem dX10_findLine_5 : decode cX10_findLine 5 = .ok (.aload_n 0, 1) := by decide +kernel
theorem dX10_findLine_6 : decode cX10_findLine 6 = .ok (.iload_n 1, 1) := by decide +kernel
theorem dX10_findLine_7 : decode cX10_findLine 7 = .ok (.invokevirtual 172, 3) := by decide +kernel
theorem dX10_findLine_10 : decode cX10_findLine 10 = .ok (.istore_n 3, 1) := by decide +kernel
theorem dX10_findLine_11 : decode cX10_findLine 11 = .ok (.aload_n 0, 1) := by decide +kernel
theorem dX10_findLine_12 : decode cX10_findLine 12 = .ok (.bipush (-6), 2) := by decide +kernel
theorem dX10_findLine_14 : decode cX10_findLine 14 = .ok (.putfield 179, 3) := by decide +kernel
theorem dX10_findLine_17 : decode cX10_findLine 17 = .ok (.iconst 0, 1) := by decide +kernel
theorem dX10_findLine_18 : decode cX10_findLine 18 = .ok (.istore 4, 2) := by decide +kernel
theorem dX10_findLine_20 : decode cX10_findLine 20 = .ok (.iload 4, 2) := by decide +kernel
theorem dX10_findLine_22 : decode cX10_findLine 22 = .ok (.bipush 64, 2) := by decide +kernel
theorem dX10_findLine_24 : decode cX10_findLine 24 = .ok (.if_icmp .ge 44, 3) := by decide +kernel
theorem dX10_findLine_27 : decode cX10_findLine 27 = .ok (.iconst 0, 1) := by decide +kernel
theorem dX10_findLine_28 : decode cX10_findLine 28 = .ok (.istore 5, 2) := by decide +kernel
theorem dX10_findLine_30 : decode cX10_findLine 30 = .ok (.iload 5, 2) := by decide +kernel
theorem dX10_findLine_32 : decode cX10_findLine 32 = .ok (.bipush 64, 2) := by decide +kernel
theorem dX10_findLine_34 : decode cX10_findLine 34 = .ok (.if_icmp .ge 28, 3) := by decide +kernel
theorem dX10_findLine_37 : decode cX10_findLine 37 = .ok (.aload_n 0, 1) := by decide +kernel
theorem dX10_findLine_38 : decode cX10_findLine 38 = .ok (.iload 4, 2) := by decide +kernel
theorem dX10_findLine_40 : decode cX10_findLine 40 = .ok (.iload 5, 2) := by decide +kernel
theorem dX10_findLine_42 : decode cX10_findLine 42 = .ok (.aload_n 0, 1) := by decide +kernel
theorem dX10_findLine_43 : decode cX10_findLine 43 = .ok (.iload_n 1, 1) := by decide +kernel
theorem dX10_findLine_44 : decode cX10_findLine 44 = .ok (.iload_n 3, 1) := by decide +kernel
theorem dX10_findLine_45 : decode cX10_findLine 45 = .ok (.iload 5, 2) := by decide +kernel
theorem dX10_findLine_47 : decode cX10_findLine 47 = .ok (.iload_n 2, 1) := by decide +kernel
theorem dX10_findLine_48 : decode cX10_findLine 48 = .ok (.iload 4, 2) := by decide +kernel
theorem dX10_findLine_50 : decode cX10_findLine 50 = .ok (.invokevirtual 175, 3) := by decide +kernel
theorem dX10_findLine_53 : decode cX10_findLine 53 = .ok (.invokevirtual 188, 3) := by decide +kernel
theorem dX10_findLine_56 : decode cX10_findLine 56 = .ok (.iinc 5 1, 3) := by decide +kernel
theorem dX10_findLine_59 : decode cX10_findLine 59 = .ok (.goto (-29), 3) := by decide +kernel
theorem dX10_findLine_62 : decode cX10_findLine 62 = .ok (.iinc 4 1, 3) := by decide +kernel
theorem dX10_findLine_65 : decode cX10_findLine 65 = .ok (.goto (-45), 3) := by decide +kernel
theorem dX10_findLine_68 : decode cX10_findLine 68 = .ok (.return_, 1) := by decide +kernel
theorem dX10_found_0 : decode cX10_found 0 = .ok (.iload_n 1, 1) := by decide +kernel
theorem dX10_found_1 : decode cX10_found 1 = .ok (.invokestatic 76, 3) := by decide +kernel
theorem dX10_found_4 : decode cX10_found 4 = .ok (.ifCond .ne 5, 3) := by decide +kernel
theorem dX10_found_7 : decode cX10_found 7 = .ok (.iconst (-1), 1) := by decide +kernel
theorem dX10_found_8 : decode cX10_found 8 = .ok (.ireturn, 1) := by decide +kernel
theorem dX10_found_9 : decode cX10_found 9 = .ok (.iload_n 2, 1) := by decide +kernel
theorem dX10_found_10 : decode cX10_found 10 = .ok (.invokestatic 152, 3) := by decide +kernel
theorem dX10_found_13 : decode cX10_found 13 = .ok (.ifCond .eq 15, 3) := by decide +kernel
theorem dX10_found_16 : decode cX10_found 16 = .ok (.iload_n 3, 1) := by decide +kernel
theorem dX10_found_17 : decode cX10_found 17 = .ok (.i2l, 1) := by decide +kernel
theorem dX10_found_18 : decode cX10_found 18 = .ok (.lconst 0, 1) := by decide +kernel
theorem dX10_found_19 : decode cX10_found 19 = .ok (.ldc2_w 89, 3) := by decide +kernel
theorem dX10_found_22 : decode cX10_found 22 = .ok (.invokestatic 64, 3) := by decide +kernel
theorem dX10_found_25 : decode cX10_found 25 = .ok (.ifCond .ne 6, 3) := by decide +kernel
theorem dX10_found_28 : decode cX10_found 28 = .ok (.bipush (-2), 2) := by decide +kernel
theorem dX10_found_30 : decode cX10_found 30 = .ok (.ireturn, 1) := by decide +kernel
theorem dX10_found_31 : decode cX10_found 31 = .ok (.aload_n 0, 1) := by decide +kernel
theorem dX10_found_32 : decode cX10_found 32 = .ok (.iload_n 1, 1) := by decide +kernel
theorem dX10_found_33 : decode cX10_found 33 = .ok (.iload_n 2, 1) := by decide +kernel
theorem dX10_found_34 : decode cX10_found 34 = .ok (.invokevirtual 205, 3) := by decide +kernel
theorem dX10_found_37 : decode cX10_found 37 = .ok (.iload_n 3, 1) := by decide +kernel
theorem dX10_found_38 : decode cX10_found 38 = .ok (.ifCond .ne 10, 3) := by decide +kernel
theorem dX10_found_41 : decode cX10_found 41 = .ok (.aload_n 0, 1) := by decide +kernel
theorem dX10_found_42 : decode cX10_found 42 = .ok (.getfield 182, 3) := by decide +kernel
theorem dX10_found_45 : decode cX10_found 45 = .ok (.goto 19, 3) := by decide +kernel
theorem dX10_found_48 : decode cX10_found 48 = .ok (.iload_n 3, 1) := by decide +kernel
theorem dX10_found_49 : decode cX10_found 49 = .ok (.iconst 1, 1) := by decide +kernel
theorem dX10_found_50 : decode cX10_found 50 = .ok (.if_icmp .ne 10, 3) := by decide +kernel
theorem dX10_found_53 : decode cX10_found 53 = .ok (.aload_n 0, 1) := by decide +kernel
theorem dX10_found_54 : decode cX10_found 54 = .ok (.getfield 185, 3) := by decide +kernel
theorem dX10_found_57 : decode cX10_found 57 = .ok (.goto 7, 3) := by decide +kernel
theorem dX10_found_60 : decode cX10_found 60 = .ok (.aload_n 0, 1) := by decide +kernel
theorem dX10_found_61 : decode cX10_found 61 = .ok (.getfield 179, 3) := by decide +kernel
theorem dX10_found_64 : decode cX10_found 64 = .ok (.ireturn, 1) := by decide +kernel
theorem dX10_inchOf_0 : decode cX10_inchOf 0 = .ok (.iload_n 0, 1) := by decide +kernel
theorem dX10_inchOf_1 : decode cX10_inchOf 1 = .ok (.iconst 4, 1) := by decide +kernel
theorem dX10_inchOf_2 : decode cX10_inchOf 2 = .ok (.irem, 1) := by decide +kernel
theorem dX10_inchOf_3 : decode cX10_inchOf 3 = .ok (.istore_n 1, 1) := by decide +kernel
theorem dX10_inchOf_4 : decode cX10_inchOf 4 = .ok (.iload_n 1, 1) := by decide +kernel
theorem dX10_inchOf_5 : decode cX10_inchOf 5 = .ok (.iconst 3, 1) := by decide +kernel
theorem dX10_inchOf_6 : decode cX10_inchOf 6 = .ok (.if_icmp .ne 9, 3) := by decide +kernel
theorem dX10_inchOf_9 : decode cX10_inchOf 9 = .ok (.iload_n 0, 1) := by decide +kernel
theorem dX10_inchOf_10 : decode cX10_inchOf 10 = .ok (.iconst 1, 1) := by decide +kernel
theorem dX10_inchOf_11 : decode cX10_inchOf 11 = .ok (.iadd, 1) := by decide +kernel
theorem dX10_inchOf_12 : decode cX10_inchOf 12 = .ok (.goto 6, 3) := by decide +kernel
theorem dX10_inchOf_15 : decode cX10_inchOf 15 = .ok (.iload_n 0, 1) := by decide +kernel
theorem dX10_inchOf_16 : decode cX10_inchOf 16 = .ok (.iload_n 1, 1) := by decide +kernel
theorem dX10_inchOf_17 : decode cX10_inchOf 17 = .ok (.isub, 1) := by decide +kernel
theorem dX10_inchOf_18 : decode cX10_inchOf 18 = .ok (.istore_n 2, 1) := by decide +kernel
theorem dX10_inchOf_19 : decode cX10_inchOf 19 = .ok (.iload_n 2, 1) := by decide +kernel
theorem dX10_inchOf_20 : decode cX10_inchOf 20 = .ok (.bipush 63, 2) := by decide +kernel
theorem dX10_inchOf_22 : decode cX10_inchOf 22 = .ok (.if_icmp .le 8, 3) := by decide +kernel
theorem dX10_inchOf_25 : decode cX10_inchOf 25 = .ok (.bipush 63, 2) := by decide +kernel
theorem dX10_inchOf_27 : decode cX10_inchOf 27 = .ok (.goto 4, 3) := by decide +kernel
theorem dX10_inchOf_30 : decode cX10_inchOf 30 = .ok (.iload_n 2, 1) := by decide +kernel
theorem dX10_inchOf_31 : decode cX10_inchOf 31 = .ok (.ireturn, 1) := by decide +kernel
theorem dX10_writtenOf_0 : decode cX10_writtenOf 0 = .ok (.iload_n 1, 1) := by decide +kernel
theorem dX10_writtenOf_1 : decode cX10_writtenOf 1 = .ok (.iload_n 2, 1) := by decide +kernel
theorem dX10_writtenOf_2 : decode cX10_writtenOf 2 = .ok (.isub, 1) := by decide +kernel
theorem dX10_writtenOf_3 : decode cX10_writtenOf 3 = .ok (.istore 4, 2) := by decide +kernel
theorem dX10_writtenOf_5 : decode cX10_writtenOf 5 = .ok (.iload_n 1, 1) := by decide +kernel
theorem dX10_writtenOf_6 : decode cX10_writtenOf 6 = .ok (.ifCond .le 28, 3) := by decide +kernel
theorem dX10_writtenOf_9 : decode cX10_writtenOf 9 = .ok (.iload 4, 2) := by decide +kernel
theorem dX10_writtenOf_11 : decode cX10_writtenOf 11 = .ok (.ifCond .le 23, 3) := by decide +kernel
theorem dX10_writtenOf_14 : decode cX10_writtenOf 14 = .ok (.iload 4, 2) := by decide +kernel
theorem dX10_writtenOf_16 : decode cX10_writtenOf 16 = .ok (.aload_n 0, 1) := by decide +kernel
theorem dX10_writtenOf_17 : decode cX10_writtenOf 17 = .ok (.getfield 22, 3) := by decide +kernel
theorem dX10_writtenOf_20 : decode cX10_writtenOf 20 = .ok (.iconst 2, 1) := by decide +kernel
theorem dX10_writtenOf_21 : decode cX10_writtenOf 21 = .ok (.iaload, 1) := by decide +kernel
theorem dX10_writtenOf_22 : decode cX10_writtenOf 22 = .ok (.if_icmp .gt 12, 3) := by decide +kernel
theorem dX10_writtenOf_25 : decode cX10_writtenOf 25 = .ok (.aload_n 0, 1) := by decide +kernel
theorem dX10_writtenOf_26 : decode cX10_writtenOf 26 = .ok (.getfield 22, 3) := by decide +kernel
theorem dX10_writtenOf_29 : decode cX10_writtenOf 29 = .ok (.iconst 3, 1) := by decide +kernel
theorem dX10_writtenOf_30 : decode cX10_writtenOf 30 = .ok (.iaload, 1) := by decide +kernel
theorem dX10_writtenOf_31 : decode cX10_writtenOf 31 = .ok (.goto 4, 3) := by decide +kernel
theorem dX10_writtenOf_34 : decode cX10_writtenOf 34 = .ok (.iconst 0, 1) := by decide +kernel
theorem dX10_writtenOf_35 : decode cX10_writtenOf 35 = .ok (.istore 5, 2) := by decide +kernel
theorem dX10_writtenOf_37 : decode cX10_writtenOf 37 = .ok (.iload_n 2, 1) := by decide +kernel
theorem dX10_writtenOf_38 : decode cX10_writtenOf 38 = .ok (.iconst 4, 1) := by decide +kernel
theorem dX10_writtenOf_39 : decode cX10_writtenOf 39 = .ok (.irem, 1) := by decide +kernel
theorem dX10_writtenOf_40 : decode cX10_writtenOf 40 = .ok (.ifCond .ne 7, 3) := by decide +kernel
theorem dX10_writtenOf_43 : decode cX10_writtenOf 43 = .ok (.iconst 0, 1) := by decide +kernel
theorem dX10_writtenOf_44 : decode cX10_writtenOf 44 = .ok (.goto 9, 3) := by decide +kernel
theorem dX10_writtenOf_47 : decode cX10_writtenOf 47 = .ok (.aload_n 0, 1) := by decide +kernel
theorem dX10_writtenOf_48 : decode cX10_writtenOf 48 = .ok (.getfield 22, 3) := by decide +kernel
theorem dX10_writtenOf_51 : decode cX10_writtenOf 51 = .ok (.iconst 1, 1) := by decide +kernel
theorem dX10_writtenOf_52 : decode cX10_writtenOf 52 = .ok (.iaload, 1) := by decide +kernel
theorem dX10_writtenOf_53 : decode cX10_writtenOf 53 = .ok (.istore 6, 2) := by decide +kernel
theorem dX10_writtenOf_55 : decode cX10_writtenOf 55 = .ok (.iload_n 3, 1) := by decide +kernel
theorem dX10_writtenOf_56 : decode cX10_writtenOf 56 = .ok (.iload_n 1, 1) := by decide +kernel
theorem dX10_writtenOf_57 : decode cX10_writtenOf 57 = .ok (.if_icmp .ne 11, 3) := by decide +kernel
theorem dX10_writtenOf_60 : decode cX10_writtenOf 60 = .ok (.bipush 10, 2) := by decide +kernel
theorem dX10_writtenOf_62 : decode cX10_writtenOf 62 = .ok (.iload 5, 2) := by decide +kernel
theorem dX10_writtenOf_64 : decode cX10_writtenOf 64 = .ok (.imul, 1) := by decide +kernel
theorem dX10_writtenOf_65 : decode cX10_writtenOf 65 = .ok (.goto 4, 3) := by decide +kernel
theorem dX10_writtenOf_68 : decode cX10_writtenOf 68 = .ok (.iconst 0, 1) := by decide +kernel
theorem dX10_writtenOf_69 : decode cX10_writtenOf 69 = .ok (.istore 7, 2) := by decide +kernel
theorem dX10_writtenOf_71 : decode cX10_writtenOf 71 = .ok (.iload 7, 2) := by decide +kernel
theorem dX10_writtenOf_73 : decode cX10_writtenOf 73 = .ok (.iload_n 3, 1) := by decide +kernel
theorem dX10_writtenOf_74 : decode cX10_writtenOf 74 = .ok (.iload_n 2, 1) := by decide +kernel
theorem dX10_writtenOf_75 : decode cX10_writtenOf 75 = .ok (.invokestatic 208, 3) := by decide +kernel
theorem dX10_writtenOf_78 : decode cX10_writtenOf 78 = .ok (.if_icmp .ne 14, 3) := by decide +kernel
theorem dX10_writtenOf_81 : decode cX10_writtenOf 81 = .ok (.bipush 10, 2) := by decide +kernel
theorem dX10_writtenOf_83 : decode cX10_writtenOf 83 = .ok (.iload 5, 2) := by decide +kernel
theorem dX10_writtenOf_85 : decode cX10_writtenOf 85 = .ok (.isub, 1) := by decide +kernel
theorem dX10_writtenOf_86 : decode cX10_writtenOf 86 = .ok (.iload 6, 2) := by decide +kernel
theorem dX10_writtenOf_88 : decode cX10_writtenOf 88 = .ok (.imul, 1) := by decide +kernel
theorem dX10_writtenOf_89 : decode cX10_writtenOf 89 = .ok (.goto 4, 3) := by decide +kernel
theorem dX10_writtenOf_92 : decode cX10_writtenOf 92 = .ok (.iconst 0, 1) := by decide +kernel
theorem dX10_writtenOf_93 : decode cX10_writtenOf 93 = .ok (.iadd, 1) := by decide +kernel
theorem dX10_writtenOf_94 : decode cX10_writtenOf 94 = .ok (.istore 7, 2) := by decide +kernel
theorem dX10_writtenOf_96 : decode cX10_writtenOf 96 = .ok (.iload 7, 2) := by decide +kernel
theorem dX10_writtenOf_98 : decode cX10_writtenOf 98 = .ok (.iload_n 3, 1) := by decide +kernel
theorem dX10_writtenOf_99 : decode cX10_writtenOf 99 = .ok (.iload_n 2, 1) := by decide +kernel
theorem dX10_writtenOf_100 : decode cX10_writtenOf 100 = .ok (.if_icmp .ne 17, 3) := by decide +kernel
theorem dX10_writtenOf_103 : decode cX10_writtenOf 103 = .ok (.bipush 10, 2) := by decide +kernel
theorem dX10_writtenOf_105 : decode cX10_writtenOf 105 = .ok (.iload 5, 2) := by decide +kernel
theorem dX10_writtenOf_107 : decode cX10_writtenOf 107 = .ok (.isub, 1) := by decide +kernel
theorem dX10_writtenOf_108 : decode cX10_writtenOf 108 = .ok (.bipush 10, 2) := by decide +kernel
theorem dX10_writtenOf_110 : decode cX10_writtenOf 110 = .ok (.iload 6, 2) := by decide +kernel
theorem dX10_writtenOf_112 : decode cX10_writtenOf 112 = .ok (.isub, 1) := by decide +kernel
theorem dX10_writtenOf_113 : decode cX10_writtenOf 113 = .ok (.imul, 1) := by decide +kernel
theorem dX10_writtenOf_114 : decode cX10_writtenOf 114 = .ok (.goto 4, 3) := by decide +kernel
theorem dX10_writtenOf_117 : decode cX10_writtenOf 117 = .ok (.iconst 0, 1) := by decide +kernel
theorem dX10_writtenOf_118 : decode cX10_writtenOf 118 = .ok (.iadd, 1) := by decide +kernel
theorem dX10_writtenOf_119 : decode cX10_writtenOf 119 = .ok (.ireturn, 1) := by decide +kernel
theorem dX10_written_0 : decode cX10_written 0 = .ok (.iload_n 1, 1) := by decide +kernel
theorem dX10_written_1 : decode cX10_written 1 = .ok (.invokestatic 80, 3) := by decide +kernel
theorem dX10_written_4 : decode cX10_written 4 = .ok (.ifCond .eq 25, 3) := by decide +kernel
theorem dX10_written_7 : decode cX10_written 7 = .ok (.iload_n 2, 1) := by decide +kernel
theorem dX10_written_8 : decode cX10_written 8 = .ok (.invokestatic 80, 3) := by decide +kernel
theorem dX10_written_11 : decode cX10_written 11 = .ok (.ifCond .eq 18, 3) := by decide +kernel
theorem dX10_written_14 : decode cX10_written 14 = .ok (.iload_n 3, 1) := by decide +kernel
theorem dX10_written_15 : decode cX10_written 15 = .ok (.invokestatic 80, 3) := by decide +kernel
theorem dX10_written_18 : decode cX10_written 18 = .ok (.ifCond .eq 11, 3) := by decide +kernel
theorem dX10_written_21 : decode cX10_written 21 = .ok (.iload 4, 2) := by decide +kernel
theorem dX10_written_23 : decode cX10_written 23 = .ok (.invokestatic 124, 3) := by decide +kernel
theorem dX10_written_26 : decode cX10_written 26 = .ok (.ifCond .ne 7, 3) := by decide +kernel
theorem dX10_written_29 : decode cX10_written 29 = .ok (.ldc2_w 159, 3) := by decide +kernel
theorem dX10_written_32 : decode cX10_written 32 = .ok (.lreturn, 1) := by decide +kernel
theorem dX10_written_33 : decode cX10_written 33 = .ok (.aload_n 0, 1) := by decide +kernel
theorem dX10_written_34 : decode cX10_written 34 = .ok (.iload_n 1, 1) := by decide +kernel
theorem dX10_written_35 : decode cX10_written 35 = .ok (.iload_n 2, 1) := by decide +kernel
theorem dX10_written_36 : decode cX10_written 36 = .ok (.iload_n 3, 1) := by decide +kernel
theorem dX10_written_37 : decode cX10_written 37 = .ok (.invokevirtual 211, 3) := by decide +kernel
theorem dX10_written_40 : decode cX10_written 40 = .ok (.i2l, 1) := by decide +kernel
theorem dX10_written_41 : decode cX10_written 41 = .ok (.ldc2_w 214, 3) := by decide +kernel
theorem dX10_written_44 : decode cX10_written 44 = .ok (.iload 4, 2) := by decide +kernel
theorem dX10_written_46 : decode cX10_written 46 = .ok (.invokestatic 161, 3) := by decide +kernel
theorem dX10_written_49 : decode cX10_written 49 = .ok (.lreturn, 1) := by decide +kernel
theorem dX10_back_0 : decode cX10_back 0 = .ok (.iload_n 1, 1) := by decide +kernel
theorem dX10_back_1 : decode cX10_back 1 = .ok (.invokestatic 80, 3) := by decide +kernel
theorem dX10_back_4 : decode cX10_back 4 = .ok (.ifCond .eq 41, 3) := by decide +kernel
theorem dX10_back_7 : decode cX10_back 7 = .ok (.iload_n 2, 1) := by decide +kernel
theorem dX10_back_8 : decode cX10_back 8 = .ok (.invokestatic 152, 3) := by decide +kernel
theorem dX10_back_11 : decode cX10_back 11 = .ok (.ifCond .eq 34, 3) := by decide +kernel
theorem dX10_back_14 : decode cX10_back 14 = .ok (.iload_n 3, 1) := by decide +kernel
theorem dX10_back_15 : decode cX10_back 15 = .ok (.invokestatic 80, 3) := by decide +kernel
theorem dX10_back_18 : decode cX10_back 18 = .ok (.ifCond .eq 27, 3) := by decide +kernel
theorem dX10_back_21 : decode cX10_back 21 = .ok (.iload 4, 2) := by decide +kernel
theorem dX10_back_23 : decode cX10_back 23 = .ok (.invokestatic 80, 3) := by decide +kernel
theorem dX10_back_26 : decode cX10_back 26 = .ok (.ifCond .eq 19, 3) := by decide +kernel
theorem dX10_back_29 : decode cX10_back 29 = .ok (.iload 5, 2) := by decide +kernel
theorem dX10_back_31 : decode cX10_back 31 = .ok (.invokestatic 80, 3) := by decide +kernel
theorem dX10_back_34 : decode cX10_back 34 = .ok (.ifCond .eq 11, 3) := by decide +kernel
theorem dX10_back_37 : decode cX10_back 37 = .ok (.iload 6, 2) := by decide +kernel
theorem dX10_back_39 : decode cX10_back 39 = .ok (.invokestatic 124, 3) := by decide +kernel
theorem dX10_back_42 : decode cX10_back 42 = .ok (.ifCond .ne 7, 3) := by decide +kernel
theorem dX10_back_45 : decode cX10_back 45 = .ok (.ldc2_w 159, 3) := by decide +kernel
theorem dX10_back_48 : decode cX10_back 48 = .ok (.lreturn, 1) := by decide +kernel
theorem dX10_back_49 : decode cX10_back 49 = .ok (.lconst 0, 1) := by decide +kernel
theorem dX10_back_50 : decode cX10_back 50 = .ok (.lstore 7, 2) := by decide +kernel
theorem dX10_back_52 : decode cX10_back 52 = .ok (.iconst 0, 1) := by decide +kernel
theorem dX10_back_53 : decode cX10_back 53 = .ok (.istore 9, 2) := by decide +kernel
theorem dX10_back_55 : decode cX10_back 55 = .ok (.iload 9, 2) := by decide +kernel
theorem dX10_back_57 : decode cX10_back 57 = .ok (.bipush 64, 2) := by decide +kernel
theorem dX10_back_59 : decode cX10_back 59 = .ok (.if_icmp .ge 33, 3) := by decide +kernel
theorem dX10_back_62 : decode cX10_back 62 = .ok (.lload 7, 2) := by decide +kernel
theorem dX10_back_64 : decode cX10_back 64 = .ok (.iload_n 1, 1) := by decide +kernel
theorem dX10_back_65 : decode cX10_back 65 = .ok (.iload_n 2, 1) := by decide +kernel
theorem dX10_back_66 : decode cX10_back 66 = .ok (.iload 9, 2) := by decide +kernel
theorem dX10_back_68 : decode cX10_back 68 = .ok (.invokestatic 155, 3) := by decide +kernel
theorem dX10_back_71 : decode cX10_back 71 = .ok (.i2l, 1) := by decide +kernel
theorem dX10_back_72 : decode cX10_back 72 = .ok (.aload_n 0, 1) := by decide +kernel
theorem dX10_back_73 : decode cX10_back 73 = .ok (.iload_n 3, 1) := by decide +kernel
theorem dX10_back_74 : decode cX10_back 74 = .ok (.iload 9, 2) := by decide +kernel
theorem dX10_back_76 : decode cX10_back 76 = .ok (.iload 4, 2) := by decide +kernel
theorem dX10_back_78 : decode cX10_back 78 = .ok (.invokevirtual 211, 3) := by decide +kernel
theorem dX10_back_81 : decode cX10_back 81 = .ok (.i2l, 1) := by decide +kernel
theorem dX10_back_82 : decode cX10_back 82 = .ok (.lmul, 1) := by decide +kernel
theorem dX10_back_83 : decode cX10_back 83 = .ok (.ladd, 1) := by decide +kernel
theorem dX10_back_84 : decode cX10_back 84 = .ok (.lstore 7, 2) := by decide +kernel
theorem dX10_back_86 : decode cX10_back 86 = .ok (.iinc 9 1, 3) := by decide +kernel
theorem dX10_back_89 : decode cX10_back 89 = .ok (.goto (-34), 3) := by decide +kernel
theorem dX10_back_92 : decode cX10_back 92 = .ok (.iload_n 1, 1) := by decide +kernel
theorem dX10_back_93 : decode cX10_back 93 = .ok (.iload_n 2, 1) := by decide +kernel
theorem dX10_back_94 : decode cX10_back 94 = .ok (.iload 5, 2) := by decide +kernel
theorem dX10_back_96 : decode cX10_back 96 = .ok (.invokestatic 155, 3) := by decide +kernel
theorem dX10_back_99 : decode cX10_back 99 = .ok (.i2l, 1) := by decide +kernel
theorem dX10_back_100 : decode cX10_back 100 = .ok (.aload_n 0, 1) := by decide +kernel
theorem dX10_back_101 : decode cX10_back 101 = .ok (.iload_n 3, 1) := by decide +kernel
theorem dX10_back_102 : decode cX10_back 102 = .ok (.iload 5, 2) := by decide +kernel
theorem dX10_back_104 : decode cX10_back 104 = .ok (.iload 4, 2) := by decide +kernel
theorem dX10_back_106 : decode cX10_back 106 = .ok (.invokevirtual 211, 3) := by decide +kernel
theorem dX10_back_109 : decode cX10_back 109 = .ok (.i2l, 1) := by decide +kernel
theorem dX10_back_110 : decode cX10_back 110 = .ok (.lmul, 1) := by decide +kernel
theorem dX10_back_111 : decode cX10_back 111 = .ok (.lload 7, 2) := by decide +kernel
theorem dX10_back_113 : decode cX10_back 113 = .ok (.iload 6, 2) := by decide +kernel
theorem dX10_back_115 : decode cX10_back 115 = .ok (.invokestatic 161, 3) := by decide +kernel
theorem dX10_back_118 : decode cX10_back 118 = .ok (.lreturn, 1) := by decide +kernel
theorem dX10_pile_0 : decode cX10_pile 0 = .ok (.iload_n 1, 1) := by decide +kernel
theorem dX10_pile_1 : decode cX10_pile 1 = .ok (.invokestatic 76, 3) := by decide +kernel
theorem dX10_pile_4 : decode cX10_pile 4 = .ok (.ifCond .ne 7, 3) := by decide +kernel
theorem dX10_pile_7 : decode cX10_pile 7 = .ok (.ldc2_w 216, 3) := by decide +kernel
theorem dX10_pile_10 : decode cX10_pile 10 = .ok (.lreturn, 1) := by decide +kernel
theorem dX10_pile_11 : decode cX10_pile 11 = .ok (.iload_n 2, 1) := by decide +kernel
theorem dX10_pile_12 : decode cX10_pile 12 = .ok (.invokestatic 124, 3) := by decide +kernel
theorem dX10_pile_15 : decode cX10_pile 15 = .ok (.ifCond .ne 7, 3) := by decide +kernel
theorem dX10_pile_18 : decode cX10_pile 18 = .ok (.ldc2_w 159, 3) := by decide +kernel
theorem dX10_pile_21 : decode cX10_pile 21 = .ok (.lreturn, 1) := by decide +kernel
theorem dX10_pile_22 : decode cX10_pile 22 = .ok (.lconst 0, 1) := by decide +kernel
theorem dX10_pile_23 : decode cX10_pile 23 = .ok (.lstore_n 3, 1) := by decide +kernel
theorem dX10_pile_24 : decode cX10_pile 24 = .ok (.iconst 0, 1) := by decide +kernel
theorem dX10_pile_25 : decode cX10_pile 25 = .ok (.istore 5, 2) := by decide +kernel
theorem dX10_pile_27 : decode cX10_pile 27 = .ok (.iload 5, 2) := by decide +kernel
theorem dX10_pile_29 : decode cX10_pile 29 = .ok (.bipush 64, 2) := by decide +kernel
theorem dX10_pile_31 : decode cX10_pile 31 = .ok (.if_icmp .ge 24, 3) := by decide +kernel
theorem dX10_pile_34 : decode cX10_pile 34 = .ok (.lload_n 3, 1) := by decide +kernel
theorem dX10_pile_35 : decode cX10_pile 35 = .ok (.aload_n 0, 1) := by decide +kernel
theorem dX10_pile_36 : decode cX10_pile 36 = .ok (.getfield 7, 3) := by decide +kernel
theorem dX10_pile_39 : decode cX10_pile 39 = .ok (.iload_n 1, 1) := by decide +kernel
theorem dX10_pile_40 : decode cX10_pile 40 = .ok (.iload 5, 2) := by decide +kernel
theorem dX10_pile_42 : decode cX10_pile 42 = .ok (.invokestatic 85, 3) := by decide +kernel
theorem dX10_pile_45 : decode cX10_pile 45 = .ok (.iaload, 1) := by decide +kernel
theorem dX10_pile_46 : decode cX10_pile 46 = .ok (.i2l, 1) := by decide +kernel
theorem dX10_pile_47 : decode cX10_pile 47 = .ok (.ladd, 1) := by decide +kernel
theorem dX10_pile_48 : decode cX10_pile 48 = .ok (.lstore_n 3, 1) := by decide +kernel
theorem dX10_pile_49 : decode cX10_pile 49 = .ok (.iinc 5 4, 3) := by decide +kernel
theorem dX10_pile_52 : decode cX10_pile 52 = .ok (.goto (-25), 3) := by decide +kernel
theorem dX10_pile_55 : decode cX10_pile 55 = .ok (.ldc2_w 97, 3) := by decide +kernel
theorem dX10_pile_58 : decode cX10_pile 58 = .ok (.lload_n 3, 1) := by decide +kernel
theorem dX10_pile_59 : decode cX10_pile 59 = .ok (.lmul, 1) := by decide +kernel
theorem dX10_pile_60 : decode cX10_pile 60 = .ok (.aload_n 0, 1) := by decide +kernel
theorem dX10_pile_61 : decode cX10_pile 61 = .ok (.iload_n 1, 1) := by decide +kernel
theorem dX10_pile_62 : decode cX10_pile 62 = .ok (.invokevirtual 172, 3) := by decide +kernel
theorem dX10_pile_65 : decode cX10_pile 65 = .ok (.i2l, 1) := by decide +kernel
theorem dX10_pile_66 : decode cX10_pile 66 = .ok (.iload_n 2, 1) := by decide +kernel
theorem dX10_pile_67 : decode cX10_pile 67 = .ok (.invokestatic 161, 3) := by decide +kernel
theorem dX10_pile_70 : decode cX10_pile 70 = .ok (.lreturn, 1) := by decide +kernel
theorem dX10_growsAt_0 : decode cX10_growsAt 0 = .ok (.iconst 0, 1) := by decide +kernel
theorem dX10_growsAt_1 : decode cX10_growsAt 1 = .ok (.istore_n 2, 1) := by decide +kernel
theorem dX10_growsAt_2 : decode cX10_growsAt 2 = .ok (.iload_n 2, 1) := by decide +kernel
theorem dX10_growsAt_3 : decode cX10_growsAt 3 = .ok (.aload_n 0, 1) := by decide +kernel
theorem dX10_growsAt_4 : decode cX10_growsAt 4 = .ok (.getfield 137, 3) := by decide +kernel
theorem dX10_growsAt_7 : decode cX10_growsAt 7 = .ok (.if_icmp .ge 26, 3) := by decide +kernel
theorem dX10_growsAt_10 : decode cX10_growsAt 10 = .ok (.aload_n 0, 1) := by decide +kernel
theorem dX10_growsAt_11 : decode cX10_growsAt 11 = .ok (.getfield 43, 3) := by decide +kernel
theorem dX10_growsAt_14 : decode cX10_growsAt 14 = .ok (.iload_n 2, 1) := by decide +kernel
theorem dX10_growsAt_15 : decode cX10_growsAt 15 = .ok (.iaload, 1) := by decide +kernel
theorem dX10_growsAt_16 : decode cX10_growsAt 16 = .ok (.iload_n 1, 1) := by decide +kernel
theorem dX10_growsAt_17 : decode cX10_growsAt 17 = .ok (.if_icmp .ne 10, 3) := by decide +kernel
theorem dX10_growsAt_20 : decode cX10_growsAt 20 = .ok (.aload_n 0, 1) := by decide +kernel
theorem dX10_growsAt_21 : decode cX10_growsAt 21 = .ok (.getfield 46, 3) := by decide +kernel
theorem dX10_growsAt_24 : decode cX10_growsAt 24 = .ok (.iload_n 2, 1) := by decide +kernel
theorem dX10_growsAt_25 : decode cX10_growsAt 25 = .ok (.iaload, 1) := by decide +kernel
theorem dX10_growsAt_26 : decode cX10_growsAt 26 = .ok (.ireturn, 1) := by decide +kernel
theorem dX10_growsAt_27 : decode cX10_growsAt 27 = .ok (.iinc 2 1, 3) := by decide +kernel
theorem dX10_growsAt_30 : decode cX10_growsAt 30 = .ok (.goto (-28), 3) := by decide +kernel
theorem dX10_growsAt_33 : decode cX10_growsAt 33 = .ok (.iconst 0, 1) := by decide +kernel
theorem dX10_growsAt_34 : decode cX10_growsAt 34 = .ok (.ireturn, 1) := by decide +kernel
theorem dX10_grownFrom_0 : decode cX10_grownFrom 0 = .ok (.iconst 0, 1) := by decide +kernel
theorem dX10_grownFrom_1 : decode cX10_grownFrom 1 = .ok (.istore_n 2, 1) := by decide +kernel
theorem dX10_grownFrom_2 : decode cX10_grownFrom 2 = .ok (.iload_n 1, 1) := by decide +kernel
theorem dX10_grownFrom_3 : decode cX10_grownFrom 3 = .ok (.istore_n 3, 1) := by decide +kernel
theorem dX10_grownFrom_4 : decode cX10_grownFrom 4 = .ok (.iload_n 3, 1) := by decide +kernel
theorem dX10_grownFrom_5 : decode cX10_grownFrom 5 = .ok (.bipush 23, 2) := by decide +kernel
theorem dX10_grownFrom_7 : decode cX10_grownFrom 7 = .ok (.if_icmp .ge 17, 3) := by decide +kernel
theorem dX10_grownFrom_10 : decode cX10_grownFrom 10 = .ok (.iload_n 2, 1) := by decide +kernel
theorem dX10_grownFrom_11 : decode cX10_grownFrom 11 = .ok (.aload_n 0, 1) := by decide +kernel
theorem dX10_grownFrom_12 : decode cX10_grownFrom 12 = .ok (.iload_n 3, 1) := by decide +kernel
theorem dX10_grownFrom_13 : decode cX10_grownFrom 13 = .ok (.invokevirtual 218, 3) := by decide +kernel
theorem dX10_grownFrom_16 : decode cX10_grownFrom 16 = .ok (.iadd, 1) := by decide +kernel
theorem dX10_grownFrom_17 : decode cX10_grownFrom 17 = .ok (.istore_n 2, 1) := by decide +kernel
theorem dX10_grownFrom_18 : decode cX10_grownFrom 18 = .ok (.iinc 3 1, 3) := by decide +kernel
theorem dX10_grownFrom_21 : decode cX10_grownFrom 21 = .ok (.goto (-17), 3) := by decide +kernel
theorem dX10_grownFrom_24 : decode cX10_grownFrom 24 = .ok (.iload_n 2, 1) := by decide +kernel
theorem dX10_grownFrom_25 : decode cX10_grownFrom 25 = .ok (.ireturn, 1) := by decide +kernel
theorem dX10_meanGrown_0 : decode cX10_meanGrown 0 = .ok (.bipush 10, 2) := by decide +kernel
theorem dX10_meanGrown_2 : decode cX10_meanGrown 2 = .ok (.aload_n 0, 1) := by decide +kernel
theorem dX10_meanGrown_3 : decode cX10_meanGrown 3 = .ok (.getfield 22, 3) := by decide +kernel
theorem dX10_meanGrown_6 : decode cX10_meanGrown 6 = .ok (.iconst 4, 1) := by decide +kernel
theorem dX10_meanGrown_7 : decode cX10_meanGrown 7 = .ok (.iaload, 1) := by decide +kernel
theorem dX10_meanGrown_8 : decode cX10_meanGrown 8 = .ok (.isub, 1) := by decide +kernel
theorem dX10_meanGrown_9 : decode cX10_meanGrown 9 = .ok (.aload_n 0, 1) := by decide +kernel
theorem dX10_meanGrown_10 : decode cX10_meanGrown 10 = .ok (.aload_n 0, 1) := by decide +kernel
theorem dX10_meanGrown_11 : decode cX10_meanGrown 11 = .ok (.getfield 16, 3) := by decide +kernel
theorem dX10_meanGrown_14 : decode cX10_meanGrown 14 = .ok (.iload_n 1, 1) := by decide +kernel
theorem dX10_meanGrown_15 : decode cX10_meanGrown 15 = .ok (.iaload, 1) := by decide +kernel
theorem dX10_meanGrown_16 : decode cX10_meanGrown 16 = .ok (.invokevirtual 221, 3) := by decide +kernel
theorem dX10_meanGrown_19 : decode cX10_meanGrown 19 = .ok (.imul, 1) := by decide +kernel
theorem dX10_meanGrown_20 : decode cX10_meanGrown 20 = .ok (.aload_n 0, 1) := by decide +kernel
theorem dX10_meanGrown_21 : decode cX10_meanGrown 21 = .ok (.getfield 22, 3) := by decide +kernel
theorem dX10_meanGrown_24 : decode cX10_meanGrown 24 = .ok (.iconst 4, 1) := by decide +kernel
theorem dX10_meanGrown_25 : decode cX10_meanGrown 25 = .ok (.iaload, 1) := by decide +kernel
theorem dX10_meanGrown_26 : decode cX10_meanGrown 26 = .ok (.aload_n 0, 1) := by decide +kernel
theorem dX10_meanGrown_27 : decode cX10_meanGrown 27 = .ok (.aload_n 0, 1) := by decide +kernel
theorem dX10_meanGrown_28 : decode cX10_meanGrown 28 = .ok (.getfield 16, 3) := by decide +kernel
theorem dX10_meanGrown_31 : decode cX10_meanGrown 31 = .ok (.iload_n 1, 1) := by decide +kernel
theorem dX10_meanGrown_32 : decode cX10_meanGrown 32 = .ok (.iaload, 1) := by decide +kernel
theorem dX10_meanGrown_33 : decode cX10_meanGrown 33 = .ok (.iconst 1, 1) := by decide +kernel
theorem dX10_meanGrown_34 : decode cX10_meanGrown 34 = .ok (.isub, 1) := by decide +kernel
theorem dX10_meanGrown_35 : decode cX10_meanGrown 35 = .ok (.invokevirtual 221, 3) := by decide +kernel
theorem dX10_meanGrown_38 : decode cX10_meanGrown 38 = .ok (.imul, 1) := by decide +kernel
theorem dX10_meanGrown_39 : decode cX10_meanGrown 39 = .ok (.iadd, 1) := by decide +kernel
theorem dX10_meanGrown_40 : decode cX10_meanGrown 40 = .ok (.ireturn, 1) := by decide +kernel
theorem dX10_grown_0 : decode cX10_grown 0 = .ok (.iload_n 1, 1) := by decide +kernel
theorem dX10_grown_1 : decode cX10_grown 1 = .ok (.invokestatic 76, 3) := by decide +kernel
theorem dX10_grown_4 : decode cX10_grown 4 = .ok (.ifCond .ne 7, 3) := by decide +kernel
theorem dX10_grown_7 : decode cX10_grown 7 = .ok (.ldc2_w 216, 3) := by decide +kernel
theorem dX10_grown_10 : decode cX10_grown 10 = .ok (.lreturn, 1) := by decide +kernel
theorem dX10_grown_11 : decode cX10_grown 11 = .ok (.iload_n 2, 1) := by decide +kernel
theorem dX10_grown_12 : decode cX10_grown 12 = .ok (.invokestatic 124, 3) := by decide +kernel
theorem dX10_grown_15 : decode cX10_grown 15 = .ok (.ifCond .eq 10, 3) := by decide +kernel
theorem dX10_grown_18 : decode cX10_grown 18 = .ok (.iload_n 3, 1) := by decide +kernel
theorem dX10_grown_19 : decode cX10_grown 19 = .ok (.invokestatic 124, 3) := by decide +kernel
theorem dX10_grown_22 : decode cX10_grown 22 = .ok (.ifCond .ne 7, 3) := by decide +kernel
theorem dX10_grown_25 : decode cX10_grown 25 = .ok (.ldc2_w 159, 3) := by decide +kernel
theorem dX10_grown_28 : decode cX10_grown 28 = .ok (.lreturn, 1) := by decide +kernel
theorem dX10_grown_29 : decode cX10_grown 29 = .ok (.iload_n 2, 1) := by decide +kernel
theorem dX10_grown_30 : decode cX10_grown 30 = .ok (.ifCond .ne 22, 3) := by decide +kernel
theorem dX10_grown_33 : decode cX10_grown 33 = .ok (.aload_n 0, 1) := by decide +kernel
theorem dX10_grown_34 : decode cX10_grown 34 = .ok (.aload_n 0, 1) := by decide +kernel
theorem dX10_grown_35 : decode cX10_grown 35 = .ok (.getfield 16, 3) := by decide +kernel
theorem dX10_grown_38 : decode cX10_grown 38 = .ok (.iload_n 1, 1) := by decide +kernel
theorem dX10_grown_39 : decode cX10_grown 39 = .ok (.iaload, 1) := by decide +kernel
theorem dX10_grown_40 : decode cX10_grown 40 = .ok (.invokevirtual 221, 3) := by decide +kernel
theorem dX10_grown_43 : decode cX10_grown 43 = .ok (.i2l, 1) := by decide +kernel
theorem dX10_grown_44 : decode cX10_grown 44 = .ok (.lconst 1, 1) := by decide +kernel
theorem dX10_grown_45 : decode cX10_grown 45 = .ok (.iload_n 3, 1) := by decide +kernel
theorem dX10_grown_46 : decode cX10_grown 46 = .ok (.invokestatic 161, 3) := by decide +kernel
theorem dX10_grown_49 : decode cX10_grown 49 = .ok (.goto 16, 3) := by decide +kernel
theorem dX10_grown_52 : decode cX10_grown 52 = .ok (.aload_n 0, 1) := by decide +kernel
theorem dX10_grown_53 : decode cX10_grown 53 = .ok (.iload_n 1, 1) := by decide +kernel
theorem dX10_grown_54 : decode cX10_grown 54 = .ok (.invokevirtual 224, 3) := by decide +kernel
theorem dX10_grown_57 : decode cX10_grown 57 = .ok (.i2l, 1) := by decide +kernel
theorem dX10_grown_58 : decode cX10_grown 58 = .ok (.ldc2_w 101, 3) := by decide +kernel
theorem dX10_grown_61 : decode cX10_grown 61 = .ok (.iload_n 3, 1) := by decide +kernel
theorem dX10_grown_62 : decode cX10_grown 62 = .ok (.invokestatic 161, 3) := by decide +kernel
theorem dX10_grown_65 : decode cX10_grown 65 = .ok (.lreturn, 1) := by decide +kernel
theorem dX10_right_0 : decode cX10_right 0 = .ok (.iload_n 1, 1) := by decide +kernel
theorem dX10_right_1 : decode cX10_right 1 = .ok (.invokestatic 76, 3) := by decide +kernel
theorem dX10_right_4 : decode cX10_right 4 = .ok (.ifCond .ne 7, 3) := by decide +kernel
theorem dX10_right_7 : decode cX10_right 7 = .ok (.ldc2_w 216, 3) := by decide +kernel
theorem dX10_right_10 : decode cX10_right 10 = .ok (.lreturn, 1) := by decide +kernel
theorem dX10_right_11 : decode cX10_right 11 = .ok (.iload_n 2, 1) := by decide +kernel
theorem dX10_right_12 : decode cX10_right 12 = .ok (.invokestatic 152, 3) := by decide +kernel
theorem dX10_right_15 : decode cX10_right 15 = .ok (.ifCond .eq 10, 3) := by decide +kernel
theorem dX10_right_18 : decode cX10_right 18 = .ok (.iload_n 3, 1) := by decide +kernel
theorem dX10_right_19 : decode cX10_right 19 = .ok (.invokestatic 124, 3) := by decide +kernel
theorem dX10_right_22 : decode cX10_right 22 = .ok (.ifCond .ne 7, 3) := by decide +kernel
theorem dX10_right_25 : decode cX10_right 25 = .ok (.ldc2_w 159, 3) := by decide +kernel
theorem dX10_right_28 : decode cX10_right 28 = .ok (.lreturn, 1) := by decide +kernel
theorem dX10_right_29 : decode cX10_right 29 = .ok (.aload_n 0, 1) := by decide +kernel
theorem dX10_right_30 : decode cX10_right 30 = .ok (.iload_n 1, 1) := by decide +kernel
theorem dX10_right_31 : decode cX10_right 31 = .ok (.iload_n 2, 1) := by decide +kernel
theorem dX10_right_32 : decode cX10_right 32 = .ok (.invokevirtual 192, 3) := by decide +kernel
theorem dX10_right_35 : decode cX10_right 35 = .ok (.ldc2_w 101, 3) := by decide +kernel
theorem dX10_right_38 : decode cX10_right 38 = .ok (.aload_n 0, 1) := by decide +kernel
theorem dX10_right_39 : decode cX10_right 39 = .ok (.getfield 185, 3) := by decide +kernel
theorem dX10_right_42 : decode cX10_right 42 = .ok (.i2l, 1) := by decide +kernel
theorem dX10_right_43 : decode cX10_right 43 = .ok (.lmul, 1) := by decide +kernel
theorem dX10_right_44 : decode cX10_right 44 = .ok (.aload_n 0, 1) := by decide +kernel
theorem dX10_right_45 : decode cX10_right 45 = .ok (.iload_n 1, 1) := by decide +kernel
theorem dX10_right_46 : decode cX10_right 46 = .ok (.invokevirtual 224, 3) := by decide +kernel
theorem dX10_right_49 : decode cX10_right 49 = .ok (.i2l, 1) := by decide +kernel
theorem dX10_right_50 : decode cX10_right 50 = .ok (.ladd, 1) := by decide +kernel
theorem dX10_right_51 : decode cX10_right 51 = .ok (.ldc2_w 101, 3) := by decide +kernel
theorem dX10_right_54 : decode cX10_right 54 = .ok (.iload_n 3, 1) := by decide +kernel
theorem dX10_right_55 : decode cX10_right 55 = .ok (.invokestatic 161, 3) := by decide +kernel
theorem dX10_right_58 : decode cX10_right 58 = .ok (.lreturn, 1) := by decide +kernel
theorem dX10_findMix_0 : decode cX10_findMix 0 = .ok (.aload_n 0, 1) := by decide +kernel
theorem dX10_findMix_1 : decode cX10_findMix 1 = .ok (.lconst 0, 1) := by decide +kernel
theorem dX10_findMix_2 : decode cX10_findMix 2 = .ok (.putfield 227, 3) := by decide +kernel
theorem dX10_findMix_5 : decode cX10_findMix 5 = .ok (.aload_n 0, 1) := by decide +kernel
theorem dX10_findMix_6 : decode cX10_findMix 6 = .ok (.lconst 0, 1) := by decide +kernel
theorem dX10_findMix_7 : decode cX10_findMix 7 = .ok (.putfield 231, 3) := by decide +kernel
theorem dX10_findMix_10 : decode cX10_findMix 10 = .ok (.iload 4, 2) := by decide +kernel
theorem dX10_findMix_12 : decode cX10_findMix 12 = .ok (.istore 6, 2) := by decide +kernel
theorem dX10_findMix_14 : decode cX10_findMix 14 = .ok (.iload 6, 2) := by decide +kernel
theorem dX10_findMix_16 : decode cX10_findMix 16 = .ok (.bipush 64, 2) := by decide +kernel
theorem dX10_findMix_18 : decode cX10_findMix 18 = .ok (.if_icmp .ge 65, 3) := by decide +kernel
theorem dX10_findMix_21 : decode cX10_findMix 21 = .ok (.iload 5, 2) := by decide +kernel
theorem dX10_findMix_23 : decode cX10_findMix 23 = .ok (.i2l, 1) := by decide +kernel
theorem dX10_findMix_24 : decode cX10_findMix 24 = .ok (.iload_n 1, 1) := by decide +kernel
theorem dX10_findMix_25 : decode cX10_findMix 25 = .ok (.iload_n 3, 1) := by decide +kernel
theorem dX10_findMix_26 : decode cX10_findMix 26 = .ok (.iload 6, 2) := by decide +kernel
theorem dX10_findMix_28 : decode cX10_findMix 28 = .ok (.invokestatic 155, 3) := by decide +kernel
theorem dX10_findMix_31 : decode cX10_findMix 31 = .ok (.i2l, 1) := by decide +kernel
theorem dX10_findMix_32 : decode cX10_findMix 32 = .ok (.lmul, 1) := by decide +kernel
theorem dX10_findMix_33 : decode cX10_findMix 33 = .ok (.bipush 100, 2) := by decide +kernel
theorem dX10_findMix_35 : decode cX10_findMix 35 = .ok (.iload 5, 2) := by decide +kernel
theorem dX10_findMix_37 : decode cX10_findMix 37 = .ok (.isub, 1) := by decide +kernel
theorem dX10_findMix_38 : decode cX10_findMix 38 = .ok (.i2l, 1) := by decide +kernel
theorem dX10_findMix_39 : decode cX10_findMix 39 = .ok (.iload_n 2, 1) := by decide +kernel
theorem dX10_findMix_40 : decode cX10_findMix 40 = .ok (.iload_n 3, 1) := by decide +kernel
theorem dX10_findMix_41 : decode cX10_findMix 41 = .ok (.iload 6, 2) := by decide +kernel
theorem dX10_findMix_43 : decode cX10_findMix 43 = .ok (.invokestatic 155, 3) := by decide +kernel
theorem dX10_findMix_46 : decode cX10_findMix 46 = .ok (.i2l, 1) := by decide +kernel
theorem dX10_findMix_47 : decode cX10_findMix 47 = .ok (.lmul, 1) := by decide +kernel
theorem dX10_findMix_48 : decode cX10_findMix 48 = .ok (.ladd, 1) := by decide +kernel
theorem dX10_findMix_49 : decode cX10_findMix 49 = .ok (.lstore 7, 2) := by decide +kernel
theorem dX10_findMix_51 : decode cX10_findMix 51 = .ok (.aload_n 0, 1) := by decide +kernel
theorem dX10_findMix_52 : decode cX10_findMix 52 = .ok (.dup, 1) := by decide +kernel
theorem dX10_findMix_53 : decode cX10_findMix 53 = .ok (.getfield 231, 3) := by decide +kernel
theorem dX10_findMix_56 : decode cX10_findMix 56 = .ok (.lload 7, 2) := by decide +kernel
theorem dX10_findMix_58 : decode cX10_findMix 58 = .ok (.ladd, 1) := by decide +kernel
theorem dX10_findMix_59 : decode cX10_findMix 59 = .ok (.putfield 231, 3) := by decide +kernel
theorem dX10_findMix_62 : decode cX10_findMix 62 = .ok (.aload_n 0, 1) := by decide +kernel
theorem dX10_findMix_63 : decode cX10_findMix 63 = .ok (.dup, 1) := by decide +kernel
theorem dX10_findMix_64 : decode cX10_findMix 64 = .ok (.getfield 227, 3) := by decide +kernel
theorem dX10_findMix_67 : decode cX10_findMix 67 = .ok (.iload 6, 2) := by decide +kernel
theorem dX10_findMix_69 : decode cX10_findMix 69 = .ok (.i2l, 1) := by decide +kernel
theorem dX10_findMix_70 : decode cX10_findMix 70 = .ok (.lload 7, 2) := by decide +kernel
theorem dX10_findMix_72 : decode cX10_findMix 72 = .ok (.lmul, 1) := by decide +kernel
theorem dX10_findMix_73 : decode cX10_findMix 73 = .ok (.ladd, 1) := by decide +kernel
theorem dX10_findMix_74 : decode cX10_findMix 74 = .ok (.putfield 227, 3) := by decide +kernel
theorem dX10_findMix_77 : decode cX10_findMix 77 = .ok (.iinc 6 1, 3) := by decide +kernel
theorem dX10_findMix_80 : decode cX10_findMix 80 = .ok (.goto (-66), 3) := by decide +kernel
theorem dX10_findMix_83 : decode cX10_findMix 83 = .ok (.aload_n 0, 1) := by decide +kernel
theorem dX10_findMix_84 : decode cX10_findMix 84 = .ok (.getfield 231, 3) := by decide +kernel
theorem dX10_findMix_87 : decode cX10_findMix 87 = .ok (.lconst 0, 1) := by decide +kernel
theorem dX10_findMix_88 : decode cX10_findMix 88 = .ok (.lcmp, 1) := by decide +kernel
theorem dX10_findMix_89 : decode cX10_findMix 89 = .ok (.ifCond .le 7, 3) := by decide +kernel
theorem dX10_findMix_92 : decode cX10_findMix 92 = .ok (.iconst 1, 1) := by decide +kernel
theorem dX10_findMix_93 : decode cX10_findMix 93 = .ok (.goto 4, 3) := by decide +kernel
theorem dX10_findMix_96 : decode cX10_findMix 96 = .ok (.iconst 0, 1) := by decide +kernel
theorem dX10_findMix_97 : decode cX10_findMix 97 = .ok (.ireturn, 1) := by decide +kernel
theorem dX10_isShare_0 : decode cX10_isShare 0 = .ok (.iload_n 0, 1) := by decide +kernel
theorem dX10_isShare_1 : decode cX10_isShare 1 = .ok (.i2l, 1) := by decide +kernel
theorem dX10_isShare_2 : decode cX10_isShare 2 = .ok (.lconst 0, 1) := by decide +kernel
theorem dX10_isShare_3 : decode cX10_isShare 3 = .ok (.ldc2_w 214, 3) := by decide +kernel
theorem dX10_isShare_6 : decode cX10_isShare 6 = .ok (.invokestatic 64, 3) := by decide +kernel
theorem dX10_isShare_9 : decode cX10_isShare 9 = .ok (.ireturn, 1) := by decide +kernel
theorem dX10_areHumps_0 : decode cX10_areHumps 0 = .ok (.iload_n 0, 1) := by decide +kernel
theorem dX10_areHumps_1 : decode cX10_areHumps 1 = .ok (.invokestatic 80, 3) := by decide +kernel
theorem dX10_areHumps_4 : decode cX10_areHumps 4 = .ok (.ifCond .eq 28, 3) := by decide +kernel
theorem dX10_areHumps_7 : decode cX10_areHumps 7 = .ok (.iload_n 1, 1) := by decide +kernel
theorem dX10_areHumps_8 : decode cX10_areHumps 8 = .ok (.invokestatic 80, 3) := by decide +kernel
theorem dX10_areHumps_11 : decode cX10_areHumps 11 = .ok (.ifCond .eq 21, 3) := by decide +kernel
theorem dX10_areHumps_14 : decode cX10_areHumps 14 = .ok (.iload_n 2, 1) := by decide +kernel
theorem dX10_areHumps_15 : decode cX10_areHumps 15 = .ok (.invokestatic 152, 3) := by decide +kernel
theorem dX10_areHumps_18 : decode cX10_areHumps 18 = .ok (.ifCond .eq 14, 3) := by decide +kernel
theorem dX10_areHumps_21 : decode cX10_areHumps 21 = .ok (.iload_n 3, 1) := by decide +kernel
theorem dX10_areHumps_22 : decode cX10_areHumps 22 = .ok (.invokestatic 80, 3) := by decide +kernel
theorem dX10_areHumps_25 : decode cX10_areHumps 25 = .ok (.ifCond .eq 7, 3) := by decide +kernel
theorem dX10_areHumps_28 : decode cX10_areHumps 28 = .ok (.iconst 1, 1) := by decide +kernel
theorem dX10_areHumps_29 : decode cX10_areHumps 29 = .ok (.goto 4, 3) := by decide +kernel
theorem dX10_areHumps_32 : decode cX10_areHumps 32 = .ok (.iconst 0, 1) := by decide +kernel
theorem dX10_areHumps_33 : decode cX10_areHumps 33 = .ok (.ireturn, 1) := by decide +kernel
theorem dX10_mix_0 : decode cX10_mix 0 = .ok (.iload_n 1, 1) := by decide +kernel
theorem dX10_mix_1 : decode cX10_mix 1 = .ok (.iload_n 2, 1) := by decide +kernel
theorem dX10_mix_2 : decode cX10_mix 2 = .ok (.iload_n 3, 1) := by decide +kernel
theorem dX10_mix_3 : decode cX10_mix 3 = .ok (.iload 4, 2) := by decide +kernel
theorem dX10_mix_5 : decode cX10_mix 5 = .ok (.invokestatic 234, 3) := by decide +kernel
theorem dX10_mix_8 : decode cX10_mix 8 = .ok (.ifCond .eq 19, 3) := by decide +kernel
theorem dX10_mix_11 : decode cX10_mix 11 = .ok (.iload 5, 2) := by decide +kernel
theorem dX10_mix_13 : decode cX10_mix 13 = .ok (.invokestatic 238, 3) := by decide +kernel
theorem dX10_mix_16 : decode cX10_mix 16 = .ok (.ifCond .eq 11, 3) := by decide +kernel
theorem dX10_mix_19 : decode cX10_mix 19 = .ok (.iload 6, 2) := by decide +kernel
theorem dX10_mix_21 : decode cX10_mix 21 = .ok (.invokestatic 124, 3) := by decide +kernel
theorem dX10_mix_24 : decode cX10_mix 24 = .ok (.ifCond .ne 7, 3) := by decide +kernel
theorem dX10_mix_27 : decode cX10_mix 27 = .ok (.ldc2_w 159, 3) := by decide +kernel
theorem dX10_mix_30 : decode cX10_mix 30 = .ok (.lreturn, 1) := by decide +kernel
theorem dX10_mix_31 : decode cX10_mix 31 = .ok (.aload_n 0, 1) := by decide +kernel
theorem dX10_mix_32 : decode cX10_mix 32 = .ok (.iload_n 1, 1) := by decide +kernel
theorem dX10_mix_33 : decode cX10_mix 33 = .ok (.iload_n 2, 1) := by decide +kernel
theorem dX10_mix_34 : decode cX10_mix 34 = .ok (.iload_n 3, 1) := by decide +kernel
theorem dX10_mix_35 : decode cX10_mix 35 = .ok (.iload 4, 2) := by decide +kernel
theorem dX10_mix_37 : decode cX10_mix 37 = .ok (.iload 5, 2) := by decide +kernel
theorem dX10_mix_39 : decode cX10_mix 39 = .ok (.invokevirtual 241, 3) := by decide +kernel
theorem dX10_mix_42 : decode cX10_mix 42 = .ok (.ifCond .eq 19, 3) := by decide +kernel
theorem dX10_mix_45 : decode cX10_mix 45 = .ok (.aload_n 0, 1) := by decide +kernel
theorem dX10_mix_46 : decode cX10_mix 46 = .ok (.getfield 227, 3) := by decide +kernel
theorem dX10_mix_49 : decode cX10_mix 49 = .ok (.aload_n 0, 1) := by decide +kernel
theorem dX10_mix_50 : decode cX10_mix 50 = .ok (.getfield 231, 3) := by decide +kernel
theorem dX10_mix_53 : decode cX10_mix 53 = .ok (.iload 6, 2) := by decide +kernel
theorem dX10_mix_55 : decode cX10_mix 55 = .ok (.invokestatic 161, 3) := by decide +kernel
theorem dX10_mix_58 : decode cX10_mix 58 = .ok (.goto 6, 3) := by decide +kernel
theorem dX10_mix_61 : decode cX10_mix 61 = .ok (.ldc2_w 245, 3) := by decide +kernel
theorem dX10_mix_64 : decode cX10_mix 64 = .ok (.lreturn, 1) := by decide +kernel
theorem dX10_less_0 : decode cX10_less 0 = .ok (.lload_n 0, 1) := by decide +kernel
theorem dX10_less_1 : decode cX10_less 1 = .ok (.lload_n 2, 1) := by decide +kernel
theorem dX10_less_2 : decode cX10_less 2 = .ok (.invokestatic 72, 3) := by decide +kernel
theorem dX10_less_5 : decode cX10_less 5 = .ok (.lstore 9, 2) := by decide +kernel
theorem dX10_less_7 : decode cX10_less 7 = .ok (.lload 4, 2) := by decide +kernel
theorem dX10_less_9 : decode cX10_less 9 = .ok (.lload 6, 2) := by decide +kernel
theorem dX10_less_11 : decode cX10_less 11 = .ok (.invokestatic 72, 3) := by decide +kernel
theorem dX10_less_14 : decode cX10_less 14 = .ok (.lstore 11, 2) := by decide +kernel
theorem dX10_less_16 : decode cX10_less 16 = .ok (.lload_n 0, 1) := by decide +kernel
theorem dX10_less_17 : decode cX10_less 17 = .ok (.lload 9, 2) := by decide +kernel
theorem dX10_less_19 : decode cX10_less 19 = .ok (.ldiv, 1) := by decide +kernel
theorem dX10_less_20 : decode cX10_less 20 = .ok (.lstore 13, 2) := by decide +kernel
theorem dX10_less_22 : decode cX10_less 22 = .ok (.lload_n 2, 1) := by decide +kernel
theorem dX10_less_23 : decode cX10_less 23 = .ok (.lload 9, 2) := by decide +kernel
theorem dX10_less_25 : decode cX10_less 25 = .ok (.ldiv, 1) := by decide +kernel
theorem dX10_less_26 : decode cX10_less 26 = .ok (.lstore 15, 2) := by decide +kernel
theorem dX10_less_28 : decode cX10_less 28 = .ok (.lload 4, 2) := by decide +kernel
theorem dX10_less_30 : decode cX10_less 30 = .ok (.lload 11, 2) := by decide +kernel
theorem dX10_less_32 : decode cX10_less 32 = .ok (.ldiv, 1) := by decide +kernel
theorem dX10_less_33 : decode cX10_less 33 = .ok (.lstore 17, 2) := by decide +kernel
theorem dX10_less_35 : decode cX10_less 35 = .ok (.lload 6, 2) := by decide +kernel
theorem dX10_less_37 : decode cX10_less 37 = .ok (.lload 11, 2) := by decide +kernel
theorem dX10_less_39 : decode cX10_less 39 = .ok (.ldiv, 1) := by decide +kernel
theorem dX10_less_40 : decode cX10_less 40 = .ok (.lstore 19, 2) := by decide +kernel
theorem dX10_less_42 : decode cX10_less 42 = .ok (.lload 13, 2) := by decide +kernel
theorem dX10_less_44 : decode cX10_less 44 = .ok (.lload 19, 2) := by decide +kernel
theorem dX10_less_46 : decode cX10_less 46 = .ok (.lmul, 1) := by decide +kernel
theorem dX10_less_47 : decode cX10_less 47 = .ok (.lload 17, 2) := by decide +kernel
theorem dX10_less_49 : decode cX10_less 49 = .ok (.lload 15, 2) := by decide +kernel
theorem dX10_less_51 : decode cX10_less 51 = .ok (.lmul, 1) := by decide +kernel
theorem dX10_less_52 : decode cX10_less 52 = .ok (.lsub, 1) := by decide +kernel
theorem dX10_less_53 : decode cX10_less 53 = .ok (.lload 15, 2) := by decide +kernel
theorem dX10_less_55 : decode cX10_less 55 = .ok (.lload 19, 2) := by decide +kernel
theorem dX10_less_57 : decode cX10_less 57 = .ok (.lmul, 1) := by decide +kernel
theorem dX10_less_58 : decode cX10_less 58 = .ok (.iload 8, 2) := by decide +kernel
theorem dX10_less_60 : decode cX10_less 60 = .ok (.invokestatic 161, 3) := by decide +kernel
theorem dX10_less_63 : decode cX10_less 63 = .ok (.lreturn, 1) := by decide +kernel
theorem dX10_fall_0 : decode cX10_fall 0 = .ok (.iload_n 1, 1) := by decide +kernel
theorem dX10_fall_1 : decode cX10_fall 1 = .ok (.iload_n 2, 1) := by decide +kernel
theorem dX10_fall_2 : decode cX10_fall 2 = .ok (.iload_n 3, 1) := by decide +kernel
theorem dX10_fall_3 : decode cX10_fall 3 = .ok (.iload 4, 2) := by decide +kernel
theorem dX10_fall_5 : decode cX10_fall 5 = .ok (.invokestatic 234, 3) := by decide +kernel
theorem dX10_fall_8 : decode cX10_fall 8 = .ok (.ifCond .eq 27, 3) := by decide +kernel
theorem dX10_fall_11 : decode cX10_fall 11 = .ok (.iload 5, 2) := by decide +kernel
theorem dX10_fall_13 : decode cX10_fall 13 = .ok (.invokestatic 238, 3) := by decide +kernel
theorem dX10_fall_16 : decode cX10_fall 16 = .ok (.ifCond .eq 19, 3) := by decide +kernel
theorem dX10_fall_19 : decode cX10_fall 19 = .ok (.iload 6, 2) := by decide +kernel
theorem dX10_fall_21 : decode cX10_fall 21 = .ok (.invokestatic 238, 3) := by decide +kernel
theorem dX10_fall_24 : decode cX10_fall 24 = .ok (.ifCond .eq 11, 3) := by decide +kernel
theorem dX10_fall_27 : decode cX10_fall 27 = .ok (.iload 7, 2) := by decide +kernel
theorem dX10_fall_29 : decode cX10_fall 29 = .ok (.invokestatic 124, 3) := by decide +kernel
theorem dX10_fall_32 : decode cX10_fall 32 = .ok (.ifCond .ne 7, 3) := by decide +kernel
theorem dX10_fall_35 : decode cX10_fall 35 = .ok (.ldc2_w 159, 3) := by decide +kernel
theorem dX10_fall_38 : decode cX10_fall 38 = .ok (.lreturn, 1) := by decide +kernel
theorem dX10_fall_39 : decode cX10_fall 39 = .ok (.aload_n 0, 1) := by decide +kernel
theorem dX10_fall_40 : decode cX10_fall 40 = .ok (.iload_n 1, 1) := by decide +kernel
theorem dX10_fall_41 : decode cX10_fall 41 = .ok (.iload_n 2, 1) := by decide +kernel
theorem dX10_fall_42 : decode cX10_fall 42 = .ok (.iload_n 3, 1) := by decide +kernel
theorem dX10_fall_43 : decode cX10_fall 43 = .ok (.iload 4, 2) := by decide +kernel
theorem dX10_fall_45 : decode cX10_fall 45 = .ok (.iload 5, 2) := by decide +kernel
theorem dX10_fall_47 : decode cX10_fall 47 = .ok (.invokevirtual 241, 3) := by decide +kernel
theorem dX10_fall_50 : decode cX10_fall 50 = .ok (.istore 8, 2) := by decide +kernel
theorem dX10_fall_52 : decode cX10_fall 52 = .ok (.aload_n 0, 1) := by decide +kernel
theorem dX10_fall_53 : decode cX10_fall 53 = .ok (.getfield 227, 3) := by decide +kernel
theorem dX10_fall_56 : decode cX10_fall 56 = .ok (.lstore 9, 2) := by decide +kernel
theorem dX10_fall_58 : decode cX10_fall 58 = .ok (.aload_n 0, 1) := by decide +kernel
theorem dX10_fall_59 : decode cX10_fall 59 = .ok (.getfield 231, 3) := by decide +kernel
theorem dX10_fall_62 : decode cX10_fall 62 = .ok (.lstore 11, 2) := by decide +kernel
theorem dX10_fall_64 : decode cX10_fall 64 = .ok (.iload 8, 2) := by decide +kernel
theorem dX10_fall_66 : decode cX10_fall 66 = .ok (.ifCond .eq 37, 3) := by decide +kernel
theorem dX10_fall_69 : decode cX10_fall 69 = .ok (.aload_n 0, 1) := by decide +kernel
theorem dX10_fall_70 : decode cX10_fall 70 = .ok (.iload_n 1, 1) := by decide +kernel
theorem dX10_fall_71 : decode cX10_fall 71 = .ok (.iload_n 2, 1) := by decide +kernel
theorem dX10_fall_72 : decode cX10_fall 72 = .ok (.iload_n 3, 1) := by decide +kernel
theorem dX10_fall_73 : decode cX10_fall 73 = .ok (.iload 4, 2) := by decide +kernel
theorem dX10_fall_75 : decode cX10_fall 75 = .ok (.iload 6, 2) := by decide +kernel
theorem dX10_fall_77 : decode cX10_fall 77 = .ok (.invokevirtual 241, 3) := by decide +kernel
theorem dX10_fall_80 : decode cX10_fall 80 = .ok (.ifCond .eq 23, 3) := by decide +kernel
theorem dX10_fall_83 : decode cX10_fall 83 = .ok (.lload 9, 2) := by decide +kernel
theorem dX10_fall_85 : decode cX10_fall 85 = .ok (.lload 11, 2) := by decide +kernel
theorem dX10_fall_87 : decode cX10_fall 87 = .ok (.aload_n 0, 1) := by decide +kernel
theorem dX10_fall_88 : decode cX10_fall 88 = .ok (.getfield 227, 3) := by decide +kernel
theorem dX10_fall_91 : decode cX10_fall 91 = .ok (.aload_n 0, 1) := by decide +kernel
theorem dX10_fall_92 : decode cX10_fall 92 = .ok (.getfield 231, 3) := by decide +kernel
theorem dX10_fall_95 : decode cX10_fall 95 = .ok (.iload 7, 2) := by decide +kernel
theorem dX10_fall_97 : decode cX10_fall 97 = .ok (.invokestatic 247, 3) := by decide +kernel
theorem dX10_fall_100 : decode cX10_fall 100 = .ok (.goto 6, 3) := by decide +kernel
theorem dX10_fall_103 : decode cX10_fall 103 = .ok (.ldc2_w 245, 3) := by decide +kernel
theorem dX10_fall_106 : decode cX10_fall 106 = .ok (.lreturn, 1) := by decide +kernel
theorem dX10_areShares_0 : decode cX10_areShares 0 = .ok (.iload_n 0, 1) := by decide +kernel
theorem dX10_areShares_1 : decode cX10_areShares 1 = .ok (.ifCond .lt 39, 3) := by decide +kernel
theorem dX10_areShares_4 : decode cX10_areShares 4 = .ok (.iload_n 0, 1) := by decide +kernel
theorem dX10_areShares_5 : decode cX10_areShares 5 = .ok (.sipush 1000, 3) := by decide +kernel
theorem dX10_areShares_8 : decode cX10_areShares 8 = .ok (.idiv, 1) := by decide +kernel
theorem dX10_areShares_9 : decode cX10_areShares 9 = .ok (.invokestatic 238, 3) := by decide +kernel
theorem dX10_areShares_12 : decode cX10_areShares 12 = .ok (.ifCond .eq 28, 3) := by decide +kernel
theorem dX10_areShares_15 : decode cX10_areShares 15 = .ok (.iload_n 0, 1) := by decide +kernel
theorem dX10_areShares_16 : decode cX10_areShares 16 = .ok (.sipush 1000, 3) := by decide +kernel
theorem dX10_areShares_19 : decode cX10_areShares 19 = .ok (.irem, 1) := by decide +kernel
theorem dX10_areShares_20 : decode cX10_areShares 20 = .ok (.i2l, 1) := by decide +kernel
theorem dX10_areShares_21 : decode cX10_areShares 21 = .ok (.iload_n 0, 1) := by decide +kernel
theorem dX10_areShares_22 : decode cX10_areShares 22 = .ok (.sipush 1000, 3) := by decide +kernel
theorem dX10_areShares_25 : decode cX10_areShares 25 = .ok (.idiv, 1) := by decide +kernel
theorem dX10_areShares_26 : decode cX10_areShares 26 = .ok (.i2l, 1) := by decide +kernel
theorem dX10_areShares_27 : decode cX10_areShares 27 = .ok (.ldc2_w 214, 3) := by decide +kernel
theorem dX10_areShares_30 : decode cX10_areShares 30 = .ok (.invokestatic 64, 3) := by decide +kernel
theorem dX10_areShares_33 : decode cX10_areShares 33 = .ok (.ifCond .eq 7, 3) := by decide +kernel
theorem dX10_areShares_36 : decode cX10_areShares 36 = .ok (.iconst 1, 1) := by decide +kernel
theorem dX10_areShares_37 : decode cX10_areShares 37 = .ok (.goto 4, 3) := by decide +kernel
theorem dX10_areShares_40 : decode cX10_areShares 40 = .ok (.iconst 0, 1) := by decide +kernel
theorem dX10_areShares_41 : decode cX10_areShares 41 = .ok (.ireturn, 1) := by decide +kernel
theorem dX10_findEnd_0 : decode cX10_findEnd 0 = .ok (.aload_n 0, 1) := by decide +kernel
theorem dX10_findEnd_1 : decode cX10_findEnd 1 = .ok (.lconst 0, 1) := by decide +kernel
theorem dX10_findEnd_2 : decode cX10_findEnd 2 = .ok (.putfield 251, 3) := by decide +kernel
theorem dX10_findEnd_5 : decode cX10_findEnd 5 = .ok (.iload 5, 2) := by decide +kernel
theorem dX10_findEnd_7 : decode cX10_findEnd 7 = .ok (.sipush 1000, 3) := by decide +kernel
theorem dX10_findEnd_10 : decode cX10_findEnd 10 = .ok (.idiv, 1) := by decide +kernel
theorem dX10_findEnd_11 : decode cX10_findEnd 11 = .ok (.istore 7, 2) := by decide +kernel
theorem dX10_findEnd_13 : decode cX10_findEnd 13 = .ok (.iload 7, 2) := by decide +kernel
theorem dX10_findEnd_15 : decode cX10_findEnd 15 = .ok (.iload 5, 2) := by decide +kernel
theorem dX10_findEnd_17 : decode cX10_findEnd 17 = .ok (.sipush 1000, 3) := by decide +kernel
theorem dX10_findEnd_20 : decode cX10_findEnd 20 = .ok (.irem, 1) := by decide +kernel
theorem dX10_findEnd_21 : decode cX10_findEnd 21 = .ok (.if_icmp .gt 93, 3) := by decide +kernel
theorem dX10_findEnd_24 : decode cX10_findEnd 24 = .ok (.aload_n 0, 1) := by decide +kernel
theorem dX10_findEnd_25 : decode cX10_findEnd 25 = .ok (.iload_n 1, 1) := by decide +kernel
theorem dX10_findEnd_26 : decode cX10_findEnd 26 = .ok (.iload_n 2, 1) := by decide +kernel
theorem dX10_findEnd_27 : decode cX10_findEnd 27 = .ok (.iload_n 3, 1) := by decide +kernel
theorem dX10_findEnd_28 : decode cX10_findEnd 28 = .ok (.iload 4, 2) := by decide +kernel
theorem dX10_findEnd_30 : decode cX10_findEnd 30 = .ok (.iload 7, 2) := by decide +kernel
theorem dX10_findEnd_32 : decode cX10_findEnd 32 = .ok (.invokevirtual 241, 3) := by decide +kernel
theorem dX10_findEnd_35 : decode cX10_findEnd 35 = .ok (.ifCond .ne 5, 3) := by decide +kernel
theorem dX10_findEnd_38 : decode cX10_findEnd 38 = .ok (.iconst 0, 1) := by decide +kernel
theorem dX10_findEnd_39 : decode cX10_findEnd 39 = .ok (.ireturn, 1) := by decide +kernel
theorem dX10_findEnd_40 : decode cX10_findEnd 40 = .ok (.aload_n 0, 1) := by decide +kernel
theorem dX10_findEnd_41 : decode cX10_findEnd 41 = .ok (.getfield 227, 3) := by decide +kernel
theorem dX10_findEnd_44 : decode cX10_findEnd 44 = .ok (.aload_n 0, 1) := by decide +kernel
theorem dX10_findEnd_45 : decode cX10_findEnd 45 = .ok (.getfield 251, 3) := by decide +kernel
theorem dX10_findEnd_48 : decode cX10_findEnd 48 = .ok (.lmul, 1) := by decide +kernel
theorem dX10_findEnd_49 : decode cX10_findEnd 49 = .ok (.aload_n 0, 1) := by decide +kernel
theorem dX10_findEnd_50 : decode cX10_findEnd 50 = .ok (.getfield 254, 3) := by decide +kernel
theorem dX10_findEnd_53 : decode cX10_findEnd 53 = .ok (.aload_n 0, 1) := by decide +kernel
theorem dX10_findEnd_54 : decode cX10_findEnd 54 = .ok (.getfield 231, 3) := by decide +kernel
theorem dX10_findEnd_57 : decode cX10_findEnd 57 = .ok (.lmul, 1) := by decide +kernel
theorem dX10_findEnd_58 : decode cX10_findEnd 58 = .ok (.lsub, 1) := by decide +kernel
theorem dX10_findEnd_59 : decode cX10_findEnd 59 = .ok (.lstore 8, 2) := by decide +kernel
theorem dX10_findEnd_61 : decode cX10_findEnd 61 = .ok (.aload_n 0, 1) := by decide +kernel
theorem dX10_findEnd_62 : decode cX10_findEnd 62 = .ok (.getfield 251, 3) := by decide +kernel
theorem dX10_findEnd_65 : decode cX10_findEnd 65 = .ok (.lconst 0, 1) := by decide +kernel
theorem dX10_findEnd_66 : decode cX10_findEnd 66 = .ok (.lcmp, 1) := by decide +kernel
theorem dX10_findEnd_67 : decode cX10_findEnd 67 = .ok (.ifCond .eq 25, 3) := by decide +kernel
theorem dX10_findEnd_70 : decode cX10_findEnd 70 = .ok (.iload 6, 2) := by decide +kernel
theorem dX10_findEnd_72 : decode cX10_findEnd 72 = .ok (.ifCond .eq 13, 3) := by decide +kernel
theorem dX10_findEnd_75 : decode cX10_findEnd 75 = .ok (.lload 8, 2) := by decide +kernel
theorem dX10_findEnd_77 : decode cX10_findEnd 77 = .ok (.lconst 0, 1) := by decide +kernel
theorem dX10_findEnd_78 : decode cX10_findEnd 78 = .ok (.lcmp, 1) := by decide +kernel
theorem dX10_findEnd_79 : decode cX10_findEnd 79 = .ok (.ifCond .le 29, 3) := by decide +kernel
theorem dX10_findEnd_82 : decode cX10_findEnd 82 = .ok (.goto 10, 3) := by decide +kernel
theorem dX10_findEnd_85 : decode cX10_findEnd 85 = .ok (.lload 8, 2) := by decide +kernel
theorem dX10_findEnd_87 : decode cX10_findEnd 87 = .ok (.lconst 0, 1) := by decide +kernel
theorem dX10_findEnd_88 : decode cX10_findEnd 88 = .ok (.lcmp, 1) := by decide +kernel
theorem dX10_findEnd_89 : decode cX10_findEnd 89 = .ok (.ifCond .ge 19, 3) := by decide +kernel
theorem dX10_findEnd_92 : decode cX10_findEnd 92 = .ok (.aload_n 0, 1) := by decide +kernel
theorem dX10_findEnd_93 : decode cX10_findEnd 93 = .ok (.aload_n 0, 1) := by decide +kernel
theorem dX10_findEnd_94 : decode cX10_findEnd 94 = .ok (.getfield 227, 3) := by decide +kernel
theorem dX10_findEnd_97 : decode cX10_findEnd 97 = .ok (.putfield 254, 3) := by decide +kernel
theorem dX10_findEnd_100 : decode cX10_findEnd 100 = .ok (.aload_n 0, 1) := by decide +kernel
theorem dX10_findEnd_101 : decode cX10_findEnd 101 = .ok (.aload_n 0, 1) := by decide +kernel
theorem dX10_findEnd_102 : decode cX10_findEnd 102 = .ok (.getfield 231, 3) := by decide +kernel
theorem dX10_findEnd_105 : decode cX10_findEnd 105 = .ok (.putfield 251, 3) := by decide +kernel
theorem dX10_findEnd_108 : decode cX10_findEnd 108 = .ok (.iinc 7 1, 3) := by decide +kernel
theorem dX10_findEnd_111 : decode cX10_findEnd 111 = .ok (.goto (-98), 3) := by decide +kernel
theorem dX10_findEnd_114 : decode cX10_findEnd 114 = .ok (.iconst 1, 1) := by decide +kernel
theorem dX10_findEnd_115 : decode cX10_findEnd 115 = .ok (.ireturn, 1) := by decide +kernel
theorem dX10_alone_0 : decode cX10_alone 0 = .ok (.iload_n 1, 1) := by decide +kernel
theorem dX10_alone_1 : decode cX10_alone 1 = .ok (.iload_n 2, 1) := by decide +kernel
theorem dX10_alone_2 : decode cX10_alone 2 = .ok (.iload_n 3, 1) := by decide +kernel
theorem dX10_alone_3 : decode cX10_alone 3 = .ok (.iload 4, 2) := by decide +kernel
theorem dX10_alone_5 : decode cX10_alone 5 = .ok (.invokestatic 234, 3) := by decide +kernel
theorem dX10_alone_8 : decode cX10_alone 8 = .ok (.ifCond .eq 35, 3) := by decide +kernel
theorem dX10_alone_11 : decode cX10_alone 11 = .ok (.iload 5, 2) := by decide +kernel
theorem dX10_alone_13 : decode cX10_alone 13 = .ok (.invokestatic 257, 3) := by decide +kernel
theorem dX10_alone_16 : decode cX10_alone 16 = .ok (.ifCond .eq 27, 3) := by decide +kernel
theorem dX10_alone_19 : decode cX10_alone 19 = .ok (.iload 6, 2) := by decide +kernel
theorem dX10_alone_21 : decode cX10_alone 21 = .ok (.invokestatic 257, 3) := by decide +kernel
theorem dX10_alone_24 : decode cX10_alone 24 = .ok (.ifCond .eq 19, 3) := by decide +kernel
theorem dX10_alone_27 : decode cX10_alone 27 = .ok (.iload 7, 2) := by decide +kernel
theorem dX10_alone_29 : decode cX10_alone 29 = .ok (.invokestatic 124, 3) := by decide +kernel
theorem dX10_alone_32 : decode cX10_alone 32 = .ok (.ifCond .eq 11, 3) := by decide +kernel
theorem dX10_alone_35 : decode cX10_alone 35 = .ok (.iload 8, 2) := by decide +kernel
theorem dX10_alone_37 : decode cX10_alone 37 = .ok (.invokestatic 124, 3) := by decide +kernel
theorem dX10_alone_40 : decode cX10_alone 40 = .ok (.ifCond .ne 7, 3) := by decide +kernel
theorem dX10_alone_43 : decode cX10_alone 43 = .ok (.ldc2_w 159, 3) := by decide +kernel
theorem dX10_alone_46 : decode cX10_alone 46 = .ok (.lreturn, 1) := by decide +kernel
theorem dX10_alone_47 : decode cX10_alone 47 = .ok (.aload_n 0, 1) := by decide +kernel
theorem dX10_alone_48 : decode cX10_alone 48 = .ok (.iload_n 1, 1) := by decide +kernel
theorem dX10_alone_49 : decode cX10_alone 49 = .ok (.iload_n 2, 1) := by decide +kernel
theorem dX10_alone_50 : decode cX10_alone 50 = .ok (.iload_n 3, 1) := by decide +kernel
theorem dX10_alone_51 : decode cX10_alone 51 = .ok (.iload 4, 2) := by decide +kernel
theorem dX10_alone_53 : decode cX10_alone 53 = .ok (.iload 5, 2) := by decide +kernel
theorem dX10_alone_55 : decode cX10_alone 55 = .ok (.iload 7, 2) := by decide +kernel
theorem dX10_alone_57 : decode cX10_alone 57 = .ok (.iconst 1, 1) := by decide +kernel
theorem dX10_alone_58 : decode cX10_alone 58 = .ok (.if_icmp .ne 7, 3) := by decide +kernel
theorem dX10_alone_61 : decode cX10_alone 61 = .ok (.iconst 1, 1) := by decide +kernel
theorem dX10_alone_62 : decode cX10_alone 62 = .ok (.goto 4, 3) := by decide +kernel
theorem dX10_alone_65 : decode cX10_alone 65 = .ok (.iconst 0, 1) := by decide +kernel
theorem dX10_alone_66 : decode cX10_alone 66 = .ok (.invokevirtual 260, 3) := by decide +kernel
theorem dX10_alone_69 : decode cX10_alone 69 = .ok (.istore 9, 2) := by decide +kernel
theorem dX10_alone_71 : decode cX10_alone 71 = .ok (.aload_n 0, 1) := by decide +kernel
theorem dX10_alone_72 : decode cX10_alone 72 = .ok (.getfield 254, 3) := by decide +kernel
theorem dX10_alone_75 : decode cX10_alone 75 = .ok (.lstore 10, 2) := by decide +kernel
theorem dX10_alone_77 : decode cX10_alone 77 = .ok (.aload_n 0, 1) := by decide +kernel
theorem dX10_alone_78 : decode cX10_alone 78 = .ok (.getfield 251, 3) := by decide +kernel
theorem dX10_alone_81 : decode cX10_alone 81 = .ok (.lstore 12, 2) := by decide +kernel
theorem dX10_alone_83 : decode cX10_alone 83 = .ok (.iload 9, 2) := by decide +kernel
theorem dX10_alone_85 : decode cX10_alone 85 = .ok (.ifCond .eq 47, 3) := by decide +kernel
theorem dX10_alone_88 : decode cX10_alone 88 = .ok (.aload_n 0, 1) := by decide +kernel
theorem dX10_alone_89 : decode cX10_alone 89 = .ok (.iload_n 1, 1) := by decide +kernel
theorem dX10_alone_90 : decode cX10_alone 90 = .ok (.iload_n 2, 1) := by decide +kernel
theorem dX10_alone_91 : decode cX10_alone 91 = .ok (.iload_n 3, 1) := by decide +kernel
theorem dX10_alone_92 : decode cX10_alone 92 = .ok (.iload 4, 2) := by decide +kernel
theorem dX10_alone_94 : decode cX10_alone 94 = .ok (.iload 6, 2) := by decide +kernel
theorem dX10_alone_96 : decode cX10_alone 96 = .ok (.iload 7, 2) := by decide +kernel
theorem dX10_alone_98 : decode cX10_alone 98 = .ok (.ifCond .ne 7, 3) := by decide +kernel
theorem dX10_alone_101 : decode cX10_alone 101 = .ok (.iconst 1, 1) := by decide +kernel
theorem dX10_alone_102 : decode cX10_alone 102 = .ok (.goto 4, 3) := by decide +kernel
theorem dX10_alone_105 : decode cX10_alone 105 = .ok (.iconst 0, 1) := by decide +kernel
theorem dX10_alone_106 : decode cX10_alone 106 = .ok (.invokevirtual 260, 3) := by decide +kernel
theorem dX10_alone_109 : decode cX10_alone 109 = .ok (.ifCond .eq 23, 3) := by decide +kernel
theorem dX10_alone_112 : decode cX10_alone 112 = .ok (.lload 10, 2) := by decide +kernel
theorem dX10_alone_114 : decode cX10_alone 114 = .ok (.lload 12, 2) := by decide +kernel
theorem dX10_alone_116 : decode cX10_alone 116 = .ok (.aload_n 0, 1) := by decide +kernel
theorem dX10_alone_117 : decode cX10_alone 117 = .ok (.getfield 254, 3) := by decide +kernel
theorem dX10_alone_120 : decode cX10_alone 120 = .ok (.aload_n 0, 1) := by decide +kernel
theorem dX10_alone_121 : decode cX10_alone 121 = .ok (.getfield 251, 3) := by decide +kernel
theorem dX10_alone_124 : decode cX10_alone 124 = .ok (.iload 8, 2) := by decide +kernel
theorem dX10_alone_126 : decode cX10_alone 126 = .ok (.invokestatic 247, 3) := by decide +kernel
theorem dX10_alone_129 : decode cX10_alone 129 = .ok (.goto 6, 3) := by decide +kernel
theorem dX10_alone_132 : decode cX10_alone 132 = .ok (.ldc2_w 245, 3) := by decide +kernel
theorem dX10_alone_135 : decode cX10_alone 135 = .ok (.lreturn, 1) := by decide +kernel
theorem dX10_sumOf_0 : decode cX10_sumOf 0 = .ok (.lconst 0, 1) := by decide +kernel
theorem dX10_sumOf_1 : decode cX10_sumOf 1 = .ok (.lstore_n 2, 1) := by decide +kernel
theorem dX10_sumOf_2 : decode cX10_sumOf 2 = .ok (.iconst 0, 1) := by decide +kernel
theorem dX10_sumOf_3 : decode cX10_sumOf 3 = .ok (.istore 4, 2) := by decide +kernel
theorem dX10_sumOf_5 : decode cX10_sumOf 5 = .ok (.iload 4, 2) := by decide +kernel
theorem dX10_sumOf_7 : decode cX10_sumOf 7 = .ok (.bipush 64, 2) := by decide +kernel
