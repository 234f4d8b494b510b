theorem dX9_off_58 : decode cX9_off 58 = .ok (.iload 4, 2) := by decide +kernel
theorem dX9_off_60 : decode cX9_off 60 = .ok (.iload 5, 2) := by decide +kernel
theorem dX9_off_62 : decode cX9_off 62 = .ok (.iload 6, 2) := by decide +kernel
theorem dX9_off_64 : decode cX9_off 64 = .ok (.iload 7, 2) := by decide +kernel
theorem dX9_off_66 : decode cX9_off 66 = .ok (.invokevirtual 268, 3) := by decide +kernel
theorem dX9_off_69 : decode cX9_off 69 = .ok (.ireturn, 1) := by decide +kernel
theorem dX9_best_0 : decode cX9_best 0 = .ok (.aload_n 0, 1) := by decide +kernel
theorem dX9_best_1 : decode cX9_best 1 = .ok (.getfield 19, 3) := by decide +kernel
theorem dX9_best_4 : decode cX9_best 4 = .ok (.iload_n 1, 1) := by decide +kernel
theorem dX9_best_5 : decode cX9_best 5 = .ok (.invokevirtual 61, 3) := by decide +kernel
theorem dX9_best_8 : decode cX9_best 8 = .ok (.astore 7, 2) := by decide +kernel
theorem dX9_best_10 : decode cX9_best 10 = .ok (.aload 7, 2) := by decide +kernel
theorem dX9_best_12 : decode cX9_best 12 = .ok (.ifnonnull 5, 3) := by decide +kernel
theorem dX9_best_15 : decode cX9_best 15 = .ok (.iconst (-1), 1) := by decide +kernel
theorem dX9_best_16 : decode cX9_best 16 = .ok (.ireturn, 1) := by decide +kernel
theorem dX9_best_17 : decode cX9_best 17 = .ok (.iload_n 2, 1) := by decide +kernel
theorem dX9_best_18 : decode cX9_best 18 = .ok (.iload_n 3, 1) := by decide +kernel
theorem dX9_best_19 : decode cX9_best 19 = .ok (.iload 4, 2) := by decide +kernel
theorem dX9_best_21 : decode cX9_best 21 = .ok (.iload 5, 2) := by decide +kernel
theorem dX9_best_23 : decode cX9_best 23 = .ok (.invokestatic 261, 3) := by decide +kernel
theorem dX9_best_26 : decode cX9_best 26 = .ok (.ifCond .eq 14, 3) := by decide +kernel
theorem dX9_best_29 : decode cX9_best 29 = .ok (.iload 6, 2) := by decide +kernel
theorem dX9_best_31 : decode cX9_best 31 = .ok (.iconst 1, 1) := by decide +kernel
theorem dX9_best_32 : decode cX9_best 32 = .ok (.bipush 8, 2) := by decide +kernel
theorem dX9_best_34 : decode cX9_best 34 = .ok (.invokestatic 69, 3) := by decide +kernel
theorem dX9_best_37 : decode cX9_best 37 = .ok (.ifCond .ne 6, 3) := by decide +kernel
theorem dX9_best_40 : decode cX9_best 40 = .ok (.bipush (-2), 2) := by decide +kernel
theorem dX9_best_42 : decode cX9_best 42 = .ok (.ireturn, 1) := by decide +kernel
theorem dX9_best_43 : decode cX9_best 43 = .ok (.iconst 0, 1) := by decide +kernel
theorem dX9_best_44 : decode cX9_best 44 = .ok (.istore 8, 2) := by decide +kernel
theorem dX9_best_46 : decode cX9_best 46 = .ok (.aload_n 0, 1) := by decide +kernel
theorem dX9_best_47 : decode cX9_best 47 = .ok (.aload 7, 2) := by decide +kernel
theorem dX9_best_49 : decode cX9_best 49 = .ok (.iload_n 2, 1) := by decide +kernel
theorem dX9_best_50 : decode cX9_best 50 = .ok (.iload_n 3, 1) := by decide +kernel
theorem dX9_best_51 : decode cX9_best 51 = .ok (.iload 4, 2) := by decide +kernel
theorem dX9_best_53 : decode cX9_best 53 = .ok (.iload 5, 2) := by decide +kernel
theorem dX9_best_55 : decode cX9_best 55 = .ok (.iload 6, 2) := by decide +kernel
theorem dX9_best_57 : decode cX9_best 57 = .ok (.iconst 0, 1) := by decide +kernel
theorem dX9_best_58 : decode cX9_best 58 = .ok (.invokevirtual 268, 3) := by decide +kernel
theorem dX9_best_61 : decode cX9_best 61 = .ok (.istore 9, 2) := by decide +kernel
theorem dX9_best_63 : decode cX9_best 63 = .ok (.iconst 1, 1) := by decide +kernel
theorem dX9_best_64 : decode cX9_best 64 = .ok (.istore 10, 2) := by decide +kernel
theorem dX9_best_66 : decode cX9_best 66 = .ok (.iload 10, 2) := by decide +kernel
theorem dX9_best_68 : decode cX9_best 68 = .ok (.iconst 4, 1) := by decide +kernel
theorem dX9_best_69 : decode cX9_best 69 = .ok (.if_icmp .ge 42, 3) := by decide +kernel
theorem dX9_best_72 : decode cX9_best 72 = .ok (.aload_n 0, 1) := by decide +kernel
theorem dX9_best_73 : decode cX9_best 73 = .ok (.aload 7, 2) := by decide +kernel
theorem dX9_best_75 : decode cX9_best 75 = .ok (.iload_n 2, 1) := by decide +kernel
theorem dX9_best_76 : decode cX9_best 76 = .ok (.iload_n 3, 1) := by decide +kernel
theorem dX9_best_77 : decode cX9_best 77 = .ok (.iload 4, 2) := by decide +kernel
theorem dX9_best_79 : decode cX9_best 79 = .ok (.iload 5, 2) := by decide +kernel
theorem dX9_best_81 : decode cX9_best 81 = .ok (.iload 6, 2) := by decide +kernel
theorem dX9_best_83 : decode cX9_best 83 = .ok (.iload 10, 2) := by decide +kernel
theorem dX9_best_85 : decode cX9_best 85 = .ok (.invokevirtual 268, 3) := by decide +kernel
theorem dX9_best_88 : decode cX9_best 88 = .ok (.istore 11, 2) := by decide +kernel
theorem dX9_best_90 : decode cX9_best 90 = .ok (.iload 11, 2) := by decide +kernel
theorem dX9_best_92 : decode cX9_best 92 = .ok (.iload 9, 2) := by decide +kernel
theorem dX9_best_94 : decode cX9_best 94 = .ok (.if_icmp .ge 11, 3) := by decide +kernel
theorem dX9_best_97 : decode cX9_best 97 = .ok (.iload 11, 2) := by decide +kernel
theorem dX9_best_99 : decode cX9_best 99 = .ok (.istore 9, 2) := by decide +kernel
theorem dX9_best_101 : decode cX9_best 101 = .ok (.iload 10, 2) := by decide +kernel
theorem dX9_best_103 : decode cX9_best 103 = .ok (.istore 8, 2) := by decide +kernel
theorem dX9_best_105 : decode cX9_best 105 = .ok (.iinc 10 1, 3) := by decide +kernel
theorem dX9_best_108 : decode cX9_best 108 = .ok (.goto (-42), 3) := by decide +kernel
theorem dX9_best_111 : decode cX9_best 111 = .ok (.iload 8, 2) := by decide +kernel
theorem dX9_best_113 : decode cX9_best 113 = .ok (.ireturn, 1) := by decide +kernel
theorem dX9_image_0 : decode cX9_image 0 = .ok (.iload_n 1, 1) := by decide +kernel
theorem dX9_image_1 : decode cX9_image 1 = .ok (.invokestatic 272, 3) := by decide +kernel
theorem dX9_image_4 : decode cX9_image 4 = .ok (.ifCond .ne 6, 3) := by decide +kernel
theorem dX9_image_7 : decode cX9_image 7 = .ok (.bipush (-2), 2) := by decide +kernel
theorem dX9_image_9 : decode cX9_image 9 = .ok (.ireturn, 1) := by decide +kernel
theorem dX9_image_10 : decode cX9_image 10 = .ok (.aload_n 0, 1) := by decide +kernel
theorem dX9_image_11 : decode cX9_image 11 = .ok (.getfield 23, 3) := by decide +kernel
theorem dX9_image_14 : decode cX9_image 14 = .ok (.iload_n 1, 1) := by decide +kernel
theorem dX9_image_15 : decode cX9_image 15 = .ok (.aaload, 1) := by decide +kernel
theorem dX9_image_16 : decode cX9_image 16 = .ok (.aload_n 0, 1) := by decide +kernel
theorem dX9_image_17 : decode cX9_image 17 = .ok (.getfield 19, 3) := by decide +kernel
theorem dX9_image_20 : decode cX9_image 20 = .ok (.invokevirtual 275, 3) := by decide +kernel
theorem dX9_image_23 : decode cX9_image 23 = .ok (.aload_n 0, 1) := by decide +kernel
theorem dX9_image_24 : decode cX9_image 24 = .ok (.getfield 27, 3) := by decide +kernel
theorem dX9_image_27 : decode cX9_image 27 = .ok (.iload_n 1, 1) := by decide +kernel
theorem dX9_image_28 : decode cX9_image 28 = .ok (.iconst 1, 1) := by decide +kernel
theorem dX9_image_29 : decode cX9_image 29 = .ok (.bastore, 1) := by decide +kernel
theorem dX9_image_30 : decode cX9_image 30 = .ok (.iconst 1, 1) := by decide +kernel
theorem dX9_image_31 : decode cX9_image 31 = .ok (.ireturn, 1) := by decide +kernel
theorem dX9_restore_0 : decode cX9_restore 0 = .ok (.iload_n 1, 1) := by decide +kernel
theorem dX9_restore_1 : decode cX9_restore 1 = .ok (.invokestatic 272, 3) := by decide +kernel
theorem dX9_restore_4 : decode cX9_restore 4 = .ok (.ifCond .ne 6, 3) := by decide +kernel
theorem dX9_restore_7 : decode cX9_restore 7 = .ok (.bipush (-2), 2) := by decide +kernel
theorem dX9_restore_9 : decode cX9_restore 9 = .ok (.ireturn, 1) := by decide +kernel
theorem dX9_restore_10 : decode cX9_restore 10 = .ok (.aload_n 0, 1) := by decide +kernel
theorem dX9_restore_11 : decode cX9_restore 11 = .ok (.getfield 27, 3) := by decide +kernel
theorem dX9_restore_14 : decode cX9_restore 14 = .ok (.iload_n 1, 1) := by decide +kernel
theorem dX9_restore_15 : decode cX9_restore 15 = .ok (.baload, 1) := by decide +kernel
theorem dX9_restore_16 : decode cX9_restore 16 = .ok (.ifCond .ne 6, 3) := by decide +kernel
theorem dX9_restore_19 : decode cX9_restore 19 = .ok (.bipush (-3), 2) := by decide +kernel
theorem dX9_restore_21 : decode cX9_restore 21 = .ok (.ireturn, 1) := by decide +kernel
theorem dX9_restore_22 : decode cX9_restore 22 = .ok (.aload_n 0, 1) := by decide +kernel
theorem dX9_restore_23 : decode cX9_restore 23 = .ok (.getfield 19, 3) := by decide +kernel
theorem dX9_restore_26 : decode cX9_restore 26 = .ok (.aload_n 0, 1) := by decide +kernel
theorem dX9_restore_27 : decode cX9_restore 27 = .ok (.getfield 23, 3) := by decide +kernel
theorem dX9_restore_30 : decode cX9_restore 30 = .ok (.iload_n 1, 1) := by decide +kernel
theorem dX9_restore_31 : decode cX9_restore 31 = .ok (.aaload, 1) := by decide +kernel
theorem dX9_restore_32 : decode cX9_restore 32 = .ok (.invokevirtual 275, 3) := by decide +kernel
theorem dX9_restore_35 : decode cX9_restore 35 = .ok (.iconst 1, 1) := by decide +kernel
theorem dX9_restore_36 : decode cX9_restore 36 = .ok (.ireturn, 1) := by decide +kernel
theorem dX9_told_0 : decode cX9_told 0 = .ok (.iload_n 1, 1) := by decide +kernel
theorem dX9_told_1 : decode cX9_told 1 = .ok (.ifCond .ne 11, 3) := by decide +kernel
theorem dX9_told_4 : decode cX9_told 4 = .ok (.aload_n 0, 1) := by decide +kernel
theorem dX9_told_5 : decode cX9_told 5 = .ok (.getfield 10, 3) := by decide +kernel
theorem dX9_told_8 : decode cX9_told 8 = .ok (.getfield 106, 3) := by decide +kernel
theorem dX9_told_11 : decode cX9_told 11 = .ok (.ireturn, 1) := by decide +kernel
theorem dX9_told_12 : decode cX9_told 12 = .ok (.iload_n 1, 1) := by decide +kernel
theorem dX9_told_13 : decode cX9_told 13 = .ok (.iconst 1, 1) := by decide +kernel
theorem dX9_told_14 : decode cX9_told 14 = .ok (.if_icmp .ne 14, 3) := by decide +kernel
theorem dX9_told_17 : decode cX9_told 17 = .ok (.aload_n 0, 1) := by decide +kernel
theorem dX9_told_18 : decode cX9_told 18 = .ok (.getfield 19, 3) := by decide +kernel
theorem dX9_told_21 : decode cX9_told 21 = .ok (.getfield 119, 3) := by decide +kernel
theorem dX9_told_24 : decode cX9_told 24 = .ok (.invokevirtual 129, 3) := by decide +kernel
theorem dX9_told_27 : decode cX9_told 27 = .ok (.ireturn, 1) := by decide +kernel
theorem dX9_told_28 : decode cX9_told 28 = .ok (.iload_n 1, 1) := by decide +kernel
theorem dX9_told_29 : decode cX9_told 29 = .ok (.iconst 2, 1) := by decide +kernel
theorem dX9_told_30 : decode cX9_told 30 = .ok (.if_icmp .ne 14, 3) := by decide +kernel
theorem dX9_told_33 : decode cX9_told 33 = .ok (.aload_n 0, 1) := by decide +kernel
theorem dX9_told_34 : decode cX9_told 34 = .ok (.getfield 19, 3) := by decide +kernel
theorem dX9_told_37 : decode cX9_told 37 = .ok (.getfield 122, 3) := by decide +kernel
theorem dX9_told_40 : decode cX9_told 40 = .ok (.invokevirtual 129, 3) := by decide +kernel
theorem dX9_told_43 : decode cX9_told 43 = .ok (.ireturn, 1) := by decide +kernel
theorem dX9_told_44 : decode cX9_told 44 = .ok (.iload_n 1, 1) := by decide +kernel
theorem dX9_told_45 : decode cX9_told 45 = .ok (.iconst 3, 1) := by decide +kernel
theorem dX9_told_46 : decode cX9_told 46 = .ok (.bipush 7, 2) := by decide +kernel
theorem dX9_told_48 : decode cX9_told 48 = .ok (.invokestatic 69, 3) := by decide +kernel
theorem dX9_told_51 : decode cX9_told 51 = .ok (.ifCond .eq 14, 3) := by decide +kernel
theorem dX9_told_54 : decode cX9_told 54 = .ok (.aload_n 0, 1) := by decide +kernel
theorem dX9_told_55 : decode cX9_told 55 = .ok (.getfield 19, 3) := by decide +kernel
theorem dX9_told_58 : decode cX9_told 58 = .ok (.iload_n 1, 1) := by decide +kernel
theorem dX9_told_59 : decode cX9_told 59 = .ok (.iconst 3, 1) := by decide +kernel
theorem dX9_told_60 : decode cX9_told 60 = .ok (.isub, 1) := by decide +kernel
theorem dX9_told_61 : decode cX9_told 61 = .ok (.invokevirtual 97, 3) := by decide +kernel
theorem dX9_told_64 : decode cX9_told 64 = .ok (.ireturn, 1) := by decide +kernel
theorem dX9_told_65 : decode cX9_told 65 = .ok (.iload_n 1, 1) := by decide +kernel
theorem dX9_told_66 : decode cX9_told 66 = .ok (.bipush 10, 2) := by decide +kernel
theorem dX9_told_68 : decode cX9_told 68 = .ok (.bipush 45, 2) := by decide +kernel
theorem dX9_told_70 : decode cX9_told 70 = .ok (.invokestatic 69, 3) := by decide +kernel
theorem dX9_told_73 : decode cX9_told 73 = .ok (.ifCond .eq 17, 3) := by decide +kernel
theorem dX9_told_76 : decode cX9_told 76 = .ok (.aload_n 0, 1) := by decide +kernel
theorem dX9_told_77 : decode cX9_told 77 = .ok (.getfield 19, 3) := by decide +kernel
theorem dX9_told_80 : decode cX9_told 80 = .ok (.iload_n 1, 1) := by decide +kernel
theorem dX9_told_81 : decode cX9_told 81 = .ok (.bipush 10, 2) := by decide +kernel
theorem dX9_told_83 : decode cX9_told 83 = .ok (.irem, 1) := by decide +kernel
theorem dX9_told_84 : decode cX9_told 84 = .ok (.invokevirtual 61, 3) := by decide +kernel
theorem dX9_told_87 : decode cX9_told 87 = .ok (.goto 4, 3) := by decide +kernel
theorem dX9_told_90 : decode cX9_told 90 = .ok (.aconst_null, 1) := by decide +kernel
theorem dX9_told_91 : decode cX9_told 91 = .ok (.astore_n 2, 1) := by decide +kernel
theorem dX9_told_92 : decode cX9_told 92 = .ok (.aload_n 2, 1) := by decide +kernel
theorem dX9_told_93 : decode cX9_told 93 = .ok (.ifnonnull 6, 3) := by decide +kernel
theorem dX9_told_96 : decode cX9_told 96 = .ok (.bipush (-2), 2) := by decide +kernel
theorem dX9_told_98 : decode cX9_told 98 = .ok (.ireturn, 1) := by decide +kernel
theorem dX9_told_99 : decode cX9_told 99 = .ok (.iload_n 1, 1) := by decide +kernel
theorem dX9_told_100 : decode cX9_told 100 = .ok (.bipush 20, 2) := by decide +kernel
theorem dX9_told_102 : decode cX9_told 102 = .ok (.if_icmp .ge 10, 3) := by decide +kernel
theorem dX9_told_105 : decode cX9_told 105 = .ok (.aload_n 2, 1) := by decide +kernel
theorem dX9_told_106 : decode cX9_told 106 = .ok (.getfield 205, 3) := by decide +kernel
theorem dX9_told_109 : decode cX9_told 109 = .ok (.goto 13, 3) := by decide +kernel
theorem dX9_told_112 : decode cX9_told 112 = .ok (.aload_n 2, 1) := by decide +kernel
theorem dX9_told_113 : decode cX9_told 113 = .ok (.iload_n 1, 1) := by decide +kernel
theorem dX9_told_114 : decode cX9_told 114 = .ok (.bipush 10, 2) := by decide +kernel
theorem dX9_told_116 : decode cX9_told 116 = .ok (.idiv, 1) := by decide +kernel
theorem dX9_told_117 : decode cX9_told 117 = .ok (.iconst 2, 1) := by decide +kernel
theorem dX9_told_118 : decode cX9_told 118 = .ok (.isub, 1) := by decide +kernel
theorem dX9_told_119 : decode cX9_told 119 = .ok (.invokevirtual 88, 3) := by decide +kernel
theorem dX9_told_122 : decode cX9_told 122 = .ok (.ireturn, 1) := by decide +kernel
theorem dX9_seekMiddle_0 : decode cX9_seekMiddle 0 = .ok (.aload_n 0, 1) := by decide +kernel
theorem dX9_seekMiddle_1 : decode cX9_seekMiddle 1 = .ok (.getfield 43, 3) := by decide +kernel
theorem dX9_seekMiddle_4 : decode cX9_seekMiddle 4 = .ok (.aload_n 1, 1) := by decide +kernel
theorem dX9_seekMiddle_5 : decode cX9_seekMiddle 5 = .ok (.iload_n 2, 1) := by decide +kernel
theorem dX9_seekMiddle_6 : decode cX9_seekMiddle 6 = .ok (.aload_n 0, 1) := by decide +kernel
theorem dX9_seekMiddle_7 : decode cX9_seekMiddle 7 = .ok (.getfield 19, 3) := by decide +kernel
theorem dX9_seekMiddle_10 : decode cX9_seekMiddle 10 = .ok (.aload_n 1, 1) := by decide +kernel
theorem dX9_seekMiddle_11 : decode cX9_seekMiddle 11 = .ok (.invokevirtual 133, 3) := by decide +kernel
theorem dX9_seekMiddle_14 : decode cX9_seekMiddle 14 = .ok (.aload_n 0, 1) := by decide +kernel
theorem dX9_seekMiddle_15 : decode cX9_seekMiddle 15 = .ok (.getfield 19, 3) := by decide +kernel
theorem dX9_seekMiddle_18 : decode cX9_seekMiddle 18 = .ok (.iconst 0, 1) := by decide +kernel
theorem dX9_seekMiddle_19 : decode cX9_seekMiddle 19 = .ok (.invokevirtual 97, 3) := by decide +kernel
theorem dX9_seekMiddle_22 : decode cX9_seekMiddle 22 = .ok (.invokevirtual 278, 3) := by decide +kernel
theorem dX9_seekMiddle_25 : decode cX9_seekMiddle 25 = .ok (.return_, 1) := by decide +kernel
theorem dX9_seekSpan_0 : decode cX9_seekSpan 0 = .ok (.aload_n 0, 1) := by decide +kernel
theorem dX9_seekSpan_1 : decode cX9_seekSpan 1 = .ok (.getfield 43, 3) := by decide +kernel
theorem dX9_seekSpan_4 : decode cX9_seekSpan 4 = .ok (.aload_n 1, 1) := by decide +kernel
theorem dX9_seekSpan_5 : decode cX9_seekSpan 5 = .ok (.iload_n 2, 1) := by decide +kernel
theorem dX9_seekSpan_6 : decode cX9_seekSpan 6 = .ok (.aload_n 0, 1) := by decide +kernel
theorem dX9_seekSpan_7 : decode cX9_seekSpan 7 = .ok (.getfield 19, 3) := by decide +kernel
theorem dX9_seekSpan_10 : decode cX9_seekSpan 10 = .ok (.aload_n 1, 1) := by decide +kernel
theorem dX9_seekSpan_11 : decode cX9_seekSpan 11 = .ok (.invokevirtual 133, 3) := by decide +kernel
theorem dX9_seekSpan_14 : decode cX9_seekSpan 14 = .ok (.aload_n 0, 1) := by decide +kernel
theorem dX9_seekSpan_15 : decode cX9_seekSpan 15 = .ok (.getfield 19, 3) := by decide +kernel
theorem dX9_seekSpan_18 : decode cX9_seekSpan 18 = .ok (.iconst 0, 1) := by decide +kernel
theorem dX9_seekSpan_19 : decode cX9_seekSpan 19 = .ok (.invokevirtual 97, 3) := by decide +kernel
theorem dX9_seekSpan_22 : decode cX9_seekSpan 22 = .ok (.iload_n 3, 1) := by decide +kernel
theorem dX9_seekSpan_23 : decode cX9_seekSpan 23 = .ok (.invokevirtual 281, 3) := by decide +kernel
theorem dX9_seekSpan_26 : decode cX9_seekSpan 26 = .ok (.return_, 1) := by decide +kernel
theorem dX9_offBy_0 : decode cX9_offBy 0 = .ok (.aload_n 0, 1) := by decide +kernel
theorem dX9_offBy_1 : decode cX9_offBy 1 = .ok (.getfield 57, 3) := by decide +kernel
theorem dX9_offBy_4 : decode cX9_offBy 4 = .ok (.aload_n 1, 1) := by decide +kernel
theorem dX9_offBy_5 : decode cX9_offBy 5 = .ok (.invokevirtual 284, 3) := by decide +kernel
theorem dX9_offBy_8 : decode cX9_offBy 8 = .ok (.iconst 0, 1) := by decide +kernel
theorem dX9_offBy_9 : decode cX9_offBy 9 = .ok (.istore 8, 2) := by decide +kernel
theorem dX9_offBy_11 : decode cX9_offBy 11 = .ok (.iconst 0, 1) := by decide +kernel
theorem dX9_offBy_12 : decode cX9_offBy 12 = .ok (.istore 9, 2) := by decide +kernel
theorem dX9_offBy_14 : decode cX9_offBy 14 = .ok (.iload 9, 2) := by decide +kernel
theorem dX9_offBy_16 : decode cX9_offBy 16 = .ok (.iload 6, 2) := by decide +kernel
theorem dX9_offBy_18 : decode cX9_offBy 18 = .ok (.if_icmp .ge 67, 3) := by decide +kernel
theorem dX9_offBy_21 : decode cX9_offBy 21 = .ok (.aload_n 0, 1) := by decide +kernel
theorem dX9_offBy_22 : decode cX9_offBy 22 = .ok (.getfield 50, 3) := by decide +kernel
theorem dX9_offBy_25 : decode cX9_offBy 25 = .ok (.aload_n 0, 1) := by decide +kernel
theorem dX9_offBy_26 : decode cX9_offBy 26 = .ok (.getfield 57, 3) := by decide +kernel
theorem dX9_offBy_29 : decode cX9_offBy 29 = .ok (.aload_n 0, 1) := by decide +kernel
theorem dX9_offBy_30 : decode cX9_offBy 30 = .ok (.getfield 19, 3) := by decide +kernel
theorem dX9_offBy_33 : decode cX9_offBy 33 = .ok (.iload_n 2, 1) := by decide +kernel
theorem dX9_offBy_34 : decode cX9_offBy 34 = .ok (.iload 9, 2) := by decide +kernel
theorem dX9_offBy_36 : decode cX9_offBy 36 = .ok (.iadd, 1) := by decide +kernel
theorem dX9_offBy_37 : decode cX9_offBy 37 = .ok (.iload_n 3, 1) := by decide +kernel
theorem dX9_offBy_38 : decode cX9_offBy 38 = .ok (.iload 4, 2) := by decide +kernel
theorem dX9_offBy_40 : decode cX9_offBy 40 = .ok (.iload 5, 2) := by decide +kernel
theorem dX9_offBy_42 : decode cX9_offBy 42 = .ok (.invokevirtual 264, 3) := by decide +kernel
theorem dX9_offBy_45 : decode cX9_offBy 45 = .ok (.istore 10, 2) := by decide +kernel
theorem dX9_offBy_47 : decode cX9_offBy 47 = .ok (.iload 8, 2) := by decide +kernel
theorem dX9_offBy_49 : decode cX9_offBy 49 = .ok (.iload 10, 2) := by decide +kernel
theorem dX9_offBy_51 : decode cX9_offBy 51 = .ok (.ifCond .ne 8, 3) := by decide +kernel
theorem dX9_offBy_54 : decode cX9_offBy 54 = .ok (.bipush 63, 2) := by decide +kernel
theorem dX9_offBy_56 : decode cX9_offBy 56 = .ok (.goto 20, 3) := by decide +kernel
theorem dX9_offBy_59 : decode cX9_offBy 59 = .ok (.aload_n 0, 1) := by decide +kernel
theorem dX9_offBy_60 : decode cX9_offBy 60 = .ok (.aload_n 0, 1) := by decide +kernel
theorem dX9_offBy_61 : decode cX9_offBy 61 = .ok (.getfield 57, 3) := by decide +kernel
theorem dX9_offBy_64 : decode cX9_offBy 64 = .ok (.iload 4, 2) := by decide +kernel
theorem dX9_offBy_66 : decode cX9_offBy 66 = .ok (.iload 7, 2) := by decide +kernel
theorem dX9_offBy_68 : decode cX9_offBy 68 = .ok (.invokevirtual 288, 3) := by decide +kernel
theorem dX9_offBy_71 : decode cX9_offBy 71 = .ok (.iload_n 3, 1) := by decide +kernel
theorem dX9_offBy_72 : decode cX9_offBy 72 = .ok (.isub, 1) := by decide +kernel
theorem dX9_offBy_73 : decode cX9_offBy 73 = .ok (.invokestatic 292, 3) := by decide +kernel
theorem dX9_offBy_76 : decode cX9_offBy 76 = .ok (.iadd, 1) := by decide +kernel
theorem dX9_offBy_77 : decode cX9_offBy 77 = .ok (.istore 8, 2) := by decide +kernel
theorem dX9_offBy_79 : decode cX9_offBy 79 = .ok (.iinc 9 1, 3) := by decide +kernel
theorem dX9_offBy_82 : decode cX9_offBy 82 = .ok (.goto (-68), 3) := by decide +kernel
theorem dX9_offBy_85 : decode cX9_offBy 85 = .ok (.iload 8, 2) := by decide +kernel
theorem dX9_offBy_87 : decode cX9_offBy 87 = .ok (.ireturn, 1) := by decide +kernel
theorem dX9_undone_0 : decode cX9_undone 0 = .ok (.iload_n 3, 1) := by decide +kernel
theorem dX9_undone_1 : decode cX9_undone 1 = .ok (.tableswitch 70 0 2 #[27, 51, 56], 27) := by decide +kernel
theorem dX9_undone_28 : decode cX9_undone 28 = .ok (.aload_n 1, 1) := by decide +kernel
theorem dX9_undone_29 : decode cX9_undone 29 = .ok (.getfield 205, 3) := by decide +kernel
theorem dX9_undone_32 : decode cX9_undone 32 = .ok (.ifCond .ne 7, 3) := by decide +kernel
theorem dX9_undone_35 : decode cX9_undone 35 = .ok (.iconst 0, 1) := by decide +kernel
theorem dX9_undone_36 : decode cX9_undone 36 = .ok (.goto 15, 3) := by decide +kernel
theorem dX9_undone_39 : decode cX9_undone 39 = .ok (.aload_n 1, 1) := by decide +kernel
theorem dX9_undone_40 : decode cX9_undone 40 = .ok (.iconst 0, 1) := by decide +kernel
theorem dX9_undone_41 : decode cX9_undone 41 = .ok (.invokevirtual 253, 3) := by decide +kernel
theorem dX9_undone_44 : decode cX9_undone 44 = .ok (.aload_n 1, 1) := by decide +kernel
theorem dX9_undone_45 : decode cX9_undone 45 = .ok (.getfield 205, 3) := by decide +kernel
theorem dX9_undone_48 : decode cX9_undone 48 = .ok (.i2l, 1) := by decide +kernel
theorem dX9_undone_49 : decode cX9_undone 49 = .ok (.ldiv, 1) := by decide +kernel
theorem dX9_undone_50 : decode cX9_undone 50 = .ok (.l2i, 1) := by decide +kernel
theorem dX9_undone_51 : decode cX9_undone 51 = .ok (.ireturn, 1) := by decide +kernel
theorem dX9_undone_52 : decode cX9_undone 52 = .ok (.aload_n 1, 1) := by decide +kernel
theorem dX9_undone_53 : decode cX9_undone 53 = .ok (.invokevirtual 256, 3) := by decide +kernel
theorem dX9_undone_56 : decode cX9_undone 56 = .ok (.ireturn, 1) := by decide +kernel
theorem dX9_undone_57 : decode cX9_undone 57 = .ok (.aload_n 0, 1) := by decide +kernel
theorem dX9_undone_58 : decode cX9_undone 58 = .ok (.aload_n 1, 1) := by decide +kernel
theorem dX9_undone_59 : decode cX9_undone 59 = .ok (.iload_n 2, 1) := by decide +kernel
theorem dX9_undone_60 : decode cX9_undone 60 = .ok (.invokevirtual 167, 3) := by decide +kernel
theorem dX9_undone_63 : decode cX9_undone 63 = .ok (.aload_n 0, 1) := by decide +kernel
theorem dX9_undone_64 : decode cX9_undone 64 = .ok (.getfield 43, 3) := by decide +kernel
theorem dX9_undone_67 : decode cX9_undone 67 = .ok (.getfield 171, 3) := by decide +kernel
theorem dX9_undone_70 : decode cX9_undone 70 = .ok (.ireturn, 1) := by decide +kernel
theorem dX9_undone_71 : decode cX9_undone 71 = .ok (.aload_n 0, 1) := by decide +kernel
theorem dX9_undone_72 : decode cX9_undone 72 = .ok (.getfield 43, 3) := by decide +kernel
theorem dX9_undone_75 : decode cX9_undone 75 = .ok (.aload_n 1, 1) := by decide +kernel
theorem dX9_undone_76 : decode cX9_undone 76 = .ok (.iload_n 2, 1) := by decide +kernel
theorem dX9_undone_77 : decode cX9_undone 77 = .ok (.aload_n 0, 1) := by decide +kernel
theorem dX9_undone_78 : decode cX9_undone 78 = .ok (.getfield 19, 3) := by decide +kernel
theorem dX9_undone_81 : decode cX9_undone 81 = .ok (.iconst 0, 1) := by decide +kernel
theorem dX9_undone_82 : decode cX9_undone 82 = .ok (.invokevirtual 97, 3) := by decide +kernel
theorem dX9_undone_85 : decode cX9_undone 85 = .ok (.invokevirtual 187, 3) := by decide +kernel
theorem dX9_undone_88 : decode cX9_undone 88 = .ok (.aload_n 0, 1) := by decide +kernel
theorem dX9_undone_89 : decode cX9_undone 89 = .ok (.getfield 43, 3) := by decide +kernel
theorem dX9_undone_92 : decode cX9_undone 92 = .ok (.getfield 171, 3) := by decide +kernel
theorem dX9_undone_95 : decode cX9_undone 95 = .ok (.ireturn, 1) := by decide +kernel
theorem dX9_within_0 : decode cX9_within 0 = .ok (.iload_n 0, 1) := by decide +kernel
theorem dX9_within_1 : decode cX9_within 1 = .ok (.iload_n 1, 1) := by decide +kernel
theorem dX9_within_2 : decode cX9_within 2 = .ok (.if_icmp .lt 12, 3) := by decide +kernel
theorem dX9_within_5 : decode cX9_within 5 = .ok (.iload_n 0, 1) := by decide +kernel
theorem dX9_within_6 : decode cX9_within 6 = .ok (.iload_n 2, 1) := by decide +kernel
theorem dX9_within_7 : decode cX9_within 7 = .ok (.if_icmp .gt 7, 3) := by decide +kernel
theorem dX9_within_10 : decode cX9_within 10 = .ok (.iconst 1, 1) := by decide +kernel
theorem dX9_within_11 : decode cX9_within 11 = .ok (.goto 4, 3) := by decide +kernel
theorem dX9_within_14 : decode cX9_within 14 = .ok (.iconst 0, 1) := by decide +kernel
theorem dX9_within_15 : decode cX9_within 15 = .ok (.ireturn, 1) := by decide +kernel
theorem dX9_isHeight_0 : decode cX9_isHeight 0 = .ok (.iload_n 0, 1) := by decide +kernel
theorem dX9_isHeight_1 : decode cX9_isHeight 1 = .ok (.iconst 0, 1) := by decide +kernel
theorem dX9_isHeight_2 : decode cX9_isHeight 2 = .ok (.bipush 63, 2) := by decide +kernel
theorem dX9_isHeight_4 : decode cX9_isHeight 4 = .ok (.invokestatic 69, 3) := by decide +kernel
theorem dX9_isHeight_7 : decode cX9_isHeight 7 = .ok (.ireturn, 1) := by decide +kernel
theorem dX9_isWidth_0 : decode cX9_isWidth 0 = .ok (.iload_n 0, 1) := by decide +kernel
theorem dX9_isWidth_1 : decode cX9_isWidth 1 = .ok (.iconst 1, 1) := by decide +kernel
theorem dX9_isWidth_2 : decode cX9_isWidth 2 = .ok (.bipush 8, 2) := by decide +kernel
theorem dX9_isWidth_4 : decode cX9_isWidth 4 = .ok (.invokestatic 69, 3) := by decide +kernel
theorem dX9_isWidth_7 : decode cX9_isWidth 7 = .ok (.ireturn, 1) := by decide +kernel
theorem dX9_isHump_0 : decode cX9_isHump 0 = .ok (.iload_n 0, 1) := by decide +kernel
theorem dX9_isHump_1 : decode cX9_isHump 1 = .ok (.invokestatic 65, 3) := by decide +kernel
theorem dX9_isHump_4 : decode cX9_isHump 4 = .ok (.ifCond .eq 14, 3) := by decide +kernel
theorem dX9_isHump_7 : decode cX9_isHump 7 = .ok (.iload_n 1, 1) := by decide +kernel
theorem dX9_isHump_8 : decode cX9_isHump 8 = .ok (.invokestatic 164, 3) := by decide +kernel
theorem dX9_isHump_11 : decode cX9_isHump 11 = .ok (.ifCond .eq 7, 3) := by decide +kernel
theorem dX9_isHump_14 : decode cX9_isHump 14 = .ok (.iconst 1, 1) := by decide +kernel
theorem dX9_isHump_15 : decode cX9_isHump 15 = .ok (.goto 4, 3) := by decide +kernel
theorem dX9_isHump_18 : decode cX9_isHump 18 = .ok (.iconst 0, 1) := by decide +kernel
theorem dX9_isHump_19 : decode cX9_isHump 19 = .ok (.ireturn, 1) := by decide +kernel
theorem dX9_isPart_0 : decode cX9_isPart 0 = .ok (.iload_n 0, 1) := by decide +kernel
theorem dX9_isPart_1 : decode cX9_isPart 1 = .ok (.iconst 0, 1) := by decide +kernel
theorem dX9_isPart_2 : decode cX9_isPart 2 = .ok (.iconst 1, 1) := by decide +kernel
theorem dX9_isPart_3 : decode cX9_isPart 3 = .ok (.invokestatic 69, 3) := by decide +kernel
theorem dX9_isPart_6 : decode cX9_isPart 6 = .ok (.ireturn, 1) := by decide +kernel
theorem dX9_isShare_0 : decode cX9_isShare 0 = .ok (.iload_n 0, 1) := by decide +kernel
theorem dX9_isShare_1 : decode cX9_isShare 1 = .ok (.iconst 0, 1) := by decide +kernel
theorem dX9_isShare_2 : decode cX9_isShare 2 = .ok (.bipush 100, 2) := by decide +kernel
theorem dX9_isShare_4 : decode cX9_isShare 4 = .ok (.invokestatic 69, 3) := by decide +kernel
theorem dX9_isShare_7 : decode cX9_isShare 7 = .ok (.ireturn, 1) := by decide +kernel
theorem dX9_areShares_0 : decode cX9_areShares 0 = .ok (.iload_n 0, 1) := by decide +kernel
theorem dX9_areShares_1 : decode cX9_areShares 1 = .ok (.sipush 1000, 3) := by decide +kernel
theorem dX9_areShares_4 : decode cX9_areShares 4 = .ok (.idiv, 1) := by decide +kernel
theorem dX9_areShares_5 : decode cX9_areShares 5 = .ok (.istore_n 1, 1) := by decide +kernel
theorem dX9_areShares_6 : decode cX9_areShares 6 = .ok (.iload_n 0, 1) := by decide +kernel
theorem dX9_areShares_7 : decode cX9_areShares 7 = .ok (.sipush 1000, 3) := by decide +kernel
theorem dX9_areShares_10 : decode cX9_areShares 10 = .ok (.irem, 1) := by decide +kernel
theorem dX9_areShares_11 : decode cX9_areShares 11 = .ok (.istore_n 2, 1) := by decide +kernel
theorem dX9_areShares_12 : decode cX9_areShares 12 = .ok (.iload_n 0, 1) := by decide +kernel
theorem dX9_areShares_13 : decode cX9_areShares 13 = .ok (.ifCond .lt 18, 3) := by decide +kernel
theorem dX9_areShares_16 : decode cX9_areShares 16 = .ok (.iload_n 1, 1) := by decide +kernel
theorem dX9_areShares_17 : decode cX9_areShares 17 = .ok (.iload_n 2, 1) := by decide +kernel
theorem dX9_areShares_18 : decode cX9_areShares 18 = .ok (.if_icmp .gt 13, 3) := by decide +kernel
theorem dX9_areShares_21 : decode cX9_areShares 21 = .ok (.iload_n 2, 1) := by decide +kernel
theorem dX9_areShares_22 : decode cX9_areShares 22 = .ok (.bipush 100, 2) := by decide +kernel
theorem dX9_areShares_24 : decode cX9_areShares 24 = .ok (.if_icmp .gt 7, 3) := by decide +kernel
theorem dX9_areShares_27 : decode cX9_areShares 27 = .ok (.iconst 1, 1) := by decide +kernel
theorem dX9_areShares_28 : decode cX9_areShares 28 = .ok (.goto 4, 3) := by decide +kernel
theorem dX9_areShares_31 : decode cX9_areShares 31 = .ok (.iconst 0, 1) := by decide +kernel
theorem dX9_areShares_32 : decode cX9_areShares 32 = .ok (.ireturn, 1) := by decide +kernel
theorem dX9_areSorts_0 : decode cX9_areSorts 0 = .ok (.iload_n 0, 1) := by decide +kernel
theorem dX9_areSorts_1 : decode cX9_areSorts 1 = .ok (.iload_n 2, 1) := by decide +kernel
theorem dX9_areSorts_2 : decode cX9_areSorts 2 = .ok (.invokestatic 137, 3) := by decide +kernel
theorem dX9_areSorts_5 : decode cX9_areSorts 5 = .ok (.ifCond .eq 21, 3) := by decide +kernel
theorem dX9_areSorts_8 : decode cX9_areSorts 8 = .ok (.iload_n 1, 1) := by decide +kernel
theorem dX9_areSorts_9 : decode cX9_areSorts 9 = .ok (.invokestatic 65, 3) := by decide +kernel
theorem dX9_areSorts_12 : decode cX9_areSorts 12 = .ok (.ifCond .eq 14, 3) := by decide +kernel
theorem dX9_areSorts_15 : decode cX9_areSorts 15 = .ok (.iload_n 3, 1) := by decide +kernel
theorem dX9_areSorts_16 : decode cX9_areSorts 16 = .ok (.invokestatic 65, 3) := by decide +kernel
theorem dX9_areSorts_19 : decode cX9_areSorts 19 = .ok (.ifCond .eq 7, 3) := by decide +kernel
theorem dX9_areSorts_22 : decode cX9_areSorts 22 = .ok (.iconst 1, 1) := by decide +kernel
theorem dX9_areSorts_23 : decode cX9_areSorts 23 = .ok (.goto 4, 3) := by decide +kernel
theorem dX9_areSorts_26 : decode cX9_areSorts 26 = .ok (.iconst 0, 1) := by decide +kernel
theorem dX9_areSorts_27 : decode cX9_areSorts 27 = .ok (.ireturn, 1) := by decide +kernel
theorem dX9_isWorld_0 : decode cX9_isWorld 0 = .ok (.iload_n 0, 1) := by decide +kernel
theorem dX9_isWorld_1 : decode cX9_isWorld 1 = .ok (.iconst 0, 1) := by decide +kernel
theorem dX9_isWorld_2 : decode cX9_isWorld 2 = .ok (.sipush 9999, 3) := by decide +kernel
theorem dX9_isWorld_5 : decode cX9_isWorld 5 = .ok (.invokestatic 69, 3) := by decide +kernel
theorem dX9_isWorld_8 : decode cX9_isWorld 8 = .ok (.ifCond .eq 26, 3) := by decide +kernel
theorem dX9_isWorld_11 : decode cX9_isWorld 11 = .ok (.iload_n 1, 1) := by decide +kernel
theorem dX9_isWorld_12 : decode cX9_isWorld 12 = .ok (.iload_n 2, 1) := by decide +kernel
theorem dX9_isWorld_13 : decode cX9_isWorld 13 = .ok (.invokestatic 137, 3) := by decide +kernel
theorem dX9_isWorld_16 : decode cX9_isWorld 16 = .ok (.ifCond .eq 18, 3) := by decide +kernel
theorem dX9_isWorld_19 : decode cX9_isWorld 19 = .ok (.iload_n 3, 1) := by decide +kernel
theorem dX9_isWorld_20 : decode cX9_isWorld 20 = .ok (.iconst 1, 1) := by decide +kernel
theorem dX9_isWorld_21 : decode cX9_isWorld 21 = .ok (.sipush 200, 3) := by decide +kernel
theorem dX9_isWorld_24 : decode cX9_isWorld 24 = .ok (.invokestatic 69, 3) := by decide +kernel
theorem dX9_isWorld_27 : decode cX9_isWorld 27 = .ok (.ifCond .eq 7, 3) := by decide +kernel
theorem dX9_isWorld_30 : decode cX9_isWorld 30 = .ok (.iconst 1, 1) := by decide +kernel
theorem dX9_isWorld_31 : decode cX9_isWorld 31 = .ok (.goto 4, 3) := by decide +kernel
theorem dX9_isWorld_34 : decode cX9_isWorld 34 = .ok (.iconst 0, 1) := by decide +kernel
theorem dX9_isWorld_35 : decode cX9_isWorld 35 = .ok (.ireturn, 1) := by decide +kernel
theorem dX9_isImage_0 : decode cX9_isImage 0 = .ok (.iload_n 0, 1) := by decide +kernel
theorem dX9_isImage_1 : decode cX9_isImage 1 = .ok (.iconst 0, 1) := by decide +kernel
theorem dX9_isImage_2 : decode cX9_isImage 2 = .ok (.iconst 1, 1) := by decide +kernel
theorem dX9_isImage_3 : decode cX9_isImage 3 = .ok (.invokestatic 69, 3) := by decide +kernel
theorem dX9_isImage_6 : decode cX9_isImage 6 = .ok (.ireturn, 1) := by decide +kernel
theorem dX9_nearestInch_0 : decode cX9_nearestInch 0 = .ok (.iload_n 0, 1) := by decide +kernel
theorem dX9_nearestInch_1 : decode cX9_nearestInch 1 = .ok (.iconst 4, 1) := by decide +kernel
theorem dX9_nearestInch_2 : decode cX9_nearestInch 2 = .ok (.irem, 1) := by decide +kernel
theorem dX9_nearestInch_3 : decode cX9_nearestInch 3 = .ok (.istore_n 1, 1) := by decide +kernel
theorem dX9_nearestInch_4 : decode cX9_nearestInch 4 = .ok (.iload_n 1, 1) := by decide +kernel
theorem dX9_nearestInch_5 : decode cX9_nearestInch 5 = .ok (.iconst 2, 1) := by decide +kernel
theorem dX9_nearestInch_6 : decode cX9_nearestInch 6 = .ok (.if_icmp .gt 9, 3) := by decide +kernel
theorem dX9_nearestInch_9 : decode cX9_nearestInch 9 = .ok (.iload_n 0, 1) := by decide +kernel
theorem dX9_nearestInch_10 : decode cX9_nearestInch 10 = .ok (.iload_n 1, 1) := by decide +kernel
theorem dX9_nearestInch_11 : decode cX9_nearestInch 11 = .ok (.isub, 1) := by decide +kernel
theorem dX9_nearestInch_12 : decode cX9_nearestInch 12 = .ok (.goto 13, 3) := by decide +kernel
theorem dX9_nearestInch_15 : decode cX9_nearestInch 15 = .ok (.bipush 63, 2) := by decide +kernel
theorem dX9_nearestInch_17 : decode cX9_nearestInch 17 = .ok (.iload_n 0, 1) := by decide +kernel
theorem dX9_nearestInch_18 : decode cX9_nearestInch 18 = .ok (.iload_n 1, 1) := by decide +kernel
theorem dX9_nearestInch_19 : decode cX9_nearestInch 19 = .ok (.isub, 1) := by decide +kernel
theorem dX9_nearestInch_20 : decode cX9_nearestInch 20 = .ok (.iconst 4, 1) := by decide +kernel
theorem dX9_nearestInch_21 : decode cX9_nearestInch 21 = .ok (.iadd, 1) := by decide +kernel
theorem dX9_nearestInch_22 : decode cX9_nearestInch 22 = .ok (.invokestatic 297, 3) := by decide +kernel
theorem dX9_nearestInch_25 : decode cX9_nearestInch 25 = .ok (.ireturn, 1) := by decide +kernel
theorem dX9_tellFall_0 : decode cX9_tellFall 0 = .ok (.aload_n 0, 1) := by decide +kernel
theorem dX9_tellFall_1 : decode cX9_tellFall 1 = .ok (.iload_n 1, 1) := by decide +kernel
theorem dX9_tellFall_2 : decode cX9_tellFall 2 = .ok (.iload_n 2, 1) := by decide +kernel
theorem dX9_tellFall_3 : decode cX9_tellFall 3 = .ok (.invokevirtual 300, 3) := by decide +kernel
theorem dX9_tellFall_6 : decode cX9_tellFall 6 = .ok (.aload_n 0, 1) := by decide +kernel
theorem dX9_tellFall_7 : decode cX9_tellFall 7 = .ok (.iload_n 1, 1) := by decide +kernel
theorem dX9_tellFall_8 : decode cX9_tellFall 8 = .ok (.invokevirtual 237, 3) := by decide +kernel
theorem dX9_tellFall_11 : decode cX9_tellFall 11 = .ok (.aload_n 0, 1) := by decide +kernel
theorem dX9_tellFall_12 : decode cX9_tellFall 12 = .ok (.iload_n 2, 1) := by decide +kernel
theorem dX9_tellFall_13 : decode cX9_tellFall 13 = .ok (.invokevirtual 237, 3) := by decide +kernel
theorem dX9_tellFall_16 : decode cX9_tellFall 16 = .ok (.lmul, 1) := by decide +kernel
theorem dX9_tellFall_17 : decode cX9_tellFall 17 = .ok (.iload_n 3, 1) := by decide +kernel
theorem dX9_tellFall_18 : decode cX9_tellFall 18 = .ok (.invokestatic 153, 3) := by decide +kernel
theorem dX9_tellFall_21 : decode cX9_tellFall 21 = .ok (.lreturn, 1) := by decide +kernel
theorem dX9_tell_0 : decode cX9_tell 0 = .ok (.lload_n 0, 1) := by decide +kernel
theorem dX9_tell_1 : decode cX9_tell 1 = .ok (.lconst 0, 1) := by decide +kernel
theorem dX9_tell_2 : decode cX9_tell 2 = .ok (.lcmp, 1) := by decide +kernel
theorem dX9_tell_3 : decode cX9_tell 3 = .ok (.ifCond .eq 9, 3) := by decide +kernel
theorem dX9_tell_6 : decode cX9_tell 6 = .ok (.lload_n 2, 1) := by decide +kernel
theorem dX9_tell_7 : decode cX9_tell 7 = .ok (.lconst 0, 1) := by decide +kernel
theorem dX9_tell_8 : decode cX9_tell 8 = .ok (.lcmp, 1) := by decide +kernel
theorem dX9_tell_9 : decode cX9_tell 9 = .ok (.ifCond .gt 14, 3) := by decide +kernel
theorem dX9_tell_12 : decode cX9_tell 12 = .ok (.iload 4, 2) := by decide +kernel
theorem dX9_tell_14 : decode cX9_tell 14 = .ok (.ifCond .ne 7, 3) := by decide +kernel
theorem dX9_tell_17 : decode cX9_tell 17 = .ok (.lconst 0, 1) := by decide +kernel
theorem dX9_tell_18 : decode cX9_tell 18 = .ok (.goto 4, 3) := by decide +kernel
theorem dX9_tell_21 : decode cX9_tell 21 = .ok (.lconst 1, 1) := by decide +kernel
theorem dX9_tell_22 : decode cX9_tell 22 = .ok (.lreturn, 1) := by decide +kernel
theorem dX9_tell_23 : decode cX9_tell 23 = .ok (.iload 4, 2) := by decide +kernel
theorem dX9_tell_25 : decode cX9_tell 25 = .ok (.ifCond .ne 7, 3) := by decide +kernel
theorem dX9_tell_28 : decode cX9_tell 28 = .ok (.lload_n 0, 1) := by decide +kernel
theorem dX9_tell_29 : decode cX9_tell 29 = .ok (.goto 4, 3) := by decide +kernel
theorem dX9_tell_32 : decode cX9_tell 32 = .ok (.lload_n 2, 1) := by decide +kernel
theorem dX9_tell_33 : decode cX9_tell 33 = .ok (.lload_n 0, 1) := by decide +kernel
theorem dX9_tell_34 : decode cX9_tell 34 = .ok (.invokestatic 304, 3) := by decide +kernel
theorem dX9_tell_37 : decode cX9_tell 37 = .ok (.lload_n 2, 1) := by decide +kernel
theorem dX9_tell_38 : decode cX9_tell 38 = .ok (.invokestatic 307, 3) := by decide +kernel
theorem dX9_tell_41 : decode cX9_tell 41 = .ok (.ldiv, 1) := by decide +kernel
theorem dX9_tell_42 : decode cX9_tell 42 = .ok (.lreturn, 1) := by decide +kernel
theorem dX9_commonDivisor_0 : decode cX9_commonDivisor 0 = .ok (.lload_n 0, 1) := by decide +kernel
theorem dX9_commonDivisor_1 : decode cX9_commonDivisor 1 = .ok (.lstore 4, 2) := by decide +kernel
theorem dX9_commonDivisor_3 : decode cX9_commonDivisor 3 = .ok (.lload_n 2, 1) := by decide +kernel
theorem dX9_commonDivisor_4 : decode cX9_commonDivisor 4 = .ok (.lstore 6, 2) := by decide +kernel
theorem dX9_commonDivisor_6 : decode cX9_commonDivisor 6 = .ok (.iconst 0, 1) := by decide +kernel
theorem dX9_commonDivisor_7 : decode cX9_commonDivisor 7 = .ok (.istore 8, 2) := by decide +kernel
theorem dX9_commonDivisor_9 : decode cX9_commonDivisor 9 = .ok (.iload 8, 2) := by decide +kernel
theorem dX9_commonDivisor_11 : decode cX9_commonDivisor 11 = .ok (.sipush 200, 3) := by decide +kernel
theorem dX9_commonDivisor_14 : decode cX9_commonDivisor 14 = .ok (.if_icmp .ge 31, 3) := by decide +kernel
theorem dX9_commonDivisor_17 : decode cX9_commonDivisor 17 = .ok (.lload 6, 2) := by decide +kernel
theorem dX9_commonDivisor_19 : decode cX9_commonDivisor 19 = .ok (.lconst 0, 1) := by decide +kernel
theorem dX9_commonDivisor_20 : decode cX9_commonDivisor 20 = .ok (.lcmp, 1) := by decide +kernel
theorem dX9_commonDivisor_21 : decode cX9_commonDivisor 21 = .ok (.ifCond .eq 24, 3) := by decide +kernel
theorem dX9_commonDivisor_24 : decode cX9_commonDivisor 24 = .ok (.lload 4, 2) := by decide +kernel
theorem dX9_commonDivisor_26 : decode cX9_commonDivisor 26 = .ok (.lload 6, 2) := by decide +kernel
theorem dX9_commonDivisor_28 : decode cX9_commonDivisor 28 = .ok (.lrem, 1) := by decide +kernel
theorem dX9_commonDivisor_29 : decode cX9_commonDivisor 29 = .ok (.lstore 9, 2) := by decide +kernel
theorem dX9_commonDivisor_31 : decode cX9_commonDivisor 31 = .ok (.lload 6, 2) := by decide +kernel
theorem dX9_commonDivisor_33 : decode cX9_commonDivisor 33 = .ok (.lstore 4, 2) := by decide +kernel
theorem dX9_commonDivisor_35 : decode cX9_commonDivisor 35 = .ok (.lload 9, 2) := by decide +kernel
theorem dX9_commonDivisor_37 : decode cX9_commonDivisor 37 = .ok (.lstore 6, 2) := by decide +kernel
theorem dX9_commonDivisor_39 : decode cX9_commonDivisor 39 = .ok (.iinc 8 1, 3) := by decide +kernel
theorem dX9_commonDivisor_42 : decode cX9_commonDivisor 42 = .ok (.goto (-33), 3) := by decide +kernel
theorem dX9_commonDivisor_45 : decode cX9_commonDivisor 45 = .ok (.lconst 1, 1) := by decide +kernel
theorem dX9_commonDivisor_46 : decode cX9_commonDivisor 46 = .ok (.lload 4, 2) := by decide +kernel
theorem dX9_commonDivisor_48 : decode cX9_commonDivisor 48 = .ok (.invokestatic 311, 3) := by decide +kernel
theorem dX9_commonDivisor_51 : decode cX9_commonDivisor 51 = .ok (.lreturn, 1) := by decide +kernel
theorem dX10_init_0 : decode cX10_init 0 = .ok (.aload_n 0, 1) := by decide +kernel
theorem dX10_init_1 : decode cX10_init 1 = .ok (.invokespecial 1, 3) := by decide +kernel
theorem dX10_init_4 : decode cX10_init 4 = .ok (.aload_n 0, 1) := by decide +kernel
theorem dX10_init_5 : decode cX10_init 5 = .ok (.sipush 384, 3) := by decide +kernel
theorem dX10_init_8 : decode cX10_init 8 = .ok (.newarray .int, 2) := by decide +kernel
theorem dX10_init_10 : decode cX10_init 10 = .ok (.putfield 7, 3) := by decide +kernel
theorem dX10_init_13 : decode cX10_init 13 = .ok (.aload_n 0, 1) := by decide +kernel
theorem dX10_init_14 : decode cX10_init 14 = .ok (.bipush 6, 2) := by decide +kernel
theorem dX10_init_16 : decode cX10_init 16 = .ok (.newarray .int, 2) := by decide +kernel
theorem dX10_init_18 : decode cX10_init 18 = .ok (.putfield 13, 3) := by decide +kernel
theorem dX10_init_21 : decode cX10_init 21 = .ok (.aload_n 0, 1) := by decide +kernel
theorem dX10_init_22 : decode cX10_init 22 = .ok (.bipush 6, 2) := by decide +kernel
theorem dX10_init_24 : decode cX10_init 24 = .ok (.newarray .int, 2) := by decide +kernel
theorem dX10_init_26 : decode cX10_init 26 = .ok (.putfield 16, 3) := by decide +kernel
theorem dX10_init_29 : decode cX10_init 29 = .ok (.aload_n 0, 1) := by decide +kernel
theorem dX10_init_30 : decode cX10_init 30 = .ok (.bipush 6, 2) := by decide +kernel
theorem dX10_init_32 : decode cX10_init 32 = .ok (.newarray .int, 2) := by decide +kernel
theorem dX10_init_34 : decode cX10_init 34 = .ok (.putfield 19, 3) := by decide +kernel
theorem dX10_init_37 : decode cX10_init 37 = .ok (.aload_n 0, 1) := by decide +kernel
theorem dX10_init_38 : decode cX10_init 38 = .ok (.iconst 5, 1) := by decide +kernel
theorem dX10_init_39 : decode cX10_init 39 = .ok (.newarray .int, 2) := by decide +kernel
theorem dX10_init_41 : decode cX10_init 41 = .ok (.putfield 22, 3) := by decide +kernel
theorem dX10_init_44 : decode cX10_init 44 = .ok (.aload_n 0, 1) := by decide +kernel
theorem dX10_init_45 : decode cX10_init 45 = .ok (.bipush 60, 2) := by decide +kernel
theorem dX10_init_47 : decode cX10_init 47 = .ok (.newarray .int, 2) := by decide +kernel
theorem dX10_init_49 : decode cX10_init 49 = .ok (.putfield 25, 3) := by decide +kernel
theorem dX10_init_52 : decode cX10_init 52 = .ok (.aload_n 0, 1) := by decide +kernel
theorem dX10_init_53 : decode cX10_init 53 = .ok (.bipush 21, 2) := by decide +kernel
theorem dX10_init_55 : decode cX10_init 55 = .ok (.newarray .int, 2) := by decide +kernel
theorem dX10_init_57 : decode cX10_init 57 = .ok (.putfield 28, 3) := by decide +kernel
theorem dX10_init_60 : decode cX10_init 60 = .ok (.aload_n 0, 1) := by decide +kernel
theorem dX10_init_61 : decode cX10_init 61 = .ok (.bipush 20, 2) := by decide +kernel
theorem dX10_init_63 : decode cX10_init 63 = .ok (.newarray .int, 2) := by decide +kernel
theorem dX10_init_65 : decode cX10_init 65 = .ok (.putfield 31, 3) := by decide +kernel
theorem dX10_init_68 : decode cX10_init 68 = .ok (.aload_n 0, 1) := by decide +kernel
theorem dX10_init_69 : decode cX10_init 69 = .ok (.bipush 20, 2) := by decide +kernel
theorem dX10_init_71 : decode cX10_init 71 = .ok (.newarray .int, 2) := by decide +kernel
theorem dX10_init_73 : decode cX10_init 73 = .ok (.putfield 34, 3) := by decide +kernel
theorem dX10_init_76 : decode cX10_init 76 = .ok (.aload_n 0, 1) := by decide +kernel
theorem dX10_init_77 : decode cX10_init 77 = .ok (.bipush 20, 2) := by decide +kernel
theorem dX10_init_79 : decode cX10_init 79 = .ok (.newarray .int, 2) := by decide +kernel
theorem dX10_init_81 : decode cX10_init 81 = .ok (.putfield 37, 3) := by decide +kernel
theorem dX10_init_84 : decode cX10_init 84 = .ok (.aload_n 0, 1) := by decide +kernel
theorem dX10_init_85 : decode cX10_init 85 = .ok (.bipush 20, 2) := by decide +kernel
theorem dX10_init_87 : decode cX10_init 87 = .ok (.newarray .int, 2) := by decide +kernel
theorem dX10_init_89 : decode cX10_init 89 = .ok (.putfield 40, 3) := by decide +kernel
theorem dX10_init_92 : decode cX10_init 92 = .ok (.aload_n 0, 1) := by decide +kernel
theorem dX10_init_93 : decode cX10_init 93 = .ok (.bipush 20, 2) := by decide +kernel
theorem dX10_init_95 : decode cX10_init 95 = .ok (.newarray .int, 2) := by decide +kernel
theorem dX10_init_97 : decode cX10_init 97 = .ok (.putfield 43, 3) := by decide +kernel
theorem dX10_init_100 : decode cX10_init 100 = .ok (.aload_n 0, 1) := by decide +kernel
theorem dX10_init_101 : decode cX10_init 101 = .ok (.bipush 20, 2) := by decide +kernel
theorem dX10_init_103 : decode cX10_init 103 = .ok (.newarray .int, 2) := by decide +kernel
theorem dX10_init_105 : decode cX10_init 105 = .ok (.putfield 46, 3) := by decide +kernel
theorem dX10_init_108 : decode cX10_init 108 = .ok (.aload_n 0, 1) := by decide +kernel
theorem dX10_init_109 : decode cX10_init 109 = .ok (.bipush 17, 2) := by decide +kernel
theorem dX10_init_111 : decode cX10_init 111 = .ok (.newarray .int, 2) := by decide +kernel
theorem dX10_init_113 : decode cX10_init 113 = .ok (.putfield 49, 3) := by decide +kernel
theorem dX10_init_116 : decode cX10_init 116 = .ok (.aload_n 0, 1) := by decide +kernel
theorem dX10_init_117 : decode cX10_init 117 = .ok (.bipush 64, 2) := by decide +kernel
theorem dX10_init_119 : decode cX10_init 119 = .ok (.newarray .int, 2) := by decide +kernel
theorem dX10_init_121 : decode cX10_init 121 = .ok (.putfield 52, 3) := by decide +kernel
theorem dX10_init_124 : decode cX10_init 124 = .ok (.aload_n 0, 1) := by decide +kernel
theorem dX10_init_125 : decode cX10_init 125 = .ok (.sipush 1400, 3) := by decide +kernel
theorem dX10_init_128 : decode cX10_init 128 = .ok (.newarray .int, 2) := by decide +kernel
theorem dX10_init_130 : decode cX10_init 130 = .ok (.putfield 55, 3) := by decide +kernel
theorem dX10_init_133 : decode cX10_init 133 = .ok (.aload_n 0, 1) := by decide +kernel
theorem dX10_init_134 : decode cX10_init 134 = .ok (.iconst 2, 1) := by decide +kernel
theorem dX10_init_135 : decode cX10_init 135 = .ok (.newarray .boolean, 2) := by decide +kernel
theorem dX10_init_137 : decode cX10_init 137 = .ok (.putfield 58, 3) := by decide +kernel
theorem dX10_init_140 : decode cX10_init 140 = .ok (.iconst 0, 1) := by decide +kernel
theorem dX10_init_141 : decode cX10_init 141 = .ok (.istore_n 1, 1) := by decide +kernel
theorem dX10_init_142 : decode cX10_init 142 = .ok (.iload_n 1, 1) := by decide +kernel
theorem dX10_init_143 : decode cX10_init 143 = .ok (.bipush 6, 2) := by decide +kernel
theorem dX10_init_145 : decode cX10_init 145 = .ok (.if_icmp .ge 17, 3) := by decide +kernel
theorem dX10_init_148 : decode cX10_init 148 = .ok (.aload_n 0, 1) := by decide +kernel
theorem dX10_init_149 : decode cX10_init 149 = .ok (.getfield 16, 3) := by decide +kernel
theorem dX10_init_152 : decode cX10_init 152 = .ok (.iload_n 1, 1) := by decide +kernel
theorem dX10_init_153 : decode cX10_init 153 = .ok (.bipush 25, 2) := by decide +kernel
theorem dX10_init_155 : decode cX10_init 155 = .ok (.iastore, 1) := by decide +kernel
theorem dX10_init_156 : decode cX10_init 156 = .ok (.iinc 1 1, 3) := by decide +kernel
theorem dX10_init_159 : decode cX10_init 159 = .ok (.goto (-17), 3) := by decide +kernel
theorem dX10_init_162 : decode cX10_init 162 = .ok (.return_, 1) := by decide +kernel
theorem dX10_in_0 : decode cX10_in 0 = .ok (.lload_n 0, 1) := by decide +kernel
theorem dX10_in_1 : decode cX10_in 1 = .ok (.lload_n 2, 1) := by decide +kernel
theorem dX10_in_2 : decode cX10_in 2 = .ok (.lcmp, 1) := by decide +kernel
theorem dX10_in_3 : decode cX10_in 3 = .ok (.ifCond .lt 14, 3) := by decide +kernel
theorem dX10_in_6 : decode cX10_in 6 = .ok (.lload_n 0, 1) := by decide +kernel
theorem dX10_in_7 : decode cX10_in 7 = .ok (.lload 4, 2) := by decide +kernel
theorem dX10_in_9 : decode cX10_in 9 = .ok (.lcmp, 1) := by decide +kernel
theorem dX10_in_10 : decode cX10_in 10 = .ok (.ifCond .gt 7, 3) := by decide +kernel
theorem dX10_in_13 : decode cX10_in 13 = .ok (.iconst 1, 1) := by decide +kernel
theorem dX10_in_14 : decode cX10_in 14 = .ok (.goto 4, 3) := by decide +kernel
theorem dX10_in_17 : decode cX10_in 17 = .ok (.iconst 0, 1) := by decide +kernel
theorem dX10_in_18 : decode cX10_in 18 = .ok (.ireturn, 1) := by decide +kernel
theorem dX10_isBook_0 : decode cX10_isBook 0 = .ok (.iload_n 0, 1) := by decide +kernel
theorem dX10_isBook_1 : decode cX10_isBook 1 = .ok (.i2l, 1) := by decide +kernel
theorem dX10_isBook_2 : decode cX10_isBook 2 = .ok (.lconst 0, 1) := by decide +kernel
theorem dX10_isBook_3 : decode cX10_isBook 3 = .ok (.ldc2_w 62, 3) := by decide +kernel
theorem dX10_isBook_6 : decode cX10_isBook 6 = .ok (.invokestatic 64, 3) := by decide +kernel
theorem dX10_isBook_9 : decode cX10_isBook 9 = .ok (.ireturn, 1) := by decide +kernel
theorem dX10_isHeight_0 : decode cX10_isHeight 0 = .ok (.iload_n 0, 1) := by decide +kernel
theorem dX10_isHeight_1 : decode cX10_isHeight 1 = .ok (.i2l, 1) := by decide +kernel
theorem dX10_isHeight_2 : decode cX10_isHeight 2 = .ok (.lconst 0, 1) := by decide +kernel
theorem dX10_isHeight_3 : decode cX10_isHeight 3 = .ok (.ldc2_w 68, 3) := by decide +kernel
theorem dX10_isHeight_6 : decode cX10_isHeight 6 = .ok (.invokestatic 64, 3) := by decide +kernel
theorem dX10_isHeight_9 : decode cX10_isHeight 9 = .ok (.ireturn, 1) := by decide +kernel
theorem dX10_isWidth_0 : decode cX10_isWidth 0 = .ok (.iload_n 0, 1) := by decide +kernel
theorem dX10_isWidth_1 : decode cX10_isWidth 1 = .ok (.i2l, 1) := by decide +kernel
theorem dX10_isWidth_2 : decode cX10_isWidth 2 = .ok (.lconst 1, 1) := by decide +kernel
theorem dX10_isWidth_3 : decode cX10_isWidth 3 = .ok (.ldc2_w 70, 3) := by decide +kernel
theorem dX10_isWidth_6 : decode cX10_isWidth 6 = .ok (.invokestatic 64, 3) := by decide +kernel
theorem dX10_isWidth_9 : decode cX10_isWidth 9 = .ok (.ireturn, 1) := by decide +kernel
theorem dX10_isEnd_0 : decode cX10_isEnd 0 = .ok (.iload_n 0, 1) := by decide +kernel
theorem dX10_isEnd_1 : decode cX10_isEnd 1 = .ok (.i2l, 1) := by decide +kernel
theorem dX10_isEnd_2 : decode cX10_isEnd 2 = .ok (.lconst 0, 1) := by decide +kernel
theorem dX10_isEnd_3 : decode cX10_isEnd 3 = .ok (.lconst 1, 1) := by decide +kernel
theorem dX10_isEnd_4 : decode cX10_isEnd 4 = .ok (.invokestatic 64, 3) := by decide +kernel
theorem dX10_isEnd_7 : decode cX10_isEnd 7 = .ok (.ireturn, 1) := by decide +kernel
theorem dX10_apart_0 : decode cX10_apart 0 = .ok (.iload_n 0, 1) := by decide +kernel
theorem dX10_apart_1 : decode cX10_apart 1 = .ok (.iload_n 1, 1) := by decide +kernel
theorem dX10_apart_2 : decode cX10_apart 2 = .ok (.if_icmp .ge 9, 3) := by decide +kernel
theorem dX10_apart_5 : decode cX10_apart 5 = .ok (.iload_n 1, 1) := by decide +kernel
theorem dX10_apart_6 : decode cX10_apart 6 = .ok (.iload_n 0, 1) := by decide +kernel
theorem dX10_apart_7 : decode cX10_apart 7 = .ok (.isub, 1) := by decide +kernel
theorem dX10_apart_8 : decode cX10_apart 8 = .ok (.goto 6, 3) := by decide +kernel
theorem dX10_apart_11 : decode cX10_apart 11 = .ok (.iload_n 0, 1) := by decide +kernel
theorem dX10_apart_12 : decode cX10_apart 12 = .ok (.iload_n 1, 1) := by decide +kernel
theorem dX10_apart_13 : decode cX10_apart 13 = .ok (.isub, 1) := by decide +kernel
theorem dX10_apart_14 : decode cX10_apart 14 = .ok (.ireturn, 1) := by decide +kernel
theorem dX10_common_0 : decode cX10_common 0 = .ok (.lload_n 0, 1) := by decide +kernel
theorem dX10_common_1 : decode cX10_common 1 = .ok (.lconst 0, 1) := by decide +kernel
theorem dX10_common_2 : decode cX10_common 2 = .ok (.lcmp, 1) := by decide +kernel
theorem dX10_common_3 : decode cX10_common 3 = .ok (.ifCond .ge 8, 3) := by decide +kernel
theorem dX10_common_6 : decode cX10_common 6 = .ok (.lload_n 0, 1) := by decide +kernel
theorem dX10_common_7 : decode cX10_common 7 = .ok (.lneg, 1) := by decide +kernel
theorem dX10_common_8 : decode cX10_common 8 = .ok (.goto 4, 3) := by decide +kernel
theorem dX10_common_11 : decode cX10_common 11 = .ok (.lload_n 0, 1) := by decide +kernel
theorem dX10_common_12 : decode cX10_common 12 = .ok (.lstore 4, 2) := by decide +kernel
theorem dX10_common_14 : decode cX10_common 14 = .ok (.lload_n 2, 1) := by decide +kernel
theorem dX10_common_15 : decode cX10_common 15 = .ok (.lstore 6, 2) := by decide +kernel
theorem dX10_common_17 : decode cX10_common 17 = .ok (.lload 6, 2) := by decide +kernel
theorem dX10_common_19 : decode cX10_common 19 = .ok (.lconst 0, 1) := by decide +kernel
theorem dX10_common_20 : decode cX10_common 20 = .ok (.lcmp, 1) := by decide +kernel
theorem dX10_common_21 : decode cX10_common 21 = .ok (.ifCond .eq 21, 3) := by decide +kernel
theorem dX10_common_24 : decode cX10_common 24 = .ok (.lload 4, 2) := by decide +kernel
theorem dX10_common_26 : decode cX10_common 26 = .ok (.lload 6, 2) := by decide +kernel
theorem dX10_common_28 : decode cX10_common 28 = .ok (.lrem, 1) := by decide +kernel
theorem dX10_common_29 : decode cX10_common 29 = .ok (.lstore 8, 2) := by decide +kernel
theorem dX10_common_31 : decode cX10_common 31 = .ok (.lload 6, 2) := by decide +kernel
theorem dX10_common_33 : decode cX10_common 33 = .ok (.lstore 4, 2) := by decide +kernel
theorem dX10_common_35 : decode cX10_common 35 = .ok (.lload 8, 2) := by decide +kernel
theorem dX10_common_37 : decode cX10_common 37 = .ok (.lstore 6, 2) := by decide +kernel
theorem dX10_common_39 : decode cX10_common 39 = .ok (.goto (-22), 3) := by decide +kernel
theorem dX10_common_42 : decode cX10_common 42 = .ok (.lload 4, 2) := by decide +kernel
theorem dX10_common_44 : decode cX10_common 44 = .ok (.lreturn, 1) := by decide +kernel
theorem dX10_lowest_0 : decode cX10_lowest 0 = .ok (.lload_n 2, 1) := by decide +kernel
theorem dX10_lowest_1 : decode cX10_lowest 1 = .ok (.lconst 0, 1) := by decide +kernel
theorem dX10_lowest_2 : decode cX10_lowest 2 = .ok (.lcmp, 1) := by decide +kernel
theorem dX10_lowest_3 : decode cX10_lowest 3 = .ok (.ifCond .ne 7, 3) := by decide +kernel
theorem dX10_lowest_6 : decode cX10_lowest 6 = .ok (.iload 4, 2) := by decide +kernel
theorem dX10_lowest_8 : decode cX10_lowest 8 = .ok (.i2l, 1) := by decide +kernel
theorem dX10_lowest_9 : decode cX10_lowest 9 = .ok (.lreturn, 1) := by decide +kernel
theorem dX10_lowest_10 : decode cX10_lowest 10 = .ok (.lload_n 0, 1) := by decide +kernel
theorem dX10_lowest_11 : decode cX10_lowest 11 = .ok (.lload_n 2, 1) := by decide +kernel
theorem dX10_lowest_12 : decode cX10_lowest 12 = .ok (.invokestatic 72, 3) := by decide +kernel
theorem dX10_lowest_15 : decode cX10_lowest 15 = .ok (.lstore 5, 2) := by decide +kernel
theorem dX10_lowest_17 : decode cX10_lowest 17 = .ok (.iload 4, 2) := by decide +kernel
theorem dX10_lowest_19 : decode cX10_lowest 19 = .ok (.ifCond .ne 10, 3) := by decide +kernel
theorem dX10_lowest_22 : decode cX10_lowest 22 = .ok (.lload_n 0, 1) := by decide +kernel
theorem dX10_lowest_23 : decode cX10_lowest 23 = .ok (.lload 5, 2) := by decide +kernel
theorem dX10_lowest_25 : decode cX10_lowest 25 = .ok (.ldiv, 1) := by decide +kernel
theorem dX10_lowest_26 : decode cX10_lowest 26 = .ok (.goto 7, 3) := by decide +kernel
theorem dX10_lowest_29 : decode cX10_lowest 29 = .ok (.lload_n 2, 1) := by decide +kernel
theorem dX10_lowest_30 : decode cX10_lowest 30 = .ok (.lload 5, 2) := by decide +kernel
theorem dX10_lowest_32 : decode cX10_lowest 32 = .ok (.ldiv, 1) := by decide +kernel
theorem dX10_lowest_33 : decode cX10_lowest 33 = .ok (.lreturn, 1) := by decide +kernel
theorem dX10_at_0 : decode cX10_at 0 = .ok (.bipush 64, 2) := by decide +kernel
theorem dX10_at_2 : decode cX10_at 2 = .ok (.iload_n 0, 1) := by decide +kernel
theorem dX10_at_3 : decode cX10_at 3 = .ok (.imul, 1) := by decide +kernel
theorem dX10_at_4 : decode cX10_at 4 = .ok (.iload_n 1, 1) := by decide +kernel
theorem dX10_at_5 : decode cX10_at 5 = .ok (.iadd, 1) := by decide +kernel
theorem dX10_at_6 : decode cX10_at 6 = .ok (.ireturn, 1) := by decide +kernel
theorem dX10_men_0 : decode cX10_men 0 = .ok (.iload_n 1, 1) := by decide +kernel
theorem dX10_men_1 : decode cX10_men 1 = .ok (.invokestatic 76, 3) := by decide +kernel
theorem dX10_men_4 : decode cX10_men 4 = .ok (.ifCond .ne 5, 3) := by decide +kernel
theorem dX10_men_7 : decode cX10_men 7 = .ok (.iconst (-1), 1) := by decide +kernel
theorem dX10_men_8 : decode cX10_men 8 = .ok (.ireturn, 1) := by decide +kernel
theorem dX10_men_9 : decode cX10_men 9 = .ok (.iload_n 2, 1) := by decide +kernel
theorem dX10_men_10 : decode cX10_men 10 = .ok (.invokestatic 80, 3) := by decide +kernel
theorem dX10_men_13 : decode cX10_men 13 = .ok (.ifCond .eq 15, 3) := by decide +kernel
theorem dX10_men_16 : decode cX10_men 16 = .ok (.iload_n 3, 1) := by decide +kernel
theorem dX10_men_17 : decode cX10_men 17 = .ok (.i2l, 1) := by decide +kernel
theorem dX10_men_18 : decode cX10_men 18 = .ok (.lconst 0, 1) := by decide +kernel
theorem dX10_men_19 : decode cX10_men 19 = .ok (.ldc2_w 83, 3) := by decide +kernel
theorem dX10_men_22 : decode cX10_men 22 = .ok (.invokestatic 64, 3) := by decide +kernel
theorem dX10_men_25 : decode cX10_men 25 = .ok (.ifCond .ne 6, 3) := by decide +kernel
theorem dX10_men_28 : decode cX10_men 28 = .ok (.bipush (-2), 2) := by decide +kernel
theorem dX10_men_30 : decode cX10_men 30 = .ok (.ireturn, 1) := by decide +kernel
theorem dX10_men_31 : decode cX10_men 31 = .ok (.aload_n 0, 1) := by decide +kernel
theorem dX10_men_32 : decode cX10_men 32 = .ok (.getfield 7, 3) := by decide +kernel
theorem dX10_men_35 : decode cX10_men 35 = .ok (.iload_n 1, 1) := by decide +kernel
theorem dX10_men_36 : decode cX10_men 36 = .ok (.iload_n 2, 1) := by decide +kernel
theorem dX10_men_37 : decode cX10_men 37 = .ok (.invokestatic 85, 3) := by decide +kernel
theorem dX10_men_40 : decode cX10_men 40 = .ok (.iaload, 1) := by decide +kernel
theorem dX10_men_41 : decode cX10_men 41 = .ok (.istore 4, 2) := by decide +kernel
theorem dX10_men_43 : decode cX10_men 43 = .ok (.aload_n 0, 1) := by decide +kernel
theorem dX10_men_44 : decode cX10_men 44 = .ok (.getfield 7, 3) := by decide +kernel
theorem dX10_men_47 : decode cX10_men 47 = .ok (.iload_n 1, 1) := by decide +kernel
theorem dX10_men_48 : decode cX10_men 48 = .ok (.iload_n 2, 1) := by decide +kernel
theorem dX10_men_49 : decode cX10_men 49 = .ok (.invokestatic 85, 3) := by decide +kernel
theorem dX10_men_52 : decode cX10_men 52 = .ok (.iload_n 3, 1) := by decide +kernel
theorem dX10_men_53 : decode cX10_men 53 = .ok (.iastore, 1) := by decide +kernel
theorem dX10_men_54 : decode cX10_men 54 = .ok (.iload 4, 2) := by decide +kernel
theorem dX10_men_56 : decode cX10_men 56 = .ok (.ireturn, 1) := by decide +kernel
theorem dX10_set_0 : decode cX10_set 0 = .ok (.iload_n 1, 1) := by decide +kernel
theorem dX10_set_1 : decode cX10_set 1 = .ok (.invokestatic 76, 3) := by decide +kernel
theorem dX10_set_4 : decode cX10_set 4 = .ok (.ifCond .ne 5, 3) := by decide +kernel
theorem dX10_set_7 : decode cX10_set 7 = .ok (.iconst (-1), 1) := by decide +kernel
theorem dX10_set_8 : decode cX10_set 8 = .ok (.ireturn, 1) := by decide +kernel
theorem dX10_set_9 : decode cX10_set 9 = .ok (.iload_n 2, 1) := by decide +kernel
theorem dX10_set_10 : decode cX10_set 10 = .ok (.i2l, 1) := by decide +kernel
theorem dX10_set_11 : decode cX10_set 11 = .ok (.lconst 0, 1) := by decide +kernel
theorem dX10_set_12 : decode cX10_set 12 = .ok (.ldc2_w 89, 3) := by decide +kernel
theorem dX10_set_15 : decode cX10_set 15 = .ok (.invokestatic 64, 3) := by decide +kernel
theorem dX10_set_18 : decode cX10_set 18 = .ok (.ifCond .eq 47, 3) := by decide +kernel
theorem dX10_set_21 : decode cX10_set 21 = .ok (.iload_n 3, 1) := by decide +kernel
theorem dX10_set_22 : decode cX10_set 22 = .ok (.i2l, 1) := by decide +kernel
theorem dX10_set_23 : decode cX10_set 23 = .ok (.iload_n 2, 1) := by decide +kernel
theorem dX10_set_24 : decode cX10_set 24 = .ok (.iconst 1, 1) := by decide +kernel
theorem dX10_set_25 : decode cX10_set 25 = .ok (.if_icmp .ne 9, 3) := by decide +kernel
theorem dX10_set_28 : decode cX10_set 28 = .ok (.ldc2_w 91, 3) := by decide +kernel
theorem dX10_set_31 : decode cX10_set 31 = .ok (.goto 4, 3) := by decide +kernel
theorem dX10_set_34 : decode cX10_set 34 = .ok (.lconst 0, 1) := by decide +kernel
theorem dX10_set_35 : decode cX10_set 35 = .ok (.iload_n 2, 1) := by decide +kernel
theorem dX10_set_36 : decode cX10_set 36 = .ok (.ifCond .ne 9, 3) := by decide +kernel
theorem dX10_set_39 : decode cX10_set 39 = .ok (.ldc2_w 93, 3) := by decide +kernel
theorem dX10_set_42 : decode cX10_set 42 = .ok (.goto 17, 3) := by decide +kernel
theorem dX10_set_45 : decode cX10_set 45 = .ok (.iload_n 2, 1) := by decide +kernel
theorem dX10_set_46 : decode cX10_set 46 = .ok (.iconst 1, 1) := by decide +kernel
theorem dX10_set_47 : decode cX10_set 47 = .ok (.if_icmp .ne 9, 3) := by decide +kernel
theorem dX10_set_50 : decode cX10_set 50 = .ok (.ldc2_w 95, 3) := by decide +kernel
theorem dX10_set_53 : decode cX10_set 53 = .ok (.goto 6, 3) := by decide +kernel
theorem dX10_set_56 : decode cX10_set 56 = .ok (.ldc2_w 89, 3) := by decide +kernel
theorem dX10_set_59 : decode cX10_set 59 = .ok (.invokestatic 64, 3) := by decide +kernel
theorem dX10_set_62 : decode cX10_set 62 = .ok (.ifCond .ne 6, 3) := by decide +kernel
theorem dX10_set_65 : decode cX10_set 65 = .ok (.bipush (-2), 2) := by decide +kernel
theorem dX10_set_67 : decode cX10_set 67 = .ok (.ireturn, 1) := by decide +kernel
theorem dX10_set_68 : decode cX10_set 68 = .ok (.iload_n 2, 1) := by decide +kernel
theorem dX10_set_69 : decode cX10_set 69 = .ok (.ifCond .ne 12, 3) := by decide +kernel
theorem dX10_set_72 : decode cX10_set 72 = .ok (.aload_n 0, 1) := by decide +kernel
theorem dX10_set_73 : decode cX10_set 73 = .ok (.getfield 13, 3) := by decide +kernel
theorem dX10_set_76 : decode cX10_set 76 = .ok (.iload_n 1, 1) := by decide +kernel
theorem dX10_set_77 : decode cX10_set 77 = .ok (.iaload, 1) := by decide +kernel
theorem dX10_set_78 : decode cX10_set 78 = .ok (.goto 23, 3) := by decide +kernel
theorem dX10_set_81 : decode cX10_set 81 = .ok (.iload_n 2, 1) := by decide +kernel
theorem dX10_set_82 : decode cX10_set 82 = .ok (.iconst 1, 1) := by decide +kernel
theorem dX10_set_83 : decode cX10_set 83 = .ok (.if_icmp .ne 12, 3) := by decide +kernel
theorem dX10_set_86 : decode cX10_set 86 = .ok (.aload_n 0, 1) := by decide +kernel
theorem dX10_set_87 : decode cX10_set 87 = .ok (.getfield 16, 3) := by decide +kernel
theorem dX10_set_90 : decode cX10_set 90 = .ok (.iload_n 1, 1) := by decide +kernel
theorem dX10_set_91 : decode cX10_set 91 = .ok (.iaload, 1) := by decide +kernel
theorem dX10_set_92 : decode cX10_set 92 = .ok (.goto 9, 3) := by decide +kernel
theorem dX10_set_95 : decode cX10_set 95 = .ok (.aload_n 0, 1) := by decide +kernel
theorem dX10_set_96 : decode cX10_set 96 = .ok (.getfield 19, 3) := by decide +kernel
theorem dX10_set_99 : decode cX10_set 99 = .ok (.iload_n 1, 1) := by decide +kernel
theorem dX10_set_100 : decode cX10_set 100 = .ok (.iaload, 1) := by decide +kernel
theorem dX10_set_101 : decode cX10_set 101 = .ok (.istore 4, 2) := by decide +kernel
theorem dX10_set_103 : decode cX10_set 103 = .ok (.iload_n 2, 1) := by decide +kernel
theorem dX10_set_104 : decode cX10_set 104 = .ok (.ifCond .ne 13, 3) := by decide +kernel
theorem dX10_set_107 : decode cX10_set 107 = .ok (.aload_n 0, 1) := by decide +kernel
theorem dX10_set_108 : decode cX10_set 108 = .ok (.getfield 13, 3) := by decide +kernel
theorem dX10_set_111 : decode cX10_set 111 = .ok (.iload_n 1, 1) := by decide +kernel
theorem dX10_set_112 : decode cX10_set 112 = .ok (.iload_n 3, 1) := by decide +kernel
theorem dX10_set_113 : decode cX10_set 113 = .ok (.iastore, 1) := by decide +kernel
theorem dX10_set_114 : decode cX10_set 114 = .ok (.goto 25, 3) := by decide +kernel
theorem dX10_set_117 : decode cX10_set 117 = .ok (.iload_n 2, 1) := by decide +kernel
theorem dX10_set_118 : decode cX10_set 118 = .ok (.iconst 1, 1) := by decide +kernel
theorem dX10_set_119 : decode cX10_set 119 = .ok (.if_icmp .ne 13, 3) := by decide +kernel
theorem dX10_set_122 : decode cX10_set 122 = .ok (.aload_n 0, 1) := by decide +kernel
theorem dX10_set_123 : decode cX10_set 123 = .ok (.getfield 16, 3) := by decide +kernel
theorem dX10_set_126 : decode cX10_set 126 = .ok (.iload_n 1, 1) := by decide +kernel
theorem dX10_set_127 : decode cX10_set 127 = .ok (.iload_n 3, 1) := by decide +kernel
theorem dX10_set_128 : decode cX10_set 128 = .ok (.iastore, 1) := by decide +kernel
theorem dX10_set_129 : decode cX10_set 129 = .ok (.goto 10, 3) := by decide +kernel
theorem dX10_set_132 : decode cX10_set 132 = .ok (.aload_n 0, 1) := by decide +kernel
theorem dX10_set_133 : decode cX10_set 133 = .ok (.getfield 19, 3) := by decide +kernel
theorem dX10_set_136 : decode cX10_set 136 = .ok (.iload_n 1, 1) := by decide +kernel
theorem dX10_set_137 : decode cX10_set 137 = .ok (.iload_n 3, 1) := by decide +kernel
theorem dX10_set_138 : decode cX10_set 138 = .ok (.iastore, 1) := by decide +kernel
theorem dX10_set_139 : decode cX10_set 139 = .ok (.iload 4, 2) := by decide +kernel
theorem dX10_set_141 : decode cX10_set 141 = .ok (.ireturn, 1) := by decide +kernel
theorem dX10_way_0 : decode cX10_way 0 = .ok (.iload_n 1, 1) := by decide +kernel
theorem dX10_way_1 : decode cX10_way 1 = .ok (.i2l, 1) := by decide +kernel
theorem dX10_way_2 : decode cX10_way 2 = .ok (.lconst 0, 1) := by decide +kernel
theorem dX10_way_3 : decode cX10_way 3 = .ok (.ldc2_w 97, 3) := by decide +kernel
theorem dX10_way_6 : decode cX10_way 6 = .ok (.invokestatic 64, 3) := by decide +kernel
theorem dX10_way_9 : decode cX10_way 9 = .ok (.ifCond .eq 37, 3) := by decide +kernel
theorem dX10_way_12 : decode cX10_way 12 = .ok (.iload_n 2, 1) := by decide +kernel
theorem dX10_way_13 : decode cX10_way 13 = .ok (.i2l, 1) := by decide +kernel
theorem dX10_way_14 : decode cX10_way 14 = .ok (.lconst 0, 1) := by decide +kernel
theorem dX10_way_15 : decode cX10_way 15 = .ok (.iload_n 1, 1) := by decide +kernel
theorem dX10_way_16 : decode cX10_way 16 = .ok (.iconst 2, 1) := by decide +kernel
theorem dX10_way_17 : decode cX10_way 17 = .ok (.if_icmp .ge 9, 3) := by decide +kernel
theorem dX10_way_20 : decode cX10_way 20 = .ok (.ldc2_w 99, 3) := by decide +kernel
theorem dX10_way_23 : decode cX10_way 23 = .ok (.goto 17, 3) := by decide +kernel
theorem dX10_way_26 : decode cX10_way 26 = .ok (.iload_n 1, 1) := by decide +kernel
theorem dX10_way_27 : decode cX10_way 27 = .ok (.iconst 2, 1) := by decide +kernel
theorem dX10_way_28 : decode cX10_way 28 = .ok (.if_icmp .ne 9, 3) := by decide +kernel
theorem dX10_way_31 : decode cX10_way 31 = .ok (.ldc2_w 97, 3) := by decide +kernel
theorem dX10_way_34 : decode cX10_way 34 = .ok (.goto 6, 3) := by decide +kernel
theorem dX10_way_37 : decode cX10_way 37 = .ok (.ldc2_w 101, 3) := by decide +kernel
theorem dX10_way_40 : decode cX10_way 40 = .ok (.invokestatic 64, 3) := by decide +kernel
theorem dX10_way_43 : decode cX10_way 43 = .ok (.ifCond .ne 6, 3) := by decide +kernel
theorem dX10_way_46 : decode cX10_way 46 = .ok (.bipush (-2), 2) := by decide +kernel
theorem dX10_way_48 : decode cX10_way 48 = .ok (.ireturn, 1) := by decide +kernel
theorem dX10_way_49 : decode cX10_way 49 = .ok (.aload_n 0, 1) := by decide +kernel
theorem dX10_way_50 : decode cX10_way 50 = .ok (.getfield 22, 3) := by decide +kernel
theorem dX10_way_53 : decode cX10_way 53 = .ok (.iload_n 1, 1) := by decide +kernel
theorem dX10_way_54 : decode cX10_way 54 = .ok (.iaload, 1) := by decide +kernel
theorem dX10_way_55 : decode cX10_way 55 = .ok (.istore_n 3, 1) := by decide +kernel
theorem dX10_way_56 : decode cX10_way 56 = .ok (.aload_n 0, 1) := by decide +kernel
theorem dX10_way_57 : decode cX10_way 57 = .ok (.getfield 22, 3) := by decide +kernel
theorem dX10_way_60 : decode cX10_way 60 = .ok (.iload_n 1, 1) := by decide +kernel
theorem dX10_way_61 : decode cX10_way 61 = .ok (.iload_n 2, 1) := by decide +kernel
theorem dX10_way_62 : decode cX10_way 62 = .ok (.iastore, 1) := by decide +kernel
theorem dX10_way_63 : decode cX10_way 63 = .ok (.iload_n 3, 1) := by decide +kernel
theorem dX10_way_64 : decode cX10_way 64 = .ok (.ireturn, 1) := by decide +kernel
theorem dX10_all_0 : decode cX10_all 0 = .ok (.iconst 0, 1) := by decide +kernel
theorem dX10_all_1 : decode cX10_all 1 = .ok (.istore_n 2, 1) := by decide +kernel
theorem dX10_all_2 : decode cX10_all 2 = .ok (.iconst 0, 1) := by decide +kernel
theorem dX10_all_3 : decode cX10_all 3 = .ok (.istore_n 3, 1) := by decide +kernel
theorem dX10_all_4 : decode cX10_all 4 = .ok (.iload_n 3, 1) := by decide +kernel
theorem dX10_all_5 : decode cX10_all 5 = .ok (.bipush 64, 2) := by decide +kernel
theorem dX10_all_7 : decode cX10_all 7 = .ok (.if_icmp .ge 22, 3) := by decide +kernel
theorem dX10_all_10 : decode cX10_all 10 = .ok (.iload_n 2, 1) := by decide +kernel
theorem dX10_all_11 : decode cX10_all 11 = .ok (.aload_n 0, 1) := by decide +kernel
theorem dX10_all_12 : decode cX10_all 12 = .ok (.getfield 7, 3) := by decide +kernel
theorem dX10_all_15 : decode cX10_all 15 = .ok (.iload_n 1, 1) := by decide +kernel
theorem dX10_all_16 : decode cX10_all 16 = .ok (.iload_n 3, 1) := by decide +kernel
theorem dX10_all_17 : decode cX10_all 17 = .ok (.invokestatic 85, 3) := by decide +kernel
theorem dX10_all_20 : decode cX10_all 20 = .ok (.iaload, 1) := by decide +kernel
theorem dX10_all_21 : decode cX10_all 21 = .ok (.iadd, 1) := by decide +kernel
theorem dX10_all_22 : decode cX10_all 22 = .ok (.istore_n 2, 1) := by decide +kernel
theorem dX10_all_23 : decode cX10_all 23 = .ok (.iinc 3 1, 3) := by decide +kernel
theorem dX10_all_26 : decode cX10_all 26 = .ok (.goto (-22), 3) := by decide +kernel
theorem dX10_all_29 : decode cX10_all 29 = .ok (.iload_n 2, 1) := by decide +kernel
theorem dX10_all_30 : decode cX10_all 30 = .ok (.ireturn, 1) := by decide +kernel
theorem dX10_say_0 : decode cX10_say 0 = .ok (.iload_n 1, 1) := by decide +kernel
theorem dX10_say_1 : decode cX10_say 1 = .ok (.i2l, 1) := by decide +kernel
theorem dX10_say_2 : decode cX10_say 2 = .ok (.ldc2_w 103, 3) := by decide +kernel
theorem dX10_say_5 : decode cX10_say 5 = .ok (.ldc2_w 105, 3) := by decide +kernel
theorem dX10_say_8 : decode cX10_say 8 = .ok (.invokestatic 64, 3) := by decide +kernel
theorem dX10_say_11 : decode cX10_say 11 = .ok (.ifCond .ne 6, 3) := by decide +kernel
theorem dX10_say_14 : decode cX10_say 14 = .ok (.bipush (-2), 2) := by decide +kernel
theorem dX10_say_16 : decode cX10_say 16 = .ok (.ireturn, 1) := by decide +kernel
theorem dX10_say_17 : decode cX10_say 17 = .ok (.aload_n 0, 1) := by decide +kernel
theorem dX10_say_18 : decode cX10_say 18 = .ok (.getfield 107, 3) := by decide +kernel
theorem dX10_say_21 : decode cX10_say 21 = .ok (.bipush 60, 2) := by decide +kernel
theorem dX10_say_23 : decode cX10_say 23 = .ok (.if_icmp .ne 6, 3) := by decide +kernel
theorem dX10_say_26 : decode cX10_say 26 = .ok (.bipush (-4), 2) := by decide +kernel
theorem dX10_say_28 : decode cX10_say 28 = .ok (.ireturn, 1) := by decide +kernel
theorem dX10_say_29 : decode cX10_say 29 = .ok (.aload_n 0, 1) := by decide +kernel
theorem dX10_say_30 : decode cX10_say 30 = .ok (.getfield 25, 3) := by decide +kernel
theorem dX10_say_33 : decode cX10_say 33 = .ok (.aload_n 0, 1) := by decide +kernel
theorem dX10_say_34 : decode cX10_say 34 = .ok (.getfield 107, 3) := by decide +kernel
theorem dX10_say_37 : decode cX10_say 37 = .ok (.iload_n 1, 1) := by decide +kernel
theorem dX10_say_38 : decode cX10_say 38 = .ok (.iastore, 1) := by decide +kernel
theorem dX10_say_39 : decode cX10_say 39 = .ok (.aload_n 0, 1) := by decide +kernel
theorem dX10_say_40 : decode cX10_say 40 = .ok (.dup, 1) := by decide +kernel
theorem dX10_say_41 : decode cX10_say 41 = .ok (.getfield 107, 3) := by decide +kernel
theorem dX10_say_44 : decode cX10_say 44 = .ok (.iconst 1, 1) := by decide +kernel
theorem dX10_say_45 : decode cX10_say 45 = .ok (.iadd, 1) := by decide +kernel
theorem dX10_say_46 : decode cX10_say 46 = .ok (.putfield 107, 3) := by decide +kernel
theorem dX10_say_49 : decode cX10_say 49 = .ok (.aload_n 0, 1) := by decide +kernel
theorem dX10_say_50 : decode cX10_say 50 = .ok (.getfield 107, 3) := by decide +kernel
theorem dX10_say_53 : decode cX10_say 53 = .ok (.ireturn, 1) := by decide +kernel
theorem dX10_wipe_0 : decode cX10_wipe 0 = .ok (.aload_n 0, 1) := by decide +kernel
theorem dX10_wipe_1 : decode cX10_wipe 1 = .ok (.getfield 107, 3) := by decide +kernel
theorem dX10_wipe_4 : decode cX10_wipe 4 = .ok (.istore_n 1, 1) := by decide +kernel
theorem dX10_wipe_5 : decode cX10_wipe 5 = .ok (.aload_n 0, 1) := by decide +kernel
theorem dX10_wipe_6 : decode cX10_wipe 6 = .ok (.iconst 0, 1) := by decide +kernel
theorem dX10_wipe_7 : decode cX10_wipe 7 = .ok (.putfield 107, 3) := by decide +kernel
theorem dX10_wipe_10 : decode cX10_wipe 10 = .ok (.iload_n 1, 1) := by decide +kernel
theorem dX10_wipe_11 : decode cX10_wipe 11 = .ok (.ireturn, 1) := by decide +kernel
theorem dX10_isDigit_0 : decode cX10_isDigit 0 = .ok (.iload_n 0, 1) := by decide +kernel
theorem dX10_isDigit_1 : decode cX10_isDigit 1 = .ok (.i2l, 1) := by decide +kernel
theorem dX10_isDigit_2 : decode cX10_isDigit 2 = .ok (.ldc2_w 111, 3) := by decide +kernel
theorem dX10_isDigit_5 : decode cX10_isDigit 5 = .ok (.ldc2_w 113, 3) := by decide +kernel
theorem dX10_isDigit_8 : decode cX10_isDigit 8 = .ok (.invokestatic 64, 3) := by decide +kernel
theorem dX10_isDigit_11 : decode cX10_isDigit 11 = .ok (.ireturn, 1) := by decide +kernel
theorem dX10_ruleStep_0 : decode cX10_ruleStep 0 = .ok (.iload_n 0, 1) := by decide +kernel
theorem dX10_ruleStep_1 : decode cX10_ruleStep 1 = .ok (.tableswitch 205 0 9 #[55, 101, 114, 138, 151, 151, 191, 205, 205, 83], 55) := by decide +kernel
theorem dX10_ruleStep_56 : decode cX10_ruleStep 56 = .ok (.iload_n 1, 1) := by decide +kernel
theorem dX10_ruleStep_57 : decode cX10_ruleStep 57 = .ok (.bipush 42, 2) := by decide +kernel
theorem dX10_ruleStep_59 : decode cX10_ruleStep 59 = .ok (.if_icmp .ne 7, 3) := by decide +kernel
theorem dX10_ruleStep_62 : decode cX10_ruleStep 62 = .ok (.iconst 1, 1) := by decide +kernel
theorem dX10_ruleStep_63 : decode cX10_ruleStep 63 = .ok (.goto 20, 3) := by decide +kernel
theorem dX10_ruleStep_66 : decode cX10_ruleStep 66 = .ok (.iload_n 1, 1) := by decide +kernel
theorem dX10_ruleStep_67 : decode cX10_ruleStep 67 = .ok (.bipush 121, 2) := by decide +kernel
theorem dX10_ruleStep_69 : decode cX10_ruleStep 69 = .ok (.if_icmp .eq 9, 3) := by decide +kernel
theorem dX10_ruleStep_72 : decode cX10_ruleStep 72 = .ok (.iload_n 1, 1) := by decide +kernel
theorem dX10_ruleStep_73 : decode cX10_ruleStep 73 = .ok (.bipush 97, 2) := by decide +kernel
theorem dX10_ruleStep_75 : decode cX10_ruleStep 75 = .ok (.if_icmp .ne 7, 3) := by decide +kernel
theorem dX10_ruleStep_78 : decode cX10_ruleStep 78 = .ok (.iconst 2, 1) := by decide +kernel
theorem dX10_ruleStep_79 : decode cX10_ruleStep 79 = .ok (.goto 4, 3) := by decide +kernel
theorem dX10_ruleStep_82 : decode cX10_ruleStep 82 = .ok (.iconst (-1), 1) := by decide +kernel
theorem dX10_ruleStep_83 : decode cX10_ruleStep 83 = .ok (.ireturn, 1) := by decide +kernel
theorem dX10_ruleStep_84 : decode cX10_ruleStep 84 = .ok (.iload_n 1, 1) := by decide +kernel
theorem dX10_ruleStep_85 : decode cX10_ruleStep 85 = .ok (.bipush 121, 2) := by decide +kernel
theorem dX10_ruleStep_87 : decode cX10_ruleStep 87 = .ok (.if_icmp .eq 9, 3) := by decide +kernel
theorem dX10_ruleStep_90 : decode cX10_ruleStep 90 = .ok (.iload_n 1, 1) := by decide +kernel
theorem dX10_ruleStep_91 : decode cX10_ruleStep 91 = .ok (.bipush 97, 2) := by decide +kernel
theorem dX10_ruleStep_93 : decode cX10_ruleStep 93 = .ok (.if_icmp .ne 7, 3) := by decide +kernel
theorem dX10_ruleStep_96 : decode cX10_ruleStep 96 = .ok (.iconst 2, 1) := by decide +kernel
theorem dX10_ruleStep_97 : decode cX10_ruleStep 97 = .ok (.goto 4, 3) := by decide +kernel
theorem dX10_ruleStep_100 : decode cX10_ruleStep 100 = .ok (.iconst (-1), 1) := by decide +kernel
theorem dX10_ruleStep_101 : decode cX10_ruleStep 101 = .ok (.ireturn, 1) := by decide +kernel
theorem dX10_ruleStep_102 : decode cX10_ruleStep 102 = .ok (.iload_n 1, 1) := by decide +kernel
theorem dX10_ruleStep_103 : decode cX10_ruleStep 103 = .ok (.bipush 58, 2) := by decide +kernel
theorem dX10_ruleStep_105 : decode cX10_ruleStep 105 = .ok (.if_icmp .ne 8, 3) := by decide +kernel
theorem dX10_ruleStep_108 : decode cX10_ruleStep 108 = .ok (.bipush 6, 2) := by decide +kernel
theorem dX10_ruleStep_110 : decode cX10_ruleStep 110 = .ok (.goto 4, 3) := by decide +kernel
theorem dX10_ruleStep_113 : decode cX10_ruleStep 113 = .ok (.iconst (-1), 1) := by decide +kernel
theorem dX10_ruleStep_114 : decode cX10_ruleStep 114 = .ok (.ireturn, 1) := by decide +kernel
theorem dX10_ruleStep_115 : decode cX10_ruleStep 115 = .ok (.iload_n 1, 1) := by decide +kernel
theorem dX10_ruleStep_116 : decode cX10_ruleStep 116 = .ok (.bipush 60, 2) := by decide +kernel
theorem dX10_ruleStep_118 : decode cX10_ruleStep 118 = .ok (.if_icmp .eq 15, 3) := by decide +kernel
theorem dX10_ruleStep_121 : decode cX10_ruleStep 121 = .ok (.iload_n 1, 1) := by decide +kernel
theorem dX10_ruleStep_122 : decode cX10_ruleStep 122 = .ok (.bipush 62, 2) := by decide +kernel
theorem dX10_ruleStep_124 : decode cX10_ruleStep 124 = .ok (.if_icmp .eq 9, 3) := by decide +kernel
theorem dX10_ruleStep_127 : decode cX10_ruleStep 127 = .ok (.iload_n 1, 1) := by decide +kernel
theorem dX10_ruleStep_128 : decode cX10_ruleStep 128 = .ok (.bipush 61, 2) := by decide +kernel
theorem dX10_ruleStep_130 : decode cX10_ruleStep 130 = .ok (.if_icmp .ne 7, 3) := by decide +kernel
theorem dX10_ruleStep_133 : decode cX10_ruleStep 133 = .ok (.iconst 3, 1) := by decide +kernel
theorem dX10_ruleStep_134 : decode cX10_ruleStep 134 = .ok (.goto 4, 3) := by decide +kernel
theorem dX10_ruleStep_137 : decode cX10_ruleStep 137 = .ok (.iconst (-1), 1) := by decide +kernel
theorem dX10_ruleStep_138 : decode cX10_ruleStep 138 = .ok (.ireturn, 1) := by decide +kernel
theorem dX10_ruleStep_139 : decode cX10_ruleStep 139 = .ok (.iload_n 1, 1) := by decide +kernel
theorem dX10_ruleStep_140 : decode cX10_ruleStep 140 = .ok (.invokestatic 115, 3) := by decide +kernel
theorem dX10_ruleStep_143 : decode cX10_ruleStep 143 = .ok (.ifCond .eq 7, 3) := by decide +kernel
theorem dX10_ruleStep_146 : decode cX10_ruleStep 146 = .ok (.iconst 4, 1) := by decide +kernel
theorem dX10_ruleStep_147 : decode cX10_ruleStep 147 = .ok (.goto 4, 3) := by decide +kernel
theorem dX10_ruleStep_150 : decode cX10_ruleStep 150 = .ok (.iconst (-1), 1) := by decide +kernel
theorem dX10_ruleStep_151 : decode cX10_ruleStep 151 = .ok (.ireturn, 1) := by decide +kernel
theorem dX10_ruleStep_152 : decode cX10_ruleStep 152 = .ok (.iload_n 1, 1) := by decide +kernel
theorem dX10_ruleStep_153 : decode cX10_ruleStep 153 = .ok (.invokestatic 115, 3) := by decide +kernel
theorem dX10_ruleStep_156 : decode cX10_ruleStep 156 = .ok (.ifCond .eq 12, 3) := by decide +kernel
theorem dX10_ruleStep_159 : decode cX10_ruleStep 159 = .ok (.iload_n 0, 1) := by decide +kernel
theorem dX10_ruleStep_160 : decode cX10_ruleStep 160 = .ok (.iconst 4, 1) := by decide +kernel
theorem dX10_ruleStep_161 : decode cX10_ruleStep 161 = .ok (.if_icmp .ne 7, 3) := by decide +kernel
theorem dX10_ruleStep_164 : decode cX10_ruleStep 164 = .ok (.iconst 5, 1) := by decide +kernel
theorem dX10_ruleStep_165 : decode cX10_ruleStep 165 = .ok (.goto 26, 3) := by decide +kernel
theorem dX10_ruleStep_168 : decode cX10_ruleStep 168 = .ok (.iload_n 1, 1) := by decide +kernel
theorem dX10_ruleStep_169 : decode cX10_ruleStep 169 = .ok (.bipush 38, 2) := by decide +kernel
theorem dX10_ruleStep_171 : decode cX10_ruleStep 171 = .ok (.if_icmp .ne 8, 3) := by decide +kernel
theorem dX10_ruleStep_174 : decode cX10_ruleStep 174 = .ok (.bipush 9, 2) := by decide +kernel
theorem dX10_ruleStep_176 : decode cX10_ruleStep 176 = .ok (.goto 15, 3) := by decide +kernel
theorem dX10_ruleStep_179 : decode cX10_ruleStep 179 = .ok (.iload_n 1, 1) := by decide +kernel
theorem dX10_ruleStep_180 : decode cX10_ruleStep 180 = .ok (.bipush 58, 2) := by decide +kernel
theorem dX10_ruleStep_182 : decode cX10_ruleStep 182 = .ok (.if_icmp .ne 8, 3) := by decide +kernel
theorem dX10_ruleStep_185 : decode cX10_ruleStep 185 = .ok (.bipush 6, 2) := by decide +kernel
theorem dX10_ruleStep_187 : decode cX10_ruleStep 187 = .ok (.goto 4, 3) := by decide +kernel
theorem dX10_ruleStep_190 : decode cX10_ruleStep 190 = .ok (.iconst (-1), 1) := by decide +kernel
theorem dX10_ruleStep_191 : decode cX10_ruleStep 191 = .ok (.ireturn, 1) := by decide +kernel
theorem dX10_ruleStep_192 : decode cX10_ruleStep 192 = .ok (.iload_n 1, 1) := by decide +kernel
theorem dX10_ruleStep_193 : decode cX10_ruleStep 193 = .ok (.invokestatic 115, 3) := by decide +kernel
theorem dX10_ruleStep_196 : decode cX10_ruleStep 196 = .ok (.ifCond .eq 8, 3) := by decide +kernel
theorem dX10_ruleStep_199 : decode cX10_ruleStep 199 = .ok (.bipush 7, 2) := by decide +kernel
theorem dX10_ruleStep_201 : decode cX10_ruleStep 201 = .ok (.goto 4, 3) := by decide +kernel
theorem dX10_ruleStep_204 : decode cX10_ruleStep 204 = .ok (.iconst (-1), 1) := by decide +kernel
theorem dX10_ruleStep_205 : decode cX10_ruleStep 205 = .ok (.ireturn, 1) := by decide +kernel
theorem dX10_ruleStep_206 : decode cX10_ruleStep 206 = .ok (.iload_n 1, 1) := by decide +kernel
theorem dX10_ruleStep_207 : decode cX10_ruleStep 207 = .ok (.invokestatic 115, 3) := by decide +kernel
theorem dX10_ruleStep_210 : decode cX10_ruleStep 210 = .ok (.ifCond .eq 14, 3) := by decide +kernel
theorem dX10_ruleStep_213 : decode cX10_ruleStep 213 = .ok (.iload_n 0, 1) := by decide +kernel
theorem dX10_ruleStep_214 : decode cX10_ruleStep 214 = .ok (.bipush 7, 2) := by decide +kernel
theorem dX10_ruleStep_216 : decode cX10_ruleStep 216 = .ok (.if_icmp .ne 8, 3) := by decide +kernel
theorem dX10_ruleStep_219 : decode cX10_ruleStep 219 = .ok (.bipush 8, 2) := by decide +kernel
theorem dX10_ruleStep_221 : decode cX10_ruleStep 221 = .ok (.goto 14, 3) := by decide +kernel
theorem dX10_ruleStep_224 : decode cX10_ruleStep 224 = .ok (.iload_n 1, 1) := by decide +kernel
theorem dX10_ruleStep_225 : decode cX10_ruleStep 225 = .ok (.bipush 59, 2) := by decide +kernel
theorem dX10_ruleStep_227 : decode cX10_ruleStep 227 = .ok (.if_icmp .ne 7, 3) := by decide +kernel
theorem dX10_ruleStep_230 : decode cX10_ruleStep 230 = .ok (.iconst 0, 1) := by decide +kernel
theorem dX10_ruleStep_231 : decode cX10_ruleStep 231 = .ok (.goto 4, 3) := by decide +kernel
theorem dX10_ruleStep_234 : decode cX10_ruleStep 234 = .ok (.iconst (-1), 1) := by decide +kernel
theorem dX10_ruleStep_235 : decode cX10_ruleStep 235 = .ok (.ireturn, 1) := by decide +kernel
theorem dX10_growthStep_0 : decode cX10_growthStep 0 = .ok (.iload_n 0, 1) := by decide +kernel
theorem dX10_growthStep_1 : decode cX10_growthStep 1 = .ok (.tableswitch 85 0 3 #[31, 44, 44, 72], 31) := by decide +kernel
theorem dX10_growthStep_32 : decode cX10_growthStep 32 = .ok (.iload_n 1, 1) := by decide +kernel
theorem dX10_growthStep_33 : decode cX10_growthStep 33 = .ok (.invokestatic 115, 3) := by decide +kernel
theorem dX10_growthStep_36 : decode cX10_growthStep 36 = .ok (.ifCond .eq 7, 3) := by decide +kernel
theorem dX10_growthStep_39 : decode cX10_growthStep 39 = .ok (.iconst 1, 1) := by decide +kernel
theorem dX10_growthStep_40 : decode cX10_growthStep 40 = .ok (.goto 4, 3) := by decide +kernel
theorem dX10_growthStep_43 : decode cX10_growthStep 43 = .ok (.iconst (-1), 1) := by decide +kernel
theorem dX10_growthStep_44 : decode cX10_growthStep 44 = .ok (.ireturn, 1) := by decide +kernel
theorem dX10_growthStep_45 : decode cX10_growthStep 45 = .ok (.iload_n 1, 1) := by decide +kernel
theorem dX10_growthStep_46 : decode cX10_growthStep 46 = .ok (.invokestatic 115, 3) := by decide +kernel
theorem dX10_growthStep_49 : decode cX10_growthStep 49 = .ok (.ifCond .eq 12, 3) := by decide +kernel
theorem dX10_growthStep_52 : decode cX10_growthStep 52 = .ok (.iload_n 0, 1) := by decide +kernel
theorem dX10_growthStep_53 : decode cX10_growthStep 53 = .ok (.iconst 1, 1) := by decide +kernel
theorem dX10_growthStep_54 : decode cX10_growthStep 54 = .ok (.if_icmp .ne 7, 3) := by decide +kernel
theorem dX10_growthStep_57 : decode cX10_growthStep 57 = .ok (.iconst 2, 1) := by decide +kernel
theorem dX10_growthStep_58 : decode cX10_growthStep 58 = .ok (.goto 14, 3) := by decide +kernel
theorem dX10_growthStep_61 : decode cX10_growthStep 61 = .ok (.iload_n 1, 1) := by decide +kernel
theorem dX10_growthStep_62 : decode cX10_growthStep 62 = .ok (.bipush 58, 2) := by decide +kernel
theorem dX10_growthStep_64 : decode cX10_growthStep 64 = .ok (.if_icmp .ne 7, 3) := by decide +kernel
theorem dX10_growthStep_67 : decode cX10_growthStep 67 = .ok (.iconst 3, 1) := by decide +kernel
theorem dX10_growthStep_68 : decode cX10_growthStep 68 = .ok (.goto 4, 3) := by decide +kernel
theorem dX10_growthStep_71 : decode cX10_growthStep 71 = .ok (.iconst (-1), 1) := by decide +kernel
theorem dX10_growthStep_72 : decode cX10_growthStep 72 = .ok (.ireturn, 1) := by decide +kernel
theorem dX10_growthStep_73 : decode cX10_growthStep 73 = .ok (.iload_n 1, 1) := by decide +kernel
theorem dX10_growthStep_74 : decode cX10_growthStep 74 = .ok (.invokestatic 115, 3) := by decide +kernel
theorem dX10_growthStep_77 : decode cX10_growthStep 77 = .ok (.ifCond .eq 7, 3) := by decide +kernel
theorem dX10_growthStep_80 : decode cX10_growthStep 80 = .ok (.iconst 4, 1) := by decide +kernel
theorem dX10_growthStep_81 : decode cX10_growthStep 81 = .ok (.goto 4, 3) := by decide +kernel
theorem dX10_growthStep_84 : decode cX10_growthStep 84 = .ok (.iconst (-1), 1) := by decide +kernel
theorem dX10_growthStep_85 : decode cX10_growthStep 85 = .ok (.ireturn, 1) := by decide +kernel
theorem dX10_growthStep_86 : decode cX10_growthStep 86 = .ok (.iload_n 1, 1) := by decide +kernel
theorem dX10_growthStep_87 : decode cX10_growthStep 87 = .ok (.bipush 59, 2) := by decide +kernel
theorem dX10_growthStep_89 : decode cX10_growthStep 89 = .ok (.if_icmp .ne 7, 3) := by decide +kernel
theorem dX10_growthStep_92 : decode cX10_growthStep 92 = .ok (.iconst 0, 1) := by decide +kernel
theorem dX10_growthStep_93 : decode cX10_growthStep 93 = .ok (.goto 4, 3) := by decide +kernel
theorem dX10_growthStep_96 : decode cX10_growthStep 96 = .ok (.iconst (-1), 1) := by decide +kernel
theorem dX10_growthStep_97 : decode cX10_growthStep 97 = .ok (.ireturn, 1) := by decide +kernel
theorem dX10_faultOf_0 : decode cX10_faultOf 0 = .ok (.iconst 0, 1) := by decide +kernel
theorem dX10_faultOf_1 : decode cX10_faultOf 1 = .ok (.istore_n 2, 1) := by decide +kernel
theorem dX10_faultOf_2 : decode cX10_faultOf 2 = .ok (.iconst 0, 1) := by decide +kernel
theorem dX10_faultOf_3 : decode cX10_faultOf 3 = .ok (.istore_n 3, 1) := by decide +kernel
theorem dX10_faultOf_4 : decode cX10_faultOf 4 = .ok (.iload_n 3, 1) := by decide +kernel
theorem dX10_faultOf_5 : decode cX10_faultOf 5 = .ok (.aload_n 0, 1) := by decide +kernel
theorem dX10_faultOf_6 : decode cX10_faultOf 6 = .ok (.getfield 107, 3) := by decide +kernel
theorem dX10_faultOf_9 : decode cX10_faultOf 9 = .ok (.if_icmp .ge 43, 3) := by decide +kernel
theorem dX10_faultOf_12 : decode cX10_faultOf 12 = .ok (.iload_n 1, 1) := by decide +kernel
theorem dX10_faultOf_13 : decode cX10_faultOf 13 = .ok (.ifCond .ne 16, 3) := by decide +kernel
theorem dX10_faultOf_16 : decode cX10_faultOf 16 = .ok (.iload_n 2, 1) := by decide +kernel
theorem dX10_faultOf_17 : decode cX10_faultOf 17 = .ok (.aload_n 0, 1) := by decide +kernel
theorem dX10_faultOf_18 : decode cX10_faultOf 18 = .ok (.getfield 25, 3) := by decide +kernel
theorem dX10_faultOf_21 : decode cX10_faultOf 21 = .ok (.iload_n 3, 1) := by decide +kernel
theorem dX10_faultOf_22 : decode cX10_faultOf 22 = .ok (.iaload, 1) := by decide +kernel
theorem dX10_faultOf_23 : decode cX10_faultOf 23 = .ok (.invokestatic 118, 3) := by decide +kernel
theorem dX10_faultOf_26 : decode cX10_faultOf 26 = .ok (.goto 13, 3) := by decide +kernel
theorem dX10_faultOf_29 : decode cX10_faultOf 29 = .ok (.iload_n 2, 1) := by decide +kernel
theorem dX10_faultOf_30 : decode cX10_faultOf 30 = .ok (.aload_n 0, 1) := by decide +kernel
theorem dX10_faultOf_31 : decode cX10_faultOf 31 = .ok (.getfield 25, 3) := by decide +kernel
theorem dX10_faultOf_34 : decode cX10_faultOf 34 = .ok (.iload_n 3, 1) := by decide +kernel
theorem dX10_faultOf_35 : decode cX10_faultOf 35 = .ok (.iaload, 1) := by decide +kernel
theorem dX10_faultOf_36 : decode cX10_faultOf 36 = .ok (.invokestatic 121, 3) := by decide +kernel
theorem dX10_faultOf_39 : decode cX10_faultOf 39 = .ok (.istore_n 2, 1) := by decide +kernel
theorem dX10_faultOf_40 : decode cX10_faultOf 40 = .ok (.iload_n 2, 1) := by decide +kernel
theorem dX10_faultOf_41 : decode cX10_faultOf 41 = .ok (.ifCond .ge 5, 3) := by decide +kernel
theorem dX10_faultOf_44 : decode cX10_faultOf 44 = .ok (.iload_n 3, 1) := by decide +kernel
theorem dX10_faultOf_45 : decode cX10_faultOf 45 = .ok (.ireturn, 1) := by decide +kernel
theorem dX10_faultOf_46 : decode cX10_faultOf 46 = .ok (.iinc 3 1, 3) := by decide +kernel
theorem dX10_faultOf_49 : decode cX10_faultOf 49 = .ok (.goto (-45), 3) := by decide +kernel
theorem dX10_faultOf_52 : decode cX10_faultOf 52 = .ok (.iload_n 1, 1) := by decide +kernel
theorem dX10_faultOf_53 : decode cX10_faultOf 53 = .ok (.ifCond .ne 15, 3) := by decide +kernel
theorem dX10_faultOf_56 : decode cX10_faultOf 56 = .ok (.iload_n 2, 1) := by decide +kernel
theorem dX10_faultOf_57 : decode cX10_faultOf 57 = .ok (.bipush 7, 2) := by decide +kernel
theorem dX10_faultOf_59 : decode cX10_faultOf 59 = .ok (.if_icmp .eq 19, 3) := by decide +kernel
theorem dX10_faultOf_62 : decode cX10_faultOf 62 = .ok (.iload_n 2, 1) := by decide +kernel
theorem dX10_faultOf_63 : decode cX10_faultOf 63 = .ok (.bipush 8, 2) := by decide +kernel
theorem dX10_faultOf_65 : decode cX10_faultOf 65 = .ok (.if_icmp .eq 13, 3) := by decide +kernel
theorem dX10_faultOf_68 : decode cX10_faultOf 68 = .ok (.iload_n 1, 1) := by decide +kernel
theorem dX10_faultOf_69 : decode cX10_faultOf 69 = .ok (.iconst 1, 1) := by decide +kernel
theorem dX10_faultOf_70 : decode cX10_faultOf 70 = .ok (.if_icmp .ne 13, 3) := by decide +kernel
theorem dX10_faultOf_73 : decode cX10_faultOf 73 = .ok (.iload_n 2, 1) := by decide +kernel
theorem dX10_faultOf_74 : decode cX10_faultOf 74 = .ok (.iconst 4, 1) := by decide +kernel
theorem dX10_faultOf_75 : decode cX10_faultOf 75 = .ok (.if_icmp .ne 8, 3) := by decide +kernel
theorem dX10_faultOf_78 : decode cX10_faultOf 78 = .ok (.bipush (-6), 2) := by decide +kernel
theorem dX10_faultOf_80 : decode cX10_faultOf 80 = .ok (.goto 7, 3) := by decide +kernel
theorem dX10_faultOf_83 : decode cX10_faultOf 83 = .ok (.aload_n 0, 1) := by decide +kernel
theorem dX10_faultOf_84 : decode cX10_faultOf 84 = .ok (.getfield 107, 3) := by decide +kernel
theorem dX10_faultOf_87 : decode cX10_faultOf 87 = .ok (.ireturn, 1) := by decide +kernel
theorem dX10_fault_0 : decode cX10_fault 0 = .ok (.iload_n 1, 1) := by decide +kernel
theorem dX10_fault_1 : decode cX10_fault 1 = .ok (.invokestatic 124, 3) := by decide +kernel
theorem dX10_fault_4 : decode cX10_fault 4 = .ok (.ifCond .eq 11, 3) := by decide +kernel
theorem dX10_fault_7 : decode cX10_fault 7 = .ok (.aload_n 0, 1) := by decide +kernel
theorem dX10_fault_8 : decode cX10_fault 8 = .ok (.iload_n 1, 1) := by decide +kernel
theorem dX10_fault_9 : decode cX10_fault 9 = .ok (.invokevirtual 127, 3) := by decide +kernel
theorem dX10_fault_12 : decode cX10_fault 12 = .ok (.goto 5, 3) := by decide +kernel
theorem dX10_fault_15 : decode cX10_fault 15 = .ok (.bipush (-2), 2) := by decide +kernel
theorem dX10_fault_17 : decode cX10_fault 17 = .ok (.ireturn, 1) := by decide +kernel
theorem dX10_takeRule_0 : decode cX10_takeRule 0 = .ok (.aload_n 0, 1) := by decide +kernel
theorem dX10_takeRule_1 : decode cX10_takeRule 1 = .ok (.iconst 0, 1) := by decide +kernel
theorem dX10_takeRule_2 : decode cX10_takeRule 2 = .ok (.putfield 131, 3) := by decide +kernel
theorem dX10_takeRule_5 : decode cX10_takeRule 5 = .ok (.aload_n 0, 1) := by decide +kernel
theorem dX10_takeRule_6 : decode cX10_takeRule 6 = .ok (.iconst 0, 1) := by decide +kernel
theorem dX10_takeRule_7 : decode cX10_takeRule 7 = .ok (.putfield 134, 3) := by decide +kernel
theorem dX10_takeRule_10 : decode cX10_takeRule 10 = .ok (.aload_n 0, 1) := by decide +kernel
theorem dX10_takeRule_11 : decode cX10_takeRule 11 = .ok (.getfield 28, 3) := by decide +kernel
theorem dX10_takeRule_14 : decode cX10_takeRule 14 = .ok (.iconst 0, 1) := by decide +kernel
theorem dX10_takeRule_15 : decode cX10_takeRule 15 = .ok (.iconst 0, 1) := by decide +kernel
theorem dX10_takeRule_16 : decode cX10_takeRule 16 = .ok (.iastore, 1) := by decide +kernel
theorem dX10_takeRule_17 : decode cX10_takeRule 17 = .ok (.iconst 0, 1) := by decide +kernel
theorem dX10_takeRule_18 : decode cX10_takeRule 18 = .ok (.istore_n 1, 1) := by decide +kernel
theorem dX10_takeRule_19 : decode cX10_takeRule 19 = .ok (.iconst 0, 1) := by decide +kernel
theorem dX10_takeRule_20 : decode cX10_takeRule 20 = .ok (.istore_n 2, 1) := by decide +kernel
theorem dX10_takeRule_21 : decode cX10_takeRule 21 = .ok (.iload_n 2, 1) := by decide +kernel
theorem dX10_takeRule_22 : decode cX10_takeRule 22 = .ok (.aload_n 0, 1) := by decide +kernel
theorem dX10_takeRule_23 : decode cX10_takeRule 23 = .ok (.getfield 107, 3) := by decide +kernel
theorem dX10_takeRule_26 : decode cX10_takeRule 26 = .ok (.if_icmp .ge 214, 3) := by decide +kernel
theorem dX10_takeRule_29 : decode cX10_takeRule 29 = .ok (.aload_n 0, 1) := by decide +kernel
theorem dX10_takeRule_30 : decode cX10_takeRule 30 = .ok (.getfield 25, 3) := by decide +kernel
theorem dX10_takeRule_33 : decode cX10_takeRule 33 = .ok (.iload_n 2, 1) := by decide +kernel
theorem dX10_takeRule_34 : decode cX10_takeRule 34 = .ok (.iaload, 1) := by decide +kernel
theorem dX10_takeRule_35 : decode cX10_takeRule 35 = .ok (.istore_n 3, 1) := by decide +kernel
theorem dX10_takeRule_36 : decode cX10_takeRule 36 = .ok (.iload_n 1, 1) := by decide +kernel
theorem dX10_takeRule_37 : decode cX10_takeRule 37 = .ok (.iload_n 3, 1) := by decide +kernel
theorem dX10_takeRule_38 : decode cX10_takeRule 38 = .ok (.invokestatic 118, 3) := by decide +kernel
theorem dX10_takeRule_41 : decode cX10_takeRule 41 = .ok (.istore_n 1, 1) := by decide +kernel
theorem dX10_takeRule_42 : decode cX10_takeRule 42 = .ok (.iload_n 1, 1) := by decide +kernel
theorem dX10_takeRule_43 : decode cX10_takeRule 43 = .ok (.tableswitch 191 2 8 #[41, 74, 89, 89, 122, 158, 158], 41) := by decide +kernel
theorem dX10_takeRule_84 : decode cX10_takeRule 84 = .ok (.aload_n 0, 1) := by decide +kernel
theorem dX10_takeRule_85 : decode cX10_takeRule 85 = .ok (.getfield 34, 3) := by decide +kernel
theorem dX10_takeRule_88 : decode cX10_takeRule 88 = .ok (.aload_n 0, 1) := by decide +kernel
theorem dX10_takeRule_89 : decode cX10_takeRule 89 = .ok (.getfield 134, 3) := by decide +kernel
theorem dX10_takeRule_92 : decode cX10_takeRule 92 = .ok (.iload_n 3, 1) := by decide +kernel
theorem dX10_takeRule_93 : decode cX10_takeRule 93 = .ok (.iastore, 1) := by decide +kernel
theorem dX10_takeRule_94 : decode cX10_takeRule 94 = .ok (.aload_n 0, 1) := by decide +kernel
theorem dX10_takeRule_95 : decode cX10_takeRule 95 = .ok (.getfield 40, 3) := by decide +kernel
theorem dX10_takeRule_98 : decode cX10_takeRule 98 = .ok (.aload_n 0, 1) := by decide +kernel
theorem dX10_takeRule_99 : decode cX10_takeRule 99 = .ok (.getfield 134, 3) := by decide +kernel
theorem dX10_takeRule_102 : decode cX10_takeRule 102 = .ok (.iconst 0, 1) := by decide +kernel
theorem dX10_takeRule_103 : decode cX10_takeRule 103 = .ok (.iastore, 1) := by decide +kernel
theorem dX10_takeRule_104 : decode cX10_takeRule 104 = .ok (.aload_n 0, 1) := by decide +kernel
theorem dX10_takeRule_105 : decode cX10_takeRule 105 = .ok (.dup, 1) := by decide +kernel
theorem dX10_takeRule_106 : decode cX10_takeRule 106 = .ok (.getfield 134, 3) := by decide +kernel
theorem dX10_takeRule_109 : decode cX10_takeRule 109 = .ok (.iconst 1, 1) := by decide +kernel
theorem dX10_takeRule_110 : decode cX10_takeRule 110 = .ok (.iadd, 1) := by decide +kernel
theorem dX10_takeRule_111 : decode cX10_takeRule 111 = .ok (.putfield 134, 3) := by decide +kernel
theorem dX10_takeRule_114 : decode cX10_takeRule 114 = .ok (.goto 120, 3) := by decide +kernel
theorem dX10_takeRule_117 : decode cX10_takeRule 117 = .ok (.aload_n 0, 1) := by decide +kernel
theorem dX10_takeRule_118 : decode cX10_takeRule 118 = .ok (.getfield 37, 3) := by decide +kernel
theorem dX10_takeRule_121 : decode cX10_takeRule 121 = .ok (.aload_n 0, 1) := by decide +kernel
theorem dX10_takeRule_122 : decode cX10_takeRule 122 = .ok (.getfield 134, 3) := by decide +kernel
theorem dX10_takeRule_125 : decode cX10_takeRule 125 = .ok (.iconst 1, 1) := by decide +kernel
theorem dX10_takeRule_126 : decode cX10_takeRule 126 = .ok (.isub, 1) := by decide +kernel
theorem dX10_takeRule_127 : decode cX10_takeRule 127 = .ok (.iload_n 3, 1) := by decide +kernel
theorem dX10_takeRule_128 : decode cX10_takeRule 128 = .ok (.iastore, 1) := by decide +kernel
theorem dX10_takeRule_129 : decode cX10_takeRule 129 = .ok (.goto 105, 3) := by decide +kernel
theorem dX10_takeRule_132 : decode cX10_takeRule 132 = .ok (.aload_n 0, 1) := by decide +kernel
theorem dX10_takeRule_133 : decode cX10_takeRule 133 = .ok (.getfield 40, 3) := by decide +kernel
theorem dX10_takeRule_136 : decode cX10_takeRule 136 = .ok (.aload_n 0, 1) := by decide +kernel
theorem dX10_takeRule_137 : decode cX10_takeRule 137 = .ok (.getfield 134, 3) := by decide +kernel
theorem dX10_takeRule_140 : decode cX10_takeRule 140 = .ok (.iconst 1, 1) := by decide +kernel
theorem dX10_takeRule_141 : decode cX10_takeRule 141 = .ok (.isub, 1) := by decide +kernel
theorem dX10_takeRule_142 : decode cX10_takeRule 142 = .ok (.bipush 10, 2) := by decide +kernel
theorem dX10_takeRule_144 : decode cX10_takeRule 144 = .ok (.aload_n 0, 1) := by decide +kernel
theorem dX10_takeRule_145 : decode cX10_takeRule 145 = .ok (.getfield 40, 3) := by decide +kernel
theorem dX10_takeRule_148 : decode cX10_takeRule 148 = .ok (.aload_n 0, 1) := by decide +kernel
theorem dX10_takeRule_149 : decode cX10_takeRule 149 = .ok (.getfield 134, 3) := by decide +kernel
theorem dX10_takeRule_152 : decode cX10_takeRule 152 = .ok (.iconst 1, 1) := by decide +kernel
theorem dX10_takeRule_153 : decode cX10_takeRule 153 = .ok (.isub, 1) := by decide +kernel
theorem dX10_takeRule_154 : decode cX10_takeRule 154 = .ok (.iaload, 1) := by decide +kernel
theorem dX10_takeRule_155 : decode cX10_takeRule 155 = .ok (.imul, 1) := by decide +kernel
theorem dX10_takeRule_156 : decode cX10_takeRule 156 = .ok (.iload_n 3, 1) := by decide +kernel
theorem dX10_takeRule_157 : decode cX10_takeRule 157 = .ok (.iadd, 1) := by decide +kernel
theorem dX10_takeRule_158 : decode cX10_takeRule 158 = .ok (.bipush 48, 2) := by decide +kernel
theorem dX10_takeRule_160 : decode cX10_takeRule 160 = .ok (.isub, 1) := by decide +kernel
theorem dX10_takeRule_161 : decode cX10_takeRule 161 = .ok (.iastore, 1) := by decide +kernel
theorem dX10_takeRule_162 : decode cX10_takeRule 162 = .ok (.goto 72, 3) := by decide +kernel
theorem dX10_takeRule_165 : decode cX10_takeRule 165 = .ok (.aload_n 0, 1) := by decide +kernel
theorem dX10_takeRule_166 : decode cX10_takeRule 166 = .ok (.getfield 31, 3) := by decide +kernel
theorem dX10_takeRule_169 : decode cX10_takeRule 169 = .ok (.aload_n 0, 1) := by decide +kernel
theorem dX10_takeRule_170 : decode cX10_takeRule 170 = .ok (.getfield 131, 3) := by decide +kernel
theorem dX10_takeRule_173 : decode cX10_takeRule 173 = .ok (.iconst 0, 1) := by decide +kernel
theorem dX10_takeRule_174 : decode cX10_takeRule 174 = .ok (.iastore, 1) := by decide +kernel
theorem dX10_takeRule_175 : decode cX10_takeRule 175 = .ok (.aload_n 0, 1) := by decide +kernel
theorem dX10_takeRule_176 : decode cX10_takeRule 176 = .ok (.dup, 1) := by decide +kernel
theorem dX10_takeRule_177 : decode cX10_takeRule 177 = .ok (.getfield 131, 3) := by decide +kernel
theorem dX10_takeRule_180 : decode cX10_takeRule 180 = .ok (.iconst 1, 1) := by decide +kernel
theorem dX10_takeRule_181 : decode cX10_takeRule 181 = .ok (.iadd, 1) := by decide +kernel
theorem dX10_takeRule_182 : decode cX10_takeRule 182 = .ok (.putfield 131, 3) := by decide +kernel
theorem dX10_takeRule_185 : decode cX10_takeRule 185 = .ok (.aload_n 0, 1) := by decide +kernel
theorem dX10_takeRule_186 : decode cX10_takeRule 186 = .ok (.getfield 28, 3) := by decide +kernel
theorem dX10_takeRule_189 : decode cX10_takeRule 189 = .ok (.aload_n 0, 1) := by decide +kernel
theorem dX10_takeRule_190 : decode cX10_takeRule 190 = .ok (.getfield 131, 3) := by decide +kernel
theorem dX10_takeRule_193 : decode cX10_takeRule 193 = .ok (.aload_n 0, 1) := by decide +kernel
theorem dX10_takeRule_194 : decode cX10_takeRule 194 = .ok (.getfield 134, 3) := by decide +kernel
theorem dX10_takeRule_197 : decode cX10_takeRule 197 = .ok (.iastore, 1) := by decide +kernel
theorem dX10_takeRule_198 : decode cX10_takeRule 198 = .ok (.goto 36, 3) := by decide +kernel
theorem dX10_takeRule_201 : decode cX10_takeRule 201 = .ok (.aload_n 0, 1) := by decide +kernel
theorem dX10_takeRule_202 : decode cX10_takeRule 202 = .ok (.getfield 31, 3) := by decide +kernel
theorem dX10_takeRule_205 : decode cX10_takeRule 205 = .ok (.aload_n 0, 1) := by decide +kernel
theorem dX10_takeRule_206 : decode cX10_takeRule 206 = .ok (.getfield 131, 3) := by decide +kernel
theorem dX10_takeRule_209 : decode cX10_takeRule 209 = .ok (.iconst 1, 1) := by decide +kernel
theorem dX10_takeRule_210 : decode cX10_takeRule 210 = .ok (.isub, 1) := by decide +kernel
theorem dX10_takeRule_211 : decode cX10_takeRule 211 = .ok (.bipush 10, 2) := by decide +kernel
theorem dX10_takeRule_213 : decode cX10_takeRule 213 = .ok (.aload_n 0, 1) := by decide +kernel
theorem dX10_takeRule_214 : decode cX10_takeRule 214 = .ok (.getfield 31, 3) := by decide +kernel
theorem dX10_takeRule_217 : decode cX10_takeRule 217 = .ok (.aload_n 0, 1) := by decide +kernel
theorem dX10_takeRule_218 : decode cX10_takeRule 218 = .ok (.getfield 131, 3) := by decide +kernel
theorem dX10_takeRule_221 : decode cX10_takeRule 221 = .ok (.iconst 1, 1) := by decide +kernel
theorem dX10_takeRule_222 : decode cX10_takeRule 222 = .ok (.isub, 1) := by decide +kernel
theorem dX10_takeRule_223 : decode cX10_takeRule 223 = .ok (.iaload, 1) := by decide +kernel
theorem dX10_takeRule_224 : decode cX10_takeRule 224 = .ok (.imul, 1) := by decide +kernel
theorem dX10_takeRule_225 : decode cX10_takeRule 225 = .ok (.iload_n 3, 1) := by decide +kernel
theorem dX10_takeRule_226 : decode cX10_takeRule 226 = .ok (.iadd, 1) := by decide +kernel
theorem dX10_takeRule_227 : decode cX10_takeRule 227 = .ok (.bipush 48, 2) := by decide +kernel
theorem dX10_takeRule_229 : decode cX10_takeRule 229 = .ok (.isub, 1) := by decide +kernel
theorem dX10_takeRule_230 : decode cX10_takeRule 230 = .ok (.iastore, 1) := by decide +kernel
theorem dX10_takeRule_231 : decode cX10_takeRule 231 = .ok (.goto 3, 3) := by decide +kernel
theorem dX10_takeRule_234 : decode cX10_takeRule 234 = .ok (.iinc 2 1, 3) := by decide +kernel
theorem dX10_takeRule_237 : decode cX10_takeRule 237 = .ok (.goto (-216), 3) := by decide +kernel
theorem dX10_takeRule_240 : decode cX10_takeRule 240 = .ok (.return_, 1) := by decide +kernel
theorem dX10_takeGrowth_0 : decode cX10_takeGrowth 0 = .ok (.aload_n 0, 1) := by decide +kernel
theorem dX10_takeGrowth_1 : decode cX10_takeGrowth 1 = .ok (.iconst 0, 1) := by decide +kernel
theorem dX10_takeGrowth_2 : decode cX10_takeGrowth 2 = .ok (.putfield 137, 3) := by decide +kernel
theorem dX10_takeGrowth_5 : decode cX10_takeGrowth 5 = .ok (.iconst 0, 1) := by decide +kernel
theorem dX10_takeGrowth_6 : decode cX10_takeGrowth 6 = .ok (.istore_n 1, 1) := by decide +kernel
theorem dX10_takeGrowth_7 : decode cX10_takeGrowth 7 = .ok (.iconst 0, 1) := by decide +kernel
theorem dX10_takeGrowth_8 : decode cX10_takeGrowth 8 = .ok (.istore_n 2, 1) := by decide +kernel
theorem dX10_takeGrowth_9 : decode cX10_takeGrowth 9 = .ok (.iload_n 2, 1) := by decide +kernel
theorem dX10_takeGrowth_10 : decode cX10_takeGrowth 10 = .ok (.aload_n 0, 1) := by decide +kernel
theorem dX10_takeGrowth_11 : decode cX10_takeGrowth 11 = .ok (.getfield 107, 3) := by decide +kernel
theorem dX10_takeGrowth_14 : decode cX10_takeGrowth 14 = .ok (.if_icmp .ge 104, 3) := by decide +kernel
theorem dX10_takeGrowth_17 : decode cX10_takeGrowth 17 = .ok (.aload_n 0, 1) := by decide +kernel
theorem dX10_takeGrowth_18 : decode cX10_takeGrowth 18 = .ok (.getfield 25, 3) := by decide +kernel
theorem dX10_takeGrowth_21 : decode cX10_takeGrowth 21 = .ok (.iload_n 2, 1) := by decide +kernel
theorem dX10_takeGrowth_22 : decode cX10_takeGrowth 22 = .ok (.iaload, 1) := by decide +kernel
theorem dX10_takeGrowth_23 : decode cX10_takeGrowth 23 = .ok (.bipush 48, 2) := by decide +kernel
theorem dX10_takeGrowth_25 : decode cX10_takeGrowth 25 = .ok (.isub, 1) := by decide +kernel
theorem dX10_takeGrowth_26 : decode cX10_takeGrowth 26 = .ok (.istore_n 3, 1) := by decide +kernel
theorem dX10_takeGrowth_27 : decode cX10_takeGrowth 27 = .ok (.iload_n 1, 1) := by decide +kernel
theorem dX10_takeGrowth_28 : decode cX10_takeGrowth 28 = .ok (.aload_n 0, 1) := by decide +kernel
theorem dX10_takeGrowth_29 : decode cX10_takeGrowth 29 = .ok (.getfield 25, 3) := by decide +kernel
theorem dX10_takeGrowth_32 : decode cX10_takeGrowth 32 = .ok (.iload_n 2, 1) := by decide +kernel
theorem dX10_takeGrowth_33 : decode cX10_takeGrowth 33 = .ok (.iaload, 1) := by decide +kernel
theorem dX10_takeGrowth_34 : decode cX10_takeGrowth 34 = .ok (.invokestatic 121, 3) := by decide +kernel
theorem dX10_takeGrowth_37 : decode cX10_takeGrowth 37 = .ok (.istore_n 1, 1) := by decide +kernel
theorem dX10_takeGrowth_38 : decode cX10_takeGrowth 38 = .ok (.iload_n 1, 1) := by decide +kernel
theorem dX10_takeGrowth_39 : decode cX10_takeGrowth 39 = .ok (.iconst 1, 1) := by decide +kernel
theorem dX10_takeGrowth_40 : decode cX10_takeGrowth 40 = .ok (.if_icmp .ne 16, 3) := by decide +kernel
theorem dX10_takeGrowth_43 : decode cX10_takeGrowth 43 = .ok (.aload_n 0, 1) := by decide +kernel
theorem dX10_takeGrowth_44 : decode cX10_takeGrowth 44 = .ok (.getfield 43, 3) := by decide +kernel
theorem dX10_takeGrowth_47 : decode cX10_takeGrowth 47 = .ok (.aload_n 0, 1) := by decide +kernel
theorem dX10_takeGrowth_48 : decode cX10_takeGrowth 48 = .ok (.getfield 137, 3) := by decide +kernel
theorem dX10_takeGrowth_51 : decode cX10_takeGrowth 51 = .ok (.iload_n 3, 1) := by decide +kernel
theorem dX10_takeGrowth_52 : decode cX10_takeGrowth 52 = .ok (.iastore, 1) := by decide +kernel
theorem dX10_takeGrowth_53 : decode cX10_takeGrowth 53 = .ok (.goto 59, 3) := by decide +kernel
theorem dX10_takeGrowth_56 : decode cX10_takeGrowth 56 = .ok (.iload_n 1, 1) := by decide +kernel
theorem dX10_takeGrowth_57 : decode cX10_takeGrowth 57 = .ok (.iconst 2, 1) := by decide +kernel
theorem dX10_takeGrowth_58 : decode cX10_takeGrowth 58 = .ok (.if_icmp .ne 29, 3) := by decide +kernel
theorem dX10_takeGrowth_61 : decode cX10_takeGrowth 61 = .ok (.aload_n 0, 1) := by decide +kernel
theorem dX10_takeGrowth_62 : decode cX10_takeGrowth 62 = .ok (.getfield 43, 3) := by decide +kernel
theorem dX10_takeGrowth_65 : decode cX10_takeGrowth 65 = .ok (.aload_n 0, 1) := by decide +kernel
theorem dX10_takeGrowth_66 : decode cX10_takeGrowth 66 = .ok (.getfield 137, 3) := by decide +kernel
theorem dX10_takeGrowth_69 : decode cX10_takeGrowth 69 = .ok (.bipush 10, 2) := by decide +kernel
theorem dX10_takeGrowth_71 : decode cX10_takeGrowth 71 = .ok (.aload_n 0, 1) := by decide +kernel
theorem dX10_takeGrowth_72 : decode cX10_takeGrowth 72 = .ok (.getfield 43, 3) := by decide +kernel
theorem dX10_takeGrowth_75 : decode cX10_takeGrowth 75 = .ok (.aload_n 0, 1) := by decide +kernel
theorem dX10_takeGrowth_76 : decode cX10_takeGrowth 76 = .ok (.getfield 137, 3) := by decide +kernel
theorem dX10_takeGrowth_79 : decode cX10_takeGrowth 79 = .ok (.iaload, 1) := by decide +kernel
theorem dX10_takeGrowth_80 : decode cX10_takeGrowth 80 = .ok (.imul, 1) := by decide +kernel
theorem dX10_takeGrowth_81 : decode cX10_takeGrowth 81 = .ok (.iload_n 3, 1) := by decide +kernel
theorem dX10_takeGrowth_82 : decode cX10_takeGrowth 82 = .ok (.iadd, 1) := by decide +kernel
theorem dX10_takeGrowth_83 : decode cX10_takeGrowth 83 = .ok (.iastore, 1) := by decide +kernel
theorem dX10_takeGrowth_84 : decode cX10_takeGrowth 84 = .ok (.goto 28, 3) := by decide +kernel
theorem dX10_takeGrowth_87 : decode cX10_takeGrowth 87 = .ok (.iload_n 1, 1) := by decide +kernel
theorem dX10_takeGrowth_88 : decode cX10_takeGrowth 88 = .ok (.iconst 4, 1) := by decide +kernel
theorem dX10_takeGrowth_89 : decode cX10_takeGrowth 89 = .ok (.if_icmp .ne 23, 3) := by decide +kernel
theorem dX10_takeGrowth_92 : decode cX10_takeGrowth 92 = .ok (.aload_n 0, 1) := by decide +kernel
theorem dX10_takeGrowth_93 : decode cX10_takeGrowth 93 = .ok (.getfield 46, 3) := by decide +kernel
theorem dX10_takeGrowth_96 : decode cX10_takeGrowth 96 = .ok (.aload_n 0, 1) := by decide +kernel
theorem dX10_takeGrowth_97 : decode cX10_takeGrowth 97 = .ok (.getfield 137, 3) := by decide +kernel
theorem dX10_takeGrowth_100 : decode cX10_takeGrowth 100 = .ok (.iload_n 3, 1) := by decide +kernel
theorem dX10_takeGrowth_101 : decode cX10_takeGrowth 101 = .ok (.iastore, 1) := by decide +kernel
theorem dX10_takeGrowth_102 : decode cX10_takeGrowth 102 = .ok (.aload_n 0, 1) := by decide +kernel
theorem dX10_takeGrowth_103 : decode cX10_takeGrowth 103 = .ok (.dup, 1) := by decide +kernel
theorem dX10_takeGrowth_104 : decode cX10_takeGrowth 104 = .ok (.getfield 137, 3) := by decide +kernel
theorem dX10_takeGrowth_107 : decode cX10_takeGrowth 107 = .ok (.iconst 1, 1) := by decide +kernel
theorem dX10_takeGrowth_108 : decode cX10_takeGrowth 108 = .ok (.iadd, 1) := by decide +kernel
theorem dX10_takeGrowth_109 : decode cX10_takeGrowth 109 = .ok (.putfield 137, 3) := by decide +kernel
theorem dX10_takeGrowth_112 : decode cX10_takeGrowth 112 = .ok (.iinc 2 1, 3) := by decide +kernel
theorem dX10_takeGrowth_115 : decode cX10_takeGrowth 115 = .ok (.goto (-106), 3) := by decide +kernel
theorem dX10_takeGrowth_118 : decode cX10_takeGrowth 118 = .ok (.return_, 1) := by decide +kernel
theorem dX10_take_0 : decode cX10_take 0 = .ok (.iload_n 1, 1) := by decide +kernel
theorem dX10_take_1 : decode cX10_take 1 = .ok (.invokestatic 124, 3) := by decide +kernel
theorem dX10_take_4 : decode cX10_take 4 = .ok (.ifCond .ne 6, 3) := by decide +kernel
theorem dX10_take_7 : decode cX10_take 7 = .ok (.bipush (-2), 2) := by decide +kernel
theorem dX10_take_9 : decode cX10_take 9 = .ok (.ireturn, 1) := by decide +kernel
theorem dX10_take_10 : decode cX10_take 10 = .ok (.aload_n 0, 1) := by decide +kernel
theorem dX10_take_11 : decode cX10_take 11 = .ok (.iload_n 1, 1) := by decide +kernel
theorem dX10_take_12 : decode cX10_take 12 = .ok (.invokevirtual 127, 3) := by decide +kernel
theorem dX10_take_15 : decode cX10_take 15 = .ok (.ifCond .lt 6, 3) := by decide +kernel
theorem dX10_take_18 : decode cX10_take 18 = .ok (.bipush (-5), 2) := by decide +kernel
theorem dX10_take_20 : decode cX10_take 20 = .ok (.ireturn, 1) := by decide +kernel
theorem dX10_take_21 : decode cX10_take 21 = .ok (.iload_n 1, 1) := by decide +kernel
theorem dX10_take_22 : decode cX10_take 22 = .ok (.ifCond .ne 10, 3) := by decide +kernel
theorem dX10_take_25 : decode cX10_take 25 = .ok (.aload_n 0, 1) := by decide +kernel
theorem dX10_take_26 : decode cX10_take 26 = .ok (.invokevirtual 140, 3) := by decide +kernel
theorem dX10_take_29 : decode cX10_take 29 = .ok (.goto 7, 3) := by decide +kernel
theorem dX10_take_32 : decode cX10_take 32 = .ok (.aload_n 0, 1) := by decide +kernel
theorem dX10_take_33 : decode cX10_take 33 = .ok (.invokevirtual 143, 3) := by decide +kernel
theorem dX10_take_36 : decode cX10_take 36 = .ok (.aload_n 0, 1) := by decide +kernel
theorem dX10_take_37 : decode cX10_take 37 = .ok (.iconst 0, 1) := by decide +kernel
theorem dX10_take_38 : decode cX10_take 38 = .ok (.putfield 107, 3) := by decide +kernel
theorem dX10_take_41 : decode cX10_take 41 = .ok (.iload_n 1, 1) := by decide +kernel
theorem dX10_take_42 : decode cX10_take 42 = .ok (.ifCond .ne 10, 3) := by decide +kernel
theorem dX10_take_45 : decode cX10_take 45 = .ok (.aload_n 0, 1) := by decide +kernel
theorem dX10_take_46 : decode cX10_take 46 = .ok (.getfield 131, 3) := by decide +kernel
theorem dX10_take_49 : decode cX10_take 49 = .ok (.goto 7, 3) := by decide +kernel
theorem dX10_take_52 : decode cX10_take 52 = .ok (.aload_n 0, 1) := by decide +kernel
theorem dX10_take_53 : decode cX10_take 53 = .ok (.getfield 137, 3) := by decide +kernel
theorem dX10_take_56 : decode cX10_take 56 = .ok (.ireturn, 1) := by decide +kernel
theorem dX10_lineOf_0 : decode cX10_lineOf 0 = .ok (.iconst 0, 1) := by decide +kernel
theorem dX10_lineOf_1 : decode cX10_lineOf 1 = .ok (.istore_n 2, 1) := by decide +kernel
theorem dX10_lineOf_2 : decode cX10_lineOf 2 = .ok (.iload_n 2, 1) := by decide +kernel
theorem dX10_lineOf_3 : decode cX10_lineOf 3 = .ok (.aload_n 0, 1) := by decide +kernel
theorem dX10_lineOf_4 : decode cX10_lineOf 4 = .ok (.getfield 131, 3) := by decide +kernel
theorem dX10_lineOf_7 : decode cX10_lineOf 7 = .ok (.if_icmp .ge 178, 3) := by decide +kernel
theorem dX10_lineOf_10 : decode cX10_lineOf 10 = .ok (.aload_n 0, 1) := by decide +kernel
theorem dX10_lineOf_11 : decode cX10_lineOf 11 = .ok (.getfield 19, 3) := by decide +kernel
theorem dX10_lineOf_14 : decode cX10_lineOf 14 = .ok (.iload_n 1, 1) := by decide +kernel
theorem dX10_lineOf_15 : decode cX10_lineOf 15 = .ok (.iaload, 1) := by decide +kernel
theorem dX10_lineOf_16 : decode cX10_lineOf 16 = .ok (.ifCond .ne 169, 3) := by decide +kernel
theorem dX10_lineOf_19 : decode cX10_lineOf 19 = .ok (.iconst 1, 1) := by decide +kernel
theorem dX10_lineOf_20 : decode cX10_lineOf 20 = .ok (.istore_n 3, 1) := by decide +kernel
theorem dX10_lineOf_21 : decode cX10_lineOf 21 = .ok (.aload_n 0, 1) := by decide +kernel
theorem dX10_lineOf_22 : decode cX10_lineOf 22 = .ok (.getfield 28, 3) := by decide +kernel
theorem dX10_lineOf_25 : decode cX10_lineOf 25 = .ok (.iload_n 2, 1) := by decide +kernel
theorem dX10_lineOf_26 : decode cX10_lineOf 26 = .ok (.iaload, 1) := by decide +kernel
theorem dX10_lineOf_27 : decode cX10_lineOf 27 = .ok (.istore 4, 2) := by decide +kernel
theorem dX10_lineOf_29 : decode cX10_lineOf 29 = .ok (.iload 4, 2) := by decide +kernel
theorem dX10_lineOf_31 : decode cX10_lineOf 31 = .ok (.aload_n 0, 1) := by decide +kernel
theorem dX10_lineOf_32 : decode cX10_lineOf 32 = .ok (.getfield 28, 3) := by decide +kernel
theorem dX10_lineOf_35 : decode cX10_lineOf 35 = .ok (.iload_n 2, 1) := by decide +kernel
theorem dX10_lineOf_36 : decode cX10_lineOf 36 = .ok (.iconst 1, 1) := by decide +kernel
theorem dX10_lineOf_37 : decode cX10_lineOf 37 = .ok (.iadd, 1) := by decide +kernel
theorem dX10_lineOf_38 : decode cX10_lineOf 38 = .ok (.iaload, 1) := by decide +kernel
theorem dX10_lineOf_39 : decode cX10_lineOf 39 = .ok (.if_icmp .ge 113, 3) := by decide +kernel
