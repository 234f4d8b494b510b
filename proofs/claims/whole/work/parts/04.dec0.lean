theorem dX0_init_0 : decode cX0_init 0 = .ok (.aload_n 0, 1) := by decide +kernel
theorem dX0_init_1 : decode cX0_init 1 = .ok (.invokespecial 3, 3) := by decide +kernel
theorem dX0_init_4 : decode cX0_init 4 = .ok (.aload_n 0, 1) := by decide +kernel
theorem dX0_init_5 : decode cX0_init 5 = .ok (.bipush 64, 2) := by decide +kernel
theorem dX0_init_7 : decode cX0_init 7 = .ok (.newarray .int, 2) := by decide +kernel
theorem dX0_init_9 : decode cX0_init 9 = .ok (.putfield 9, 3) := by decide +kernel
theorem dX0_init_12 : decode cX0_init 12 = .ok (.aload_n 0, 1) := by decide +kernel
theorem dX0_init_13 : decode cX0_init 13 = .ok (.getstatic 15, 3) := by decide +kernel
theorem dX0_init_16 : decode cX0_init 16 = .ok (.invokevirtual 18, 3) := by decide +kernel
theorem dX0_init_19 : decode cX0_init 19 = .ok (.checkcast 19, 3) := by decide +kernel
theorem dX0_init_22 : decode cX0_init 22 = .ok (.putfield 23, 3) := by decide +kernel
theorem dX0_init_25 : decode cX0_init 25 = .ok (.return_, 1) := by decide +kernel
theorem dX0_menAt_0 : decode cX0_menAt 0 = .ok (.iload_n 1, 1) := by decide +kernel
theorem dX0_menAt_1 : decode cX0_menAt 1 = .ok (.ifCond .lt 12, 3) := by decide +kernel
theorem dX0_menAt_4 : decode cX0_menAt 4 = .ok (.iload_n 1, 1) := by decide +kernel
theorem dX0_menAt_5 : decode cX0_menAt 5 = .ok (.aload_n 0, 1) := by decide +kernel
theorem dX0_menAt_6 : decode cX0_menAt 6 = .ok (.getfield 9, 3) := by decide +kernel
theorem dX0_menAt_9 : decode cX0_menAt 9 = .ok (.arraylength, 1) := by decide +kernel
theorem dX0_menAt_10 : decode cX0_menAt 10 = .ok (.if_icmp .lt 7, 3) := by decide +kernel
theorem dX0_menAt_13 : decode cX0_menAt 13 = .ok (.iconst 0, 1) := by decide +kernel
theorem dX0_menAt_14 : decode cX0_menAt 14 = .ok (.goto 9, 3) := by decide +kernel
theorem dX0_menAt_17 : decode cX0_menAt 17 = .ok (.aload_n 0, 1) := by decide +kernel
theorem dX0_menAt_18 : decode cX0_menAt 18 = .ok (.getfield 9, 3) := by decide +kernel
theorem dX0_menAt_21 : decode cX0_menAt 21 = .ok (.iload_n 1, 1) := by decide +kernel
theorem dX0_menAt_22 : decode cX0_menAt 22 = .ok (.iaload, 1) := by decide +kernel
theorem dX0_menAt_23 : decode cX0_menAt 23 = .ok (.ireturn, 1) := by decide +kernel
theorem dX0_put_0 : decode cX0_put 0 = .ok (.iload_n 1, 1) := by decide +kernel
theorem dX0_put_1 : decode cX0_put 1 = .ok (.invokestatic 26, 3) := by decide +kernel
theorem dX0_put_4 : decode cX0_put 4 = .ok (.ifCond .eq 27, 3) := by decide +kernel
theorem dX0_put_7 : decode cX0_put 7 = .ok (.aload_n 0, 1) := by decide +kernel
theorem dX0_put_8 : decode cX0_put 8 = .ok (.dup, 1) := by decide +kernel
theorem dX0_put_9 : decode cX0_put 9 = .ok (.getfield 30, 3) := by decide +kernel
theorem dX0_put_12 : decode cX0_put 12 = .ok (.iload_n 2, 1) := by decide +kernel
theorem dX0_put_13 : decode cX0_put 13 = .ok (.aload_n 0, 1) := by decide +kernel
theorem dX0_put_14 : decode cX0_put 14 = .ok (.getfield 9, 3) := by decide +kernel
theorem dX0_put_17 : decode cX0_put 17 = .ok (.iload_n 1, 1) := by decide +kernel
theorem dX0_put_18 : decode cX0_put 18 = .ok (.iaload, 1) := by decide +kernel
theorem dX0_put_19 : decode cX0_put 19 = .ok (.isub, 1) := by decide +kernel
theorem dX0_put_20 : decode cX0_put 20 = .ok (.iadd, 1) := by decide +kernel
theorem dX0_put_21 : decode cX0_put 21 = .ok (.putfield 30, 3) := by decide +kernel
theorem dX0_put_24 : decode cX0_put 24 = .ok (.aload_n 0, 1) := by decide +kernel
theorem dX0_put_25 : decode cX0_put 25 = .ok (.getfield 9, 3) := by decide +kernel
theorem dX0_put_28 : decode cX0_put 28 = .ok (.iload_n 1, 1) := by decide +kernel
theorem dX0_put_29 : decode cX0_put 29 = .ok (.iload_n 2, 1) := by decide +kernel
theorem dX0_put_30 : decode cX0_put 30 = .ok (.iastore, 1) := by decide +kernel
theorem dX0_put_31 : decode cX0_put 31 = .ok (.return_, 1) := by decide +kernel
theorem dX0_entry_0 : decode cX0_entry 0 = .ok (.iload_n 1, 1) := by decide +kernel
theorem dX0_entry_1 : decode cX0_entry 1 = .ok (.iconst 0, 1) := by decide +kernel
theorem dX0_entry_2 : decode cX0_entry 2 = .ok (.iconst 2, 1) := by decide +kernel
theorem dX0_entry_3 : decode cX0_entry 3 = .ok (.invokestatic 34, 3) := by decide +kernel
theorem dX0_entry_6 : decode cX0_entry 6 = .ok (.ifCond .eq 12, 3) := by decide +kernel
theorem dX0_entry_9 : decode cX0_entry 9 = .ok (.aload_n 0, 1) := by decide +kernel
theorem dX0_entry_10 : decode cX0_entry 10 = .ok (.getfield 23, 3) := by decide +kernel
theorem dX0_entry_13 : decode cX0_entry 13 = .ok (.iload_n 1, 1) := by decide +kernel
theorem dX0_entry_14 : decode cX0_entry 14 = .ok (.iaload, 1) := by decide +kernel
theorem dX0_entry_15 : decode cX0_entry 15 = .ok (.goto 4, 3) := by decide +kernel
theorem dX0_entry_18 : decode cX0_entry 18 = .ok (.iconst 0, 1) := by decide +kernel
theorem dX0_entry_19 : decode cX0_entry 19 = .ok (.ireturn, 1) := by decide +kernel
theorem dX0_enter_0 : decode cX0_enter 0 = .ok (.iload_n 1, 1) := by decide +kernel
theorem dX0_enter_1 : decode cX0_enter 1 = .ok (.iconst 0, 1) := by decide +kernel
theorem dX0_enter_2 : decode cX0_enter 2 = .ok (.iconst 2, 1) := by decide +kernel
theorem dX0_enter_3 : decode cX0_enter 3 = .ok (.invokestatic 34, 3) := by decide +kernel
theorem dX0_enter_6 : decode cX0_enter 6 = .ok (.ifCond .eq 10, 3) := by decide +kernel
theorem dX0_enter_9 : decode cX0_enter 9 = .ok (.aload_n 0, 1) := by decide +kernel
theorem dX0_enter_10 : decode cX0_enter 10 = .ok (.getfield 23, 3) := by decide +kernel
theorem dX0_enter_13 : decode cX0_enter 13 = .ok (.iload_n 1, 1) := by decide +kernel
theorem dX0_enter_14 : decode cX0_enter 14 = .ok (.iload_n 2, 1) := by decide +kernel
theorem dX0_enter_15 : decode cX0_enter 15 = .ok (.iastore, 1) := by decide +kernel
theorem dX0_enter_16 : decode cX0_enter 16 = .ok (.return_, 1) := by decide +kernel
theorem dX0_clearMen_0 : decode cX0_clearMen 0 = .ok (.aload_n 0, 1) := by decide +kernel
theorem dX0_clearMen_1 : decode cX0_clearMen 1 = .ok (.getfield 9, 3) := by decide +kernel
theorem dX0_clearMen_4 : decode cX0_clearMen 4 = .ok (.iconst 0, 1) := by decide +kernel
theorem dX0_clearMen_5 : decode cX0_clearMen 5 = .ok (.invokestatic 38, 3) := by decide +kernel
theorem dX0_clearMen_8 : decode cX0_clearMen 8 = .ok (.aload_n 0, 1) := by decide +kernel
theorem dX0_clearMen_9 : decode cX0_clearMen 9 = .ok (.iconst 0, 1) := by decide +kernel
theorem dX0_clearMen_10 : decode cX0_clearMen 10 = .ok (.putfield 30, 3) := by decide +kernel
theorem dX0_clearMen_13 : decode cX0_clearMen 13 = .ok (.return_, 1) := by decide +kernel
theorem dX0_copyEntries_0 : decode cX0_copyEntries 0 = .ok (.aload_n 1, 1) := by decide +kernel
theorem dX0_copyEntries_1 : decode cX0_copyEntries 1 = .ok (.getfield 23, 3) := by decide +kernel
theorem dX0_copyEntries_4 : decode cX0_copyEntries 4 = .ok (.iconst 0, 1) := by decide +kernel
theorem dX0_copyEntries_5 : decode cX0_copyEntries 5 = .ok (.aload_n 0, 1) := by decide +kernel
theorem dX0_copyEntries_6 : decode cX0_copyEntries 6 = .ok (.getfield 23, 3) := by decide +kernel
theorem dX0_copyEntries_9 : decode cX0_copyEntries 9 = .ok (.iconst 0, 1) := by decide +kernel
theorem dX0_copyEntries_10 : decode cX0_copyEntries 10 = .ok (.aload_n 0, 1) := by decide +kernel
theorem dX0_copyEntries_11 : decode cX0_copyEntries 11 = .ok (.getfield 23, 3) := by decide +kernel
theorem dX0_copyEntries_14 : decode cX0_copyEntries 14 = .ok (.arraylength, 1) := by decide +kernel
theorem dX0_copyEntries_15 : decode cX0_copyEntries 15 = .ok (.invokestatic 44, 3) := by decide +kernel
theorem dX0_copyEntries_18 : decode cX0_copyEntries 18 = .ok (.return_, 1) := by decide +kernel
theorem dX0_copyFrom_0 : decode cX0_copyFrom 0 = .ok (.aload_n 0, 1) := by decide +kernel
theorem dX0_copyFrom_1 : decode cX0_copyFrom 1 = .ok (.aload_n 1, 1) := by decide +kernel
theorem dX0_copyFrom_2 : decode cX0_copyFrom 2 = .ok (.invokevirtual 50, 3) := by decide +kernel
theorem dX0_copyFrom_5 : decode cX0_copyFrom 5 = .ok (.aload_n 1, 1) := by decide +kernel
theorem dX0_copyFrom_6 : decode cX0_copyFrom 6 = .ok (.getfield 9, 3) := by decide +kernel
theorem dX0_copyFrom_9 : decode cX0_copyFrom 9 = .ok (.iconst 0, 1) := by decide +kernel
theorem dX0_copyFrom_10 : decode cX0_copyFrom 10 = .ok (.aload_n 0, 1) := by decide +kernel
theorem dX0_copyFrom_11 : decode cX0_copyFrom 11 = .ok (.getfield 9, 3) := by decide +kernel
theorem dX0_copyFrom_14 : decode cX0_copyFrom 14 = .ok (.iconst 0, 1) := by decide +kernel
theorem dX0_copyFrom_15 : decode cX0_copyFrom 15 = .ok (.aload_n 0, 1) := by decide +kernel
theorem dX0_copyFrom_16 : decode cX0_copyFrom 16 = .ok (.getfield 9, 3) := by decide +kernel
theorem dX0_copyFrom_19 : decode cX0_copyFrom 19 = .ok (.arraylength, 1) := by decide +kernel
theorem dX0_copyFrom_20 : decode cX0_copyFrom 20 = .ok (.invokestatic 44, 3) := by decide +kernel
theorem dX0_copyFrom_23 : decode cX0_copyFrom 23 = .ok (.aload_n 0, 1) := by decide +kernel
theorem dX0_copyFrom_24 : decode cX0_copyFrom 24 = .ok (.aload_n 1, 1) := by decide +kernel
theorem dX0_copyFrom_25 : decode cX0_copyFrom 25 = .ok (.getfield 30, 3) := by decide +kernel
theorem dX0_copyFrom_28 : decode cX0_copyFrom 28 = .ok (.putfield 30, 3) := by decide +kernel
theorem dX0_copyFrom_31 : decode cX0_copyFrom 31 = .ok (.return_, 1) := by decide +kernel
theorem dX0_atWholeInches_0 : decode cX0_atWholeInches 0 = .ok (.iconst 0, 1) := by decide +kernel
theorem dX0_atWholeInches_1 : decode cX0_atWholeInches 1 = .ok (.istore_n 1, 1) := by decide +kernel
theorem dX0_atWholeInches_2 : decode cX0_atWholeInches 2 = .ok (.iconst 0, 1) := by decide +kernel
theorem dX0_atWholeInches_3 : decode cX0_atWholeInches 3 = .ok (.istore_n 2, 1) := by decide +kernel
theorem dX0_atWholeInches_4 : decode cX0_atWholeInches 4 = .ok (.iload_n 2, 1) := by decide +kernel
theorem dX0_atWholeInches_5 : decode cX0_atWholeInches 5 = .ok (.bipush 64, 2) := by decide +kernel
theorem dX0_atWholeInches_7 : decode cX0_atWholeInches 7 = .ok (.if_icmp .ge 18, 3) := by decide +kernel
theorem dX0_atWholeInches_10 : decode cX0_atWholeInches 10 = .ok (.iload_n 1, 1) := by decide +kernel
theorem dX0_atWholeInches_11 : decode cX0_atWholeInches 11 = .ok (.aload_n 0, 1) := by decide +kernel
theorem dX0_atWholeInches_12 : decode cX0_atWholeInches 12 = .ok (.getfield 9, 3) := by decide +kernel
theorem dX0_atWholeInches_15 : decode cX0_atWholeInches 15 = .ok (.iload_n 2, 1) := by decide +kernel
theorem dX0_atWholeInches_16 : decode cX0_atWholeInches 16 = .ok (.iaload, 1) := by decide +kernel
theorem dX0_atWholeInches_17 : decode cX0_atWholeInches 17 = .ok (.iadd, 1) := by decide +kernel
theorem dX0_atWholeInches_18 : decode cX0_atWholeInches 18 = .ok (.istore_n 1, 1) := by decide +kernel
theorem dX0_atWholeInches_19 : decode cX0_atWholeInches 19 = .ok (.iinc 2 4, 3) := by decide +kernel
theorem dX0_atWholeInches_22 : decode cX0_atWholeInches 22 = .ok (.goto (-18), 3) := by decide +kernel
theorem dX0_atWholeInches_25 : decode cX0_atWholeInches 25 = .ok (.iload_n 1, 1) := by decide +kernel
theorem dX0_atWholeInches_26 : decode cX0_atWholeInches 26 = .ok (.ireturn, 1) := by decide +kernel
theorem dX0_sumMoved_0 : decode cX0_sumMoved 0 = .ok (.lconst 0, 1) := by decide +kernel
theorem dX0_sumMoved_1 : decode cX0_sumMoved 1 = .ok (.lstore_n 2, 1) := by decide +kernel
theorem dX0_sumMoved_2 : decode cX0_sumMoved 2 = .ok (.iconst 0, 1) := by decide +kernel
theorem dX0_sumMoved_3 : decode cX0_sumMoved 3 = .ok (.istore 4, 2) := by decide +kernel
theorem dX0_sumMoved_5 : decode cX0_sumMoved 5 = .ok (.iload 4, 2) := by decide +kernel
theorem dX0_sumMoved_7 : decode cX0_sumMoved 7 = .ok (.aload_n 0, 1) := by decide +kernel
theorem dX0_sumMoved_8 : decode cX0_sumMoved 8 = .ok (.getfield 9, 3) := by decide +kernel
theorem dX0_sumMoved_11 : decode cX0_sumMoved 11 = .ok (.arraylength, 1) := by decide +kernel
theorem dX0_sumMoved_12 : decode cX0_sumMoved 12 = .ok (.if_icmp .ge 35, 3) := by decide +kernel
theorem dX0_sumMoved_15 : decode cX0_sumMoved 15 = .ok (.lload_n 2, 1) := by decide +kernel
theorem dX0_sumMoved_16 : decode cX0_sumMoved 16 = .ok (.aload_n 0, 1) := by decide +kernel
theorem dX0_sumMoved_17 : decode cX0_sumMoved 17 = .ok (.getfield 9, 3) := by decide +kernel
theorem dX0_sumMoved_20 : decode cX0_sumMoved 20 = .ok (.iload 4, 2) := by decide +kernel
theorem dX0_sumMoved_22 : decode cX0_sumMoved 22 = .ok (.iaload, 1) := by decide +kernel
theorem dX0_sumMoved_23 : decode cX0_sumMoved 23 = .ok (.i2l, 1) := by decide +kernel
theorem dX0_sumMoved_24 : decode cX0_sumMoved 24 = .ok (.iconst 0, 1) := by decide +kernel
theorem dX0_sumMoved_25 : decode cX0_sumMoved 25 = .ok (.bipush 63, 2) := by decide +kernel
theorem dX0_sumMoved_27 : decode cX0_sumMoved 27 = .ok (.iload 4, 2) := by decide +kernel
theorem dX0_sumMoved_29 : decode cX0_sumMoved 29 = .ok (.iload_n 1, 1) := by decide +kernel
theorem dX0_sumMoved_30 : decode cX0_sumMoved 30 = .ok (.iadd, 1) := by decide +kernel
theorem dX0_sumMoved_31 : decode cX0_sumMoved 31 = .ok (.invokestatic 54, 3) := by decide +kernel
theorem dX0_sumMoved_34 : decode cX0_sumMoved 34 = .ok (.invokestatic 60, 3) := by decide +kernel
theorem dX0_sumMoved_37 : decode cX0_sumMoved 37 = .ok (.i2l, 1) := by decide +kernel
theorem dX0_sumMoved_38 : decode cX0_sumMoved 38 = .ok (.lmul, 1) := by decide +kernel
theorem dX0_sumMoved_39 : decode cX0_sumMoved 39 = .ok (.ladd, 1) := by decide +kernel
theorem dX0_sumMoved_40 : decode cX0_sumMoved 40 = .ok (.lstore_n 2, 1) := by decide +kernel
theorem dX0_sumMoved_41 : decode cX0_sumMoved 41 = .ok (.iinc 4 1, 3) := by decide +kernel
theorem dX0_sumMoved_44 : decode cX0_sumMoved 44 = .ok (.goto (-39), 3) := by decide +kernel
theorem dX0_sumMoved_47 : decode cX0_sumMoved 47 = .ok (.lload_n 2, 1) := by decide +kernel
theorem dX0_sumMoved_48 : decode cX0_sumMoved 48 = .ok (.lreturn, 1) := by decide +kernel
theorem dX0_commonest_0 : decode cX0_commonest 0 = .ok (.iconst 0, 1) := by decide +kernel
theorem dX0_commonest_1 : decode cX0_commonest 1 = .ok (.istore_n 1, 1) := by decide +kernel
theorem dX0_commonest_2 : decode cX0_commonest 2 = .ok (.iconst 1, 1) := by decide +kernel
theorem dX0_commonest_3 : decode cX0_commonest 3 = .ok (.istore_n 2, 1) := by decide +kernel
theorem dX0_commonest_4 : decode cX0_commonest 4 = .ok (.iload_n 2, 1) := by decide +kernel
theorem dX0_commonest_5 : decode cX0_commonest 5 = .ok (.aload_n 0, 1) := by decide +kernel
theorem dX0_commonest_6 : decode cX0_commonest 6 = .ok (.getfield 9, 3) := by decide +kernel
theorem dX0_commonest_9 : decode cX0_commonest 9 = .ok (.arraylength, 1) := by decide +kernel
theorem dX0_commonest_10 : decode cX0_commonest 10 = .ok (.if_icmp .ge 26, 3) := by decide +kernel
theorem dX0_commonest_13 : decode cX0_commonest 13 = .ok (.aload_n 0, 1) := by decide +kernel
theorem dX0_commonest_14 : decode cX0_commonest 14 = .ok (.getfield 9, 3) := by decide +kernel
theorem dX0_commonest_17 : decode cX0_commonest 17 = .ok (.iload_n 2, 1) := by decide +kernel
theorem dX0_commonest_18 : decode cX0_commonest 18 = .ok (.iaload, 1) := by decide +kernel
theorem dX0_commonest_19 : decode cX0_commonest 19 = .ok (.aload_n 0, 1) := by decide +kernel
theorem dX0_commonest_20 : decode cX0_commonest 20 = .ok (.getfield 9, 3) := by decide +kernel
theorem dX0_commonest_23 : decode cX0_commonest 23 = .ok (.iload_n 1, 1) := by decide +kernel
theorem dX0_commonest_24 : decode cX0_commonest 24 = .ok (.iaload, 1) := by decide +kernel
theorem dX0_commonest_25 : decode cX0_commonest 25 = .ok (.if_icmp .le 5, 3) := by decide +kernel
theorem dX0_commonest_28 : decode cX0_commonest 28 = .ok (.iload_n 2, 1) := by decide +kernel
theorem dX0_commonest_29 : decode cX0_commonest 29 = .ok (.istore_n 1, 1) := by decide +kernel
theorem dX0_commonest_30 : decode cX0_commonest 30 = .ok (.iinc 2 1, 3) := by decide +kernel
theorem dX0_commonest_33 : decode cX0_commonest 33 = .ok (.goto (-29), 3) := by decide +kernel
theorem dX0_commonest_36 : decode cX0_commonest 36 = .ok (.iload_n 1, 1) := by decide +kernel
theorem dX0_commonest_37 : decode cX0_commonest 37 = .ok (.ireturn, 1) := by decide +kernel
theorem dX1_faultOf_0 : decode cX1_faultOf 0 = .ok (.iload_n 1, 1) := by decide +kernel
theorem dX1_faultOf_1 : decode cX1_faultOf 1 = .ok (.ifCond .ne 7, 3) := by decide +kernel
theorem dX1_faultOf_4 : decode cX1_faultOf 4 = .ok (.iconst 0, 1) := by decide +kernel
theorem dX1_faultOf_5 : decode cX1_faultOf 5 = .ok (.goto 5, 3) := by decide +kernel
theorem dX1_faultOf_8 : decode cX1_faultOf 8 = .ok (.bipush 10, 2) := by decide +kernel
theorem dX1_faultOf_10 : decode cX1_faultOf 10 = .ok (.istore_n 2, 1) := by decide +kernel
theorem dX1_faultOf_11 : decode cX1_faultOf 11 = .ok (.iconst 0, 1) := by decide +kernel
theorem dX1_faultOf_12 : decode cX1_faultOf 12 = .ok (.istore_n 3, 1) := by decide +kernel
theorem dX1_faultOf_13 : decode cX1_faultOf 13 = .ok (.iload_n 3, 1) := by decide +kernel
theorem dX1_faultOf_14 : decode cX1_faultOf 14 = .ok (.aload_n 0, 1) := by decide +kernel
theorem dX1_faultOf_15 : decode cX1_faultOf 15 = .ok (.getfield 11, 3) := by decide +kernel
theorem dX1_faultOf_18 : decode cX1_faultOf 18 = .ok (.if_icmp .ge 26, 3) := by decide +kernel
theorem dX1_faultOf_21 : decode cX1_faultOf 21 = .ok (.iload_n 2, 1) := by decide +kernel
theorem dX1_faultOf_22 : decode cX1_faultOf 22 = .ok (.aload_n 0, 1) := by decide +kernel
theorem dX1_faultOf_23 : decode cX1_faultOf 23 = .ok (.iload_n 3, 1) := by decide +kernel
theorem dX1_faultOf_24 : decode cX1_faultOf 24 = .ok (.invokevirtual 17, 3) := by decide +kernel
theorem dX1_faultOf_27 : decode cX1_faultOf 27 = .ok (.invokestatic 21, 3) := by decide +kernel
theorem dX1_faultOf_30 : decode cX1_faultOf 30 = .ok (.istore_n 2, 1) := by decide +kernel
theorem dX1_faultOf_31 : decode cX1_faultOf 31 = .ok (.iload_n 2, 1) := by decide +kernel
theorem dX1_faultOf_32 : decode cX1_faultOf 32 = .ok (.iconst (-1), 1) := by decide +kernel
theorem dX1_faultOf_33 : decode cX1_faultOf 33 = .ok (.if_icmp .ne 5, 3) := by decide +kernel
theorem dX1_faultOf_36 : decode cX1_faultOf 36 = .ok (.iload_n 3, 1) := by decide +kernel
theorem dX1_faultOf_37 : decode cX1_faultOf 37 = .ok (.ireturn, 1) := by decide +kernel
theorem dX1_faultOf_38 : decode cX1_faultOf 38 = .ok (.iinc 3 1, 3) := by decide +kernel
theorem dX1_faultOf_41 : decode cX1_faultOf 41 = .ok (.goto (-28), 3) := by decide +kernel
theorem dX1_faultOf_44 : decode cX1_faultOf 44 = .ok (.iload_n 2, 1) := by decide +kernel
theorem dX1_faultOf_45 : decode cX1_faultOf 45 = .ok (.bipush 8, 2) := by decide +kernel
theorem dX1_faultOf_47 : decode cX1_faultOf 47 = .ok (.if_icmp .eq 15, 3) := by decide +kernel
theorem dX1_faultOf_50 : decode cX1_faultOf 50 = .ok (.iload_n 2, 1) := by decide +kernel
theorem dX1_faultOf_51 : decode cX1_faultOf 51 = .ok (.bipush 9, 2) := by decide +kernel
theorem dX1_faultOf_53 : decode cX1_faultOf 53 = .ok (.if_icmp .eq 9, 3) := by decide +kernel
theorem dX1_faultOf_56 : decode cX1_faultOf 56 = .ok (.iload_n 2, 1) := by decide +kernel
theorem dX1_faultOf_57 : decode cX1_faultOf 57 = .ok (.bipush 14, 2) := by decide +kernel
theorem dX1_faultOf_59 : decode cX1_faultOf 59 = .ok (.if_icmp .ne 8, 3) := by decide +kernel
theorem dX1_faultOf_62 : decode cX1_faultOf 62 = .ok (.bipush (-6), 2) := by decide +kernel
theorem dX1_faultOf_64 : decode cX1_faultOf 64 = .ok (.goto 7, 3) := by decide +kernel
theorem dX1_faultOf_67 : decode cX1_faultOf 67 = .ok (.aload_n 0, 1) := by decide +kernel
theorem dX1_faultOf_68 : decode cX1_faultOf 68 = .ok (.getfield 11, 3) := by decide +kernel
theorem dX1_faultOf_71 : decode cX1_faultOf 71 = .ok (.ireturn, 1) := by decide +kernel
theorem dX1_after_0 : decode cX1_after 0 = .ok (.iload_n 0, 1) := by decide +kernel
theorem dX1_after_1 : decode cX1_after 1 = .ok (.tableswitch 185 0 9 #[55, 71, 76, 100, 113, 129, 134, 147, 161, 179], 55) := by decide +kernel
theorem dX1_after_56 : decode cX1_after 56 = .ok (.iload_n 1, 1) := by decide +kernel
theorem dX1_after_57 : decode cX1_after 57 = .ok (.bipush 42, 2) := by decide +kernel
theorem dX1_after_59 : decode cX1_after 59 = .ok (.if_icmp .ne 8, 3) := by decide +kernel
theorem dX1_after_62 : decode cX1_after 62 = .ok (.bipush 6, 2) := by decide +kernel
theorem dX1_after_64 : decode cX1_after 64 = .ok (.goto 7, 3) := by decide +kernel
theorem dX1_after_67 : decode cX1_after 67 = .ok (.iload_n 1, 1) := by decide +kernel
theorem dX1_after_68 : decode cX1_after 68 = .ok (.invokestatic 25, 3) := by decide +kernel
theorem dX1_after_71 : decode cX1_after 71 = .ok (.ireturn, 1) := by decide +kernel
theorem dX1_after_72 : decode cX1_after 72 = .ok (.iload_n 1, 1) := by decide +kernel
theorem dX1_after_73 : decode cX1_after 73 = .ok (.invokestatic 25, 3) := by decide +kernel
theorem dX1_after_76 : decode cX1_after 76 = .ok (.ireturn, 1) := by decide +kernel
theorem dX1_after_77 : decode cX1_after 77 = .ok (.iload_n 1, 1) := by decide +kernel
theorem dX1_after_78 : decode cX1_after 78 = .ok (.bipush 60, 2) := by decide +kernel
theorem dX1_after_80 : decode cX1_after 80 = .ok (.if_icmp .eq 15, 3) := by decide +kernel
theorem dX1_after_83 : decode cX1_after 83 = .ok (.iload_n 1, 1) := by decide +kernel
theorem dX1_after_84 : decode cX1_after 84 = .ok (.bipush 62, 2) := by decide +kernel
theorem dX1_after_86 : decode cX1_after 86 = .ok (.if_icmp .eq 9, 3) := by decide +kernel
theorem dX1_after_89 : decode cX1_after 89 = .ok (.iload_n 1, 1) := by decide +kernel
theorem dX1_after_90 : decode cX1_after 90 = .ok (.bipush 61, 2) := by decide +kernel
theorem dX1_after_92 : decode cX1_after 92 = .ok (.if_icmp .ne 7, 3) := by decide +kernel
theorem dX1_after_95 : decode cX1_after 95 = .ok (.iconst 3, 1) := by decide +kernel
theorem dX1_after_96 : decode cX1_after 96 = .ok (.goto 4, 3) := by decide +kernel
theorem dX1_after_99 : decode cX1_after 99 = .ok (.iconst (-1), 1) := by decide +kernel
theorem dX1_after_100 : decode cX1_after 100 = .ok (.ireturn, 1) := by decide +kernel
theorem dX1_after_101 : decode cX1_after 101 = .ok (.iload_n 1, 1) := by decide +kernel
theorem dX1_after_102 : decode cX1_after 102 = .ok (.invokestatic 28, 3) := by decide +kernel
theorem dX1_after_105 : decode cX1_after 105 = .ok (.ifCond .eq 7, 3) := by decide +kernel
theorem dX1_after_108 : decode cX1_after 108 = .ok (.iconst 4, 1) := by decide +kernel
theorem dX1_after_109 : decode cX1_after 109 = .ok (.goto 4, 3) := by decide +kernel
theorem dX1_after_112 : decode cX1_after 112 = .ok (.iconst (-1), 1) := by decide +kernel
theorem dX1_after_113 : decode cX1_after 113 = .ok (.ireturn, 1) := by decide +kernel
theorem dX1_after_114 : decode cX1_after 114 = .ok (.iload_n 1, 1) := by decide +kernel
theorem dX1_after_115 : decode cX1_after 115 = .ok (.invokestatic 28, 3) := by decide +kernel
theorem dX1_after_118 : decode cX1_after 118 = .ok (.ifCond .eq 7, 3) := by decide +kernel
theorem dX1_after_121 : decode cX1_after 121 = .ok (.iconst 5, 1) := by decide +kernel
theorem dX1_after_122 : decode cX1_after 122 = .ok (.goto 7, 3) := by decide +kernel
theorem dX1_after_125 : decode cX1_after 125 = .ok (.iload_n 1, 1) := by decide +kernel
theorem dX1_after_126 : decode cX1_after 126 = .ok (.invokestatic 32, 3) := by decide +kernel
theorem dX1_after_129 : decode cX1_after 129 = .ok (.ireturn, 1) := by decide +kernel
theorem dX1_after_130 : decode cX1_after 130 = .ok (.iload_n 1, 1) := by decide +kernel
theorem dX1_after_131 : decode cX1_after 131 = .ok (.invokestatic 32, 3) := by decide +kernel
theorem dX1_after_134 : decode cX1_after 134 = .ok (.ireturn, 1) := by decide +kernel
theorem dX1_after_135 : decode cX1_after 135 = .ok (.iload_n 1, 1) := by decide +kernel
theorem dX1_after_136 : decode cX1_after 136 = .ok (.bipush 58, 2) := by decide +kernel
theorem dX1_after_138 : decode cX1_after 138 = .ok (.if_icmp .ne 8, 3) := by decide +kernel
theorem dX1_after_141 : decode cX1_after 141 = .ok (.bipush 7, 2) := by decide +kernel
theorem dX1_after_143 : decode cX1_after 143 = .ok (.goto 4, 3) := by decide +kernel
theorem dX1_after_146 : decode cX1_after 146 = .ok (.iconst (-1), 1) := by decide +kernel
theorem dX1_after_147 : decode cX1_after 147 = .ok (.ireturn, 1) := by decide +kernel
theorem dX1_after_148 : decode cX1_after 148 = .ok (.iload_n 1, 1) := by decide +kernel
theorem dX1_after_149 : decode cX1_after 149 = .ok (.invokestatic 28, 3) := by decide +kernel
theorem dX1_after_152 : decode cX1_after 152 = .ok (.ifCond .eq 8, 3) := by decide +kernel
theorem dX1_after_155 : decode cX1_after 155 = .ok (.bipush 8, 2) := by decide +kernel
theorem dX1_after_157 : decode cX1_after 157 = .ok (.goto 4, 3) := by decide +kernel
theorem dX1_after_160 : decode cX1_after 160 = .ok (.iconst (-1), 1) := by decide +kernel
theorem dX1_after_161 : decode cX1_after 161 = .ok (.ireturn, 1) := by decide +kernel
theorem dX1_after_162 : decode cX1_after 162 = .ok (.iload_n 1, 1) := by decide +kernel
theorem dX1_after_163 : decode cX1_after 163 = .ok (.invokestatic 28, 3) := by decide +kernel
theorem dX1_after_166 : decode cX1_after 166 = .ok (.ifCond .eq 8, 3) := by decide +kernel
theorem dX1_after_169 : decode cX1_after 169 = .ok (.bipush 9, 2) := by decide +kernel
theorem dX1_after_171 : decode cX1_after 171 = .ok (.goto 8, 3) := by decide +kernel
theorem dX1_after_174 : decode cX1_after 174 = .ok (.iload_n 1, 1) := by decide +kernel
theorem dX1_after_175 : decode cX1_after 175 = .ok (.iconst 0, 1) := by decide +kernel
theorem dX1_after_176 : decode cX1_after 176 = .ok (.invokestatic 35, 3) := by decide +kernel
theorem dX1_after_179 : decode cX1_after 179 = .ok (.ireturn, 1) := by decide +kernel
theorem dX1_after_180 : decode cX1_after 180 = .ok (.iload_n 1, 1) := by decide +kernel
theorem dX1_after_181 : decode cX1_after 181 = .ok (.iconst 0, 1) := by decide +kernel
theorem dX1_after_182 : decode cX1_after 182 = .ok (.invokestatic 35, 3) := by decide +kernel
theorem dX1_after_185 : decode cX1_after 185 = .ok (.ireturn, 1) := by decide +kernel
theorem dX1_after_186 : decode cX1_after 186 = .ok (.iload_n 0, 1) := by decide +kernel
theorem dX1_after_187 : decode cX1_after 187 = .ok (.iload_n 1, 1) := by decide +kernel
theorem dX1_after_188 : decode cX1_after 188 = .ok (.invokestatic 38, 3) := by decide +kernel
theorem dX1_after_191 : decode cX1_after 191 = .ok (.ireturn, 1) := by decide +kernel
theorem dX1_afterInGrowth_0 : decode cX1_afterInGrowth 0 = .ok (.iload_n 0, 1) := by decide +kernel
theorem dX1_afterInGrowth_1 : decode cX1_afterInGrowth 1 = .ok (.tableswitch 92 10 14 #[35, 49, 66, 71, 85], 35) := by decide +kernel
theorem dX1_afterInGrowth_36 : decode cX1_afterInGrowth 36 = .ok (.iload_n 1, 1) := by decide +kernel
theorem dX1_afterInGrowth_37 : decode cX1_afterInGrowth 37 = .ok (.invokestatic 28, 3) := by decide +kernel
theorem dX1_afterInGrowth_40 : decode cX1_afterInGrowth 40 = .ok (.ifCond .eq 8, 3) := by decide +kernel
theorem dX1_afterInGrowth_43 : decode cX1_afterInGrowth 43 = .ok (.bipush 11, 2) := by decide +kernel
theorem dX1_afterInGrowth_45 : decode cX1_afterInGrowth 45 = .ok (.goto 4, 3) := by decide +kernel
theorem dX1_afterInGrowth_48 : decode cX1_afterInGrowth 48 = .ok (.iconst (-1), 1) := by decide +kernel
theorem dX1_afterInGrowth_49 : decode cX1_afterInGrowth 49 = .ok (.ireturn, 1) := by decide +kernel
theorem dX1_afterInGrowth_50 : decode cX1_afterInGrowth 50 = .ok (.iload_n 1, 1) := by decide +kernel
theorem dX1_afterInGrowth_51 : decode cX1_afterInGrowth 51 = .ok (.invokestatic 28, 3) := by decide +kernel
theorem dX1_afterInGrowth_54 : decode cX1_afterInGrowth 54 = .ok (.ifCond .eq 8, 3) := by decide +kernel
theorem dX1_afterInGrowth_57 : decode cX1_afterInGrowth 57 = .ok (.bipush 12, 2) := by decide +kernel
theorem dX1_afterInGrowth_59 : decode cX1_afterInGrowth 59 = .ok (.goto 7, 3) := by decide +kernel
theorem dX1_afterInGrowth_62 : decode cX1_afterInGrowth 62 = .ok (.iload_n 1, 1) := by decide +kernel
theorem dX1_afterInGrowth_63 : decode cX1_afterInGrowth 63 = .ok (.invokestatic 41, 3) := by decide +kernel
theorem dX1_afterInGrowth_66 : decode cX1_afterInGrowth 66 = .ok (.ireturn, 1) := by decide +kernel
theorem dX1_afterInGrowth_67 : decode cX1_afterInGrowth 67 = .ok (.iload_n 1, 1) := by decide +kernel
theorem dX1_afterInGrowth_68 : decode cX1_afterInGrowth 68 = .ok (.invokestatic 41, 3) := by decide +kernel
theorem dX1_afterInGrowth_71 : decode cX1_afterInGrowth 71 = .ok (.ireturn, 1) := by decide +kernel
theorem dX1_afterInGrowth_72 : decode cX1_afterInGrowth 72 = .ok (.iload_n 1, 1) := by decide +kernel
theorem dX1_afterInGrowth_73 : decode cX1_afterInGrowth 73 = .ok (.invokestatic 28, 3) := by decide +kernel
theorem dX1_afterInGrowth_76 : decode cX1_afterInGrowth 76 = .ok (.ifCond .eq 8, 3) := by decide +kernel
theorem dX1_afterInGrowth_79 : decode cX1_afterInGrowth 79 = .ok (.bipush 14, 2) := by decide +kernel
theorem dX1_afterInGrowth_81 : decode cX1_afterInGrowth 81 = .ok (.goto 4, 3) := by decide +kernel
theorem dX1_afterInGrowth_84 : decode cX1_afterInGrowth 84 = .ok (.iconst (-1), 1) := by decide +kernel
theorem dX1_afterInGrowth_85 : decode cX1_afterInGrowth 85 = .ok (.ireturn, 1) := by decide +kernel
theorem dX1_afterInGrowth_86 : decode cX1_afterInGrowth 86 = .ok (.iload_n 1, 1) := by decide +kernel
theorem dX1_afterInGrowth_87 : decode cX1_afterInGrowth 87 = .ok (.bipush 10, 2) := by decide +kernel
theorem dX1_afterInGrowth_89 : decode cX1_afterInGrowth 89 = .ok (.invokestatic 35, 3) := by decide +kernel
theorem dX1_afterInGrowth_92 : decode cX1_afterInGrowth 92 = .ok (.ireturn, 1) := by decide +kernel
theorem dX1_afterInGrowth_93 : decode cX1_afterInGrowth 93 = .ok (.iconst (-1), 1) := by decide +kernel
theorem dX1_afterInGrowth_94 : decode cX1_afterInGrowth 94 = .ok (.ireturn, 1) := by decide +kernel
theorem dX1_beginTest_0 : decode cX1_beginTest 0 = .ok (.iload_n 0, 1) := by decide +kernel
theorem dX1_beginTest_1 : decode cX1_beginTest 1 = .ok (.bipush 121, 2) := by decide +kernel
theorem dX1_beginTest_3 : decode cX1_beginTest 3 = .ok (.if_icmp .eq 9, 3) := by decide +kernel
theorem dX1_beginTest_6 : decode cX1_beginTest 6 = .ok (.iload_n 0, 1) := by decide +kernel
theorem dX1_beginTest_7 : decode cX1_beginTest 7 = .ok (.bipush 97, 2) := by decide +kernel
theorem dX1_beginTest_9 : decode cX1_beginTest 9 = .ok (.if_icmp .ne 7, 3) := by decide +kernel
theorem dX1_beginTest_12 : decode cX1_beginTest 12 = .ok (.iconst 2, 1) := by decide +kernel
theorem dX1_beginTest_13 : decode cX1_beginTest 13 = .ok (.goto 4, 3) := by decide +kernel
theorem dX1_beginTest_16 : decode cX1_beginTest 16 = .ok (.iconst (-1), 1) := by decide +kernel
theorem dX1_beginTest_17 : decode cX1_beginTest 17 = .ok (.ireturn, 1) := by decide +kernel
theorem dX1_endTest_0 : decode cX1_endTest 0 = .ok (.iload_n 0, 1) := by decide +kernel
theorem dX1_endTest_1 : decode cX1_endTest 1 = .ok (.bipush 38, 2) := by decide +kernel
theorem dX1_endTest_3 : decode cX1_endTest 3 = .ok (.if_icmp .ne 5, 3) := by decide +kernel
theorem dX1_endTest_6 : decode cX1_endTest 6 = .ok (.iconst 1, 1) := by decide +kernel
theorem dX1_endTest_7 : decode cX1_endTest 7 = .ok (.ireturn, 1) := by decide +kernel
theorem dX1_endTest_8 : decode cX1_endTest 8 = .ok (.iload_n 0, 1) := by decide +kernel
theorem dX1_endTest_9 : decode cX1_endTest 9 = .ok (.bipush 58, 2) := by decide +kernel
theorem dX1_endTest_11 : decode cX1_endTest 11 = .ok (.if_icmp .ne 8, 3) := by decide +kernel
theorem dX1_endTest_14 : decode cX1_endTest 14 = .ok (.bipush 7, 2) := by decide +kernel
theorem dX1_endTest_16 : decode cX1_endTest 16 = .ok (.goto 4, 3) := by decide +kernel
theorem dX1_endTest_19 : decode cX1_endTest 19 = .ok (.iconst (-1), 1) := by decide +kernel
theorem dX1_endTest_20 : decode cX1_endTest 20 = .ok (.ireturn, 1) := by decide +kernel
theorem dX1_endAge_0 : decode cX1_endAge 0 = .ok (.iload_n 0, 1) := by decide +kernel
theorem dX1_endAge_1 : decode cX1_endAge 1 = .ok (.bipush 58, 2) := by decide +kernel
theorem dX1_endAge_3 : decode cX1_endAge 3 = .ok (.if_icmp .ne 8, 3) := by decide +kernel
theorem dX1_endAge_6 : decode cX1_endAge 6 = .ok (.bipush 13, 2) := by decide +kernel
theorem dX1_endAge_8 : decode cX1_endAge 8 = .ok (.goto 4, 3) := by decide +kernel
theorem dX1_endAge_11 : decode cX1_endAge 11 = .ok (.iconst (-1), 1) := by decide +kernel
theorem dX1_endAge_12 : decode cX1_endAge 12 = .ok (.ireturn, 1) := by decide +kernel
theorem dX1_endPiece_0 : decode cX1_endPiece 0 = .ok (.iload_n 0, 1) := by decide +kernel
theorem dX1_endPiece_1 : decode cX1_endPiece 1 = .ok (.bipush 59, 2) := by decide +kernel
theorem dX1_endPiece_3 : decode cX1_endPiece 3 = .ok (.if_icmp .ne 7, 3) := by decide +kernel
theorem dX1_endPiece_6 : decode cX1_endPiece 6 = .ok (.iload_n 1, 1) := by decide +kernel
theorem dX1_endPiece_7 : decode cX1_endPiece 7 = .ok (.goto 4, 3) := by decide +kernel
theorem dX1_endPiece_10 : decode cX1_endPiece 10 = .ok (.iconst (-1), 1) := by decide +kernel
theorem dX1_endPiece_11 : decode cX1_endPiece 11 = .ok (.ireturn, 1) := by decide +kernel
theorem dX1_isDigit_0 : decode cX1_isDigit 0 = .ok (.iload_n 0, 1) := by decide +kernel
theorem dX1_isDigit_1 : decode cX1_isDigit 1 = .ok (.bipush 48, 2) := by decide +kernel
theorem dX1_isDigit_3 : decode cX1_isDigit 3 = .ok (.if_icmp .lt 13, 3) := by decide +kernel
theorem dX1_isDigit_6 : decode cX1_isDigit 6 = .ok (.iload_n 0, 1) := by decide +kernel
theorem dX1_isDigit_7 : decode cX1_isDigit 7 = .ok (.bipush 57, 2) := by decide +kernel
theorem dX1_isDigit_9 : decode cX1_isDigit 9 = .ok (.if_icmp .gt 7, 3) := by decide +kernel
theorem dX1_isDigit_12 : decode cX1_isDigit 12 = .ok (.iconst 1, 1) := by decide +kernel
theorem dX1_isDigit_13 : decode cX1_isDigit 13 = .ok (.goto 4, 3) := by decide +kernel
theorem dX1_isDigit_16 : decode cX1_isDigit 16 = .ok (.iconst 0, 1) := by decide +kernel
theorem dX1_isDigit_17 : decode cX1_isDigit 17 = .ok (.ireturn, 1) := by decide +kernel
theorem dX2_init_0 : decode cX2_init 0 = .ok (.aload_n 0, 1) := by decide +kernel
theorem dX2_init_1 : decode cX2_init 1 = .ok (.invokespecial 3, 3) := by decide +kernel
theorem dX2_init_4 : decode cX2_init 4 = .ok (.aload_n 0, 1) := by decide +kernel
theorem dX2_init_5 : decode cX2_init 5 = .ok (.bipush 6, 2) := by decide +kernel
theorem dX2_init_7 : decode cX2_init 7 = .ok (.anewarray 9, 3) := by decide +kernel
theorem dX2_init_10 : decode cX2_init 10 = .ok (.putfield 11, 3) := by decide +kernel
theorem dX2_init_13 : decode cX2_init 13 = .ok (.aload_n 0, 1) := by decide +kernel
theorem dX2_init_14 : decode cX2_init 14 = .ok (.new 17, 3) := by decide +kernel
theorem dX2_init_17 : decode cX2_init 17 = .ok (.dup, 1) := by decide +kernel
theorem dX2_init_18 : decode cX2_init 18 = .ok (.invokespecial 19, 3) := by decide +kernel
theorem dX2_init_21 : decode cX2_init 21 = .ok (.putfield 20, 3) := by decide +kernel
theorem dX2_init_24 : decode cX2_init 24 = .ok (.aload_n 0, 1) := by decide +kernel
theorem dX2_init_25 : decode cX2_init 25 = .ok (.new 17, 3) := by decide +kernel
theorem dX2_init_28 : decode cX2_init 28 = .ok (.dup, 1) := by decide +kernel
theorem dX2_init_29 : decode cX2_init 29 = .ok (.invokespecial 19, 3) := by decide +kernel
theorem dX2_init_32 : decode cX2_init 32 = .ok (.putfield 24, 3) := by decide +kernel
theorem dX2_init_35 : decode cX2_init 35 = .ok (.aload_n 0, 1) := by decide +kernel
theorem dX2_init_36 : decode cX2_init 36 = .ok (.getstatic 27, 3) := by decide +kernel
theorem dX2_init_39 : decode cX2_init 39 = .ok (.arraylength, 1) := by decide +kernel
theorem dX2_init_40 : decode cX2_init 40 = .ok (.newarray .int, 2) := by decide +kernel
theorem dX2_init_42 : decode cX2_init 42 = .ok (.putfield 31, 3) := by decide +kernel
theorem dX2_init_45 : decode cX2_init 45 = .ok (.iconst 0, 1) := by decide +kernel
theorem dX2_init_46 : decode cX2_init 46 = .ok (.istore_n 1, 1) := by decide +kernel
theorem dX2_init_47 : decode cX2_init 47 = .ok (.iload_n 1, 1) := by decide +kernel
theorem dX2_init_48 : decode cX2_init 48 = .ok (.aload_n 0, 1) := by decide +kernel
theorem dX2_init_49 : decode cX2_init 49 = .ok (.getfield 11, 3) := by decide +kernel
theorem dX2_init_52 : decode cX2_init 52 = .ok (.arraylength, 1) := by decide +kernel
theorem dX2_init_53 : decode cX2_init 53 = .ok (.if_icmp .ge 22, 3) := by decide +kernel
theorem dX2_init_56 : decode cX2_init 56 = .ok (.aload_n 0, 1) := by decide +kernel
theorem dX2_init_57 : decode cX2_init 57 = .ok (.getfield 11, 3) := by decide +kernel
theorem dX2_init_60 : decode cX2_init 60 = .ok (.iload_n 1, 1) := by decide +kernel
theorem dX2_init_61 : decode cX2_init 61 = .ok (.new 9, 3) := by decide +kernel
theorem dX2_init_64 : decode cX2_init 64 = .ok (.dup, 1) := by decide +kernel
theorem dX2_init_65 : decode cX2_init 65 = .ok (.invokespecial 34, 3) := by decide +kernel
theorem dX2_init_68 : decode cX2_init 68 = .ok (.aastore, 1) := by decide +kernel
theorem dX2_init_69 : decode cX2_init 69 = .ok (.iinc 1 1, 3) := by decide +kernel
theorem dX2_init_72 : decode cX2_init 72 = .ok (.goto (-25), 3) := by decide +kernel
theorem dX2_init_75 : decode cX2_init 75 = .ok (.return_, 1) := by decide +kernel
theorem dX2_copyFrom_0 : decode cX2_copyFrom 0 = .ok (.iconst 0, 1) := by decide +kernel
theorem dX2_copyFrom_1 : decode cX2_copyFrom 1 = .ok (.istore_n 2, 1) := by decide +kernel
theorem dX2_copyFrom_2 : decode cX2_copyFrom 2 = .ok (.iload_n 2, 1) := by decide +kernel
theorem dX2_copyFrom_3 : decode cX2_copyFrom 3 = .ok (.aload_n 0, 1) := by decide +kernel
theorem dX2_copyFrom_4 : decode cX2_copyFrom 4 = .ok (.getfield 11, 3) := by decide +kernel
theorem dX2_copyFrom_7 : decode cX2_copyFrom 7 = .ok (.arraylength, 1) := by decide +kernel
theorem dX2_copyFrom_8 : decode cX2_copyFrom 8 = .ok (.if_icmp .ge 24, 3) := by decide +kernel
theorem dX2_copyFrom_11 : decode cX2_copyFrom 11 = .ok (.aload_n 0, 1) := by decide +kernel
theorem dX2_copyFrom_12 : decode cX2_copyFrom 12 = .ok (.getfield 11, 3) := by decide +kernel
theorem dX2_copyFrom_15 : decode cX2_copyFrom 15 = .ok (.iload_n 2, 1) := by decide +kernel
theorem dX2_copyFrom_16 : decode cX2_copyFrom 16 = .ok (.aaload, 1) := by decide +kernel
theorem dX2_copyFrom_17 : decode cX2_copyFrom 17 = .ok (.aload_n 1, 1) := by decide +kernel
theorem dX2_copyFrom_18 : decode cX2_copyFrom 18 = .ok (.getfield 11, 3) := by decide +kernel
theorem dX2_copyFrom_21 : decode cX2_copyFrom 21 = .ok (.iload_n 2, 1) := by decide +kernel
theorem dX2_copyFrom_22 : decode cX2_copyFrom 22 = .ok (.aaload, 1) := by decide +kernel
theorem dX2_copyFrom_23 : decode cX2_copyFrom 23 = .ok (.invokevirtual 35, 3) := by decide +kernel
theorem dX2_copyFrom_26 : decode cX2_copyFrom 26 = .ok (.iinc 2 1, 3) := by decide +kernel
theorem dX2_copyFrom_29 : decode cX2_copyFrom 29 = .ok (.goto (-27), 3) := by decide +kernel
theorem dX2_copyFrom_32 : decode cX2_copyFrom 32 = .ok (.aload_n 0, 1) := by decide +kernel
theorem dX2_copyFrom_33 : decode cX2_copyFrom 33 = .ok (.getfield 20, 3) := by decide +kernel
theorem dX2_copyFrom_36 : decode cX2_copyFrom 36 = .ok (.aload_n 1, 1) := by decide +kernel
theorem dX2_copyFrom_37 : decode cX2_copyFrom 37 = .ok (.getfield 20, 3) := by decide +kernel
theorem dX2_copyFrom_40 : decode cX2_copyFrom 40 = .ok (.invokevirtual 39, 3) := by decide +kernel
theorem dX2_copyFrom_43 : decode cX2_copyFrom 43 = .ok (.aload_n 0, 1) := by decide +kernel
theorem dX2_copyFrom_44 : decode cX2_copyFrom 44 = .ok (.getfield 24, 3) := by decide +kernel
theorem dX2_copyFrom_47 : decode cX2_copyFrom 47 = .ok (.aload_n 1, 1) := by decide +kernel
theorem dX2_copyFrom_48 : decode cX2_copyFrom 48 = .ok (.getfield 24, 3) := by decide +kernel
theorem dX2_copyFrom_51 : decode cX2_copyFrom 51 = .ok (.invokevirtual 39, 3) := by decide +kernel
theorem dX2_copyFrom_54 : decode cX2_copyFrom 54 = .ok (.aload_n 1, 1) := by decide +kernel
theorem dX2_copyFrom_55 : decode cX2_copyFrom 55 = .ok (.getfield 31, 3) := by decide +kernel
theorem dX2_copyFrom_58 : decode cX2_copyFrom 58 = .ok (.iconst 0, 1) := by decide +kernel
theorem dX2_copyFrom_59 : decode cX2_copyFrom 59 = .ok (.aload_n 0, 1) := by decide +kernel
theorem dX2_copyFrom_60 : decode cX2_copyFrom 60 = .ok (.getfield 31, 3) := by decide +kernel
theorem dX2_copyFrom_63 : decode cX2_copyFrom 63 = .ok (.iconst 0, 1) := by decide +kernel
theorem dX2_copyFrom_64 : decode cX2_copyFrom 64 = .ok (.aload_n 0, 1) := by decide +kernel
theorem dX2_copyFrom_65 : decode cX2_copyFrom 65 = .ok (.getfield 31, 3) := by decide +kernel
theorem dX2_copyFrom_68 : decode cX2_copyFrom 68 = .ok (.arraylength, 1) := by decide +kernel
theorem dX2_copyFrom_69 : decode cX2_copyFrom 69 = .ok (.invokestatic 42, 3) := by decide +kernel
theorem dX2_copyFrom_72 : decode cX2_copyFrom 72 = .ok (.return_, 1) := by decide +kernel
theorem dX2_bookAt_0 : decode cX2_bookAt 0 = .ok (.iload_n 1, 1) := by decide +kernel
theorem dX2_bookAt_1 : decode cX2_bookAt 1 = .ok (.iconst 0, 1) := by decide +kernel
theorem dX2_bookAt_2 : decode cX2_bookAt 2 = .ok (.aload_n 0, 1) := by decide +kernel
theorem dX2_bookAt_3 : decode cX2_bookAt 3 = .ok (.getfield 11, 3) := by decide +kernel
theorem dX2_bookAt_6 : decode cX2_bookAt 6 = .ok (.arraylength, 1) := by decide +kernel
theorem dX2_bookAt_7 : decode cX2_bookAt 7 = .ok (.iconst 1, 1) := by decide +kernel
theorem dX2_bookAt_8 : decode cX2_bookAt 8 = .ok (.isub, 1) := by decide +kernel
theorem dX2_bookAt_9 : decode cX2_bookAt 9 = .ok (.invokestatic 48, 3) := by decide +kernel
theorem dX2_bookAt_12 : decode cX2_bookAt 12 = .ok (.ifCond .eq 12, 3) := by decide +kernel
theorem dX2_bookAt_15 : decode cX2_bookAt 15 = .ok (.aload_n 0, 1) := by decide +kernel
theorem dX2_bookAt_16 : decode cX2_bookAt 16 = .ok (.getfield 11, 3) := by decide +kernel
theorem dX2_bookAt_19 : decode cX2_bookAt 19 = .ok (.iload_n 1, 1) := by decide +kernel
theorem dX2_bookAt_20 : decode cX2_bookAt 20 = .ok (.aaload, 1) := by decide +kernel
theorem dX2_bookAt_21 : decode cX2_bookAt 21 = .ok (.goto 4, 3) := by decide +kernel
theorem dX2_bookAt_24 : decode cX2_bookAt 24 = .ok (.aconst_null, 1) := by decide +kernel
theorem dX2_bookAt_25 : decode cX2_bookAt 25 = .ok (.areturn, 1) := by decide +kernel
theorem dX2_wayOf_0 : decode cX2_wayOf 0 = .ok (.iload_n 1, 1) := by decide +kernel
theorem dX2_wayOf_1 : decode cX2_wayOf 1 = .ok (.iconst 0, 1) := by decide +kernel
theorem dX2_wayOf_2 : decode cX2_wayOf 2 = .ok (.aload_n 0, 1) := by decide +kernel
theorem dX2_wayOf_3 : decode cX2_wayOf 3 = .ok (.getfield 31, 3) := by decide +kernel
theorem dX2_wayOf_6 : decode cX2_wayOf 6 = .ok (.arraylength, 1) := by decide +kernel
theorem dX2_wayOf_7 : decode cX2_wayOf 7 = .ok (.iconst 1, 1) := by decide +kernel
theorem dX2_wayOf_8 : decode cX2_wayOf 8 = .ok (.isub, 1) := by decide +kernel
theorem dX2_wayOf_9 : decode cX2_wayOf 9 = .ok (.invokestatic 48, 3) := by decide +kernel
theorem dX2_wayOf_12 : decode cX2_wayOf 12 = .ok (.ifCond .eq 12, 3) := by decide +kernel
theorem dX2_wayOf_15 : decode cX2_wayOf 15 = .ok (.aload_n 0, 1) := by decide +kernel
theorem dX2_wayOf_16 : decode cX2_wayOf 16 = .ok (.getfield 31, 3) := by decide +kernel
theorem dX2_wayOf_19 : decode cX2_wayOf 19 = .ok (.iload_n 1, 1) := by decide +kernel
theorem dX2_wayOf_20 : decode cX2_wayOf 20 = .ok (.iaload, 1) := by decide +kernel
theorem dX2_wayOf_21 : decode cX2_wayOf 21 = .ok (.goto 4, 3) := by decide +kernel
theorem dX2_wayOf_24 : decode cX2_wayOf 24 = .ok (.iconst 0, 1) := by decide +kernel
theorem dX2_wayOf_25 : decode cX2_wayOf 25 = .ok (.ireturn, 1) := by decide +kernel
theorem dX2_turn_0 : decode cX2_turn 0 = .ok (.iload_n 1, 1) := by decide +kernel
theorem dX2_turn_1 : decode cX2_turn 1 = .ok (.iconst 0, 1) := by decide +kernel
theorem dX2_turn_2 : decode cX2_turn 2 = .ok (.aload_n 0, 1) := by decide +kernel
theorem dX2_turn_3 : decode cX2_turn 3 = .ok (.getfield 31, 3) := by decide +kernel
theorem dX2_turn_6 : decode cX2_turn 6 = .ok (.arraylength, 1) := by decide +kernel
theorem dX2_turn_7 : decode cX2_turn 7 = .ok (.iconst 1, 1) := by decide +kernel
theorem dX2_turn_8 : decode cX2_turn 8 = .ok (.isub, 1) := by decide +kernel
theorem dX2_turn_9 : decode cX2_turn 9 = .ok (.invokestatic 48, 3) := by decide +kernel
theorem dX2_turn_12 : decode cX2_turn 12 = .ok (.ifCond .eq 10, 3) := by decide +kernel
theorem dX2_turn_15 : decode cX2_turn 15 = .ok (.aload_n 0, 1) := by decide +kernel
theorem dX2_turn_16 : decode cX2_turn 16 = .ok (.getfield 31, 3) := by decide +kernel
theorem dX2_turn_19 : decode cX2_turn 19 = .ok (.iload_n 1, 1) := by decide +kernel
theorem dX2_turn_20 : decode cX2_turn 20 = .ok (.iload_n 2, 1) := by decide +kernel
theorem dX2_turn_21 : decode cX2_turn 21 = .ok (.iastore, 1) := by decide +kernel
theorem dX2_turn_22 : decode cX2_turn 22 = .ok (.return_, 1) := by decide +kernel
theorem dX2_lineOf_0 : decode cX2_lineOf 0 = .ok (.aload_n 1, 1) := by decide +kernel
theorem dX2_lineOf_1 : decode cX2_lineOf 1 = .ok (.iconst 2, 1) := by decide +kernel
theorem dX2_lineOf_2 : decode cX2_lineOf 2 = .ok (.invokevirtual 52, 3) := by decide +kernel
theorem dX2_lineOf_5 : decode cX2_lineOf 5 = .ok (.ifCond .eq 5, 3) := by decide +kernel
theorem dX2_lineOf_8 : decode cX2_lineOf 8 = .ok (.iconst 0, 1) := by decide +kernel
theorem dX2_lineOf_9 : decode cX2_lineOf 9 = .ok (.ireturn, 1) := by decide +kernel
theorem dX2_lineOf_10 : decode cX2_lineOf 10 = .ok (.bipush 63, 2) := by decide +kernel
theorem dX2_lineOf_12 : decode cX2_lineOf 12 = .ok (.aload_n 0, 1) := by decide +kernel
theorem dX2_lineOf_13 : decode cX2_lineOf 13 = .ok (.getfield 20, 3) := by decide +kernel
theorem dX2_lineOf_16 : decode cX2_lineOf 16 = .ok (.aload_n 1, 1) := by decide +kernel
theorem dX2_lineOf_17 : decode cX2_lineOf 17 = .ok (.iconst 0, 1) := by decide +kernel
theorem dX2_lineOf_18 : decode cX2_lineOf 18 = .ok (.invokevirtual 52, 3) := by decide +kernel
theorem dX2_lineOf_21 : decode cX2_lineOf 21 = .ok (.aload_n 1, 1) := by decide +kernel
theorem dX2_lineOf_22 : decode cX2_lineOf 22 = .ok (.iconst 1, 1) := by decide +kernel
theorem dX2_lineOf_23 : decode cX2_lineOf 23 = .ok (.invokevirtual 52, 3) := by decide +kernel
theorem dX2_lineOf_26 : decode cX2_lineOf 26 = .ok (.invokestatic 56, 3) := by decide +kernel
theorem dX2_lineOf_29 : decode cX2_lineOf 29 = .ok (.invokestatic 62, 3) := by decide +kernel
theorem dX2_lineOf_32 : decode cX2_lineOf 32 = .ok (.ireturn, 1) := by decide +kernel
theorem dX2_growthFrom_0 : decode cX2_growthFrom 0 = .ok (.iconst 0, 1) := by decide +kernel
theorem dX2_growthFrom_1 : decode cX2_growthFrom 1 = .ok (.istore_n 2, 1) := by decide +kernel
theorem dX2_growthFrom_2 : decode cX2_growthFrom 2 = .ok (.iload_n 1, 1) := by decide +kernel
theorem dX2_growthFrom_3 : decode cX2_growthFrom 3 = .ok (.istore_n 3, 1) := by decide +kernel
theorem dX2_growthFrom_4 : decode cX2_growthFrom 4 = .ok (.iload_n 3, 1) := by decide +kernel
theorem dX2_growthFrom_5 : decode cX2_growthFrom 5 = .ok (.bipush 23, 2) := by decide +kernel
theorem dX2_growthFrom_7 : decode cX2_growthFrom 7 = .ok (.if_icmp .ge 20, 3) := by decide +kernel
theorem dX2_growthFrom_10 : decode cX2_growthFrom 10 = .ok (.iload_n 2, 1) := by decide +kernel
theorem dX2_growthFrom_11 : decode cX2_growthFrom 11 = .ok (.aload_n 0, 1) := by decide +kernel
theorem dX2_growthFrom_12 : decode cX2_growthFrom 12 = .ok (.getfield 24, 3) := by decide +kernel
theorem dX2_growthFrom_15 : decode cX2_growthFrom 15 = .ok (.iload_n 3, 1) := by decide +kernel
theorem dX2_growthFrom_16 : decode cX2_growthFrom 16 = .ok (.invokestatic 68, 3) := by decide +kernel
theorem dX2_growthFrom_19 : decode cX2_growthFrom 19 = .ok (.iadd, 1) := by decide +kernel
theorem dX2_growthFrom_20 : decode cX2_growthFrom 20 = .ok (.istore_n 2, 1) := by decide +kernel
theorem dX2_growthFrom_21 : decode cX2_growthFrom 21 = .ok (.iinc 3 1, 3) := by decide +kernel
theorem dX2_growthFrom_24 : decode cX2_growthFrom 24 = .ok (.goto (-20), 3) := by decide +kernel
theorem dX2_growthFrom_27 : decode cX2_growthFrom 27 = .ok (.iload_n 2, 1) := by decide +kernel
theorem dX2_growthFrom_28 : decode cX2_growthFrom 28 = .ok (.ireturn, 1) := by decide +kernel
theorem dX2_tenthsGrown_0 : decode cX2_tenthsGrown 0 = .ok (.aload_n 1, 1) := by decide +kernel
theorem dX2_tenthsGrown_1 : decode cX2_tenthsGrown 1 = .ok (.iconst 1, 1) := by decide +kernel
theorem dX2_tenthsGrown_2 : decode cX2_tenthsGrown 2 = .ok (.invokevirtual 52, 3) := by decide +kernel
theorem dX2_tenthsGrown_5 : decode cX2_tenthsGrown 5 = .ok (.istore_n 2, 1) := by decide +kernel
theorem dX2_tenthsGrown_6 : decode cX2_tenthsGrown 6 = .ok (.aload_n 0, 1) := by decide +kernel
theorem dX2_tenthsGrown_7 : decode cX2_tenthsGrown 7 = .ok (.iconst 4, 1) := by decide +kernel
theorem dX2_tenthsGrown_8 : decode cX2_tenthsGrown 8 = .ok (.invokevirtual 72, 3) := by decide +kernel
theorem dX2_tenthsGrown_11 : decode cX2_tenthsGrown 11 = .ok (.istore_n 3, 1) := by decide +kernel
theorem dX2_tenthsGrown_12 : decode cX2_tenthsGrown 12 = .ok (.bipush 10, 2) := by decide +kernel
theorem dX2_tenthsGrown_14 : decode cX2_tenthsGrown 14 = .ok (.iload_n 3, 1) := by decide +kernel
theorem dX2_tenthsGrown_15 : decode cX2_tenthsGrown 15 = .ok (.isub, 1) := by decide +kernel
theorem dX2_tenthsGrown_16 : decode cX2_tenthsGrown 16 = .ok (.aload_n 0, 1) := by decide +kernel
theorem dX2_tenthsGrown_17 : decode cX2_tenthsGrown 17 = .ok (.iload_n 2, 1) := by decide +kernel
theorem dX2_tenthsGrown_18 : decode cX2_tenthsGrown 18 = .ok (.invokevirtual 75, 3) := by decide +kernel
theorem dX2_tenthsGrown_21 : decode cX2_tenthsGrown 21 = .ok (.imul, 1) := by decide +kernel
theorem dX2_tenthsGrown_22 : decode cX2_tenthsGrown 22 = .ok (.iload_n 3, 1) := by decide +kernel
theorem dX2_tenthsGrown_23 : decode cX2_tenthsGrown 23 = .ok (.aload_n 0, 1) := by decide +kernel
theorem dX2_tenthsGrown_24 : decode cX2_tenthsGrown 24 = .ok (.iload_n 2, 1) := by decide +kernel
theorem dX2_tenthsGrown_25 : decode cX2_tenthsGrown 25 = .ok (.iconst 1, 1) := by decide +kernel
theorem dX2_tenthsGrown_26 : decode cX2_tenthsGrown 26 = .ok (.isub, 1) := by decide +kernel
theorem dX2_tenthsGrown_27 : decode cX2_tenthsGrown 27 = .ok (.invokevirtual 75, 3) := by decide +kernel
theorem dX2_tenthsGrown_30 : decode cX2_tenthsGrown 30 = .ok (.imul, 1) := by decide +kernel
theorem dX2_tenthsGrown_31 : decode cX2_tenthsGrown 31 = .ok (.iadd, 1) := by decide +kernel
theorem dX2_tenthsGrown_32 : decode cX2_tenthsGrown 32 = .ok (.ireturn, 1) := by decide +kernel
theorem dX2_hundredths_0 : decode cX2_hundredths 0 = .ok (.iload_n 2, 1) := by decide +kernel
theorem dX2_hundredths_1 : decode cX2_hundredths 1 = .ok (.iload_n 1, 1) := by decide +kernel
theorem dX2_hundredths_2 : decode cX2_hundredths 2 = .ok (.if_icmp .ge 18, 3) := by decide +kernel
theorem dX2_hundredths_5 : decode cX2_hundredths 5 = .ok (.iload_n 1, 1) := by decide +kernel
theorem dX2_hundredths_6 : decode cX2_hundredths 6 = .ok (.iload_n 2, 1) := by decide +kernel
theorem dX2_hundredths_7 : decode cX2_hundredths 7 = .ok (.isub, 1) := by decide +kernel
theorem dX2_hundredths_8 : decode cX2_hundredths 8 = .ok (.aload_n 0, 1) := by decide +kernel
theorem dX2_hundredths_9 : decode cX2_hundredths 9 = .ok (.iconst 2, 1) := by decide +kernel
theorem dX2_hundredths_10 : decode cX2_hundredths 10 = .ok (.invokevirtual 72, 3) := by decide +kernel
theorem dX2_hundredths_13 : decode cX2_hundredths 13 = .ok (.if_icmp .gt 7, 3) := by decide +kernel
theorem dX2_hundredths_16 : decode cX2_hundredths 16 = .ok (.iconst 1, 1) := by decide +kernel
theorem dX2_hundredths_17 : decode cX2_hundredths 17 = .ok (.goto 4, 3) := by decide +kernel
theorem dX2_hundredths_20 : decode cX2_hundredths 20 = .ok (.iconst 0, 1) := by decide +kernel
theorem dX2_hundredths_21 : decode cX2_hundredths 21 = .ok (.istore 4, 2) := by decide +kernel
theorem dX2_hundredths_23 : decode cX2_hundredths 23 = .ok (.iload 4, 2) := by decide +kernel
theorem dX2_hundredths_25 : decode cX2_hundredths 25 = .ok (.ifCond .eq 11, 3) := by decide +kernel
theorem dX2_hundredths_28 : decode cX2_hundredths 28 = .ok (.aload_n 0, 1) := by decide +kernel
theorem dX2_hundredths_29 : decode cX2_hundredths 29 = .ok (.iconst 3, 1) := by decide +kernel
theorem dX2_hundredths_30 : decode cX2_hundredths 30 = .ok (.invokevirtual 72, 3) := by decide +kernel
theorem dX2_hundredths_33 : decode cX2_hundredths 33 = .ok (.goto 4, 3) := by decide +kernel
theorem dX2_hundredths_36 : decode cX2_hundredths 36 = .ok (.iconst 0, 1) := by decide +kernel
theorem dX2_hundredths_37 : decode cX2_hundredths 37 = .ok (.istore 5, 2) := by decide +kernel
theorem dX2_hundredths_39 : decode cX2_hundredths 39 = .ok (.iload_n 2, 1) := by decide +kernel
theorem dX2_hundredths_40 : decode cX2_hundredths 40 = .ok (.iconst 4, 1) := by decide +kernel
theorem dX2_hundredths_41 : decode cX2_hundredths 41 = .ok (.irem, 1) := by decide +kernel
theorem dX2_hundredths_42 : decode cX2_hundredths 42 = .ok (.ifCond .ne 7, 3) := by decide +kernel
theorem dX2_hundredths_45 : decode cX2_hundredths 45 = .ok (.iconst 0, 1) := by decide +kernel
theorem dX2_hundredths_46 : decode cX2_hundredths 46 = .ok (.goto 8, 3) := by decide +kernel
theorem dX2_hundredths_49 : decode cX2_hundredths 49 = .ok (.aload_n 0, 1) := by decide +kernel
theorem dX2_hundredths_50 : decode cX2_hundredths 50 = .ok (.iconst 1, 1) := by decide +kernel
theorem dX2_hundredths_51 : decode cX2_hundredths 51 = .ok (.invokevirtual 72, 3) := by decide +kernel
theorem dX2_hundredths_54 : decode cX2_hundredths 54 = .ok (.istore 6, 2) := by decide +kernel
theorem dX2_hundredths_56 : decode cX2_hundredths 56 = .ok (.iconst 0, 1) := by decide +kernel
theorem dX2_hundredths_57 : decode cX2_hundredths 57 = .ok (.istore 7, 2) := by decide +kernel
theorem dX2_hundredths_59 : decode cX2_hundredths 59 = .ok (.iload_n 3, 1) := by decide +kernel
theorem dX2_hundredths_60 : decode cX2_hundredths 60 = .ok (.iload_n 1, 1) := by decide +kernel
theorem dX2_hundredths_61 : decode cX2_hundredths 61 = .ok (.if_icmp .ne 13, 3) := by decide +kernel
theorem dX2_hundredths_64 : decode cX2_hundredths 64 = .ok (.iload 7, 2) := by decide +kernel
theorem dX2_hundredths_66 : decode cX2_hundredths 66 = .ok (.bipush 10, 2) := by decide +kernel
theorem dX2_hundredths_68 : decode cX2_hundredths 68 = .ok (.iload 5, 2) := by decide +kernel
theorem dX2_hundredths_70 : decode cX2_hundredths 70 = .ok (.imul, 1) := by decide +kernel
theorem dX2_hundredths_71 : decode cX2_hundredths 71 = .ok (.iadd, 1) := by decide +kernel
theorem dX2_hundredths_72 : decode cX2_hundredths 72 = .ok (.istore 7, 2) := by decide +kernel
theorem dX2_hundredths_74 : decode cX2_hundredths 74 = .ok (.iload_n 3, 1) := by decide +kernel
theorem dX2_hundredths_75 : decode cX2_hundredths 75 = .ok (.iload_n 2, 1) := by decide +kernel
theorem dX2_hundredths_76 : decode cX2_hundredths 76 = .ok (.invokestatic 78, 3) := by decide +kernel
theorem dX2_hundredths_79 : decode cX2_hundredths 79 = .ok (.if_icmp .ne 16, 3) := by decide +kernel
theorem dX2_hundredths_82 : decode cX2_hundredths 82 = .ok (.iload 7, 2) := by decide +kernel
theorem dX2_hundredths_84 : decode cX2_hundredths 84 = .ok (.bipush 10, 2) := by decide +kernel
theorem dX2_hundredths_86 : decode cX2_hundredths 86 = .ok (.iload 5, 2) := by decide +kernel
theorem dX2_hundredths_88 : decode cX2_hundredths 88 = .ok (.isub, 1) := by decide +kernel
theorem dX2_hundredths_89 : decode cX2_hundredths 89 = .ok (.iload 6, 2) := by decide +kernel
theorem dX2_hundredths_91 : decode cX2_hundredths 91 = .ok (.imul, 1) := by decide +kernel
theorem dX2_hundredths_92 : decode cX2_hundredths 92 = .ok (.iadd, 1) := by decide +kernel
theorem dX2_hundredths_93 : decode cX2_hundredths 93 = .ok (.istore 7, 2) := by decide +kernel
theorem dX2_hundredths_95 : decode cX2_hundredths 95 = .ok (.iload_n 3, 1) := by decide +kernel
theorem dX2_hundredths_96 : decode cX2_hundredths 96 = .ok (.iload_n 2, 1) := by decide +kernel
theorem dX2_hundredths_97 : decode cX2_hundredths 97 = .ok (.if_icmp .ne 19, 3) := by decide +kernel
theorem dX2_hundredths_100 : decode cX2_hundredths 100 = .ok (.iload 7, 2) := by decide +kernel
theorem dX2_hundredths_102 : decode cX2_hundredths 102 = .ok (.bipush 10, 2) := by decide +kernel
theorem dX2_hundredths_104 : decode cX2_hundredths 104 = .ok (.iload 5, 2) := by decide +kernel
theorem dX2_hundredths_106 : decode cX2_hundredths 106 = .ok (.isub, 1) := by decide +kernel
theorem dX2_hundredths_107 : decode cX2_hundredths 107 = .ok (.bipush 10, 2) := by decide +kernel
theorem dX2_hundredths_109 : decode cX2_hundredths 109 = .ok (.iload 6, 2) := by decide +kernel
theorem dX2_hundredths_111 : decode cX2_hundredths 111 = .ok (.isub, 1) := by decide +kernel
theorem dX2_hundredths_112 : decode cX2_hundredths 112 = .ok (.imul, 1) := by decide +kernel
theorem dX2_hundredths_113 : decode cX2_hundredths 113 = .ok (.iadd, 1) := by decide +kernel
theorem dX2_hundredths_114 : decode cX2_hundredths 114 = .ok (.istore 7, 2) := by decide +kernel
theorem dX2_hundredths_116 : decode cX2_hundredths 116 = .ok (.iload 7, 2) := by decide +kernel
theorem dX2_hundredths_118 : decode cX2_hundredths 118 = .ok (.ireturn, 1) := by decide +kernel
theorem dX3_init_0 : decode cX3_init 0 = .ok (.aload_n 0, 1) := by decide +kernel
theorem dX3_init_1 : decode cX3_init 1 = .ok (.invokespecial 3, 3) := by decide +kernel
theorem dX3_init_4 : decode cX3_init 4 = .ok (.aload_n 0, 1) := by decide +kernel
theorem dX3_init_5 : decode cX3_init 5 = .ok (.bipush 9, 2) := by decide +kernel
theorem dX3_init_7 : decode cX3_init 7 = .ok (.bipush 17, 2) := by decide +kernel
theorem dX3_init_9 : decode cX3_init 9 = .ok (.multianewarray 9 2, 4) := by decide +kernel
theorem dX3_init_13 : decode cX3_init 13 = .ok (.putfield 11, 3) := by decide +kernel
theorem dX3_init_16 : decode cX3_init 16 = .ok (.iconst 1, 1) := by decide +kernel
theorem dX3_init_17 : decode cX3_init 17 = .ok (.istore_n 1, 1) := by decide +kernel
theorem dX3_init_18 : decode cX3_init 18 = .ok (.iload_n 1, 1) := by decide +kernel
theorem dX3_init_19 : decode cX3_init 19 = .ok (.bipush 8, 2) := by decide +kernel
theorem dX3_init_21 : decode cX3_init 21 = .ok (.if_icmp .gt 47, 3) := by decide +kernel
theorem dX3_init_24 : decode cX3_init 24 = .ok (.iconst 1, 1) := by decide +kernel
theorem dX3_init_25 : decode cX3_init 25 = .ok (.istore_n 2, 1) := by decide +kernel
theorem dX3_init_26 : decode cX3_init 26 = .ok (.iconst 0, 1) := by decide +kernel
theorem dX3_init_27 : decode cX3_init 27 = .ok (.istore_n 3, 1) := by decide +kernel
theorem dX3_init_28 : decode cX3_init 28 = .ok (.iload_n 3, 1) := by decide +kernel
theorem dX3_init_29 : decode cX3_init 29 = .ok (.iconst 2, 1) := by decide +kernel
theorem dX3_init_30 : decode cX3_init 30 = .ok (.iload_n 1, 1) := by decide +kernel
theorem dX3_init_31 : decode cX3_init 31 = .ok (.imul, 1) := by decide +kernel
theorem dX3_init_32 : decode cX3_init 32 = .ok (.if_icmp .gt 30, 3) := by decide +kernel
theorem dX3_init_35 : decode cX3_init 35 = .ok (.aload_n 0, 1) := by decide +kernel
theorem dX3_init_36 : decode cX3_init 36 = .ok (.getfield 11, 3) := by decide +kernel
theorem dX3_init_39 : decode cX3_init 39 = .ok (.iload_n 1, 1) := by decide +kernel
theorem dX3_init_40 : decode cX3_init 40 = .ok (.aaload, 1) := by decide +kernel
theorem dX3_init_41 : decode cX3_init 41 = .ok (.iload_n 3, 1) := by decide +kernel
theorem dX3_init_42 : decode cX3_init 42 = .ok (.iload_n 2, 1) := by decide +kernel
theorem dX3_init_43 : decode cX3_init 43 = .ok (.iastore, 1) := by decide +kernel
theorem dX3_init_44 : decode cX3_init 44 = .ok (.iload_n 2, 1) := by decide +kernel
theorem dX3_init_45 : decode cX3_init 45 = .ok (.iconst 2, 1) := by decide +kernel
theorem dX3_init_46 : decode cX3_init 46 = .ok (.iload_n 1, 1) := by decide +kernel
theorem dX3_init_47 : decode cX3_init 47 = .ok (.imul, 1) := by decide +kernel
theorem dX3_init_48 : decode cX3_init 48 = .ok (.iload_n 3, 1) := by decide +kernel
theorem dX3_init_49 : decode cX3_init 49 = .ok (.isub, 1) := by decide +kernel
theorem dX3_init_50 : decode cX3_init 50 = .ok (.imul, 1) := by decide +kernel
theorem dX3_init_51 : decode cX3_init 51 = .ok (.iload_n 3, 1) := by decide +kernel
theorem dX3_init_52 : decode cX3_init 52 = .ok (.iconst 1, 1) := by decide +kernel
theorem dX3_init_53 : decode cX3_init 53 = .ok (.iadd, 1) := by decide +kernel
theorem dX3_init_54 : decode cX3_init 54 = .ok (.idiv, 1) := by decide +kernel
theorem dX3_init_55 : decode cX3_init 55 = .ok (.istore_n 2, 1) := by decide +kernel
theorem dX3_init_56 : decode cX3_init 56 = .ok (.iinc 3 1, 3) := by decide +kernel
theorem dX3_init_59 : decode cX3_init 59 = .ok (.goto (-31), 3) := by decide +kernel
theorem dX3_init_62 : decode cX3_init 62 = .ok (.iinc 1 1, 3) := by decide +kernel
theorem dX3_init_65 : decode cX3_init 65 = .ok (.goto (-47), 3) := by decide +kernel
theorem dX3_init_68 : decode cX3_init 68 = .ok (.return_, 1) := by decide +kernel
theorem dX3_waysOf_0 : decode cX3_waysOf 0 = .ok (.iload_n 1, 1) := by decide +kernel
theorem dX3_waysOf_1 : decode cX3_waysOf 1 = .ok (.iconst 1, 1) := by decide +kernel
theorem dX3_waysOf_2 : decode cX3_waysOf 2 = .ok (.if_icmp .lt 20, 3) := by decide +kernel
theorem dX3_waysOf_5 : decode cX3_waysOf 5 = .ok (.iload_n 1, 1) := by decide +kernel
theorem dX3_waysOf_6 : decode cX3_waysOf 6 = .ok (.bipush 8, 2) := by decide +kernel
theorem dX3_waysOf_8 : decode cX3_waysOf 8 = .ok (.if_icmp .gt 14, 3) := by decide +kernel
theorem dX3_waysOf_11 : decode cX3_waysOf 11 = .ok (.iload_n 2, 1) := by decide +kernel
theorem dX3_waysOf_12 : decode cX3_waysOf 12 = .ok (.ifCond .lt 10, 3) := by decide +kernel
theorem dX3_waysOf_15 : decode cX3_waysOf 15 = .ok (.iload_n 2, 1) := by decide +kernel
theorem dX3_waysOf_16 : decode cX3_waysOf 16 = .ok (.iconst 2, 1) := by decide +kernel
theorem dX3_waysOf_17 : decode cX3_waysOf 17 = .ok (.iload_n 1, 1) := by decide +kernel
theorem dX3_waysOf_18 : decode cX3_waysOf 18 = .ok (.imul, 1) := by decide +kernel
theorem dX3_waysOf_19 : decode cX3_waysOf 19 = .ok (.if_icmp .le 7, 3) := by decide +kernel
theorem dX3_waysOf_22 : decode cX3_waysOf 22 = .ok (.iconst 0, 1) := by decide +kernel
theorem dX3_waysOf_23 : decode cX3_waysOf 23 = .ok (.goto 11, 3) := by decide +kernel
theorem dX3_waysOf_26 : decode cX3_waysOf 26 = .ok (.aload_n 0, 1) := by decide +kernel
theorem dX3_waysOf_27 : decode cX3_waysOf 27 = .ok (.getfield 11, 3) := by decide +kernel
theorem dX3_waysOf_30 : decode cX3_waysOf 30 = .ok (.iload_n 1, 1) := by decide +kernel
theorem dX3_waysOf_31 : decode cX3_waysOf 31 = .ok (.aaload, 1) := by decide +kernel
theorem dX3_waysOf_32 : decode cX3_waysOf 32 = .ok (.iload_n 2, 1) := by decide +kernel
theorem dX3_waysOf_33 : decode cX3_waysOf 33 = .ok (.iaload, 1) := by decide +kernel
theorem dX3_waysOf_34 : decode cX3_waysOf 34 = .ok (.ireturn, 1) := by decide +kernel
theorem dX3_menAt_0 : decode cX3_menAt 0 = .ok (.iload_n 3, 1) := by decide +kernel
theorem dX3_menAt_1 : decode cX3_menAt 1 = .ok (.ifCond .lt 9, 3) := by decide +kernel
theorem dX3_menAt_4 : decode cX3_menAt 4 = .ok (.iload_n 3, 1) := by decide +kernel
theorem dX3_menAt_5 : decode cX3_menAt 5 = .ok (.bipush 63, 2) := by decide +kernel
theorem dX3_menAt_7 : decode cX3_menAt 7 = .ok (.if_icmp .le 7, 3) := by decide +kernel
theorem dX3_menAt_10 : decode cX3_menAt 10 = .ok (.iconst 0, 1) := by decide +kernel
theorem dX3_menAt_11 : decode cX3_menAt 11 = .ok (.goto 13, 3) := by decide +kernel
theorem dX3_menAt_14 : decode cX3_menAt 14 = .ok (.aload_n 0, 1) := by decide +kernel
theorem dX3_menAt_15 : decode cX3_menAt 15 = .ok (.iload_n 2, 1) := by decide +kernel
theorem dX3_menAt_16 : decode cX3_menAt 16 = .ok (.iload_n 3, 1) := by decide +kernel
theorem dX3_menAt_17 : decode cX3_menAt 17 = .ok (.iload_n 1, 1) := by decide +kernel
theorem dX3_menAt_18 : decode cX3_menAt 18 = .ok (.isub, 1) := by decide +kernel
theorem dX3_menAt_19 : decode cX3_menAt 19 = .ok (.iload_n 2, 1) := by decide +kernel
theorem dX3_menAt_20 : decode cX3_menAt 20 = .ok (.iadd, 1) := by decide +kernel
theorem dX3_menAt_21 : decode cX3_menAt 21 = .ok (.invokevirtual 16, 3) := by decide +kernel
theorem dX3_menAt_24 : decode cX3_menAt 24 = .ok (.ireturn, 1) := by decide +kernel
theorem dX3_countFrom_0 : decode cX3_countFrom 0 = .ok (.lconst 0, 1) := by decide +kernel
theorem dX3_countFrom_1 : decode cX3_countFrom 1 = .ok (.lstore 4, 2) := by decide +kernel
theorem dX3_countFrom_3 : decode cX3_countFrom 3 = .ok (.iload_n 3, 1) := by decide +kernel
theorem dX3_countFrom_4 : decode cX3_countFrom 4 = .ok (.iload_n 1, 1) := by decide +kernel
theorem dX3_countFrom_5 : decode cX3_countFrom 5 = .ok (.iload_n 2, 1) := by decide +kernel
theorem dX3_countFrom_6 : decode cX3_countFrom 6 = .ok (.isub, 1) := by decide +kernel
theorem dX3_countFrom_7 : decode cX3_countFrom 7 = .ok (.invokestatic 20, 3) := by decide +kernel
theorem dX3_countFrom_10 : decode cX3_countFrom 10 = .ok (.istore 6, 2) := by decide +kernel
theorem dX3_countFrom_12 : decode cX3_countFrom 12 = .ok (.iload 6, 2) := by decide +kernel
theorem dX3_countFrom_14 : decode cX3_countFrom 14 = .ok (.iload_n 1, 1) := by decide +kernel
theorem dX3_countFrom_15 : decode cX3_countFrom 15 = .ok (.iload_n 2, 1) := by decide +kernel
theorem dX3_countFrom_16 : decode cX3_countFrom 16 = .ok (.iadd, 1) := by decide +kernel
theorem dX3_countFrom_17 : decode cX3_countFrom 17 = .ok (.if_icmp .gt 23, 3) := by decide +kernel
theorem dX3_countFrom_20 : decode cX3_countFrom 20 = .ok (.lload 4, 2) := by decide +kernel
theorem dX3_countFrom_22 : decode cX3_countFrom 22 = .ok (.aload_n 0, 1) := by decide +kernel
theorem dX3_countFrom_23 : decode cX3_countFrom 23 = .ok (.iload_n 1, 1) := by decide +kernel
theorem dX3_countFrom_24 : decode cX3_countFrom 24 = .ok (.iload_n 2, 1) := by decide +kernel
theorem dX3_countFrom_25 : decode cX3_countFrom 25 = .ok (.iload 6, 2) := by decide +kernel
theorem dX3_countFrom_27 : decode cX3_countFrom 27 = .ok (.invokevirtual 25, 3) := by decide +kernel
theorem dX3_countFrom_30 : decode cX3_countFrom 30 = .ok (.i2l, 1) := by decide +kernel
theorem dX3_countFrom_31 : decode cX3_countFrom 31 = .ok (.ladd, 1) := by decide +kernel
theorem dX3_countFrom_32 : decode cX3_countFrom 32 = .ok (.lstore 4, 2) := by decide +kernel
theorem dX3_countFrom_34 : decode cX3_countFrom 34 = .ok (.iinc 6 1, 3) := by decide +kernel
theorem dX3_countFrom_37 : decode cX3_countFrom 37 = .ok (.goto (-25), 3) := by decide +kernel
theorem dX3_countFrom_40 : decode cX3_countFrom 40 = .ok (.lload 4, 2) := by decide +kernel
theorem dX3_countFrom_42 : decode cX3_countFrom 42 = .ok (.lreturn, 1) := by decide +kernel
theorem dX3_sumFrom_0 : decode cX3_sumFrom 0 = .ok (.lconst 0, 1) := by decide +kernel
theorem dX3_sumFrom_1 : decode cX3_sumFrom 1 = .ok (.lstore 4, 2) := by decide +kernel
theorem dX3_sumFrom_3 : decode cX3_sumFrom 3 = .ok (.iload_n 3, 1) := by decide +kernel
theorem dX3_sumFrom_4 : decode cX3_sumFrom 4 = .ok (.iload_n 1, 1) := by decide +kernel
theorem dX3_sumFrom_5 : decode cX3_sumFrom 5 = .ok (.iload_n 2, 1) := by decide +kernel
theorem dX3_sumFrom_6 : decode cX3_sumFrom 6 = .ok (.isub, 1) := by decide +kernel
theorem dX3_sumFrom_7 : decode cX3_sumFrom 7 = .ok (.invokestatic 20, 3) := by decide +kernel
theorem dX3_sumFrom_10 : decode cX3_sumFrom 10 = .ok (.istore 6, 2) := by decide +kernel
theorem dX3_sumFrom_12 : decode cX3_sumFrom 12 = .ok (.iload 6, 2) := by decide +kernel
theorem dX3_sumFrom_14 : decode cX3_sumFrom 14 = .ok (.iload_n 1, 1) := by decide +kernel
theorem dX3_sumFrom_15 : decode cX3_sumFrom 15 = .ok (.iload_n 2, 1) := by decide +kernel
theorem dX3_sumFrom_16 : decode cX3_sumFrom 16 = .ok (.iadd, 1) := by decide +kernel
theorem dX3_sumFrom_17 : decode cX3_sumFrom 17 = .ok (.if_icmp .gt 27, 3) := by decide +kernel
theorem dX3_sumFrom_20 : decode cX3_sumFrom 20 = .ok (.lload 4, 2) := by decide +kernel
theorem dX3_sumFrom_22 : decode cX3_sumFrom 22 = .ok (.iload 6, 2) := by decide +kernel
theorem dX3_sumFrom_24 : decode cX3_sumFrom 24 = .ok (.i2l, 1) := by decide +kernel
theorem dX3_sumFrom_25 : decode cX3_sumFrom 25 = .ok (.aload_n 0, 1) := by decide +kernel
theorem dX3_sumFrom_26 : decode cX3_sumFrom 26 = .ok (.iload_n 1, 1) := by decide +kernel
theorem dX3_sumFrom_27 : decode cX3_sumFrom 27 = .ok (.iload_n 2, 1) := by decide +kernel
theorem dX3_sumFrom_28 : decode cX3_sumFrom 28 = .ok (.iload 6, 2) := by decide +kernel
theorem dX3_sumFrom_30 : decode cX3_sumFrom 30 = .ok (.invokevirtual 25, 3) := by decide +kernel
theorem dX3_sumFrom_33 : decode cX3_sumFrom 33 = .ok (.i2l, 1) := by decide +kernel
theorem dX3_sumFrom_34 : decode cX3_sumFrom 34 = .ok (.lmul, 1) := by decide +kernel
theorem dX3_sumFrom_35 : decode cX3_sumFrom 35 = .ok (.ladd, 1) := by decide +kernel
theorem dX3_sumFrom_36 : decode cX3_sumFrom 36 = .ok (.lstore 4, 2) := by decide +kernel
theorem dX3_sumFrom_38 : decode cX3_sumFrom 38 = .ok (.iinc 6 1, 3) := by decide +kernel
theorem dX3_sumFrom_41 : decode cX3_sumFrom 41 = .ok (.goto (-29), 3) := by decide +kernel
theorem dX3_sumFrom_44 : decode cX3_sumFrom 44 = .ok (.lload 4, 2) := by decide +kernel
theorem dX3_sumFrom_46 : decode cX3_sumFrom 46 = .ok (.lreturn, 1) := by decide +kernel
theorem dX3_heightOf_0 : decode cX3_heightOf 0 = .ok (.iload_n 3, 1) := by decide +kernel
theorem dX3_heightOf_1 : decode cX3_heightOf 1 = .ok (.istore 4, 2) := by decide +kernel
theorem dX3_heightOf_3 : decode cX3_heightOf 3 = .ok (.iconst 0, 1) := by decide +kernel
theorem dX3_heightOf_4 : decode cX3_heightOf 4 = .ok (.istore 5, 2) := by decide +kernel
theorem dX3_heightOf_6 : decode cX3_heightOf 6 = .ok (.iload 5, 2) := by decide +kernel
theorem dX3_heightOf_8 : decode cX3_heightOf 8 = .ok (.iconst 2, 1) := by decide +kernel
theorem dX3_heightOf_9 : decode cX3_heightOf 9 = .ok (.iload_n 2, 1) := by decide +kernel
theorem dX3_heightOf_10 : decode cX3_heightOf 10 = .ok (.imul, 1) := by decide +kernel
theorem dX3_heightOf_11 : decode cX3_heightOf 11 = .ok (.if_icmp .ge 33, 3) := by decide +kernel
theorem dX3_heightOf_14 : decode cX3_heightOf 14 = .ok (.iload 4, 2) := by decide +kernel
theorem dX3_heightOf_16 : decode cX3_heightOf 16 = .ok (.aload_n 0, 1) := by decide +kernel
theorem dX3_heightOf_17 : decode cX3_heightOf 17 = .ok (.iload_n 2, 1) := by decide +kernel
theorem dX3_heightOf_18 : decode cX3_heightOf 18 = .ok (.iload 5, 2) := by decide +kernel
theorem dX3_heightOf_20 : decode cX3_heightOf 20 = .ok (.invokevirtual 16, 3) := by decide +kernel
theorem dX3_heightOf_23 : decode cX3_heightOf 23 = .ok (.isub, 1) := by decide +kernel
theorem dX3_heightOf_24 : decode cX3_heightOf 24 = .ok (.istore 4, 2) := by decide +kernel
theorem dX3_heightOf_26 : decode cX3_heightOf 26 = .ok (.iload 4, 2) := by decide +kernel
theorem dX3_heightOf_28 : decode cX3_heightOf 28 = .ok (.ifCond .ge 10, 3) := by decide +kernel
theorem dX3_heightOf_31 : decode cX3_heightOf 31 = .ok (.iload_n 1, 1) := by decide +kernel
theorem dX3_heightOf_32 : decode cX3_heightOf 32 = .ok (.iload_n 2, 1) := by decide +kernel
theorem dX3_heightOf_33 : decode cX3_heightOf 33 = .ok (.isub, 1) := by decide +kernel
theorem dX3_heightOf_34 : decode cX3_heightOf 34 = .ok (.iload 5, 2) := by decide +kernel
theorem dX3_heightOf_36 : decode cX3_heightOf 36 = .ok (.iadd, 1) := by decide +kernel
theorem dX3_heightOf_37 : decode cX3_heightOf 37 = .ok (.ireturn, 1) := by decide +kernel
theorem dX3_heightOf_38 : decode cX3_heightOf 38 = .ok (.iinc 5 1, 3) := by decide +kernel
theorem dX3_heightOf_41 : decode cX3_heightOf 41 = .ok (.goto (-35), 3) := by decide +kernel
theorem dX3_heightOf_44 : decode cX3_heightOf 44 = .ok (.iload_n 1, 1) := by decide +kernel
theorem dX3_heightOf_45 : decode cX3_heightOf 45 = .ok (.iload_n 2, 1) := by decide +kernel
theorem dX3_heightOf_46 : decode cX3_heightOf 46 = .ok (.iadd, 1) := by decide +kernel
theorem dX3_heightOf_47 : decode cX3_heightOf 47 = .ok (.ireturn, 1) := by decide +kernel
theorem dX4_init_0 : decode cX4_init 0 = .ok (.aload_n 0, 1) := by decide +kernel
theorem dX4_init_1 : decode cX4_init 1 = .ok (.invokespecial 3, 3) := by decide +kernel
theorem dX4_init_4 : decode cX4_init 4 = .ok (.aload_n 0, 1) := by decide +kernel
theorem dX4_init_5 : decode cX4_init 5 = .ok (.aload_n 1, 1) := by decide +kernel
theorem dX4_init_6 : decode cX4_init 6 = .ok (.putfield 9, 3) := by decide +kernel
theorem dX4_init_9 : decode cX4_init 9 = .ok (.return_, 1) := by decide +kernel
theorem dX4_draw_0 : decode cX4_draw 0 = .ok (.aload_n 0, 1) := by decide +kernel
theorem dX4_draw_1 : decode cX4_draw 1 = .ok (.aload_n 0, 1) := by decide +kernel
theorem dX4_draw_2 : decode cX4_draw 2 = .ok (.getfield 15, 3) := by decide +kernel
theorem dX4_draw_5 : decode cX4_draw 5 = .ok (.bipush 75, 2) := by decide +kernel
theorem dX4_draw_7 : decode cX4_draw 7 = .ok (.imul, 1) := by decide +kernel
theorem dX4_draw_8 : decode cX4_draw 8 = .ok (.bipush 74, 2) := by decide +kernel
theorem dX4_draw_10 : decode cX4_draw 10 = .ok (.iadd, 1) := by decide +kernel
theorem dX4_draw_11 : decode cX4_draw 11 = .ok (.ldc 19, 2) := by decide +kernel
theorem dX4_draw_13 : decode cX4_draw 13 = .ok (.irem, 1) := by decide +kernel
theorem dX4_draw_14 : decode cX4_draw 14 = .ok (.putfield 15, 3) := by decide +kernel
theorem dX4_draw_17 : decode cX4_draw 17 = .ok (.iload_n 1, 1) := by decide +kernel
theorem dX4_draw_18 : decode cX4_draw 18 = .ok (.ifCond .gt 7, 3) := by decide +kernel
theorem dX4_draw_21 : decode cX4_draw 21 = .ok (.iconst 0, 1) := by decide +kernel
theorem dX4_draw_22 : decode cX4_draw 22 = .ok (.goto 9, 3) := by decide +kernel
theorem dX4_draw_25 : decode cX4_draw 25 = .ok (.aload_n 0, 1) := by decide +kernel
theorem dX4_draw_26 : decode cX4_draw 26 = .ok (.getfield 15, 3) := by decide +kernel
theorem dX4_draw_29 : decode cX4_draw 29 = .ok (.iload_n 1, 1) := by decide +kernel
theorem dX4_draw_30 : decode cX4_draw 30 = .ok (.irem, 1) := by decide +kernel
theorem dX4_draw_31 : decode cX4_draw 31 = .ok (.ireturn, 1) := by decide +kernel
theorem dX4_fill_0 : decode cX4_fill 0 = .ok (.aload_n 0, 1) := by decide +kernel
theorem dX4_fill_1 : decode cX4_fill 1 = .ok (.iload_n 3, 1) := by decide +kernel
theorem dX4_fill_2 : decode cX4_fill 2 = .ok (.putfield 15, 3) := by decide +kernel
theorem dX4_fill_5 : decode cX4_fill 5 = .ok (.aload_n 1, 1) := by decide +kernel
theorem dX4_fill_6 : decode cX4_fill 6 = .ok (.invokevirtual 20, 3) := by decide +kernel
theorem dX4_fill_9 : decode cX4_fill 9 = .ok (.aload_n 2, 1) := by decide +kernel
theorem dX4_fill_10 : decode cX4_fill 10 = .ok (.aload_n 1, 1) := by decide +kernel
theorem dX4_fill_11 : decode cX4_fill 11 = .ok (.invokevirtual 25, 3) := by decide +kernel
theorem dX4_fill_14 : decode cX4_fill 14 = .ok (.istore 7, 2) := by decide +kernel
theorem dX4_fill_16 : decode cX4_fill 16 = .ok (.iconst 1, 1) := by decide +kernel
theorem dX4_fill_17 : decode cX4_fill 17 = .ok (.iconst 2, 1) := by decide +kernel
theorem dX4_fill_18 : decode cX4_fill 18 = .ok (.iload 5, 2) := by decide +kernel
theorem dX4_fill_20 : decode cX4_fill 20 = .ok (.imul, 1) := by decide +kernel
theorem dX4_fill_21 : decode cX4_fill 21 = .ok (.ishl, 1) := by decide +kernel
theorem dX4_fill_22 : decode cX4_fill 22 = .ok (.istore 8, 2) := by decide +kernel
theorem dX4_fill_24 : decode cX4_fill 24 = .ok (.iconst 0, 1) := by decide +kernel
theorem dX4_fill_25 : decode cX4_fill 25 = .ok (.istore 9, 2) := by decide +kernel
theorem dX4_fill_27 : decode cX4_fill 27 = .ok (.iload 9, 2) := by decide +kernel
theorem dX4_fill_29 : decode cX4_fill 29 = .ok (.iload 6, 2) := by decide +kernel
theorem dX4_fill_31 : decode cX4_fill 31 = .ok (.if_icmp .ge 73, 3) := by decide +kernel
theorem dX4_fill_34 : decode cX4_fill 34 = .ok (.aload_n 0, 1) := by decide +kernel
theorem dX4_fill_35 : decode cX4_fill 35 = .ok (.getfield 9, 3) := by decide +kernel
theorem dX4_fill_38 : decode cX4_fill 38 = .ok (.iload 4, 2) := by decide +kernel
theorem dX4_fill_40 : decode cX4_fill 40 = .ok (.iload 5, 2) := by decide +kernel
theorem dX4_fill_42 : decode cX4_fill 42 = .ok (.aload_n 0, 1) := by decide +kernel
theorem dX4_fill_43 : decode cX4_fill 43 = .ok (.iload 8, 2) := by decide +kernel
theorem dX4_fill_45 : decode cX4_fill 45 = .ok (.invokevirtual 31, 3) := by decide +kernel
theorem dX4_fill_48 : decode cX4_fill 48 = .ok (.invokevirtual 35, 3) := by decide +kernel
theorem dX4_fill_51 : decode cX4_fill 51 = .ok (.istore 10, 2) := by decide +kernel
theorem dX4_fill_53 : decode cX4_fill 53 = .ok (.iload 10, 2) := by decide +kernel
theorem dX4_fill_55 : decode cX4_fill 55 = .ok (.invokestatic 41, 3) := by decide +kernel
theorem dX4_fill_58 : decode cX4_fill 58 = .ok (.ifCond .eq 15, 3) := by decide +kernel
theorem dX4_fill_61 : decode cX4_fill 61 = .ok (.aload_n 0, 1) := by decide +kernel
theorem dX4_fill_62 : decode cX4_fill 62 = .ok (.iload 10, 2) := by decide +kernel
theorem dX4_fill_64 : decode cX4_fill 64 = .ok (.iload 7, 2) := by decide +kernel
theorem dX4_fill_66 : decode cX4_fill 66 = .ok (.aload_n 2, 1) := by decide +kernel
theorem dX4_fill_67 : decode cX4_fill 67 = .ok (.invokevirtual 45, 3) := by decide +kernel
theorem dX4_fill_70 : decode cX4_fill 70 = .ok (.goto 5, 3) := by decide +kernel
theorem dX4_fill_73 : decode cX4_fill 73 = .ok (.bipush (-6), 2) := by decide +kernel
theorem dX4_fill_75 : decode cX4_fill 75 = .ok (.istore 11, 2) := by decide +kernel
theorem dX4_fill_77 : decode cX4_fill 77 = .ok (.iload 11, 2) := by decide +kernel
theorem dX4_fill_79 : decode cX4_fill 79 = .ok (.bipush (-6), 2) := by decide +kernel
theorem dX4_fill_81 : decode cX4_fill 81 = .ok (.if_icmp .eq 17, 3) := by decide +kernel
theorem dX4_fill_84 : decode cX4_fill 84 = .ok (.aload_n 1, 1) := by decide +kernel
theorem dX4_fill_85 : decode cX4_fill 85 = .ok (.iload 11, 2) := by decide +kernel
theorem dX4_fill_87 : decode cX4_fill 87 = .ok (.aload_n 1, 1) := by decide +kernel
theorem dX4_fill_88 : decode cX4_fill 88 = .ok (.iload 11, 2) := by decide +kernel
theorem dX4_fill_90 : decode cX4_fill 90 = .ok (.invokevirtual 49, 3) := by decide +kernel
theorem dX4_fill_93 : decode cX4_fill 93 = .ok (.iconst 1, 1) := by decide +kernel
theorem dX4_fill_94 : decode cX4_fill 94 = .ok (.iadd, 1) := by decide +kernel
theorem dX4_fill_95 : decode cX4_fill 95 = .ok (.invokevirtual 52, 3) := by decide +kernel
theorem dX4_fill_98 : decode cX4_fill 98 = .ok (.iinc 9 1, 3) := by decide +kernel
theorem dX4_fill_101 : decode cX4_fill 101 = .ok (.goto (-74), 3) := by decide +kernel
theorem dX4_fill_104 : decode cX4_fill 104 = .ok (.aload_n 1, 1) := by decide +kernel
theorem dX4_fill_105 : decode cX4_fill 105 = .ok (.getfield 56, 3) := by decide +kernel
theorem dX4_fill_108 : decode cX4_fill 108 = .ok (.ireturn, 1) := by decide +kernel
theorem dX4_placeOf_0 : decode cX4_placeOf 0 = .ok (.iload_n 1, 1) := by decide +kernel
theorem dX4_placeOf_1 : decode cX4_placeOf 1 = .ok (.iload_n 2, 1) := by decide +kernel
theorem dX4_placeOf_2 : decode cX4_placeOf 2 = .ok (.if_icmp .ge 59, 3) := by decide +kernel
theorem dX4_placeOf_5 : decode cX4_placeOf 5 = .ok (.iload_n 2, 1) := by decide +kernel
theorem dX4_placeOf_6 : decode cX4_placeOf 6 = .ok (.iload_n 1, 1) := by decide +kernel
theorem dX4_placeOf_7 : decode cX4_placeOf 7 = .ok (.isub, 1) := by decide +kernel
theorem dX4_placeOf_8 : decode cX4_placeOf 8 = .ok (.aload_n 3, 1) := by decide +kernel
theorem dX4_placeOf_9 : decode cX4_placeOf 9 = .ok (.iconst 2, 1) := by decide +kernel
theorem dX4_placeOf_10 : decode cX4_placeOf 10 = .ok (.invokevirtual 59, 3) := by decide +kernel
theorem dX4_placeOf_13 : decode cX4_placeOf 13 = .ok (.if_icmp .gt 7, 3) := by decide +kernel
theorem dX4_placeOf_16 : decode cX4_placeOf 16 = .ok (.iconst 1, 1) := by decide +kernel
theorem dX4_placeOf_17 : decode cX4_placeOf 17 = .ok (.goto 4, 3) := by decide +kernel
theorem dX4_placeOf_20 : decode cX4_placeOf 20 = .ok (.iconst 0, 1) := by decide +kernel
theorem dX4_placeOf_21 : decode cX4_placeOf 21 = .ok (.istore 4, 2) := by decide +kernel
theorem dX4_placeOf_23 : decode cX4_placeOf 23 = .ok (.iload 4, 2) := by decide +kernel
theorem dX4_placeOf_25 : decode cX4_placeOf 25 = .ok (.ifCond .eq 19, 3) := by decide +kernel
theorem dX4_placeOf_28 : decode cX4_placeOf 28 = .ok (.aload_n 0, 1) := by decide +kernel
theorem dX4_placeOf_29 : decode cX4_placeOf 29 = .ok (.bipush 10, 2) := by decide +kernel
theorem dX4_placeOf_31 : decode cX4_placeOf 31 = .ok (.invokevirtual 31, 3) := by decide +kernel
theorem dX4_placeOf_34 : decode cX4_placeOf 34 = .ok (.aload_n 3, 1) := by decide +kernel
theorem dX4_placeOf_35 : decode cX4_placeOf 35 = .ok (.iconst 3, 1) := by decide +kernel
theorem dX4_placeOf_36 : decode cX4_placeOf 36 = .ok (.invokevirtual 59, 3) := by decide +kernel
theorem dX4_placeOf_39 : decode cX4_placeOf 39 = .ok (.if_icmp .ge 5, 3) := by decide +kernel
theorem dX4_placeOf_42 : decode cX4_placeOf 42 = .ok (.iload_n 2, 1) := by decide +kernel
theorem dX4_placeOf_43 : decode cX4_placeOf 43 = .ok (.ireturn, 1) := by decide +kernel
theorem dX4_placeOf_44 : decode cX4_placeOf 44 = .ok (.aload_n 0, 1) := by decide +kernel
theorem dX4_placeOf_45 : decode cX4_placeOf 45 = .ok (.bipush 10, 2) := by decide +kernel
theorem dX4_placeOf_47 : decode cX4_placeOf 47 = .ok (.invokevirtual 31, 3) := by decide +kernel
theorem dX4_placeOf_50 : decode cX4_placeOf 50 = .ok (.aload_n 3, 1) := by decide +kernel
theorem dX4_placeOf_51 : decode cX4_placeOf 51 = .ok (.iconst 0, 1) := by decide +kernel
theorem dX4_placeOf_52 : decode cX4_placeOf 52 = .ok (.invokevirtual 59, 3) := by decide +kernel
theorem dX4_placeOf_55 : decode cX4_placeOf 55 = .ok (.if_icmp .lt 6, 3) := by decide +kernel
theorem dX4_placeOf_58 : decode cX4_placeOf 58 = .ok (.bipush (-6), 2) := by decide +kernel
theorem dX4_placeOf_60 : decode cX4_placeOf 60 = .ok (.ireturn, 1) := by decide +kernel
theorem dX4_placeOf_61 : decode cX4_placeOf 61 = .ok (.iload_n 1, 1) := by decide +kernel
theorem dX4_placeOf_62 : decode cX4_placeOf 62 = .ok (.iconst 4, 1) := by decide +kernel
theorem dX4_placeOf_63 : decode cX4_placeOf 63 = .ok (.irem, 1) := by decide +kernel
theorem dX4_placeOf_64 : decode cX4_placeOf 64 = .ok (.ifCond .eq 22, 3) := by decide +kernel
theorem dX4_placeOf_67 : decode cX4_placeOf 67 = .ok (.aload_n 0, 1) := by decide +kernel
theorem dX4_placeOf_68 : decode cX4_placeOf 68 = .ok (.bipush 10, 2) := by decide +kernel
theorem dX4_placeOf_70 : decode cX4_placeOf 70 = .ok (.invokevirtual 31, 3) := by decide +kernel
theorem dX4_placeOf_73 : decode cX4_placeOf 73 = .ok (.aload_n 3, 1) := by decide +kernel
theorem dX4_placeOf_74 : decode cX4_placeOf 74 = .ok (.iconst 1, 1) := by decide +kernel
theorem dX4_placeOf_75 : decode cX4_placeOf 75 = .ok (.invokevirtual 59, 3) := by decide +kernel
theorem dX4_placeOf_78 : decode cX4_placeOf 78 = .ok (.if_icmp .ge 8, 3) := by decide +kernel
theorem dX4_placeOf_81 : decode cX4_placeOf 81 = .ok (.iload_n 1, 1) := by decide +kernel
theorem dX4_placeOf_82 : decode cX4_placeOf 82 = .ok (.invokestatic 62, 3) := by decide +kernel
theorem dX4_placeOf_85 : decode cX4_placeOf 85 = .ok (.ireturn, 1) := by decide +kernel
theorem dX4_placeOf_86 : decode cX4_placeOf 86 = .ok (.iload_n 1, 1) := by decide +kernel
theorem dX4_placeOf_87 : decode cX4_placeOf 87 = .ok (.ireturn, 1) := by decide +kernel
theorem dX5_lineBy_0 : decode cX5_lineBy 0 = .ok (.iconst 1, 1) := by decide +kernel
theorem dX5_lineBy_1 : decode cX5_lineBy 1 = .ok (.istore_n 3, 1) := by decide +kernel
theorem dX5_lineBy_2 : decode cX5_lineBy 2 = .ok (.iconst 0, 1) := by decide +kernel
theorem dX5_lineBy_3 : decode cX5_lineBy 3 = .ok (.istore 4, 2) := by decide +kernel
theorem dX5_lineBy_5 : decode cX5_lineBy 5 = .ok (.bipush 42, 2) := by decide +kernel
theorem dX5_lineBy_7 : decode cX5_lineBy 7 = .ok (.istore 5, 2) := by decide +kernel
theorem dX5_lineBy_9 : decode cX5_lineBy 9 = .ok (.iconst 0, 1) := by decide +kernel
theorem dX5_lineBy_10 : decode cX5_lineBy 10 = .ok (.istore 6, 2) := by decide +kernel
theorem dX5_lineBy_12 : decode cX5_lineBy 12 = .ok (.iconst 0, 1) := by decide +kernel
theorem dX5_lineBy_13 : decode cX5_lineBy 13 = .ok (.istore 7, 2) := by decide +kernel
theorem dX5_lineBy_15 : decode cX5_lineBy 15 = .ok (.iload 7, 2) := by decide +kernel
theorem dX5_lineBy_17 : decode cX5_lineBy 17 = .ok (.aload_n 0, 1) := by decide +kernel
theorem dX5_lineBy_18 : decode cX5_lineBy 18 = .ok (.getfield 7, 3) := by decide +kernel
theorem dX5_lineBy_21 : decode cX5_lineBy 21 = .ok (.if_icmp .ge 140, 3) := by decide +kernel
theorem dX5_lineBy_24 : decode cX5_lineBy 24 = .ok (.aload_n 0, 1) := by decide +kernel
theorem dX5_lineBy_25 : decode cX5_lineBy 25 = .ok (.iload 7, 2) := by decide +kernel
theorem dX5_lineBy_27 : decode cX5_lineBy 27 = .ok (.invokevirtual 13, 3) := by decide +kernel
theorem dX5_lineBy_30 : decode cX5_lineBy 30 = .ok (.istore 8, 2) := by decide +kernel
theorem dX5_lineBy_32 : decode cX5_lineBy 32 = .ok (.iload 8, 2) := by decide +kernel
theorem dX5_lineBy_34 : decode cX5_lineBy 34 = .ok (.invokestatic 17, 3) := by decide +kernel
theorem dX5_lineBy_37 : decode cX5_lineBy 37 = .ok (.ifCond .eq 19, 3) := by decide +kernel
theorem dX5_lineBy_40 : decode cX5_lineBy 40 = .ok (.bipush 10, 2) := by decide +kernel
theorem dX5_lineBy_42 : decode cX5_lineBy 42 = .ok (.iload 6, 2) := by decide +kernel
theorem dX5_lineBy_44 : decode cX5_lineBy 44 = .ok (.imul, 1) := by decide +kernel
theorem dX5_lineBy_45 : decode cX5_lineBy 45 = .ok (.iload 8, 2) := by decide +kernel
theorem dX5_lineBy_47 : decode cX5_lineBy 47 = .ok (.iadd, 1) := by decide +kernel
theorem dX5_lineBy_48 : decode cX5_lineBy 48 = .ok (.bipush 48, 2) := by decide +kernel
theorem dX5_lineBy_50 : decode cX5_lineBy 50 = .ok (.isub, 1) := by decide +kernel
theorem dX5_lineBy_51 : decode cX5_lineBy 51 = .ok (.istore 6, 2) := by decide +kernel
theorem dX5_lineBy_53 : decode cX5_lineBy 53 = .ok (.goto 102, 3) := by decide +kernel
theorem dX5_lineBy_56 : decode cX5_lineBy 56 = .ok (.iload 8, 2) := by decide +kernel
theorem dX5_lineBy_58 : decode cX5_lineBy 58 = .ok (.bipush 121, 2) := by decide +kernel
theorem dX5_lineBy_60 : decode cX5_lineBy 60 = .ok (.if_icmp .eq 10, 3) := by decide +kernel
theorem dX5_lineBy_63 : decode cX5_lineBy 63 = .ok (.iload 8, 2) := by decide +kernel
theorem dX5_lineBy_65 : decode cX5_lineBy 65 = .ok (.bipush 97, 2) := by decide +kernel
theorem dX5_lineBy_67 : decode cX5_lineBy 67 = .ok (.if_icmp .ne 20, 3) := by decide +kernel
theorem dX5_lineBy_70 : decode cX5_lineBy 70 = .ok (.iload 8, 2) := by decide +kernel
theorem dX5_lineBy_72 : decode cX5_lineBy 72 = .ok (.bipush 121, 2) := by decide +kernel
theorem dX5_lineBy_74 : decode cX5_lineBy 74 = .ok (.if_icmp .ne 7, 3) := by decide +kernel
theorem dX5_lineBy_77 : decode cX5_lineBy 77 = .ok (.iload_n 1, 1) := by decide +kernel
theorem dX5_lineBy_78 : decode cX5_lineBy 78 = .ok (.goto 4, 3) := by decide +kernel
theorem dX5_lineBy_81 : decode cX5_lineBy 81 = .ok (.iload_n 2, 1) := by decide +kernel
theorem dX5_lineBy_82 : decode cX5_lineBy 82 = .ok (.istore 4, 2) := by decide +kernel
theorem dX5_lineBy_84 : decode cX5_lineBy 84 = .ok (.goto 71, 3) := by decide +kernel
theorem dX5_lineBy_87 : decode cX5_lineBy 87 = .ok (.iload 8, 2) := by decide +kernel
theorem dX5_lineBy_89 : decode cX5_lineBy 89 = .ok (.bipush 38, 2) := by decide +kernel
theorem dX5_lineBy_91 : decode cX5_lineBy 91 = .ok (.if_icmp .eq 10, 3) := by decide +kernel
theorem dX5_lineBy_94 : decode cX5_lineBy 94 = .ok (.iload 8, 2) := by decide +kernel
theorem dX5_lineBy_96 : decode cX5_lineBy 96 = .ok (.bipush 58, 2) := by decide +kernel
theorem dX5_lineBy_98 : decode cX5_lineBy 98 = .ok (.if_icmp .ne 31, 3) := by decide +kernel
theorem dX5_lineBy_101 : decode cX5_lineBy 101 = .ok (.iload_n 3, 1) := by decide +kernel
theorem dX5_lineBy_102 : decode cX5_lineBy 102 = .ok (.ifCond .eq 19, 3) := by decide +kernel
theorem dX5_lineBy_105 : decode cX5_lineBy 105 = .ok (.iload 4, 2) := by decide +kernel
theorem dX5_lineBy_107 : decode cX5_lineBy 107 = .ok (.iload 5, 2) := by decide +kernel
theorem dX5_lineBy_109 : decode cX5_lineBy 109 = .ok (.iload 6, 2) := by decide +kernel
theorem dX5_lineBy_111 : decode cX5_lineBy 111 = .ok (.invokestatic 23, 3) := by decide +kernel
theorem dX5_lineBy_114 : decode cX5_lineBy 114 = .ok (.ifCond .eq 7, 3) := by decide +kernel
theorem dX5_lineBy_117 : decode cX5_lineBy 117 = .ok (.iconst 1, 1) := by decide +kernel
theorem dX5_lineBy_118 : decode cX5_lineBy 118 = .ok (.goto 4, 3) := by decide +kernel
theorem dX5_lineBy_121 : decode cX5_lineBy 121 = .ok (.iconst 0, 1) := by decide +kernel
theorem dX5_lineBy_122 : decode cX5_lineBy 122 = .ok (.istore_n 3, 1) := by decide +kernel
theorem dX5_lineBy_123 : decode cX5_lineBy 123 = .ok (.iconst 0, 1) := by decide +kernel
theorem dX5_lineBy_124 : decode cX5_lineBy 124 = .ok (.istore 6, 2) := by decide +kernel
theorem dX5_lineBy_126 : decode cX5_lineBy 126 = .ok (.goto 29, 3) := by decide +kernel
theorem dX5_lineBy_129 : decode cX5_lineBy 129 = .ok (.iload 8, 2) := by decide +kernel
theorem dX5_lineBy_131 : decode cX5_lineBy 131 = .ok (.bipush 59, 2) := by decide +kernel
theorem dX5_lineBy_133 : decode cX5_lineBy 133 = .ok (.if_icmp .eq 10, 3) := by decide +kernel
theorem dX5_lineBy_136 : decode cX5_lineBy 136 = .ok (.iload 8, 2) := by decide +kernel
theorem dX5_lineBy_138 : decode cX5_lineBy 138 = .ok (.istore 5, 2) := by decide +kernel
theorem dX5_lineBy_140 : decode cX5_lineBy 140 = .ok (.goto 15, 3) := by decide +kernel
theorem dX5_lineBy_143 : decode cX5_lineBy 143 = .ok (.iload_n 3, 1) := by decide +kernel
theorem dX5_lineBy_144 : decode cX5_lineBy 144 = .ok (.ifCond .eq 6, 3) := by decide +kernel
theorem dX5_lineBy_147 : decode cX5_lineBy 147 = .ok (.iload 6, 2) := by decide +kernel
theorem dX5_lineBy_149 : decode cX5_lineBy 149 = .ok (.ireturn, 1) := by decide +kernel
theorem dX5_lineBy_150 : decode cX5_lineBy 150 = .ok (.iconst 1, 1) := by decide +kernel
theorem dX5_lineBy_151 : decode cX5_lineBy 151 = .ok (.istore_n 3, 1) := by decide +kernel
theorem dX5_lineBy_152 : decode cX5_lineBy 152 = .ok (.iconst 0, 1) := by decide +kernel
theorem dX5_lineBy_153 : decode cX5_lineBy 153 = .ok (.istore 6, 2) := by decide +kernel
theorem dX5_lineBy_155 : decode cX5_lineBy 155 = .ok (.iinc 7 1, 3) := by decide +kernel
theorem dX5_lineBy_158 : decode cX5_lineBy 158 = .ok (.goto (-143), 3) := by decide +kernel
theorem dX5_lineBy_161 : decode cX5_lineBy 161 = .ok (.iload_n 3, 1) := by decide +kernel
theorem dX5_lineBy_162 : decode cX5_lineBy 162 = .ok (.ifCond .eq 8, 3) := by decide +kernel
theorem dX5_lineBy_165 : decode cX5_lineBy 165 = .ok (.iload 6, 2) := by decide +kernel
theorem dX5_lineBy_167 : decode cX5_lineBy 167 = .ok (.goto 4, 3) := by decide +kernel
theorem dX5_lineBy_170 : decode cX5_lineBy 170 = .ok (.iconst 0, 1) := by decide +kernel
theorem dX5_lineBy_171 : decode cX5_lineBy 171 = .ok (.ireturn, 1) := by decide +kernel
theorem dX5_holds_0 : decode cX5_holds 0 = .ok (.iload_n 1, 1) := by decide +kernel
theorem dX5_holds_1 : decode cX5_holds 1 = .ok (.tableswitch 60 60 62 #[27, 49, 38], 27) := by decide +kernel
theorem dX5_holds_28 : decode cX5_holds 28 = .ok (.iload_n 0, 1) := by decide +kernel
theorem dX5_holds_29 : decode cX5_holds 29 = .ok (.iload_n 2, 1) := by decide +kernel
theorem dX5_holds_30 : decode cX5_holds 30 = .ok (.if_icmp .ge 7, 3) := by decide +kernel
theorem dX5_holds_33 : decode cX5_holds 33 = .ok (.iconst 1, 1) := by decide +kernel
theorem dX5_holds_34 : decode cX5_holds 34 = .ok (.goto 4, 3) := by decide +kernel
theorem dX5_holds_37 : decode cX5_holds 37 = .ok (.iconst 0, 1) := by decide +kernel
theorem dX5_holds_38 : decode cX5_holds 38 = .ok (.ireturn, 1) := by decide +kernel
theorem dX5_holds_39 : decode cX5_holds 39 = .ok (.iload_n 0, 1) := by decide +kernel
theorem dX5_holds_40 : decode cX5_holds 40 = .ok (.iload_n 2, 1) := by decide +kernel
theorem dX5_holds_41 : decode cX5_holds 41 = .ok (.if_icmp .le 7, 3) := by decide +kernel
theorem dX5_holds_44 : decode cX5_holds 44 = .ok (.iconst 1, 1) := by decide +kernel
theorem dX5_holds_45 : decode cX5_holds 45 = .ok (.goto 4, 3) := by decide +kernel
theorem dX5_holds_48 : decode cX5_holds 48 = .ok (.iconst 0, 1) := by decide +kernel
theorem dX5_holds_49 : decode cX5_holds 49 = .ok (.ireturn, 1) := by decide +kernel
theorem dX5_holds_50 : decode cX5_holds 50 = .ok (.iload_n 0, 1) := by decide +kernel
theorem dX5_holds_51 : decode cX5_holds 51 = .ok (.iload_n 2, 1) := by decide +kernel
theorem dX5_holds_52 : decode cX5_holds 52 = .ok (.if_icmp .ne 7, 3) := by decide +kernel
theorem dX5_holds_55 : decode cX5_holds 55 = .ok (.iconst 1, 1) := by decide +kernel
theorem dX5_holds_56 : decode cX5_holds 56 = .ok (.goto 4, 3) := by decide +kernel
theorem dX5_holds_59 : decode cX5_holds 59 = .ok (.iconst 0, 1) := by decide +kernel
theorem dX5_holds_60 : decode cX5_holds 60 = .ok (.ireturn, 1) := by decide +kernel
theorem dX5_holds_61 : decode cX5_holds 61 = .ok (.iconst 1, 1) := by decide +kernel
theorem dX5_holds_62 : decode cX5_holds 62 = .ok (.ireturn, 1) := by decide +kernel
theorem dX5_growthAt_0 : decode cX5_growthAt 0 = .ok (.iconst 0, 1) := by decide +kernel
theorem dX5_growthAt_1 : decode cX5_growthAt 1 = .ok (.istore_n 2, 1) := by decide +kernel
theorem dX5_growthAt_2 : decode cX5_growthAt 2 = .ok (.iconst 0, 1) := by decide +kernel
theorem dX5_growthAt_3 : decode cX5_growthAt 3 = .ok (.istore_n 3, 1) := by decide +kernel
theorem dX5_growthAt_4 : decode cX5_growthAt 4 = .ok (.iconst 0, 1) := by decide +kernel
theorem dX5_growthAt_5 : decode cX5_growthAt 5 = .ok (.istore 4, 2) := by decide +kernel
theorem dX5_growthAt_7 : decode cX5_growthAt 7 = .ok (.iload 4, 2) := by decide +kernel
theorem dX5_growthAt_9 : decode cX5_growthAt 9 = .ok (.aload_n 0, 1) := by decide +kernel
theorem dX5_growthAt_10 : decode cX5_growthAt 10 = .ok (.getfield 7, 3) := by decide +kernel
theorem dX5_growthAt_13 : decode cX5_growthAt 13 = .ok (.if_icmp .ge 62, 3) := by decide +kernel
theorem dX5_growthAt_16 : decode cX5_growthAt 16 = .ok (.aload_n 0, 1) := by decide +kernel
theorem dX5_growthAt_17 : decode cX5_growthAt 17 = .ok (.iload 4, 2) := by decide +kernel
theorem dX5_growthAt_19 : decode cX5_growthAt 19 = .ok (.invokevirtual 13, 3) := by decide +kernel
theorem dX5_growthAt_22 : decode cX5_growthAt 22 = .ok (.istore 5, 2) := by decide +kernel
theorem dX5_growthAt_24 : decode cX5_growthAt 24 = .ok (.iload 5, 2) := by decide +kernel
theorem dX5_growthAt_26 : decode cX5_growthAt 26 = .ok (.invokestatic 17, 3) := by decide +kernel
theorem dX5_growthAt_29 : decode cX5_growthAt 29 = .ok (.ifCond .eq 17, 3) := by decide +kernel
theorem dX5_growthAt_32 : decode cX5_growthAt 32 = .ok (.bipush 10, 2) := by decide +kernel
theorem dX5_growthAt_34 : decode cX5_growthAt 34 = .ok (.iload_n 3, 1) := by decide +kernel
theorem dX5_growthAt_35 : decode cX5_growthAt 35 = .ok (.imul, 1) := by decide +kernel
theorem dX5_growthAt_36 : decode cX5_growthAt 36 = .ok (.iload 5, 2) := by decide +kernel
theorem dX5_growthAt_38 : decode cX5_growthAt 38 = .ok (.iadd, 1) := by decide +kernel
theorem dX5_growthAt_39 : decode cX5_growthAt 39 = .ok (.bipush 48, 2) := by decide +kernel
theorem dX5_growthAt_41 : decode cX5_growthAt 41 = .ok (.isub, 1) := by decide +kernel
theorem dX5_growthAt_42 : decode cX5_growthAt 42 = .ok (.istore_n 3, 1) := by decide +kernel
theorem dX5_growthAt_43 : decode cX5_growthAt 43 = .ok (.goto 26, 3) := by decide +kernel
theorem dX5_growthAt_46 : decode cX5_growthAt 46 = .ok (.iload 5, 2) := by decide +kernel
theorem dX5_growthAt_48 : decode cX5_growthAt 48 = .ok (.bipush 58, 2) := by decide +kernel
theorem dX5_growthAt_50 : decode cX5_growthAt 50 = .ok (.if_icmp .ne 10, 3) := by decide +kernel
theorem dX5_growthAt_53 : decode cX5_growthAt 53 = .ok (.iload_n 3, 1) := by decide +kernel
theorem dX5_growthAt_54 : decode cX5_growthAt 54 = .ok (.istore_n 2, 1) := by decide +kernel
theorem dX5_growthAt_55 : decode cX5_growthAt 55 = .ok (.iconst 0, 1) := by decide +kernel
theorem dX5_growthAt_56 : decode cX5_growthAt 56 = .ok (.istore_n 3, 1) := by decide +kernel
theorem dX5_growthAt_57 : decode cX5_growthAt 57 = .ok (.goto 12, 3) := by decide +kernel
theorem dX5_growthAt_60 : decode cX5_growthAt 60 = .ok (.iload_n 2, 1) := by decide +kernel
theorem dX5_growthAt_61 : decode cX5_growthAt 61 = .ok (.iload_n 1, 1) := by decide +kernel
theorem dX5_growthAt_62 : decode cX5_growthAt 62 = .ok (.if_icmp .ne 5, 3) := by decide +kernel
theorem dX5_growthAt_65 : decode cX5_growthAt 65 = .ok (.iload_n 3, 1) := by decide +kernel
theorem dX5_growthAt_66 : decode cX5_growthAt 66 = .ok (.ireturn, 1) := by decide +kernel
theorem dX5_growthAt_67 : decode cX5_growthAt 67 = .ok (.iconst 0, 1) := by decide +kernel
theorem dX5_growthAt_68 : decode cX5_growthAt 68 = .ok (.istore_n 3, 1) := by decide +kernel
theorem dX5_growthAt_69 : decode cX5_growthAt 69 = .ok (.iinc 4 1, 3) := by decide +kernel
theorem dX5_growthAt_72 : decode cX5_growthAt 72 = .ok (.goto (-65), 3) := by decide +kernel
theorem dX5_growthAt_75 : decode cX5_growthAt 75 = .ok (.iload_n 2, 1) := by decide +kernel
theorem dX5_growthAt_76 : decode cX5_growthAt 76 = .ok (.iload_n 1, 1) := by decide +kernel
theorem dX5_growthAt_77 : decode cX5_growthAt 77 = .ok (.if_icmp .ne 7, 3) := by decide +kernel
theorem dX5_growthAt_80 : decode cX5_growthAt 80 = .ok (.iload_n 3, 1) := by decide +kernel
theorem dX5_growthAt_81 : decode cX5_growthAt 81 = .ok (.goto 4, 3) := by decide +kernel
theorem dX5_growthAt_84 : decode cX5_growthAt 84 = .ok (.iconst 0, 1) := by decide +kernel
theorem dX5_growthAt_85 : decode cX5_growthAt 85 = .ok (.ireturn, 1) := by decide +kernel
theorem dX6_init_0 : decode cX6_init 0 = .ok (.aload_n 0, 1) := by decide +kernel
theorem dX6_init_1 : decode cX6_init 1 = .ok (.invokespecial 3, 3) := by decide +kernel
theorem dX6_init_4 : decode cX6_init 4 = .ok (.aload_n 0, 1) := by decide +kernel
theorem dX6_init_5 : decode cX6_init 5 = .ok (.aload_n 1, 1) := by decide +kernel
theorem dX6_init_6 : decode cX6_init 6 = .ok (.iload_n 2, 1) := by decide +kernel
theorem dX6_init_7 : decode cX6_init 7 = .ok (.iload 4, 2) := by decide +kernel
theorem dX6_init_9 : decode cX6_init 9 = .ok (.iload 5, 2) := by decide +kernel
theorem dX6_init_11 : decode cX6_init 11 = .ok (.invokevirtual 9, 3) := by decide +kernel
theorem dX6_init_14 : decode cX6_init 14 = .ok (.putfield 15, 3) := by decide +kernel
theorem dX6_init_17 : decode cX6_init 17 = .ok (.aload_n 0, 1) := by decide +kernel
theorem dX6_init_18 : decode cX6_init 18 = .ok (.aload_n 1, 1) := by decide +kernel
theorem dX6_init_19 : decode cX6_init 19 = .ok (.iload_n 2, 1) := by decide +kernel
theorem dX6_init_20 : decode cX6_init 20 = .ok (.iload 4, 2) := by decide +kernel
theorem dX6_init_22 : decode cX6_init 22 = .ok (.iload 5, 2) := by decide +kernel
theorem dX6_init_24 : decode cX6_init 24 = .ok (.invokevirtual 21, 3) := by decide +kernel
theorem dX6_init_27 : decode cX6_init 27 = .ok (.putfield 24, 3) := by decide +kernel
theorem dX6_init_30 : decode cX6_init 30 = .ok (.aload_n 0, 1) := by decide +kernel
theorem dX6_init_31 : decode cX6_init 31 = .ok (.aload_n 1, 1) := by decide +kernel
theorem dX6_init_32 : decode cX6_init 32 = .ok (.iload_n 3, 1) := by decide +kernel
theorem dX6_init_33 : decode cX6_init 33 = .ok (.iload 4, 2) := by decide +kernel
theorem dX6_init_35 : decode cX6_init 35 = .ok (.iload 5, 2) := by decide +kernel
theorem dX6_init_37 : decode cX6_init 37 = .ok (.invokevirtual 9, 3) := by decide +kernel
theorem dX6_init_40 : decode cX6_init 40 = .ok (.putfield 27, 3) := by decide +kernel
theorem dX6_init_43 : decode cX6_init 43 = .ok (.aload_n 0, 1) := by decide +kernel
theorem dX6_init_44 : decode cX6_init 44 = .ok (.aload_n 1, 1) := by decide +kernel
theorem dX6_init_45 : decode cX6_init 45 = .ok (.iload_n 3, 1) := by decide +kernel
theorem dX6_init_46 : decode cX6_init 46 = .ok (.iload 4, 2) := by decide +kernel
theorem dX6_init_48 : decode cX6_init 48 = .ok (.iload 5, 2) := by decide +kernel
theorem dX6_init_50 : decode cX6_init 50 = .ok (.invokevirtual 21, 3) := by decide +kernel
theorem dX6_init_53 : decode cX6_init 53 = .ok (.putfield 30, 3) := by decide +kernel
theorem dX6_init_56 : decode cX6_init 56 = .ok (.return_, 1) := by decide +kernel
theorem dX6_sum_0 : decode cX6_sum 0 = .ok (.iload_n 1, 1) := by decide +kernel
theorem dX6_sum_1 : decode cX6_sum 1 = .ok (.i2l, 1) := by decide +kernel
theorem dX6_sum_2 : decode cX6_sum 2 = .ok (.aload_n 0, 1) := by decide +kernel
theorem dX6_sum_3 : decode cX6_sum 3 = .ok (.getfield 15, 3) := by decide +kernel
theorem dX6_sum_6 : decode cX6_sum 6 = .ok (.lmul, 1) := by decide +kernel
theorem dX6_sum_7 : decode cX6_sum 7 = .ok (.bipush 100, 2) := by decide +kernel
theorem dX6_sum_9 : decode cX6_sum 9 = .ok (.iload_n 1, 1) := by decide +kernel
theorem dX6_sum_10 : decode cX6_sum 10 = .ok (.isub, 1) := by decide +kernel
theorem dX6_sum_11 : decode cX6_sum 11 = .ok (.i2l, 1) := by decide +kernel
theorem dX6_sum_12 : decode cX6_sum 12 = .ok (.aload_n 0, 1) := by decide +kernel
theorem dX6_sum_13 : decode cX6_sum 13 = .ok (.getfield 27, 3) := by decide +kernel
theorem dX6_sum_16 : decode cX6_sum 16 = .ok (.lmul, 1) := by decide +kernel
theorem dX6_sum_17 : decode cX6_sum 17 = .ok (.ladd, 1) := by decide +kernel
theorem dX6_sum_18 : decode cX6_sum 18 = .ok (.lreturn, 1) := by decide +kernel
theorem dX6_count_0 : decode cX6_count 0 = .ok (.iload_n 1, 1) := by decide +kernel
theorem dX6_count_1 : decode cX6_count 1 = .ok (.i2l, 1) := by decide +kernel
theorem dX6_count_2 : decode cX6_count 2 = .ok (.aload_n 0, 1) := by decide +kernel
theorem dX6_count_3 : decode cX6_count 3 = .ok (.getfield 24, 3) := by decide +kernel
theorem dX6_count_6 : decode cX6_count 6 = .ok (.lmul, 1) := by decide +kernel
theorem dX6_count_7 : decode cX6_count 7 = .ok (.bipush 100, 2) := by decide +kernel
theorem dX6_count_9 : decode cX6_count 9 = .ok (.iload_n 1, 1) := by decide +kernel
theorem dX6_count_10 : decode cX6_count 10 = .ok (.isub, 1) := by decide +kernel
theorem dX6_count_11 : decode cX6_count 11 = .ok (.i2l, 1) := by decide +kernel
theorem dX6_count_12 : decode cX6_count 12 = .ok (.aload_n 0, 1) := by decide +kernel
theorem dX6_count_13 : decode cX6_count 13 = .ok (.getfield 30, 3) := by decide +kernel
theorem dX6_count_16 : decode cX6_count 16 = .ok (.lmul, 1) := by decide +kernel
theorem dX6_count_17 : decode cX6_count 17 = .ok (.ladd, 1) := by decide +kernel
theorem dX6_count_18 : decode cX6_count 18 = .ok (.lreturn, 1) := by decide +kernel
theorem dX6_lack_0 : decode cX6_lack 0 = .ok (.aload_n 0, 1) := by decide +kernel
theorem dX6_lack_1 : decode cX6_lack 1 = .ok (.iload_n 1, 1) := by decide +kernel
theorem dX6_lack_2 : decode cX6_lack 2 = .ok (.invokevirtual 33, 3) := by decide +kernel
theorem dX6_lack_5 : decode cX6_lack 5 = .ok (.lconst 0, 1) := by decide +kernel
theorem dX6_lack_6 : decode cX6_lack 6 = .ok (.lcmp, 1) := by decide +kernel
theorem dX6_lack_7 : decode cX6_lack 7 = .ok (.ifCond .ne 7, 3) := by decide +kernel
theorem dX6_lack_10 : decode cX6_lack 10 = .ok (.iconst 1, 1) := by decide +kernel
theorem dX6_lack_11 : decode cX6_lack 11 = .ok (.goto 4, 3) := by decide +kernel
theorem dX6_lack_14 : decode cX6_lack 14 = .ok (.iconst 0, 1) := by decide +kernel
theorem dX6_lack_15 : decode cX6_lack 15 = .ok (.ireturn, 1) := by decide +kernel
theorem dX6_gap_0 : decode cX6_gap 0 = .ok (.aload_n 0, 1) := by decide +kernel
theorem dX6_gap_1 : decode cX6_gap 1 = .ok (.iload_n 1, 1) := by decide +kernel
theorem dX6_gap_2 : decode cX6_gap 2 = .ok (.invokevirtual 37, 3) := by decide +kernel
theorem dX6_gap_5 : decode cX6_gap 5 = .ok (.aload_n 0, 1) := by decide +kernel
theorem dX6_gap_6 : decode cX6_gap 6 = .ok (.iload_n 2, 1) := by decide +kernel
theorem dX6_gap_7 : decode cX6_gap 7 = .ok (.invokevirtual 33, 3) := by decide +kernel
theorem dX6_gap_10 : decode cX6_gap 10 = .ok (.lmul, 1) := by decide +kernel
theorem dX6_gap_11 : decode cX6_gap 11 = .ok (.aload_n 0, 1) := by decide +kernel
theorem dX6_gap_12 : decode cX6_gap 12 = .ok (.iload_n 2, 1) := by decide +kernel
theorem dX6_gap_13 : decode cX6_gap 13 = .ok (.invokevirtual 37, 3) := by decide +kernel
theorem dX6_gap_16 : decode cX6_gap 16 = .ok (.aload_n 0, 1) := by decide +kernel
theorem dX6_gap_17 : decode cX6_gap 17 = .ok (.iload_n 1, 1) := by decide +kernel
theorem dX6_gap_18 : decode cX6_gap 18 = .ok (.invokevirtual 33, 3) := by decide +kernel
theorem dX6_gap_21 : decode cX6_gap 21 = .ok (.lmul, 1) := by decide +kernel
theorem dX6_gap_22 : decode cX6_gap 22 = .ok (.lsub, 1) := by decide +kernel
theorem dX6_gap_23 : decode cX6_gap 23 = .ok (.lreturn, 1) := by decide +kernel
theorem dX6_lesser_0 : decode cX6_lesser 0 = .ok (.aload_n 0, 1) := by decide +kernel
theorem dX6_lesser_1 : decode cX6_lesser 1 = .ok (.iload_n 1, 1) := by decide +kernel
theorem dX6_lesser_2 : decode cX6_lesser 2 = .ok (.iload_n 2, 1) := by decide +kernel
theorem dX6_lesser_3 : decode cX6_lesser 3 = .ok (.invokevirtual 40, 3) := by decide +kernel
theorem dX6_lesser_6 : decode cX6_lesser 6 = .ok (.lconst 0, 1) := by decide +kernel
theorem dX6_lesser_7 : decode cX6_lesser 7 = .ok (.lcmp, 1) := by decide +kernel
theorem dX6_lesser_8 : decode cX6_lesser 8 = .ok (.ifCond .gt 7, 3) := by decide +kernel
theorem dX6_lesser_11 : decode cX6_lesser 11 = .ok (.iload_n 1, 1) := by decide +kernel
theorem dX6_lesser_12 : decode cX6_lesser 12 = .ok (.goto 4, 3) := by decide +kernel
theorem dX6_lesser_15 : decode cX6_lesser 15 = .ok (.iload_n 2, 1) := by decide +kernel
theorem dX6_lesser_16 : decode cX6_lesser 16 = .ok (.ireturn, 1) := by decide +kernel
theorem dX6_greater_0 : decode cX6_greater 0 = .ok (.aload_n 0, 1) := by decide +kernel
theorem dX6_greater_1 : decode cX6_greater 1 = .ok (.iload_n 1, 1) := by decide +kernel
theorem dX6_greater_2 : decode cX6_greater 2 = .ok (.iload_n 2, 1) := by decide +kernel
theorem dX6_greater_3 : decode cX6_greater 3 = .ok (.invokevirtual 40, 3) := by decide +kernel
theorem dX6_greater_6 : decode cX6_greater 6 = .ok (.lconst 0, 1) := by decide +kernel
theorem dX6_greater_7 : decode cX6_greater 7 = .ok (.lcmp, 1) := by decide +kernel
theorem dX6_greater_8 : decode cX6_greater 8 = .ok (.ifCond .lt 7, 3) := by decide +kernel
theorem dX6_greater_11 : decode cX6_greater 11 = .ok (.iload_n 1, 1) := by decide +kernel
theorem dX6_greater_12 : decode cX6_greater 12 = .ok (.goto 4, 3) := by decide +kernel
theorem dX6_greater_15 : decode cX6_greater 15 = .ok (.iload_n 2, 1) := by decide +kernel
theorem dX6_greater_16 : decode cX6_greater 16 = .ok (.ireturn, 1) := by decide +kernel
theorem dX7_init_0 : decode cX7_init 0 = .ok (.aload_n 0, 1) := by decide +kernel
theorem dX7_init_1 : decode cX7_init 1 = .ok (.invokespecial 3, 3) := by decide +kernel
theorem dX7_init_4 : decode cX7_init 4 = .ok (.aload_n 0, 1) := by decide +kernel
theorem dX7_init_5 : decode cX7_init 5 = .ok (.bipush 60, 2) := by decide +kernel
theorem dX7_init_7 : decode cX7_init 7 = .ok (.newarray .int, 2) := by decide +kernel
theorem dX7_init_9 : decode cX7_init 9 = .ok (.putfield 9, 3) := by decide +kernel
theorem dX7_init_12 : decode cX7_init 12 = .ok (.return_, 1) := by decide +kernel
theorem dX7_add_0 : decode cX7_add 0 = .ok (.aload_n 0, 1) := by decide +kernel
theorem dX7_add_1 : decode cX7_add 1 = .ok (.getfield 15, 3) := by decide +kernel
theorem dX7_add_4 : decode cX7_add 4 = .ok (.ifCond .lt 15, 3) := by decide +kernel
theorem dX7_add_7 : decode cX7_add 7 = .ok (.aload_n 0, 1) := by decide +kernel
theorem dX7_add_8 : decode cX7_add 8 = .ok (.getfield 15, 3) := by decide +kernel
theorem dX7_add_11 : decode cX7_add 11 = .ok (.aload_n 0, 1) := by decide +kernel
theorem dX7_add_12 : decode cX7_add 12 = .ok (.getfield 9, 3) := by decide +kernel
theorem dX7_add_15 : decode cX7_add 15 = .ok (.arraylength, 1) := by decide +kernel
theorem dX7_add_16 : decode cX7_add 16 = .ok (.if_icmp .lt 5, 3) := by decide +kernel
theorem dX7_add_19 : decode cX7_add 19 = .ok (.iconst 0, 1) := by decide +kernel
theorem dX7_add_20 : decode cX7_add 20 = .ok (.ireturn, 1) := by decide +kernel
theorem dX7_add_21 : decode cX7_add 21 = .ok (.aload_n 0, 1) := by decide +kernel
theorem dX7_add_22 : decode cX7_add 22 = .ok (.getfield 9, 3) := by decide +kernel
theorem dX7_add_25 : decode cX7_add 25 = .ok (.aload_n 0, 1) := by decide +kernel
theorem dX7_add_26 : decode cX7_add 26 = .ok (.getfield 15, 3) := by decide +kernel
theorem dX7_add_29 : decode cX7_add 29 = .ok (.iload_n 1, 1) := by decide +kernel
theorem dX7_add_30 : decode cX7_add 30 = .ok (.iastore, 1) := by decide +kernel
theorem dX7_add_31 : decode cX7_add 31 = .ok (.aload_n 0, 1) := by decide +kernel
theorem dX7_add_32 : decode cX7_add 32 = .ok (.dup, 1) := by decide +kernel
theorem dX7_add_33 : decode cX7_add 33 = .ok (.getfield 15, 3) := by decide +kernel
theorem dX7_add_36 : decode cX7_add 36 = .ok (.iconst 1, 1) := by decide +kernel
theorem dX7_add_37 : decode cX7_add 37 = .ok (.iadd, 1) := by decide +kernel
theorem dX7_add_38 : decode cX7_add 38 = .ok (.putfield 15, 3) := by decide +kernel
theorem dX7_add_41 : decode cX7_add 41 = .ok (.iconst 1, 1) := by decide +kernel
theorem dX7_add_42 : decode cX7_add 42 = .ok (.ireturn, 1) := by decide +kernel
theorem dX7_clear_0 : decode cX7_clear 0 = .ok (.aload_n 0, 1) := by decide +kernel
theorem dX7_clear_1 : decode cX7_clear 1 = .ok (.iconst 0, 1) := by decide +kernel
theorem dX7_clear_2 : decode cX7_clear 2 = .ok (.putfield 15, 3) := by decide +kernel
theorem dX7_clear_5 : decode cX7_clear 5 = .ok (.return_, 1) := by decide +kernel
theorem dX7_signAt_0 : decode cX7_signAt 0 = .ok (.iload_n 1, 1) := by decide +kernel
theorem dX7_signAt_1 : decode cX7_signAt 1 = .ok (.ifCond .lt 12, 3) := by decide +kernel
theorem dX7_signAt_4 : decode cX7_signAt 4 = .ok (.iload_n 1, 1) := by decide +kernel
theorem dX7_signAt_5 : decode cX7_signAt 5 = .ok (.aload_n 0, 1) := by decide +kernel
theorem dX7_signAt_6 : decode cX7_signAt 6 = .ok (.getfield 9, 3) := by decide +kernel
theorem dX7_signAt_9 : decode cX7_signAt 9 = .ok (.arraylength, 1) := by decide +kernel
theorem dX7_signAt_10 : decode cX7_signAt 10 = .ok (.if_icmp .lt 7, 3) := by decide +kernel
theorem dX7_signAt_13 : decode cX7_signAt 13 = .ok (.iconst 0, 1) := by decide +kernel
theorem dX7_signAt_14 : decode cX7_signAt 14 = .ok (.goto 9, 3) := by decide +kernel
theorem dX7_signAt_17 : decode cX7_signAt 17 = .ok (.aload_n 0, 1) := by decide +kernel
theorem dX7_signAt_18 : decode cX7_signAt 18 = .ok (.getfield 9, 3) := by decide +kernel
theorem dX7_signAt_21 : decode cX7_signAt 21 = .ok (.iload_n 1, 1) := by decide +kernel
theorem dX7_signAt_22 : decode cX7_signAt 22 = .ok (.iaload, 1) := by decide +kernel
theorem dX7_signAt_23 : decode cX7_signAt 23 = .ok (.ireturn, 1) := by decide +kernel
theorem dX7_copyFrom_0 : decode cX7_copyFrom 0 = .ok (.aload_n 1, 1) := by decide +kernel
theorem dX7_copyFrom_1 : decode cX7_copyFrom 1 = .ok (.getfield 9, 3) := by decide +kernel
theorem dX7_copyFrom_4 : decode cX7_copyFrom 4 = .ok (.iconst 0, 1) := by decide +kernel
theorem dX7_copyFrom_5 : decode cX7_copyFrom 5 = .ok (.aload_n 0, 1) := by decide +kernel
theorem dX7_copyFrom_6 : decode cX7_copyFrom 6 = .ok (.getfield 9, 3) := by decide +kernel
theorem dX7_copyFrom_9 : decode cX7_copyFrom 9 = .ok (.iconst 0, 1) := by decide +kernel
theorem dX7_copyFrom_10 : decode cX7_copyFrom 10 = .ok (.aload_n 0, 1) := by decide +kernel
theorem dX7_copyFrom_11 : decode cX7_copyFrom 11 = .ok (.getfield 9, 3) := by decide +kernel
theorem dX7_copyFrom_14 : decode cX7_copyFrom 14 = .ok (.arraylength, 1) := by decide +kernel
theorem dX7_copyFrom_15 : decode cX7_copyFrom 15 = .ok (.invokestatic 19, 3) := by decide +kernel
theorem dX7_copyFrom_18 : decode cX7_copyFrom 18 = .ok (.aload_n 0, 1) := by decide +kernel
theorem dX7_copyFrom_19 : decode cX7_copyFrom 19 = .ok (.aload_n 1, 1) := by decide +kernel
theorem dX7_copyFrom_20 : decode cX7_copyFrom 20 = .ok (.getfield 15, 3) := by decide +kernel
theorem dX7_copyFrom_23 : decode cX7_copyFrom 23 = .ok (.putfield 15, 3) := by decide +kernel
theorem dX7_copyFrom_26 : decode cX7_copyFrom 26 = .ok (.return_, 1) := by decide +kernel
theorem dX7_pieces_0 : decode cX7_pieces 0 = .ok (.aload_n 0, 1) := by decide +kernel
theorem dX7_pieces_1 : decode cX7_pieces 1 = .ok (.getfield 15, 3) := by decide +kernel
theorem dX7_pieces_4 : decode cX7_pieces 4 = .ok (.ifCond .ne 7, 3) := by decide +kernel
theorem dX7_pieces_7 : decode cX7_pieces 7 = .ok (.iconst 0, 1) := by decide +kernel
theorem dX7_pieces_8 : decode cX7_pieces 8 = .ok (.goto 4, 3) := by decide +kernel
theorem dX7_pieces_11 : decode cX7_pieces 11 = .ok (.iconst 1, 1) := by decide +kernel
theorem dX7_pieces_12 : decode cX7_pieces 12 = .ok (.istore_n 1, 1) := by decide +kernel
theorem dX7_pieces_13 : decode cX7_pieces 13 = .ok (.iconst 0, 1) := by decide +kernel
theorem dX7_pieces_14 : decode cX7_pieces 14 = .ok (.istore_n 2, 1) := by decide +kernel
theorem dX7_pieces_15 : decode cX7_pieces 15 = .ok (.iload_n 2, 1) := by decide +kernel
theorem dX7_pieces_16 : decode cX7_pieces 16 = .ok (.aload_n 0, 1) := by decide +kernel
theorem dX7_pieces_17 : decode cX7_pieces 17 = .ok (.getfield 15, 3) := by decide +kernel
theorem dX7_pieces_20 : decode cX7_pieces 20 = .ok (.if_icmp .ge 27, 3) := by decide +kernel
theorem dX7_pieces_23 : decode cX7_pieces 23 = .ok (.iload_n 1, 1) := by decide +kernel
theorem dX7_pieces_24 : decode cX7_pieces 24 = .ok (.aload_n 0, 1) := by decide +kernel
theorem dX7_pieces_25 : decode cX7_pieces 25 = .ok (.iload_n 2, 1) := by decide +kernel
theorem dX7_pieces_26 : decode cX7_pieces 26 = .ok (.invokevirtual 25, 3) := by decide +kernel
theorem dX7_pieces_29 : decode cX7_pieces 29 = .ok (.bipush 59, 2) := by decide +kernel
theorem dX7_pieces_31 : decode cX7_pieces 31 = .ok (.if_icmp .ne 7, 3) := by decide +kernel
theorem dX7_pieces_34 : decode cX7_pieces 34 = .ok (.iconst 1, 1) := by decide +kernel
theorem dX7_pieces_35 : decode cX7_pieces 35 = .ok (.goto 4, 3) := by decide +kernel
theorem dX7_pieces_38 : decode cX7_pieces 38 = .ok (.iconst 0, 1) := by decide +kernel
theorem dX7_pieces_39 : decode cX7_pieces 39 = .ok (.iadd, 1) := by decide +kernel
theorem dX7_pieces_40 : decode cX7_pieces 40 = .ok (.istore_n 1, 1) := by decide +kernel
theorem dX7_pieces_41 : decode cX7_pieces 41 = .ok (.iinc 2 1, 3) := by decide +kernel
theorem dX7_pieces_44 : decode cX7_pieces 44 = .ok (.goto (-29), 3) := by decide +kernel
theorem dX7_pieces_47 : decode cX7_pieces 47 = .ok (.iload_n 1, 1) := by decide +kernel
theorem dX7_pieces_48 : decode cX7_pieces 48 = .ok (.ireturn, 1) := by decide +kernel
theorem dX8_init_0 : decode cX8_init 0 = .ok (.aload_n 0, 1) := by decide +kernel
theorem dX8_init_1 : decode cX8_init 1 = .ok (.invokespecial 3, 3) := by decide +kernel
theorem dX8_init_4 : decode cX8_init 4 = .ok (.aload_n 0, 1) := by decide +kernel
theorem dX8_init_5 : decode cX8_init 5 = .ok (.bipush 64, 2) := by decide +kernel
theorem dX8_init_7 : decode cX8_init 7 = .ok (.newarray .long, 2) := by decide +kernel
theorem dX8_init_9 : decode cX8_init 9 = .ok (.putfield 9, 3) := by decide +kernel
theorem dX8_init_12 : decode cX8_init 12 = .ok (.aload_n 0, 1) := by decide +kernel
theorem dX8_init_13 : decode cX8_init 13 = .ok (.aload_n 1, 1) := by decide +kernel
theorem dX8_init_14 : decode cX8_init 14 = .ok (.putfield 15, 3) := by decide +kernel
theorem dX8_init_17 : decode cX8_init 17 = .ok (.return_, 1) := by decide +kernel
theorem dX8_misfitOf_0 : decode cX8_misfitOf 0 = .ok (.iconst 0, 1) := by decide +kernel
theorem dX8_misfitOf_1 : decode cX8_misfitOf 1 = .ok (.iload_n 2, 1) := by decide +kernel
theorem dX8_misfitOf_2 : decode cX8_misfitOf 2 = .ok (.iload_n 3, 1) := by decide +kernel
theorem dX8_misfitOf_3 : decode cX8_misfitOf 3 = .ok (.isub, 1) := by decide +kernel
theorem dX8_misfitOf_4 : decode cX8_misfitOf 4 = .ok (.invokestatic 19, 3) := by decide +kernel
