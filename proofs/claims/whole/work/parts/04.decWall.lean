theorem d_Wall_init_0 : decode b_Wall_init 0 = .ok (.aload_n 0, 1) := by decide +kernel
theorem d_Wall_init_1 : decode b_Wall_init 1 = .ok (.invokespecial 3, 3) := by decide +kernel
theorem d_Wall_init_4 : decode b_Wall_init 4 = .ok (.aload_n 0, 1) := by decide +kernel
theorem d_Wall_init_5 : decode b_Wall_init 5 = .ok (.iload_n 1, 1) := by decide +kernel
theorem d_Wall_init_6 : decode b_Wall_init 6 = .ok (.putfield 9, 3) := by decide +kernel
theorem d_Wall_init_9 : decode b_Wall_init 9 = .ok (.aload_n 0, 1) := by decide +kernel
theorem d_Wall_init_10 : decode b_Wall_init 10 = .ok (.iload_n 1, 1) := by decide +kernel
theorem d_Wall_init_11 : decode b_Wall_init 11 = .ok (.newarray .boolean, 2) := by decide +kernel
theorem d_Wall_init_13 : decode b_Wall_init 13 = .ok (.putfield 15, 3) := by decide +kernel
theorem d_Wall_init_16 : decode b_Wall_init 16 = .ok (.aload_n 0, 1) := by decide +kernel
theorem d_Wall_init_17 : decode b_Wall_init 17 = .ok (.bipush 8, 2) := by decide +kernel
theorem d_Wall_init_19 : decode b_Wall_init 19 = .ok (.newarray .int, 2) := by decide +kernel
theorem d_Wall_init_21 : decode b_Wall_init 21 = .ok (.putfield 19, 3) := by decide +kernel
theorem d_Wall_init_24 : decode b_Wall_init 24 = .ok (.aload_n 0, 1) := by decide +kernel
theorem d_Wall_init_25 : decode b_Wall_init 25 = .ok (.iconst 0, 1) := by decide +kernel
theorem d_Wall_init_26 : decode b_Wall_init 26 = .ok (.putfield 23, 3) := by decide +kernel
theorem d_Wall_init_29 : decode b_Wall_init 29 = .ok (.return_, 1) := by decide +kernel
theorem d_Wall_isStep_0 : decode b_Wall_isStep 0 = .ok (.iload_n 1, 1) := by decide +kernel
theorem d_Wall_isStep_1 : decode b_Wall_isStep 1 = .ok (.ifCond .lt 15, 3) := by decide +kernel
theorem d_Wall_isStep_4 : decode b_Wall_isStep 4 = .ok (.iload_n 1, 1) := by decide +kernel
theorem d_Wall_isStep_5 : decode b_Wall_isStep 5 = .ok (.aload_n 0, 1) := by decide +kernel
theorem d_Wall_isStep_6 : decode b_Wall_isStep 6 = .ok (.getfield 9, 3) := by decide +kernel
theorem d_Wall_isStep_9 : decode b_Wall_isStep 9 = .ok (.if_icmp .ge 7, 3) := by decide +kernel
theorem d_Wall_isStep_12 : decode b_Wall_isStep 12 = .ok (.iconst 1, 1) := by decide +kernel
theorem d_Wall_isStep_13 : decode b_Wall_isStep 13 = .ok (.goto 4, 3) := by decide +kernel
theorem d_Wall_isStep_16 : decode b_Wall_isStep 16 = .ok (.iconst 0, 1) := by decide +kernel
theorem d_Wall_isStep_17 : decode b_Wall_isStep 17 = .ok (.ireturn, 1) := by decide +kernel
theorem d_Wall_isFree_0 : decode b_Wall_isFree 0 = .ok (.aload_n 0, 1) := by decide +kernel
theorem d_Wall_isFree_1 : decode b_Wall_isFree 1 = .ok (.iload_n 1, 1) := by decide +kernel
theorem d_Wall_isFree_2 : decode b_Wall_isFree 2 = .ok (.invokevirtual 26, 3) := by decide +kernel
theorem d_Wall_isFree_5 : decode b_Wall_isFree 5 = .ok (.ifCond .eq 16, 3) := by decide +kernel
theorem d_Wall_isFree_8 : decode b_Wall_isFree 8 = .ok (.aload_n 0, 1) := by decide +kernel
theorem d_Wall_isFree_9 : decode b_Wall_isFree 9 = .ok (.getfield 15, 3) := by decide +kernel
theorem d_Wall_isFree_12 : decode b_Wall_isFree 12 = .ok (.iload_n 1, 1) := by decide +kernel
theorem d_Wall_isFree_13 : decode b_Wall_isFree 13 = .ok (.baload, 1) := by decide +kernel
theorem d_Wall_isFree_14 : decode b_Wall_isFree 14 = .ok (.ifCond .eq 7, 3) := by decide +kernel
theorem d_Wall_isFree_17 : decode b_Wall_isFree 17 = .ok (.iconst 1, 1) := by decide +kernel
theorem d_Wall_isFree_18 : decode b_Wall_isFree 18 = .ok (.goto 4, 3) := by decide +kernel
theorem d_Wall_isFree_21 : decode b_Wall_isFree 21 = .ok (.iconst 0, 1) := by decide +kernel
theorem d_Wall_isFree_22 : decode b_Wall_isFree 22 = .ok (.ireturn, 1) := by decide +kernel
theorem d_Wall_makeFree_0 : decode b_Wall_makeFree 0 = .ok (.iconst 0, 1) := by decide +kernel
theorem d_Wall_makeFree_1 : decode b_Wall_makeFree 1 = .ok (.istore_n 3, 1) := by decide +kernel
theorem d_Wall_makeFree_2 : decode b_Wall_makeFree 2 = .ok (.iload_n 1, 1) := by decide +kernel
theorem d_Wall_makeFree_3 : decode b_Wall_makeFree 3 = .ok (.istore 4, 2) := by decide +kernel
theorem d_Wall_makeFree_5 : decode b_Wall_makeFree 5 = .ok (.iload 4, 2) := by decide +kernel
theorem d_Wall_makeFree_7 : decode b_Wall_makeFree 7 = .ok (.iload_n 2, 1) := by decide +kernel
theorem d_Wall_makeFree_8 : decode b_Wall_makeFree 8 = .ok (.if_icmp .ge 29, 3) := by decide +kernel
theorem d_Wall_makeFree_11 : decode b_Wall_makeFree 11 = .ok (.aload_n 0, 1) := by decide +kernel
theorem d_Wall_makeFree_12 : decode b_Wall_makeFree 12 = .ok (.getfield 15, 3) := by decide +kernel
theorem d_Wall_makeFree_15 : decode b_Wall_makeFree 15 = .ok (.iload 4, 2) := by decide +kernel
theorem d_Wall_makeFree_17 : decode b_Wall_makeFree 17 = .ok (.baload, 1) := by decide +kernel
theorem d_Wall_makeFree_18 : decode b_Wall_makeFree 18 = .ok (.ifCond .ne 13, 3) := by decide +kernel
theorem d_Wall_makeFree_21 : decode b_Wall_makeFree 21 = .ok (.aload_n 0, 1) := by decide +kernel
theorem d_Wall_makeFree_22 : decode b_Wall_makeFree 22 = .ok (.getfield 15, 3) := by decide +kernel
theorem d_Wall_makeFree_25 : decode b_Wall_makeFree 25 = .ok (.iload 4, 2) := by decide +kernel
theorem d_Wall_makeFree_27 : decode b_Wall_makeFree 27 = .ok (.iconst 1, 1) := by decide +kernel
theorem d_Wall_makeFree_28 : decode b_Wall_makeFree 28 = .ok (.bastore, 1) := by decide +kernel
theorem d_Wall_makeFree_29 : decode b_Wall_makeFree 29 = .ok (.iconst 1, 1) := by decide +kernel
theorem d_Wall_makeFree_30 : decode b_Wall_makeFree 30 = .ok (.istore_n 3, 1) := by decide +kernel
theorem d_Wall_makeFree_31 : decode b_Wall_makeFree 31 = .ok (.iinc 4 1, 3) := by decide +kernel
theorem d_Wall_makeFree_34 : decode b_Wall_makeFree 34 = .ok (.goto (-29), 3) := by decide +kernel
theorem d_Wall_makeFree_37 : decode b_Wall_makeFree 37 = .ok (.iload_n 3, 1) := by decide +kernel
theorem d_Wall_makeFree_38 : decode b_Wall_makeFree 38 = .ok (.ireturn, 1) := by decide +kernel
theorem d_Wall_addPipe_0 : decode b_Wall_addPipe 0 = .ok (.aload_n 0, 1) := by decide +kernel
theorem d_Wall_addPipe_1 : decode b_Wall_addPipe 1 = .ok (.getfield 23, 3) := by decide +kernel
theorem d_Wall_addPipe_4 : decode b_Wall_addPipe 4 = .ok (.bipush 8, 2) := by decide +kernel
theorem d_Wall_addPipe_6 : decode b_Wall_addPipe 6 = .ok (.if_icmp .ge 13, 3) := by decide +kernel
theorem d_Wall_addPipe_9 : decode b_Wall_addPipe 9 = .ok (.aload_n 0, 1) := by decide +kernel
theorem d_Wall_addPipe_10 : decode b_Wall_addPipe 10 = .ok (.iload_n 1, 1) := by decide +kernel
theorem d_Wall_addPipe_11 : decode b_Wall_addPipe 11 = .ok (.iconst 1, 1) := by decide +kernel
theorem d_Wall_addPipe_12 : decode b_Wall_addPipe 12 = .ok (.iconst 0, 1) := by decide +kernel
theorem d_Wall_addPipe_13 : decode b_Wall_addPipe 13 = .ok (.invokevirtual 30, 3) := by decide +kernel
theorem d_Wall_addPipe_16 : decode b_Wall_addPipe 16 = .ok (.ifCond .eq 5, 3) := by decide +kernel
theorem d_Wall_addPipe_19 : decode b_Wall_addPipe 19 = .ok (.iconst 0, 1) := by decide +kernel
theorem d_Wall_addPipe_20 : decode b_Wall_addPipe 20 = .ok (.ireturn, 1) := by decide +kernel
theorem d_Wall_addPipe_21 : decode b_Wall_addPipe 21 = .ok (.aload_n 0, 1) := by decide +kernel
theorem d_Wall_addPipe_22 : decode b_Wall_addPipe 22 = .ok (.getfield 19, 3) := by decide +kernel
theorem d_Wall_addPipe_25 : decode b_Wall_addPipe 25 = .ok (.aload_n 0, 1) := by decide +kernel
theorem d_Wall_addPipe_26 : decode b_Wall_addPipe 26 = .ok (.getfield 23, 3) := by decide +kernel
theorem d_Wall_addPipe_29 : decode b_Wall_addPipe 29 = .ok (.iload_n 1, 1) := by decide +kernel
theorem d_Wall_addPipe_30 : decode b_Wall_addPipe 30 = .ok (.iastore, 1) := by decide +kernel
theorem d_Wall_addPipe_31 : decode b_Wall_addPipe 31 = .ok (.aload_n 0, 1) := by decide +kernel
theorem d_Wall_addPipe_32 : decode b_Wall_addPipe 32 = .ok (.dup, 1) := by decide +kernel
theorem d_Wall_addPipe_33 : decode b_Wall_addPipe 33 = .ok (.getfield 23, 3) := by decide +kernel
theorem d_Wall_addPipe_36 : decode b_Wall_addPipe 36 = .ok (.iconst 1, 1) := by decide +kernel
theorem d_Wall_addPipe_37 : decode b_Wall_addPipe 37 = .ok (.iadd, 1) := by decide +kernel
theorem d_Wall_addPipe_38 : decode b_Wall_addPipe 38 = .ok (.putfield 23, 3) := by decide +kernel
theorem d_Wall_addPipe_41 : decode b_Wall_addPipe 41 = .ok (.iconst 1, 1) := by decide +kernel
theorem d_Wall_addPipe_42 : decode b_Wall_addPipe 42 = .ok (.ireturn, 1) := by decide +kernel
theorem d_Wall_hasPipeWithin_0 : decode b_Wall_hasPipeWithin 0 = .ok (.iconst 0, 1) := by decide +kernel
theorem d_Wall_hasPipeWithin_1 : decode b_Wall_hasPipeWithin 1 = .ok (.istore 4, 2) := by decide +kernel
theorem d_Wall_hasPipeWithin_3 : decode b_Wall_hasPipeWithin 3 = .ok (.iload 4, 2) := by decide +kernel
theorem d_Wall_hasPipeWithin_5 : decode b_Wall_hasPipeWithin 5 = .ok (.aload_n 0, 1) := by decide +kernel
theorem d_Wall_hasPipeWithin_6 : decode b_Wall_hasPipeWithin 6 = .ok (.getfield 23, 3) := by decide +kernel
theorem d_Wall_hasPipeWithin_9 : decode b_Wall_hasPipeWithin 9 = .ok (.if_icmp .ge 41, 3) := by decide +kernel
theorem d_Wall_hasPipeWithin_12 : decode b_Wall_hasPipeWithin 12 = .ok (.aload_n 0, 1) := by decide +kernel
theorem d_Wall_hasPipeWithin_13 : decode b_Wall_hasPipeWithin 13 = .ok (.getfield 19, 3) := by decide +kernel
theorem d_Wall_hasPipeWithin_16 : decode b_Wall_hasPipeWithin 16 = .ok (.iload 4, 2) := by decide +kernel
theorem d_Wall_hasPipeWithin_18 : decode b_Wall_hasPipeWithin 18 = .ok (.iaload, 1) := by decide +kernel
theorem d_Wall_hasPipeWithin_19 : decode b_Wall_hasPipeWithin 19 = .ok (.iload_n 1, 1) := by decide +kernel
theorem d_Wall_hasPipeWithin_20 : decode b_Wall_hasPipeWithin 20 = .ok (.iload_n 3, 1) := by decide +kernel
theorem d_Wall_hasPipeWithin_21 : decode b_Wall_hasPipeWithin 21 = .ok (.isub, 1) := by decide +kernel
theorem d_Wall_hasPipeWithin_22 : decode b_Wall_hasPipeWithin 22 = .ok (.if_icmp .lt 22, 3) := by decide +kernel
theorem d_Wall_hasPipeWithin_25 : decode b_Wall_hasPipeWithin 25 = .ok (.aload_n 0, 1) := by decide +kernel
theorem d_Wall_hasPipeWithin_26 : decode b_Wall_hasPipeWithin 26 = .ok (.getfield 19, 3) := by decide +kernel
theorem d_Wall_hasPipeWithin_29 : decode b_Wall_hasPipeWithin 29 = .ok (.iload 4, 2) := by decide +kernel
theorem d_Wall_hasPipeWithin_31 : decode b_Wall_hasPipeWithin 31 = .ok (.iaload, 1) := by decide +kernel
theorem d_Wall_hasPipeWithin_32 : decode b_Wall_hasPipeWithin 32 = .ok (.iload_n 1, 1) := by decide +kernel
theorem d_Wall_hasPipeWithin_33 : decode b_Wall_hasPipeWithin 33 = .ok (.iload_n 2, 1) := by decide +kernel
theorem d_Wall_hasPipeWithin_34 : decode b_Wall_hasPipeWithin 34 = .ok (.iadd, 1) := by decide +kernel
theorem d_Wall_hasPipeWithin_35 : decode b_Wall_hasPipeWithin 35 = .ok (.iconst 1, 1) := by decide +kernel
theorem d_Wall_hasPipeWithin_36 : decode b_Wall_hasPipeWithin 36 = .ok (.isub, 1) := by decide +kernel
theorem d_Wall_hasPipeWithin_37 : decode b_Wall_hasPipeWithin 37 = .ok (.iload_n 3, 1) := by decide +kernel
theorem d_Wall_hasPipeWithin_38 : decode b_Wall_hasPipeWithin 38 = .ok (.iadd, 1) := by decide +kernel
theorem d_Wall_hasPipeWithin_39 : decode b_Wall_hasPipeWithin 39 = .ok (.if_icmp .gt 5, 3) := by decide +kernel
theorem d_Wall_hasPipeWithin_42 : decode b_Wall_hasPipeWithin 42 = .ok (.iconst 1, 1) := by decide +kernel
theorem d_Wall_hasPipeWithin_43 : decode b_Wall_hasPipeWithin 43 = .ok (.ireturn, 1) := by decide +kernel
theorem d_Wall_hasPipeWithin_44 : decode b_Wall_hasPipeWithin 44 = .ok (.iinc 4 1, 3) := by decide +kernel
theorem d_Wall_hasPipeWithin_47 : decode b_Wall_hasPipeWithin 47 = .ok (.goto (-44), 3) := by decide +kernel
theorem d_Wall_hasPipeWithin_50 : decode b_Wall_hasPipeWithin 50 = .ok (.iconst 0, 1) := by decide +kernel
theorem d_Wall_hasPipeWithin_51 : decode b_Wall_hasPipeWithin 51 = .ok (.ireturn, 1) := by decide +kernel
theorem d_Wall_holds_0 : decode b_Wall_holds 0 = .ok (.iload_n 1, 1) := by decide +kernel
theorem d_Wall_holds_1 : decode b_Wall_holds 1 = .ok (.ifCond .lt 17, 3) := by decide +kernel
theorem d_Wall_holds_4 : decode b_Wall_holds 4 = .ok (.iload_n 1, 1) := by decide +kernel
theorem d_Wall_holds_5 : decode b_Wall_holds 5 = .ok (.iload_n 2, 1) := by decide +kernel
theorem d_Wall_holds_6 : decode b_Wall_holds 6 = .ok (.iadd, 1) := by decide +kernel
theorem d_Wall_holds_7 : decode b_Wall_holds 7 = .ok (.aload_n 0, 1) := by decide +kernel
theorem d_Wall_holds_8 : decode b_Wall_holds 8 = .ok (.getfield 9, 3) := by decide +kernel
theorem d_Wall_holds_11 : decode b_Wall_holds 11 = .ok (.if_icmp .gt 7, 3) := by decide +kernel
theorem d_Wall_holds_14 : decode b_Wall_holds 14 = .ok (.iconst 1, 1) := by decide +kernel
theorem d_Wall_holds_15 : decode b_Wall_holds 15 = .ok (.goto 4, 3) := by decide +kernel
theorem d_Wall_holds_18 : decode b_Wall_holds 18 = .ok (.iconst 0, 1) := by decide +kernel
theorem d_Wall_holds_19 : decode b_Wall_holds 19 = .ok (.ireturn, 1) := by decide +kernel
theorem d_Wall_stepsBeforeFree_0 : decode b_Wall_stepsBeforeFree 0 = .ok (.iload_n 1, 1) := by decide +kernel
theorem d_Wall_stepsBeforeFree_1 : decode b_Wall_stepsBeforeFree 1 = .ok (.istore_n 2, 1) := by decide +kernel
theorem d_Wall_stepsBeforeFree_2 : decode b_Wall_stepsBeforeFree 2 = .ok (.iload_n 2, 1) := by decide +kernel
theorem d_Wall_stepsBeforeFree_3 : decode b_Wall_stepsBeforeFree 3 = .ok (.aload_n 0, 1) := by decide +kernel
theorem d_Wall_stepsBeforeFree_4 : decode b_Wall_stepsBeforeFree 4 = .ok (.getfield 9, 3) := by decide +kernel
theorem d_Wall_stepsBeforeFree_7 : decode b_Wall_stepsBeforeFree 7 = .ok (.if_icmp .ge 18, 3) := by decide +kernel
theorem d_Wall_stepsBeforeFree_10 : decode b_Wall_stepsBeforeFree 10 = .ok (.aload_n 0, 1) := by decide +kernel
theorem d_Wall_stepsBeforeFree_11 : decode b_Wall_stepsBeforeFree 11 = .ok (.getfield 15, 3) := by decide +kernel
theorem d_Wall_stepsBeforeFree_14 : decode b_Wall_stepsBeforeFree 14 = .ok (.iload_n 2, 1) := by decide +kernel
theorem d_Wall_stepsBeforeFree_15 : decode b_Wall_stepsBeforeFree 15 = .ok (.baload, 1) := by decide +kernel
theorem d_Wall_stepsBeforeFree_16 : decode b_Wall_stepsBeforeFree 16 = .ok (.ifCond .ne 9, 3) := by decide +kernel
theorem d_Wall_stepsBeforeFree_19 : decode b_Wall_stepsBeforeFree 19 = .ok (.iinc 2 1, 3) := by decide +kernel
theorem d_Wall_stepsBeforeFree_22 : decode b_Wall_stepsBeforeFree 22 = .ok (.goto (-20), 3) := by decide +kernel
theorem d_Wall_stepsBeforeFree_25 : decode b_Wall_stepsBeforeFree 25 = .ok (.iload_n 2, 1) := by decide +kernel
theorem d_Wall_stepsBeforeFree_26 : decode b_Wall_stepsBeforeFree 26 = .ok (.iload_n 1, 1) := by decide +kernel
theorem d_Wall_stepsBeforeFree_27 : decode b_Wall_stepsBeforeFree 27 = .ok (.isub, 1) := by decide +kernel
theorem d_Wall_stepsBeforeFree_28 : decode b_Wall_stepsBeforeFree 28 = .ok (.ireturn, 1) := by decide +kernel
theorem d_Integer_bitCount_0 : decode b_Integer_bitCount 0 = .ok (.iload_n 0, 1) := by decide +kernel
theorem d_Integer_bitCount_1 : decode b_Integer_bitCount 1 = .ok (.iload_n 0, 1) := by decide +kernel
theorem d_Integer_bitCount_2 : decode b_Integer_bitCount 2 = .ok (.iconst 1, 1) := by decide +kernel
theorem d_Integer_bitCount_3 : decode b_Integer_bitCount 3 = .ok (.iushr, 1) := by decide +kernel
theorem d_Integer_bitCount_4 : decode b_Integer_bitCount 4 = .ok (.ldc_w 265, 3) := by decide +kernel
theorem d_Integer_bitCount_7 : decode b_Integer_bitCount 7 = .ok (.iand, 1) := by decide +kernel
theorem d_Integer_bitCount_8 : decode b_Integer_bitCount 8 = .ok (.isub, 1) := by decide +kernel
theorem d_Integer_bitCount_9 : decode b_Integer_bitCount 9 = .ok (.istore_n 0, 1) := by decide +kernel
theorem d_Integer_bitCount_10 : decode b_Integer_bitCount 10 = .ok (.iload_n 0, 1) := by decide +kernel
theorem d_Integer_bitCount_11 : decode b_Integer_bitCount 11 = .ok (.ldc_w 266, 3) := by decide +kernel
theorem d_Integer_bitCount_14 : decode b_Integer_bitCount 14 = .ok (.iand, 1) := by decide +kernel
theorem d_Integer_bitCount_15 : decode b_Integer_bitCount 15 = .ok (.iload_n 0, 1) := by decide +kernel
theorem d_Integer_bitCount_16 : decode b_Integer_bitCount 16 = .ok (.iconst 2, 1) := by decide +kernel
theorem d_Integer_bitCount_17 : decode b_Integer_bitCount 17 = .ok (.iushr, 1) := by decide +kernel
theorem d_Integer_bitCount_18 : decode b_Integer_bitCount 18 = .ok (.ldc_w 266, 3) := by decide +kernel
theorem d_Integer_bitCount_21 : decode b_Integer_bitCount 21 = .ok (.iand, 1) := by decide +kernel
theorem d_Integer_bitCount_22 : decode b_Integer_bitCount 22 = .ok (.iadd, 1) := by decide +kernel
theorem d_Integer_bitCount_23 : decode b_Integer_bitCount 23 = .ok (.istore_n 0, 1) := by decide +kernel
theorem d_Integer_bitCount_24 : decode b_Integer_bitCount 24 = .ok (.iload_n 0, 1) := by decide +kernel
theorem d_Integer_bitCount_25 : decode b_Integer_bitCount 25 = .ok (.iload_n 0, 1) := by decide +kernel
theorem d_Integer_bitCount_26 : decode b_Integer_bitCount 26 = .ok (.iconst 4, 1) := by decide +kernel
theorem d_Integer_bitCount_27 : decode b_Integer_bitCount 27 = .ok (.iushr, 1) := by decide +kernel
theorem d_Integer_bitCount_28 : decode b_Integer_bitCount 28 = .ok (.iadd, 1) := by decide +kernel
theorem d_Integer_bitCount_29 : decode b_Integer_bitCount 29 = .ok (.ldc_w 267, 3) := by decide +kernel
theorem d_Integer_bitCount_32 : decode b_Integer_bitCount 32 = .ok (.iand, 1) := by decide +kernel
theorem d_Integer_bitCount_33 : decode b_Integer_bitCount 33 = .ok (.istore_n 0, 1) := by decide +kernel
theorem d_Integer_bitCount_34 : decode b_Integer_bitCount 34 = .ok (.iload_n 0, 1) := by decide +kernel
theorem d_Integer_bitCount_35 : decode b_Integer_bitCount 35 = .ok (.iload_n 0, 1) := by decide +kernel
theorem d_Integer_bitCount_36 : decode b_Integer_bitCount 36 = .ok (.bipush 8, 2) := by decide +kernel
theorem d_Integer_bitCount_38 : decode b_Integer_bitCount 38 = .ok (.iushr, 1) := by decide +kernel
theorem d_Integer_bitCount_39 : decode b_Integer_bitCount 39 = .ok (.iadd, 1) := by decide +kernel
theorem d_Integer_bitCount_40 : decode b_Integer_bitCount 40 = .ok (.istore_n 0, 1) := by decide +kernel
theorem d_Integer_bitCount_41 : decode b_Integer_bitCount 41 = .ok (.iload_n 0, 1) := by decide +kernel
theorem d_Integer_bitCount_42 : decode b_Integer_bitCount 42 = .ok (.iload_n 0, 1) := by decide +kernel
theorem d_Integer_bitCount_43 : decode b_Integer_bitCount 43 = .ok (.bipush 16, 2) := by decide +kernel
theorem d_Integer_bitCount_45 : decode b_Integer_bitCount 45 = .ok (.iushr, 1) := by decide +kernel
theorem d_Integer_bitCount_46 : decode b_Integer_bitCount 46 = .ok (.iadd, 1) := by decide +kernel
theorem d_Integer_bitCount_47 : decode b_Integer_bitCount 47 = .ok (.istore_n 0, 1) := by decide +kernel
theorem d_Integer_bitCount_48 : decode b_Integer_bitCount 48 = .ok (.iload_n 0, 1) := by decide +kernel
theorem d_Integer_bitCount_49 : decode b_Integer_bitCount 49 = .ok (.bipush 63, 2) := by decide +kernel
theorem d_Integer_bitCount_51 : decode b_Integer_bitCount 51 = .ok (.iand, 1) := by decide +kernel
theorem d_Integer_bitCount_52 : decode b_Integer_bitCount 52 = .ok (.ireturn, 1) := by decide +kernel
theorem d_Arrays_fill_IIV_0 : decode b_Arrays_fill_IIV 0 = .ok (.iconst 0, 1) := by decide +kernel
theorem d_Arrays_fill_IIV_1 : decode b_Arrays_fill_IIV 1 = .ok (.istore_n 2, 1) := by decide +kernel
theorem d_Arrays_fill_IIV_2 : decode b_Arrays_fill_IIV 2 = .ok (.aload_n 0, 1) := by decide +kernel
theorem d_Arrays_fill_IIV_3 : decode b_Arrays_fill_IIV 3 = .ok (.arraylength, 1) := by decide +kernel
theorem d_Arrays_fill_IIV_4 : decode b_Arrays_fill_IIV 4 = .ok (.istore_n 3, 1) := by decide +kernel
theorem d_Arrays_fill_IIV_5 : decode b_Arrays_fill_IIV 5 = .ok (.iload_n 2, 1) := by decide +kernel
theorem d_Arrays_fill_IIV_6 : decode b_Arrays_fill_IIV 6 = .ok (.iload_n 3, 1) := by decide +kernel
theorem d_Arrays_fill_IIV_7 : decode b_Arrays_fill_IIV 7 = .ok (.if_icmp .ge 13, 3) := by decide +kernel
theorem d_Arrays_fill_IIV_10 : decode b_Arrays_fill_IIV 10 = .ok (.aload_n 0, 1) := by decide +kernel
theorem d_Arrays_fill_IIV_11 : decode b_Arrays_fill_IIV 11 = .ok (.iload_n 2, 1) := by decide +kernel
theorem d_Arrays_fill_IIV_12 : decode b_Arrays_fill_IIV 12 = .ok (.iload_n 1, 1) := by decide +kernel
theorem d_Arrays_fill_IIV_13 : decode b_Arrays_fill_IIV 13 = .ok (.iastore, 1) := by decide +kernel
theorem d_Arrays_fill_IIV_14 : decode b_Arrays_fill_IIV 14 = .ok (.iinc 2 1, 3) := by decide +kernel
theorem d_Arrays_fill_IIV_17 : decode b_Arrays_fill_IIV 17 = .ok (.goto (-12), 3) := by decide +kernel
theorem d_Arrays_fill_IIV_20 : decode b_Arrays_fill_IIV 20 = .ok (.return_, 1) := by decide +kernel
theorem d_Arrays_fill_JJV_0 : decode b_Arrays_fill_JJV 0 = .ok (.iconst 0, 1) := by decide +kernel
theorem d_Arrays_fill_JJV_1 : decode b_Arrays_fill_JJV 1 = .ok (.istore_n 3, 1) := by decide +kernel
theorem d_Arrays_fill_JJV_2 : decode b_Arrays_fill_JJV 2 = .ok (.aload_n 0, 1) := by decide +kernel
theorem d_Arrays_fill_JJV_3 : decode b_Arrays_fill_JJV 3 = .ok (.arraylength, 1) := by decide +kernel
theorem d_Arrays_fill_JJV_4 : decode b_Arrays_fill_JJV 4 = .ok (.istore 4, 2) := by decide +kernel
theorem d_Arrays_fill_JJV_6 : decode b_Arrays_fill_JJV 6 = .ok (.iload_n 3, 1) := by decide +kernel
theorem d_Arrays_fill_JJV_7 : decode b_Arrays_fill_JJV 7 = .ok (.iload 4, 2) := by decide +kernel
theorem d_Arrays_fill_JJV_9 : decode b_Arrays_fill_JJV 9 = .ok (.if_icmp .ge 13, 3) := by decide +kernel
theorem d_Arrays_fill_JJV_12 : decode b_Arrays_fill_JJV 12 = .ok (.aload_n 0, 1) := by decide +kernel
theorem d_Arrays_fill_JJV_13 : decode b_Arrays_fill_JJV 13 = .ok (.iload_n 3, 1) := by decide +kernel
theorem d_Arrays_fill_JJV_14 : decode b_Arrays_fill_JJV 14 = .ok (.lload_n 1, 1) := by decide +kernel
theorem d_Arrays_fill_JJV_15 : decode b_Arrays_fill_JJV 15 = .ok (.lastore, 1) := by decide +kernel
theorem d_Arrays_fill_JJV_16 : decode b_Arrays_fill_JJV 16 = .ok (.iinc 3 1, 3) := by decide +kernel
theorem d_Arrays_fill_JJV_19 : decode b_Arrays_fill_JJV 19 = .ok (.goto (-13), 3) := by decide +kernel
theorem d_Arrays_fill_JJV_22 : decode b_Arrays_fill_JJV 22 = .ok (.return_, 1) := by decide +kernel
