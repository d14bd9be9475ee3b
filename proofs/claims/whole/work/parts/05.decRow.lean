theorem d_Row_init_0 : decode b_Row_init 0 = .ok (.aload_n 0, 1) := by decide +kernel
theorem d_Row_init_1 : decode b_Row_init 1 = .ok (.invokespecial 3, 3) := by decide +kernel
theorem d_Row_init_4 : decode b_Row_init 4 = .ok (.aload_n 0, 1) := by decide +kernel
theorem d_Row_init_5 : decode b_Row_init 5 = .ok (.aload_n 1, 1) := by decide +kernel
theorem d_Row_init_6 : decode b_Row_init 6 = .ok (.putfield 9, 3) := by decide +kernel
theorem d_Row_init_9 : decode b_Row_init 9 = .ok (.aload_n 0, 1) := by decide +kernel
theorem d_Row_init_10 : decode b_Row_init 10 = .ok (.aload_n 2, 1) := by decide +kernel
theorem d_Row_init_11 : decode b_Row_init 11 = .ok (.putfield 15, 3) := by decide +kernel
theorem d_Row_init_14 : decode b_Row_init 14 = .ok (.aload_n 0, 1) := by decide +kernel
theorem d_Row_init_15 : decode b_Row_init 15 = .ok (.aload_n 3, 1) := by decide +kernel
theorem d_Row_init_16 : decode b_Row_init 16 = .ok (.putfield 19, 3) := by decide +kernel
theorem d_Row_init_19 : decode b_Row_init 19 = .ok (.aload_n 0, 1) := by decide +kernel
theorem d_Row_init_20 : decode b_Row_init 20 = .ok (.bipush 6, 2) := by decide +kernel
theorem d_Row_init_22 : decode b_Row_init 22 = .ok (.newarray .int, 2) := by decide +kernel
theorem d_Row_init_24 : decode b_Row_init 24 = .ok (.putfield 23, 3) := by decide +kernel
theorem d_Row_init_27 : decode b_Row_init 27 = .ok (.aload_n 0, 1) := by decide +kernel
theorem d_Row_init_28 : decode b_Row_init 28 = .ok (.getfield 23, 3) := by decide +kernel
theorem d_Row_init_31 : decode b_Row_init 31 = .ok (.bipush (-101), 2) := by decide +kernel
theorem d_Row_init_33 : decode b_Row_init 33 = .ok (.invokestatic 27, 3) := by decide +kernel
theorem d_Row_init_36 : decode b_Row_init 36 = .ok (.return_, 1) := by decide +kernel
theorem d_Row_put_0 : decode b_Row_put 0 = .ok (.aload_n 0, 1) := by decide +kernel
theorem d_Row_put_1 : decode b_Row_put 1 = .ok (.getfield 23, 3) := by decide +kernel
theorem d_Row_put_4 : decode b_Row_put 4 = .ok (.iload_n 1, 1) := by decide +kernel
theorem d_Row_put_5 : decode b_Row_put 5 = .ok (.iaload, 1) := by decide +kernel
theorem d_Row_put_6 : decode b_Row_put 6 = .ok (.iload_n 2, 1) := by decide +kernel
theorem d_Row_put_7 : decode b_Row_put 7 = .ok (.if_icmp .eq 7, 3) := by decide +kernel
theorem d_Row_put_10 : decode b_Row_put 10 = .ok (.iconst 1, 1) := by decide +kernel
theorem d_Row_put_11 : decode b_Row_put 11 = .ok (.goto 4, 3) := by decide +kernel
theorem d_Row_put_14 : decode b_Row_put 14 = .ok (.iconst 0, 1) := by decide +kernel
theorem d_Row_put_15 : decode b_Row_put 15 = .ok (.istore_n 3, 1) := by decide +kernel
theorem d_Row_put_16 : decode b_Row_put 16 = .ok (.aload_n 0, 1) := by decide +kernel
theorem d_Row_put_17 : decode b_Row_put 17 = .ok (.getfield 23, 3) := by decide +kernel
theorem d_Row_put_20 : decode b_Row_put 20 = .ok (.iload_n 1, 1) := by decide +kernel
theorem d_Row_put_21 : decode b_Row_put 21 = .ok (.iload_n 2, 1) := by decide +kernel
theorem d_Row_put_22 : decode b_Row_put 22 = .ok (.iastore, 1) := by decide +kernel
theorem d_Row_put_23 : decode b_Row_put 23 = .ok (.iload_n 3, 1) := by decide +kernel
theorem d_Row_put_24 : decode b_Row_put 24 = .ok (.ireturn, 1) := by decide +kernel
theorem d_Row_firstBrokenRule_0 : decode b_Row_firstBrokenRule 0 = .ok (.aload_n 0, 1) := by decide +kernel
theorem d_Row_firstBrokenRule_1 : decode b_Row_firstBrokenRule 1 = .ok (.invokevirtual 33, 3) := by decide +kernel
theorem d_Row_firstBrokenRule_4 : decode b_Row_firstBrokenRule 4 = .ok (.ifCond .eq 5, 3) := by decide +kernel
theorem d_Row_firstBrokenRule_7 : decode b_Row_firstBrokenRule 7 = .ok (.iconst 1, 1) := by decide +kernel
theorem d_Row_firstBrokenRule_8 : decode b_Row_firstBrokenRule 8 = .ok (.ireturn, 1) := by decide +kernel
theorem d_Row_firstBrokenRule_9 : decode b_Row_firstBrokenRule 9 = .ok (.aload_n 0, 1) := by decide +kernel
theorem d_Row_firstBrokenRule_10 : decode b_Row_firstBrokenRule 10 = .ok (.invokevirtual 37, 3) := by decide +kernel
theorem d_Row_firstBrokenRule_13 : decode b_Row_firstBrokenRule 13 = .ok (.ifCond .eq 5, 3) := by decide +kernel
theorem d_Row_firstBrokenRule_16 : decode b_Row_firstBrokenRule 16 = .ok (.iconst 2, 1) := by decide +kernel
theorem d_Row_firstBrokenRule_17 : decode b_Row_firstBrokenRule 17 = .ok (.ireturn, 1) := by decide +kernel
theorem d_Row_firstBrokenRule_18 : decode b_Row_firstBrokenRule 18 = .ok (.aload_n 0, 1) := by decide +kernel
theorem d_Row_firstBrokenRule_19 : decode b_Row_firstBrokenRule 19 = .ok (.invokevirtual 40, 3) := by decide +kernel
theorem d_Row_firstBrokenRule_22 : decode b_Row_firstBrokenRule 22 = .ok (.ifCond .eq 5, 3) := by decide +kernel
theorem d_Row_firstBrokenRule_25 : decode b_Row_firstBrokenRule 25 = .ok (.iconst 3, 1) := by decide +kernel
theorem d_Row_firstBrokenRule_26 : decode b_Row_firstBrokenRule 26 = .ok (.ireturn, 1) := by decide +kernel
theorem d_Row_firstBrokenRule_27 : decode b_Row_firstBrokenRule 27 = .ok (.aload_n 0, 1) := by decide +kernel
theorem d_Row_firstBrokenRule_28 : decode b_Row_firstBrokenRule 28 = .ok (.getfield 15, 3) := by decide +kernel
theorem d_Row_firstBrokenRule_31 : decode b_Row_firstBrokenRule 31 = .ok (.getfield 43, 3) := by decide +kernel
theorem d_Row_firstBrokenRule_34 : decode b_Row_firstBrokenRule 34 = .ok (.aload_n 0, 1) := by decide +kernel
theorem d_Row_firstBrokenRule_35 : decode b_Row_firstBrokenRule 35 = .ok (.invokevirtual 49, 3) := by decide +kernel
theorem d_Row_firstBrokenRule_38 : decode b_Row_firstBrokenRule 38 = .ok (.iconst (-1), 1) := by decide +kernel
theorem d_Row_firstBrokenRule_39 : decode b_Row_firstBrokenRule 39 = .ok (.ixor, 1) := by decide +kernel
theorem d_Row_firstBrokenRule_40 : decode b_Row_firstBrokenRule 40 = .ok (.iand, 1) := by decide +kernel
theorem d_Row_firstBrokenRule_41 : decode b_Row_firstBrokenRule 41 = .ok (.ifCond .eq 5, 3) := by decide +kernel
theorem d_Row_firstBrokenRule_44 : decode b_Row_firstBrokenRule 44 = .ok (.iconst 4, 1) := by decide +kernel
theorem d_Row_firstBrokenRule_45 : decode b_Row_firstBrokenRule 45 = .ok (.ireturn, 1) := by decide +kernel
theorem d_Row_firstBrokenRule_46 : decode b_Row_firstBrokenRule 46 = .ok (.aload_n 0, 1) := by decide +kernel
theorem d_Row_firstBrokenRule_47 : decode b_Row_firstBrokenRule 47 = .ok (.invokevirtual 53, 3) := by decide +kernel
theorem d_Row_firstBrokenRule_50 : decode b_Row_firstBrokenRule 50 = .ok (.ifCond .eq 5, 3) := by decide +kernel
theorem d_Row_firstBrokenRule_53 : decode b_Row_firstBrokenRule 53 = .ok (.iconst 5, 1) := by decide +kernel
theorem d_Row_firstBrokenRule_54 : decode b_Row_firstBrokenRule 54 = .ok (.ireturn, 1) := by decide +kernel
theorem d_Row_firstBrokenRule_55 : decode b_Row_firstBrokenRule 55 = .ok (.aload_n 0, 1) := by decide +kernel
theorem d_Row_firstBrokenRule_56 : decode b_Row_firstBrokenRule 56 = .ok (.invokevirtual 56, 3) := by decide +kernel
theorem d_Row_firstBrokenRule_59 : decode b_Row_firstBrokenRule 59 = .ok (.ifCond .eq 6, 3) := by decide +kernel
theorem d_Row_firstBrokenRule_62 : decode b_Row_firstBrokenRule 62 = .ok (.bipush 6, 2) := by decide +kernel
theorem d_Row_firstBrokenRule_64 : decode b_Row_firstBrokenRule 64 = .ok (.ireturn, 1) := by decide +kernel
theorem d_Row_firstBrokenRule_65 : decode b_Row_firstBrokenRule 65 = .ok (.aload_n 0, 1) := by decide +kernel
theorem d_Row_firstBrokenRule_66 : decode b_Row_firstBrokenRule 66 = .ok (.invokevirtual 59, 3) := by decide +kernel
theorem d_Row_firstBrokenRule_69 : decode b_Row_firstBrokenRule 69 = .ok (.ifCond .eq 8, 3) := by decide +kernel
theorem d_Row_firstBrokenRule_72 : decode b_Row_firstBrokenRule 72 = .ok (.bipush 7, 2) := by decide +kernel
theorem d_Row_firstBrokenRule_74 : decode b_Row_firstBrokenRule 74 = .ok (.goto 4, 3) := by decide +kernel
theorem d_Row_firstBrokenRule_77 : decode b_Row_firstBrokenRule 77 = .ok (.iconst 0, 1) := by decide +kernel
theorem d_Row_firstBrokenRule_78 : decode b_Row_firstBrokenRule 78 = .ok (.ireturn, 1) := by decide +kernel
theorem d_Row_wholeWorth_0 : decode b_Row_wholeWorth 0 = .ok (.aload_n 0, 1) := by decide +kernel
theorem d_Row_wholeWorth_1 : decode b_Row_wholeWorth 1 = .ok (.getfield 15, 3) := by decide +kernel
theorem d_Row_wholeWorth_4 : decode b_Row_wholeWorth 4 = .ok (.getfield 62, 3) := by decide +kernel
theorem d_Row_wholeWorth_7 : decode b_Row_wholeWorth 7 = .ok (.aload_n 0, 1) := by decide +kernel
theorem d_Row_wholeWorth_8 : decode b_Row_wholeWorth 8 = .ok (.invokevirtual 49, 3) := by decide +kernel
theorem d_Row_wholeWorth_11 : decode b_Row_wholeWorth 11 = .ok (.laload, 1) := by decide +kernel
theorem d_Row_wholeWorth_12 : decode b_Row_wholeWorth 12 = .ok (.lstore_n 1, 1) := by decide +kernel
theorem d_Row_wholeWorth_13 : decode b_Row_wholeWorth 13 = .ok (.iconst 0, 1) := by decide +kernel
theorem d_Row_wholeWorth_14 : decode b_Row_wholeWorth 14 = .ok (.istore_n 3, 1) := by decide +kernel
theorem d_Row_wholeWorth_15 : decode b_Row_wholeWorth 15 = .ok (.iload_n 3, 1) := by decide +kernel
theorem d_Row_wholeWorth_16 : decode b_Row_wholeWorth 16 = .ok (.aload_n 0, 1) := by decide +kernel
theorem d_Row_wholeWorth_17 : decode b_Row_wholeWorth 17 = .ok (.getfield 15, 3) := by decide +kernel
theorem d_Row_wholeWorth_20 : decode b_Row_wholeWorth 20 = .ok (.getfield 66, 3) := by decide +kernel
theorem d_Row_wholeWorth_23 : decode b_Row_wholeWorth 23 = .ok (.if_icmp .ge 55, 3) := by decide +kernel
theorem d_Row_wholeWorth_26 : decode b_Row_wholeWorth 26 = .ok (.iload_n 3, 1) := by decide +kernel
theorem d_Row_wholeWorth_27 : decode b_Row_wholeWorth 27 = .ok (.iconst 1, 1) := by decide +kernel
theorem d_Row_wholeWorth_28 : decode b_Row_wholeWorth 28 = .ok (.iadd, 1) := by decide +kernel
theorem d_Row_wholeWorth_29 : decode b_Row_wholeWorth 29 = .ok (.istore 4, 2) := by decide +kernel
theorem d_Row_wholeWorth_31 : decode b_Row_wholeWorth 31 = .ok (.iload 4, 2) := by decide +kernel
theorem d_Row_wholeWorth_33 : decode b_Row_wholeWorth 33 = .ok (.aload_n 0, 1) := by decide +kernel
theorem d_Row_wholeWorth_34 : decode b_Row_wholeWorth 34 = .ok (.getfield 15, 3) := by decide +kernel
theorem d_Row_wholeWorth_37 : decode b_Row_wholeWorth 37 = .ok (.getfield 66, 3) := by decide +kernel
theorem d_Row_wholeWorth_40 : decode b_Row_wholeWorth 40 = .ok (.if_icmp .ge 32, 3) := by decide +kernel
theorem d_Row_wholeWorth_43 : decode b_Row_wholeWorth 43 = .ok (.aload_n 0, 1) := by decide +kernel
theorem d_Row_wholeWorth_44 : decode b_Row_wholeWorth 44 = .ok (.iload_n 3, 1) := by decide +kernel
theorem d_Row_wholeWorth_45 : decode b_Row_wholeWorth 45 = .ok (.iload 4, 2) := by decide +kernel
theorem d_Row_wholeWorth_47 : decode b_Row_wholeWorth 47 = .ok (.invokevirtual 69, 3) := by decide +kernel
theorem d_Row_wholeWorth_50 : decode b_Row_wholeWorth 50 = .ok (.ifCond .eq 16, 3) := by decide +kernel
theorem d_Row_wholeWorth_53 : decode b_Row_wholeWorth 53 = .ok (.lload_n 1, 1) := by decide +kernel
theorem d_Row_wholeWorth_54 : decode b_Row_wholeWorth 54 = .ok (.aload_n 0, 1) := by decide +kernel
theorem d_Row_wholeWorth_55 : decode b_Row_wholeWorth 55 = .ok (.getfield 15, 3) := by decide +kernel
theorem d_Row_wholeWorth_58 : decode b_Row_wholeWorth 58 = .ok (.iload_n 3, 1) := by decide +kernel
theorem d_Row_wholeWorth_59 : decode b_Row_wholeWorth 59 = .ok (.iload 4, 2) := by decide +kernel
theorem d_Row_wholeWorth_61 : decode b_Row_wholeWorth 61 = .ok (.invokevirtual 73, 3) := by decide +kernel
theorem d_Row_wholeWorth_64 : decode b_Row_wholeWorth 64 = .ok (.ladd, 1) := by decide +kernel
theorem d_Row_wholeWorth_65 : decode b_Row_wholeWorth 65 = .ok (.lstore_n 1, 1) := by decide +kernel
theorem d_Row_wholeWorth_66 : decode b_Row_wholeWorth 66 = .ok (.iinc 4 1, 3) := by decide +kernel
theorem d_Row_wholeWorth_69 : decode b_Row_wholeWorth 69 = .ok (.goto (-38), 3) := by decide +kernel
theorem d_Row_wholeWorth_72 : decode b_Row_wholeWorth 72 = .ok (.iinc 3 1, 3) := by decide +kernel
theorem d_Row_wholeWorth_75 : decode b_Row_wholeWorth 75 = .ok (.goto (-60), 3) := by decide +kernel
theorem d_Row_wholeWorth_78 : decode b_Row_wholeWorth 78 = .ok (.lload_n 1, 1) := by decide +kernel
theorem d_Row_wholeWorth_79 : decode b_Row_wholeWorth 79 = .ok (.lreturn, 1) := by decide +kernel
theorem d_Row_isPut_0 : decode b_Row_isPut 0 = .ok (.aload_n 0, 1) := by decide +kernel
theorem d_Row_isPut_1 : decode b_Row_isPut 1 = .ok (.getfield 23, 3) := by decide +kernel
theorem d_Row_isPut_4 : decode b_Row_isPut 4 = .ok (.iload_n 1, 1) := by decide +kernel
theorem d_Row_isPut_5 : decode b_Row_isPut 5 = .ok (.iaload, 1) := by decide +kernel
theorem d_Row_isPut_6 : decode b_Row_isPut 6 = .ok (.bipush (-101), 2) := by decide +kernel
theorem d_Row_isPut_8 : decode b_Row_isPut 8 = .ok (.if_icmp .eq 7, 3) := by decide +kernel
theorem d_Row_isPut_11 : decode b_Row_isPut 11 = .ok (.iconst 1, 1) := by decide +kernel
theorem d_Row_isPut_12 : decode b_Row_isPut 12 = .ok (.goto 4, 3) := by decide +kernel
theorem d_Row_isPut_15 : decode b_Row_isPut 15 = .ok (.iconst 0, 1) := by decide +kernel
theorem d_Row_isPut_16 : decode b_Row_isPut 16 = .ok (.ireturn, 1) := by decide +kernel
theorem d_Row_putSet_0 : decode b_Row_putSet 0 = .ok (.iconst 0, 1) := by decide +kernel
theorem d_Row_putSet_1 : decode b_Row_putSet 1 = .ok (.istore_n 1, 1) := by decide +kernel
theorem d_Row_putSet_2 : decode b_Row_putSet 2 = .ok (.iconst 0, 1) := by decide +kernel
theorem d_Row_putSet_3 : decode b_Row_putSet 3 = .ok (.istore_n 2, 1) := by decide +kernel
theorem d_Row_putSet_4 : decode b_Row_putSet 4 = .ok (.iload_n 2, 1) := by decide +kernel
theorem d_Row_putSet_5 : decode b_Row_putSet 5 = .ok (.aload_n 0, 1) := by decide +kernel
theorem d_Row_putSet_6 : decode b_Row_putSet 6 = .ok (.getfield 15, 3) := by decide +kernel
theorem d_Row_putSet_9 : decode b_Row_putSet 9 = .ok (.getfield 66, 3) := by decide +kernel
theorem d_Row_putSet_12 : decode b_Row_putSet 12 = .ok (.if_icmp .ge 23, 3) := by decide +kernel
theorem d_Row_putSet_15 : decode b_Row_putSet 15 = .ok (.aload_n 0, 1) := by decide +kernel
theorem d_Row_putSet_16 : decode b_Row_putSet 16 = .ok (.iload_n 2, 1) := by decide +kernel
theorem d_Row_putSet_17 : decode b_Row_putSet 17 = .ok (.invokevirtual 77, 3) := by decide +kernel
theorem d_Row_putSet_20 : decode b_Row_putSet 20 = .ok (.ifCond .eq 9, 3) := by decide +kernel
theorem d_Row_putSet_23 : decode b_Row_putSet 23 = .ok (.iload_n 1, 1) := by decide +kernel
theorem d_Row_putSet_24 : decode b_Row_putSet 24 = .ok (.iconst 1, 1) := by decide +kernel
theorem d_Row_putSet_25 : decode b_Row_putSet 25 = .ok (.iload_n 2, 1) := by decide +kernel
theorem d_Row_putSet_26 : decode b_Row_putSet 26 = .ok (.ishl, 1) := by decide +kernel
theorem d_Row_putSet_27 : decode b_Row_putSet 27 = .ok (.ior, 1) := by decide +kernel
theorem d_Row_putSet_28 : decode b_Row_putSet 28 = .ok (.istore_n 1, 1) := by decide +kernel
theorem d_Row_putSet_29 : decode b_Row_putSet 29 = .ok (.iinc 2 1, 3) := by decide +kernel
theorem d_Row_putSet_32 : decode b_Row_putSet 32 = .ok (.goto (-28), 3) := by decide +kernel
theorem d_Row_putSet_35 : decode b_Row_putSet 35 = .ok (.iload_n 1, 1) := by decide +kernel
theorem d_Row_putSet_36 : decode b_Row_putSet 36 = .ok (.ireturn, 1) := by decide +kernel
theorem d_Row_endOf_0 : decode b_Row_endOf 0 = .ok (.aload_n 0, 1) := by decide +kernel
theorem d_Row_endOf_1 : decode b_Row_endOf 1 = .ok (.getfield 23, 3) := by decide +kernel
theorem d_Row_endOf_4 : decode b_Row_endOf 4 = .ok (.iload_n 1, 1) := by decide +kernel
theorem d_Row_endOf_5 : decode b_Row_endOf 5 = .ok (.iaload, 1) := by decide +kernel
theorem d_Row_endOf_6 : decode b_Row_endOf 6 = .ok (.aload_n 0, 1) := by decide +kernel
theorem d_Row_endOf_7 : decode b_Row_endOf 7 = .ok (.getfield 15, 3) := by decide +kernel
theorem d_Row_endOf_10 : decode b_Row_endOf 10 = .ok (.getfield 81, 3) := by decide +kernel
theorem d_Row_endOf_13 : decode b_Row_endOf 13 = .ok (.iload_n 1, 1) := by decide +kernel
theorem d_Row_endOf_14 : decode b_Row_endOf 14 = .ok (.iaload, 1) := by decide +kernel
theorem d_Row_endOf_15 : decode b_Row_endOf 15 = .ok (.iadd, 1) := by decide +kernel
theorem d_Row_endOf_16 : decode b_Row_endOf 16 = .ok (.ireturn, 1) := by decide +kernel
theorem d_Row_doTouch_0 : decode b_Row_doTouch 0 = .ok (.aload_n 0, 1) := by decide +kernel
theorem d_Row_doTouch_1 : decode b_Row_doTouch 1 = .ok (.iload_n 1, 1) := by decide +kernel
theorem d_Row_doTouch_2 : decode b_Row_doTouch 2 = .ok (.invokevirtual 77, 3) := by decide +kernel
theorem d_Row_doTouch_5 : decode b_Row_doTouch 5 = .ok (.ifCond .eq 43, 3) := by decide +kernel
theorem d_Row_doTouch_8 : decode b_Row_doTouch 8 = .ok (.aload_n 0, 1) := by decide +kernel
theorem d_Row_doTouch_9 : decode b_Row_doTouch 9 = .ok (.iload_n 2, 1) := by decide +kernel
theorem d_Row_doTouch_10 : decode b_Row_doTouch 10 = .ok (.invokevirtual 77, 3) := by decide +kernel
theorem d_Row_doTouch_13 : decode b_Row_doTouch 13 = .ok (.ifCond .eq 35, 3) := by decide +kernel
theorem d_Row_doTouch_16 : decode b_Row_doTouch 16 = .ok (.aload_n 0, 1) := by decide +kernel
theorem d_Row_doTouch_17 : decode b_Row_doTouch 17 = .ok (.iload_n 1, 1) := by decide +kernel
theorem d_Row_doTouch_18 : decode b_Row_doTouch 18 = .ok (.invokevirtual 84, 3) := by decide +kernel
theorem d_Row_doTouch_21 : decode b_Row_doTouch 21 = .ok (.aload_n 0, 1) := by decide +kernel
theorem d_Row_doTouch_22 : decode b_Row_doTouch 22 = .ok (.getfield 23, 3) := by decide +kernel
theorem d_Row_doTouch_25 : decode b_Row_doTouch 25 = .ok (.iload_n 2, 1) := by decide +kernel
theorem d_Row_doTouch_26 : decode b_Row_doTouch 26 = .ok (.iaload, 1) := by decide +kernel
theorem d_Row_doTouch_27 : decode b_Row_doTouch 27 = .ok (.if_icmp .eq 17, 3) := by decide +kernel
theorem d_Row_doTouch_30 : decode b_Row_doTouch 30 = .ok (.aload_n 0, 1) := by decide +kernel
theorem d_Row_doTouch_31 : decode b_Row_doTouch 31 = .ok (.iload_n 2, 1) := by decide +kernel
theorem d_Row_doTouch_32 : decode b_Row_doTouch 32 = .ok (.invokevirtual 84, 3) := by decide +kernel
theorem d_Row_doTouch_35 : decode b_Row_doTouch 35 = .ok (.aload_n 0, 1) := by decide +kernel
theorem d_Row_doTouch_36 : decode b_Row_doTouch 36 = .ok (.getfield 23, 3) := by decide +kernel
theorem d_Row_doTouch_39 : decode b_Row_doTouch 39 = .ok (.iload_n 1, 1) := by decide +kernel
theorem d_Row_doTouch_40 : decode b_Row_doTouch 40 = .ok (.iaload, 1) := by decide +kernel
theorem d_Row_doTouch_41 : decode b_Row_doTouch 41 = .ok (.if_icmp .ne 7, 3) := by decide +kernel
theorem d_Row_doTouch_44 : decode b_Row_doTouch 44 = .ok (.iconst 1, 1) := by decide +kernel
theorem d_Row_doTouch_45 : decode b_Row_doTouch 45 = .ok (.goto 4, 3) := by decide +kernel
theorem d_Row_doTouch_48 : decode b_Row_doTouch 48 = .ok (.iconst 0, 1) := by decide +kernel
theorem d_Row_doTouch_49 : decode b_Row_doTouch 49 = .ok (.ireturn, 1) := by decide +kernel
theorem d_Row_doShare_0 : decode b_Row_doShare 0 = .ok (.aload_n 0, 1) := by decide +kernel
theorem d_Row_doShare_1 : decode b_Row_doShare 1 = .ok (.iload_n 1, 1) := by decide +kernel
theorem d_Row_doShare_2 : decode b_Row_doShare 2 = .ok (.invokevirtual 77, 3) := by decide +kernel
theorem d_Row_doShare_5 : decode b_Row_doShare 5 = .ok (.ifCond .eq 43, 3) := by decide +kernel
theorem d_Row_doShare_8 : decode b_Row_doShare 8 = .ok (.aload_n 0, 1) := by decide +kernel
theorem d_Row_doShare_9 : decode b_Row_doShare 9 = .ok (.iload_n 2, 1) := by decide +kernel
theorem d_Row_doShare_10 : decode b_Row_doShare 10 = .ok (.invokevirtual 77, 3) := by decide +kernel
theorem d_Row_doShare_13 : decode b_Row_doShare 13 = .ok (.ifCond .eq 35, 3) := by decide +kernel
theorem d_Row_doShare_16 : decode b_Row_doShare 16 = .ok (.aload_n 0, 1) := by decide +kernel
theorem d_Row_doShare_17 : decode b_Row_doShare 17 = .ok (.getfield 23, 3) := by decide +kernel
theorem d_Row_doShare_20 : decode b_Row_doShare 20 = .ok (.iload_n 1, 1) := by decide +kernel
theorem d_Row_doShare_21 : decode b_Row_doShare 21 = .ok (.iaload, 1) := by decide +kernel
theorem d_Row_doShare_22 : decode b_Row_doShare 22 = .ok (.aload_n 0, 1) := by decide +kernel
theorem d_Row_doShare_23 : decode b_Row_doShare 23 = .ok (.iload_n 2, 1) := by decide +kernel
theorem d_Row_doShare_24 : decode b_Row_doShare 24 = .ok (.invokevirtual 84, 3) := by decide +kernel
theorem d_Row_doShare_27 : decode b_Row_doShare 27 = .ok (.if_icmp .ge 21, 3) := by decide +kernel
theorem d_Row_doShare_30 : decode b_Row_doShare 30 = .ok (.aload_n 0, 1) := by decide +kernel
theorem d_Row_doShare_31 : decode b_Row_doShare 31 = .ok (.getfield 23, 3) := by decide +kernel
theorem d_Row_doShare_34 : decode b_Row_doShare 34 = .ok (.iload_n 2, 1) := by decide +kernel
theorem d_Row_doShare_35 : decode b_Row_doShare 35 = .ok (.iaload, 1) := by decide +kernel
theorem d_Row_doShare_36 : decode b_Row_doShare 36 = .ok (.aload_n 0, 1) := by decide +kernel
theorem d_Row_doShare_37 : decode b_Row_doShare 37 = .ok (.iload_n 1, 1) := by decide +kernel
theorem d_Row_doShare_38 : decode b_Row_doShare 38 = .ok (.invokevirtual 84, 3) := by decide +kernel
theorem d_Row_doShare_41 : decode b_Row_doShare 41 = .ok (.if_icmp .ge 7, 3) := by decide +kernel
theorem d_Row_doShare_44 : decode b_Row_doShare 44 = .ok (.iconst 1, 1) := by decide +kernel
theorem d_Row_doShare_45 : decode b_Row_doShare 45 = .ok (.goto 4, 3) := by decide +kernel
theorem d_Row_doShare_48 : decode b_Row_doShare 48 = .ok (.iconst 0, 1) := by decide +kernel
theorem d_Row_doShare_49 : decode b_Row_doShare 49 = .ok (.ireturn, 1) := by decide +kernel
theorem d_Row_covers_0 : decode b_Row_covers 0 = .ok (.aload_n 0, 1) := by decide +kernel
theorem d_Row_covers_1 : decode b_Row_covers 1 = .ok (.iload_n 1, 1) := by decide +kernel
theorem d_Row_covers_2 : decode b_Row_covers 2 = .ok (.invokevirtual 77, 3) := by decide +kernel
theorem d_Row_covers_5 : decode b_Row_covers 5 = .ok (.ifCond .eq 26, 3) := by decide +kernel
theorem d_Row_covers_8 : decode b_Row_covers 8 = .ok (.iload_n 2, 1) := by decide +kernel
theorem d_Row_covers_9 : decode b_Row_covers 9 = .ok (.aload_n 0, 1) := by decide +kernel
theorem d_Row_covers_10 : decode b_Row_covers 10 = .ok (.getfield 23, 3) := by decide +kernel
theorem d_Row_covers_13 : decode b_Row_covers 13 = .ok (.iload_n 1, 1) := by decide +kernel
theorem d_Row_covers_14 : decode b_Row_covers 14 = .ok (.iaload, 1) := by decide +kernel
theorem d_Row_covers_15 : decode b_Row_covers 15 = .ok (.if_icmp .lt 16, 3) := by decide +kernel
theorem d_Row_covers_18 : decode b_Row_covers 18 = .ok (.iload_n 2, 1) := by decide +kernel
theorem d_Row_covers_19 : decode b_Row_covers 19 = .ok (.aload_n 0, 1) := by decide +kernel
theorem d_Row_covers_20 : decode b_Row_covers 20 = .ok (.iload_n 1, 1) := by decide +kernel
theorem d_Row_covers_21 : decode b_Row_covers 21 = .ok (.invokevirtual 84, 3) := by decide +kernel
theorem d_Row_covers_24 : decode b_Row_covers 24 = .ok (.if_icmp .ge 7, 3) := by decide +kernel
theorem d_Row_covers_27 : decode b_Row_covers 27 = .ok (.iconst 1, 1) := by decide +kernel
theorem d_Row_covers_28 : decode b_Row_covers 28 = .ok (.goto 4, 3) := by decide +kernel
theorem d_Row_covers_31 : decode b_Row_covers 31 = .ok (.iconst 0, 1) := by decide +kernel
theorem d_Row_covers_32 : decode b_Row_covers 32 = .ok (.ireturn, 1) := by decide +kernel
theorem d_Row_isCovered_0 : decode b_Row_isCovered 0 = .ok (.iconst 0, 1) := by decide +kernel
theorem d_Row_isCovered_1 : decode b_Row_isCovered 1 = .ok (.istore_n 2, 1) := by decide +kernel
theorem d_Row_isCovered_2 : decode b_Row_isCovered 2 = .ok (.iload_n 2, 1) := by decide +kernel
theorem d_Row_isCovered_3 : decode b_Row_isCovered 3 = .ok (.aload_n 0, 1) := by decide +kernel
theorem d_Row_isCovered_4 : decode b_Row_isCovered 4 = .ok (.getfield 15, 3) := by decide +kernel
theorem d_Row_isCovered_7 : decode b_Row_isCovered 7 = .ok (.getfield 66, 3) := by decide +kernel
theorem d_Row_isCovered_10 : decode b_Row_isCovered 10 = .ok (.if_icmp .ge 20, 3) := by decide +kernel
theorem d_Row_isCovered_13 : decode b_Row_isCovered 13 = .ok (.aload_n 0, 1) := by decide +kernel
theorem d_Row_isCovered_14 : decode b_Row_isCovered 14 = .ok (.iload_n 2, 1) := by decide +kernel
theorem d_Row_isCovered_15 : decode b_Row_isCovered 15 = .ok (.iload_n 1, 1) := by decide +kernel
theorem d_Row_isCovered_16 : decode b_Row_isCovered 16 = .ok (.invokevirtual 88, 3) := by decide +kernel
theorem d_Row_isCovered_19 : decode b_Row_isCovered 19 = .ok (.ifCond .eq 5, 3) := by decide +kernel
theorem d_Row_isCovered_22 : decode b_Row_isCovered 22 = .ok (.iconst 1, 1) := by decide +kernel
theorem d_Row_isCovered_23 : decode b_Row_isCovered 23 = .ok (.ireturn, 1) := by decide +kernel
theorem d_Row_isCovered_24 : decode b_Row_isCovered 24 = .ok (.iinc 2 1, 3) := by decide +kernel
theorem d_Row_isCovered_27 : decode b_Row_isCovered 27 = .ok (.goto (-25), 3) := by decide +kernel
theorem d_Row_isCovered_30 : decode b_Row_isCovered 30 = .ok (.iconst 0, 1) := by decide +kernel
theorem d_Row_isCovered_31 : decode b_Row_isCovered 31 = .ok (.ireturn, 1) := by decide +kernel
theorem d_Row_someIsOffTheWall_0 : decode b_Row_someIsOffTheWall 0 = .ok (.iconst 0, 1) := by decide +kernel
theorem d_Row_someIsOffTheWall_1 : decode b_Row_someIsOffTheWall 1 = .ok (.istore_n 1, 1) := by decide +kernel
theorem d_Row_someIsOffTheWall_2 : decode b_Row_someIsOffTheWall 2 = .ok (.iload_n 1, 1) := by decide +kernel
theorem d_Row_someIsOffTheWall_3 : decode b_Row_someIsOffTheWall 3 = .ok (.aload_n 0, 1) := by decide +kernel
theorem d_Row_someIsOffTheWall_4 : decode b_Row_someIsOffTheWall 4 = .ok (.getfield 15, 3) := by decide +kernel
theorem d_Row_someIsOffTheWall_7 : decode b_Row_someIsOffTheWall 7 = .ok (.getfield 66, 3) := by decide +kernel
theorem d_Row_someIsOffTheWall_10 : decode b_Row_someIsOffTheWall 10 = .ok (.if_icmp .ge 44, 3) := by decide +kernel
theorem d_Row_someIsOffTheWall_13 : decode b_Row_someIsOffTheWall 13 = .ok (.aload_n 0, 1) := by decide +kernel
theorem d_Row_someIsOffTheWall_14 : decode b_Row_someIsOffTheWall 14 = .ok (.iload_n 1, 1) := by decide +kernel
theorem d_Row_someIsOffTheWall_15 : decode b_Row_someIsOffTheWall 15 = .ok (.invokevirtual 77, 3) := by decide +kernel
theorem d_Row_someIsOffTheWall_18 : decode b_Row_someIsOffTheWall 18 = .ok (.ifCond .eq 30, 3) := by decide +kernel
theorem d_Row_someIsOffTheWall_21 : decode b_Row_someIsOffTheWall 21 = .ok (.aload_n 0, 1) := by decide +kernel
theorem d_Row_someIsOffTheWall_22 : decode b_Row_someIsOffTheWall 22 = .ok (.getfield 9, 3) := by decide +kernel
theorem d_Row_someIsOffTheWall_25 : decode b_Row_someIsOffTheWall 25 = .ok (.aload_n 0, 1) := by decide +kernel
theorem d_Row_someIsOffTheWall_26 : decode b_Row_someIsOffTheWall 26 = .ok (.getfield 23, 3) := by decide +kernel
theorem d_Row_someIsOffTheWall_29 : decode b_Row_someIsOffTheWall 29 = .ok (.iload_n 1, 1) := by decide +kernel
theorem d_Row_someIsOffTheWall_30 : decode b_Row_someIsOffTheWall 30 = .ok (.iaload, 1) := by decide +kernel
theorem d_Row_someIsOffTheWall_31 : decode b_Row_someIsOffTheWall 31 = .ok (.aload_n 0, 1) := by decide +kernel
theorem d_Row_someIsOffTheWall_32 : decode b_Row_someIsOffTheWall 32 = .ok (.getfield 15, 3) := by decide +kernel
theorem d_Row_someIsOffTheWall_35 : decode b_Row_someIsOffTheWall 35 = .ok (.getfield 81, 3) := by decide +kernel
theorem d_Row_someIsOffTheWall_38 : decode b_Row_someIsOffTheWall 38 = .ok (.iload_n 1, 1) := by decide +kernel
theorem d_Row_someIsOffTheWall_39 : decode b_Row_someIsOffTheWall 39 = .ok (.iaload, 1) := by decide +kernel
theorem d_Row_someIsOffTheWall_40 : decode b_Row_someIsOffTheWall 40 = .ok (.invokevirtual 91, 3) := by decide +kernel
theorem d_Row_someIsOffTheWall_43 : decode b_Row_someIsOffTheWall 43 = .ok (.ifCond .ne 5, 3) := by decide +kernel
theorem d_Row_someIsOffTheWall_46 : decode b_Row_someIsOffTheWall 46 = .ok (.iconst 1, 1) := by decide +kernel
theorem d_Row_someIsOffTheWall_47 : decode b_Row_someIsOffTheWall 47 = .ok (.ireturn, 1) := by decide +kernel
theorem d_Row_someIsOffTheWall_48 : decode b_Row_someIsOffTheWall 48 = .ok (.iinc 1 1, 3) := by decide +kernel
theorem d_Row_someIsOffTheWall_51 : decode b_Row_someIsOffTheWall 51 = .ok (.goto (-49), 3) := by decide +kernel
theorem d_Row_someIsOffTheWall_54 : decode b_Row_someIsOffTheWall 54 = .ok (.iconst 0, 1) := by decide +kernel
theorem d_Row_someIsOffTheWall_55 : decode b_Row_someIsOffTheWall 55 = .ok (.ireturn, 1) := by decide +kernel
theorem d_Row_someShareAStep_0 : decode b_Row_someShareAStep 0 = .ok (.iconst 0, 1) := by decide +kernel
theorem d_Row_someShareAStep_1 : decode b_Row_someShareAStep 1 = .ok (.istore_n 1, 1) := by decide +kernel
theorem d_Row_someShareAStep_2 : decode b_Row_someShareAStep 2 = .ok (.iload_n 1, 1) := by decide +kernel
theorem d_Row_someShareAStep_3 : decode b_Row_someShareAStep 3 = .ok (.aload_n 0, 1) := by decide +kernel
theorem d_Row_someShareAStep_4 : decode b_Row_someShareAStep 4 = .ok (.getfield 15, 3) := by decide +kernel
theorem d_Row_someShareAStep_7 : decode b_Row_someShareAStep 7 = .ok (.getfield 66, 3) := by decide +kernel
theorem d_Row_someShareAStep_10 : decode b_Row_someShareAStep 10 = .ok (.if_icmp .ge 41, 3) := by decide +kernel
theorem d_Row_someShareAStep_13 : decode b_Row_someShareAStep 13 = .ok (.iload_n 1, 1) := by decide +kernel
theorem d_Row_someShareAStep_14 : decode b_Row_someShareAStep 14 = .ok (.iconst 1, 1) := by decide +kernel
theorem d_Row_someShareAStep_15 : decode b_Row_someShareAStep 15 = .ok (.iadd, 1) := by decide +kernel
theorem d_Row_someShareAStep_16 : decode b_Row_someShareAStep 16 = .ok (.istore_n 2, 1) := by decide +kernel
theorem d_Row_someShareAStep_17 : decode b_Row_someShareAStep 17 = .ok (.iload_n 2, 1) := by decide +kernel
theorem d_Row_someShareAStep_18 : decode b_Row_someShareAStep 18 = .ok (.aload_n 0, 1) := by decide +kernel
theorem d_Row_someShareAStep_19 : decode b_Row_someShareAStep 19 = .ok (.getfield 15, 3) := by decide +kernel
theorem d_Row_someShareAStep_22 : decode b_Row_someShareAStep 22 = .ok (.getfield 66, 3) := by decide +kernel
theorem d_Row_someShareAStep_25 : decode b_Row_someShareAStep 25 = .ok (.if_icmp .ge 20, 3) := by decide +kernel
theorem d_Row_someShareAStep_28 : decode b_Row_someShareAStep 28 = .ok (.aload_n 0, 1) := by decide +kernel
theorem d_Row_someShareAStep_29 : decode b_Row_someShareAStep 29 = .ok (.iload_n 1, 1) := by decide +kernel
theorem d_Row_someShareAStep_30 : decode b_Row_someShareAStep 30 = .ok (.iload_n 2, 1) := by decide +kernel
theorem d_Row_someShareAStep_31 : decode b_Row_someShareAStep 31 = .ok (.invokevirtual 96, 3) := by decide +kernel
theorem d_Row_someShareAStep_34 : decode b_Row_someShareAStep 34 = .ok (.ifCond .eq 5, 3) := by decide +kernel
theorem d_Row_someShareAStep_37 : decode b_Row_someShareAStep 37 = .ok (.iconst 1, 1) := by decide +kernel
theorem d_Row_someShareAStep_38 : decode b_Row_someShareAStep 38 = .ok (.ireturn, 1) := by decide +kernel
theorem d_Row_someShareAStep_39 : decode b_Row_someShareAStep 39 = .ok (.iinc 2 1, 3) := by decide +kernel
theorem d_Row_someShareAStep_42 : decode b_Row_someShareAStep 42 = .ok (.goto (-25), 3) := by decide +kernel
theorem d_Row_someShareAStep_45 : decode b_Row_someShareAStep 45 = .ok (.iinc 1 1, 3) := by decide +kernel
theorem d_Row_someShareAStep_48 : decode b_Row_someShareAStep 48 = .ok (.goto (-46), 3) := by decide +kernel
theorem d_Row_someShareAStep_51 : decode b_Row_someShareAStep 51 = .ok (.iconst 0, 1) := by decide +kernel
theorem d_Row_someShareAStep_52 : decode b_Row_someShareAStep 52 = .ok (.ireturn, 1) := by decide +kernel
theorem d_Row_someIsOnAFreeStep_0 : decode b_Row_someIsOnAFreeStep 0 = .ok (.iconst 0, 1) := by decide +kernel
theorem d_Row_someIsOnAFreeStep_1 : decode b_Row_someIsOnAFreeStep 1 = .ok (.istore_n 1, 1) := by decide +kernel
theorem d_Row_someIsOnAFreeStep_2 : decode b_Row_someIsOnAFreeStep 2 = .ok (.iload_n 1, 1) := by decide +kernel
theorem d_Row_someIsOnAFreeStep_3 : decode b_Row_someIsOnAFreeStep 3 = .ok (.aload_n 0, 1) := by decide +kernel
theorem d_Row_someIsOnAFreeStep_4 : decode b_Row_someIsOnAFreeStep 4 = .ok (.getfield 9, 3) := by decide +kernel
theorem d_Row_someIsOnAFreeStep_7 : decode b_Row_someIsOnAFreeStep 7 = .ok (.getfield 99, 3) := by decide +kernel
theorem d_Row_someIsOnAFreeStep_10 : decode b_Row_someIsOnAFreeStep 10 = .ok (.if_icmp .ge 31, 3) := by decide +kernel
theorem d_Row_someIsOnAFreeStep_13 : decode b_Row_someIsOnAFreeStep 13 = .ok (.aload_n 0, 1) := by decide +kernel
theorem d_Row_someIsOnAFreeStep_14 : decode b_Row_someIsOnAFreeStep 14 = .ok (.getfield 9, 3) := by decide +kernel
theorem d_Row_someIsOnAFreeStep_17 : decode b_Row_someIsOnAFreeStep 17 = .ok (.getfield 102, 3) := by decide +kernel
theorem d_Row_someIsOnAFreeStep_20 : decode b_Row_someIsOnAFreeStep 20 = .ok (.iload_n 1, 1) := by decide +kernel
theorem d_Row_someIsOnAFreeStep_21 : decode b_Row_someIsOnAFreeStep 21 = .ok (.baload, 1) := by decide +kernel
theorem d_Row_someIsOnAFreeStep_22 : decode b_Row_someIsOnAFreeStep 22 = .ok (.ifCond .eq 13, 3) := by decide +kernel
theorem d_Row_someIsOnAFreeStep_25 : decode b_Row_someIsOnAFreeStep 25 = .ok (.aload_n 0, 1) := by decide +kernel
theorem d_Row_someIsOnAFreeStep_26 : decode b_Row_someIsOnAFreeStep 26 = .ok (.iload_n 1, 1) := by decide +kernel
theorem d_Row_someIsOnAFreeStep_27 : decode b_Row_someIsOnAFreeStep 27 = .ok (.invokevirtual 106, 3) := by decide +kernel
theorem d_Row_someIsOnAFreeStep_30 : decode b_Row_someIsOnAFreeStep 30 = .ok (.ifCond .eq 5, 3) := by decide +kernel
theorem d_Row_someIsOnAFreeStep_33 : decode b_Row_someIsOnAFreeStep 33 = .ok (.iconst 1, 1) := by decide +kernel
theorem d_Row_someIsOnAFreeStep_34 : decode b_Row_someIsOnAFreeStep 34 = .ok (.ireturn, 1) := by decide +kernel
theorem d_Row_someIsOnAFreeStep_35 : decode b_Row_someIsOnAFreeStep 35 = .ok (.iinc 1 1, 3) := by decide +kernel
theorem d_Row_someIsOnAFreeStep_38 : decode b_Row_someIsOnAFreeStep 38 = .ok (.goto (-36), 3) := by decide +kernel
theorem d_Row_someIsOnAFreeStep_41 : decode b_Row_someIsOnAFreeStep 41 = .ok (.iconst 0, 1) := by decide +kernel
theorem d_Row_someIsOnAFreeStep_42 : decode b_Row_someIsOnAFreeStep 42 = .ok (.ireturn, 1) := by decide +kernel
theorem d_Row_someNeedIsNotMet_0 : decode b_Row_someNeedIsNotMet 0 = .ok (.iconst 0, 1) := by decide +kernel
theorem d_Row_someNeedIsNotMet_1 : decode b_Row_someNeedIsNotMet 1 = .ok (.istore_n 1, 1) := by decide +kernel
theorem d_Row_someNeedIsNotMet_2 : decode b_Row_someNeedIsNotMet 2 = .ok (.iload_n 1, 1) := by decide +kernel
theorem d_Row_someNeedIsNotMet_3 : decode b_Row_someNeedIsNotMet 3 = .ok (.aload_n 0, 1) := by decide +kernel
theorem d_Row_someNeedIsNotMet_4 : decode b_Row_someNeedIsNotMet 4 = .ok (.getfield 15, 3) := by decide +kernel
theorem d_Row_someNeedIsNotMet_7 : decode b_Row_someNeedIsNotMet 7 = .ok (.getfield 66, 3) := by decide +kernel
theorem d_Row_someNeedIsNotMet_10 : decode b_Row_someNeedIsNotMet 10 = .ok (.if_icmp .ge 40, 3) := by decide +kernel
theorem d_Row_someNeedIsNotMet_13 : decode b_Row_someNeedIsNotMet 13 = .ok (.aload_n 0, 1) := by decide +kernel
theorem d_Row_someNeedIsNotMet_14 : decode b_Row_someNeedIsNotMet 14 = .ok (.iload_n 1, 1) := by decide +kernel
theorem d_Row_someNeedIsNotMet_15 : decode b_Row_someNeedIsNotMet 15 = .ok (.invokevirtual 77, 3) := by decide +kernel
theorem d_Row_someNeedIsNotMet_18 : decode b_Row_someNeedIsNotMet 18 = .ok (.ifCond .eq 26, 3) := by decide +kernel
theorem d_Row_someNeedIsNotMet_21 : decode b_Row_someNeedIsNotMet 21 = .ok (.aload_n 0, 1) := by decide +kernel
theorem d_Row_someNeedIsNotMet_22 : decode b_Row_someNeedIsNotMet 22 = .ok (.getfield 15, 3) := by decide +kernel
theorem d_Row_someNeedIsNotMet_25 : decode b_Row_someNeedIsNotMet 25 = .ok (.iload_n 1, 1) := by decide +kernel
theorem d_Row_someNeedIsNotMet_26 : decode b_Row_someNeedIsNotMet 26 = .ok (.aload_n 0, 1) := by decide +kernel
theorem d_Row_someNeedIsNotMet_27 : decode b_Row_someNeedIsNotMet 27 = .ok (.getfield 23, 3) := by decide +kernel
theorem d_Row_someNeedIsNotMet_30 : decode b_Row_someNeedIsNotMet 30 = .ok (.iload_n 1, 1) := by decide +kernel
theorem d_Row_someNeedIsNotMet_31 : decode b_Row_someNeedIsNotMet 31 = .ok (.iaload, 1) := by decide +kernel
theorem d_Row_someNeedIsNotMet_32 : decode b_Row_someNeedIsNotMet 32 = .ok (.aload_n 0, 1) := by decide +kernel
theorem d_Row_someNeedIsNotMet_33 : decode b_Row_someNeedIsNotMet 33 = .ok (.getfield 9, 3) := by decide +kernel
theorem d_Row_someNeedIsNotMet_36 : decode b_Row_someNeedIsNotMet 36 = .ok (.invokevirtual 109, 3) := by decide +kernel
theorem d_Row_someNeedIsNotMet_39 : decode b_Row_someNeedIsNotMet 39 = .ok (.ifCond .ne 5, 3) := by decide +kernel
theorem d_Row_someNeedIsNotMet_42 : decode b_Row_someNeedIsNotMet 42 = .ok (.iconst 1, 1) := by decide +kernel
theorem d_Row_someNeedIsNotMet_43 : decode b_Row_someNeedIsNotMet 43 = .ok (.ireturn, 1) := by decide +kernel
theorem d_Row_someNeedIsNotMet_44 : decode b_Row_someNeedIsNotMet 44 = .ok (.iinc 1 1, 3) := by decide +kernel
theorem d_Row_someNeedIsNotMet_47 : decode b_Row_someNeedIsNotMet 47 = .ok (.goto (-45), 3) := by decide +kernel
theorem d_Row_someNeedIsNotMet_50 : decode b_Row_someNeedIsNotMet 50 = .ok (.iconst 0, 1) := by decide +kernel
theorem d_Row_someNeedIsNotMet_51 : decode b_Row_someNeedIsNotMet 51 = .ok (.ireturn, 1) := by decide +kernel
theorem d_Row_someBarredTouch_0 : decode b_Row_someBarredTouch 0 = .ok (.iconst 0, 1) := by decide +kernel
theorem d_Row_someBarredTouch_1 : decode b_Row_someBarredTouch 1 = .ok (.istore_n 1, 1) := by decide +kernel
theorem d_Row_someBarredTouch_2 : decode b_Row_someBarredTouch 2 = .ok (.iload_n 1, 1) := by decide +kernel
theorem d_Row_someBarredTouch_3 : decode b_Row_someBarredTouch 3 = .ok (.aload_n 0, 1) := by decide +kernel
theorem d_Row_someBarredTouch_4 : decode b_Row_someBarredTouch 4 = .ok (.getfield 15, 3) := by decide +kernel
theorem d_Row_someBarredTouch_7 : decode b_Row_someBarredTouch 7 = .ok (.getfield 66, 3) := by decide +kernel
theorem d_Row_someBarredTouch_10 : decode b_Row_someBarredTouch 10 = .ok (.if_icmp .ge 53, 3) := by decide +kernel
theorem d_Row_someBarredTouch_13 : decode b_Row_someBarredTouch 13 = .ok (.iload_n 1, 1) := by decide +kernel
theorem d_Row_someBarredTouch_14 : decode b_Row_someBarredTouch 14 = .ok (.iconst 1, 1) := by decide +kernel
theorem d_Row_someBarredTouch_15 : decode b_Row_someBarredTouch 15 = .ok (.iadd, 1) := by decide +kernel
theorem d_Row_someBarredTouch_16 : decode b_Row_someBarredTouch 16 = .ok (.istore_n 2, 1) := by decide +kernel
theorem d_Row_someBarredTouch_17 : decode b_Row_someBarredTouch 17 = .ok (.iload_n 2, 1) := by decide +kernel
theorem d_Row_someBarredTouch_18 : decode b_Row_someBarredTouch 18 = .ok (.aload_n 0, 1) := by decide +kernel
theorem d_Row_someBarredTouch_19 : decode b_Row_someBarredTouch 19 = .ok (.getfield 15, 3) := by decide +kernel
theorem d_Row_someBarredTouch_22 : decode b_Row_someBarredTouch 22 = .ok (.getfield 66, 3) := by decide +kernel
theorem d_Row_someBarredTouch_25 : decode b_Row_someBarredTouch 25 = .ok (.if_icmp .ge 32, 3) := by decide +kernel
theorem d_Row_someBarredTouch_28 : decode b_Row_someBarredTouch 28 = .ok (.aload_n 0, 1) := by decide +kernel
theorem d_Row_someBarredTouch_29 : decode b_Row_someBarredTouch 29 = .ok (.getfield 15, 3) := by decide +kernel
theorem d_Row_someBarredTouch_32 : decode b_Row_someBarredTouch 32 = .ok (.iload_n 1, 1) := by decide +kernel
theorem d_Row_someBarredTouch_33 : decode b_Row_someBarredTouch 33 = .ok (.iload_n 2, 1) := by decide +kernel
theorem d_Row_someBarredTouch_34 : decode b_Row_someBarredTouch 34 = .ok (.invokevirtual 113, 3) := by decide +kernel
theorem d_Row_someBarredTouch_37 : decode b_Row_someBarredTouch 37 = .ok (.ifCond .eq 14, 3) := by decide +kernel
theorem d_Row_someBarredTouch_40 : decode b_Row_someBarredTouch 40 = .ok (.aload_n 0, 1) := by decide +kernel
theorem d_Row_someBarredTouch_41 : decode b_Row_someBarredTouch 41 = .ok (.iload_n 1, 1) := by decide +kernel
theorem d_Row_someBarredTouch_42 : decode b_Row_someBarredTouch 42 = .ok (.iload_n 2, 1) := by decide +kernel
theorem d_Row_someBarredTouch_43 : decode b_Row_someBarredTouch 43 = .ok (.invokevirtual 69, 3) := by decide +kernel
theorem d_Row_someBarredTouch_46 : decode b_Row_someBarredTouch 46 = .ok (.ifCond .eq 5, 3) := by decide +kernel
theorem d_Row_someBarredTouch_49 : decode b_Row_someBarredTouch 49 = .ok (.iconst 1, 1) := by decide +kernel
theorem d_Row_someBarredTouch_50 : decode b_Row_someBarredTouch 50 = .ok (.ireturn, 1) := by decide +kernel
theorem d_Row_someBarredTouch_51 : decode b_Row_someBarredTouch 51 = .ok (.iinc 2 1, 3) := by decide +kernel
theorem d_Row_someBarredTouch_54 : decode b_Row_someBarredTouch 54 = .ok (.goto (-37), 3) := by decide +kernel
theorem d_Row_someBarredTouch_57 : decode b_Row_someBarredTouch 57 = .ok (.iinc 1 1, 3) := by decide +kernel
theorem d_Row_someBarredTouch_60 : decode b_Row_someBarredTouch 60 = .ok (.goto (-58), 3) := by decide +kernel
theorem d_Row_someBarredTouch_63 : decode b_Row_someBarredTouch 63 = .ok (.iconst 0, 1) := by decide +kernel
theorem d_Row_someBarredTouch_64 : decode b_Row_someBarredTouch 64 = .ok (.ireturn, 1) := by decide +kernel
theorem d_Row_someGapIsNoFiller_0 : decode b_Row_someGapIsNoFiller 0 = .ok (.iconst 0, 1) := by decide +kernel
theorem d_Row_someGapIsNoFiller_1 : decode b_Row_someGapIsNoFiller 1 = .ok (.istore_n 1, 1) := by decide +kernel
theorem d_Row_someGapIsNoFiller_2 : decode b_Row_someGapIsNoFiller 2 = .ok (.iconst 0, 1) := by decide +kernel
theorem d_Row_someGapIsNoFiller_3 : decode b_Row_someGapIsNoFiller 3 = .ok (.istore_n 2, 1) := by decide +kernel
theorem d_Row_someGapIsNoFiller_4 : decode b_Row_someGapIsNoFiller 4 = .ok (.iload_n 2, 1) := by decide +kernel
theorem d_Row_someGapIsNoFiller_5 : decode b_Row_someGapIsNoFiller 5 = .ok (.aload_n 0, 1) := by decide +kernel
theorem d_Row_someGapIsNoFiller_6 : decode b_Row_someGapIsNoFiller 6 = .ok (.getfield 9, 3) := by decide +kernel
theorem d_Row_someGapIsNoFiller_9 : decode b_Row_someGapIsNoFiller 9 = .ok (.getfield 99, 3) := by decide +kernel
theorem d_Row_someGapIsNoFiller_12 : decode b_Row_someGapIsNoFiller 12 = .ok (.if_icmp .ge 54, 3) := by decide +kernel
theorem d_Row_someGapIsNoFiller_15 : decode b_Row_someGapIsNoFiller 15 = .ok (.aload_n 0, 1) := by decide +kernel
theorem d_Row_someGapIsNoFiller_16 : decode b_Row_someGapIsNoFiller 16 = .ok (.getfield 9, 3) := by decide +kernel
theorem d_Row_someGapIsNoFiller_19 : decode b_Row_someGapIsNoFiller 19 = .ok (.getfield 102, 3) := by decide +kernel
theorem d_Row_someGapIsNoFiller_22 : decode b_Row_someGapIsNoFiller 22 = .ok (.iload_n 2, 1) := by decide +kernel
theorem d_Row_someGapIsNoFiller_23 : decode b_Row_someGapIsNoFiller 23 = .ok (.baload, 1) := by decide +kernel
theorem d_Row_someGapIsNoFiller_24 : decode b_Row_someGapIsNoFiller 24 = .ok (.ifCond .ne 17, 3) := by decide +kernel
theorem d_Row_someGapIsNoFiller_27 : decode b_Row_someGapIsNoFiller 27 = .ok (.aload_n 0, 1) := by decide +kernel
theorem d_Row_someGapIsNoFiller_28 : decode b_Row_someGapIsNoFiller 28 = .ok (.iload_n 2, 1) := by decide +kernel
theorem d_Row_someGapIsNoFiller_29 : decode b_Row_someGapIsNoFiller 29 = .ok (.invokevirtual 106, 3) := by decide +kernel
theorem d_Row_someGapIsNoFiller_32 : decode b_Row_someGapIsNoFiller 32 = .ok (.ifCond .ne 9, 3) := by decide +kernel
theorem d_Row_someGapIsNoFiller_35 : decode b_Row_someGapIsNoFiller 35 = .ok (.iinc 1 1, 3) := by decide +kernel
theorem d_Row_someGapIsNoFiller_38 : decode b_Row_someGapIsNoFiller 38 = .ok (.goto 22, 3) := by decide +kernel
theorem d_Row_someGapIsNoFiller_41 : decode b_Row_someGapIsNoFiller 41 = .ok (.iload_n 1, 1) := by decide +kernel
theorem d_Row_someGapIsNoFiller_42 : decode b_Row_someGapIsNoFiller 42 = .ok (.ifCond .le 16, 3) := by decide +kernel
theorem d_Row_someGapIsNoFiller_45 : decode b_Row_someGapIsNoFiller 45 = .ok (.aload_n 0, 1) := by decide +kernel
theorem d_Row_someGapIsNoFiller_46 : decode b_Row_someGapIsNoFiller 46 = .ok (.getfield 19, 3) := by decide +kernel
theorem d_Row_someGapIsNoFiller_49 : decode b_Row_someGapIsNoFiller 49 = .ok (.iload_n 1, 1) := by decide +kernel
theorem d_Row_someGapIsNoFiller_50 : decode b_Row_someGapIsNoFiller 50 = .ok (.invokevirtual 116, 3) := by decide +kernel
theorem d_Row_someGapIsNoFiller_53 : decode b_Row_someGapIsNoFiller 53 = .ok (.ifCond .ne 5, 3) := by decide +kernel
theorem d_Row_someGapIsNoFiller_56 : decode b_Row_someGapIsNoFiller 56 = .ok (.iconst 1, 1) := by decide +kernel
theorem d_Row_someGapIsNoFiller_57 : decode b_Row_someGapIsNoFiller 57 = .ok (.ireturn, 1) := by decide +kernel
theorem d_Row_someGapIsNoFiller_58 : decode b_Row_someGapIsNoFiller 58 = .ok (.iconst 0, 1) := by decide +kernel
theorem d_Row_someGapIsNoFiller_59 : decode b_Row_someGapIsNoFiller 59 = .ok (.istore_n 1, 1) := by decide +kernel
theorem d_Row_someGapIsNoFiller_60 : decode b_Row_someGapIsNoFiller 60 = .ok (.iinc 2 1, 3) := by decide +kernel
theorem d_Row_someGapIsNoFiller_63 : decode b_Row_someGapIsNoFiller 63 = .ok (.goto (-59), 3) := by decide +kernel
theorem d_Row_someGapIsNoFiller_66 : decode b_Row_someGapIsNoFiller 66 = .ok (.iload_n 1, 1) := by decide +kernel
theorem d_Row_someGapIsNoFiller_67 : decode b_Row_someGapIsNoFiller 67 = .ok (.ifCond .le 18, 3) := by decide +kernel
theorem d_Row_someGapIsNoFiller_70 : decode b_Row_someGapIsNoFiller 70 = .ok (.aload_n 0, 1) := by decide +kernel
theorem d_Row_someGapIsNoFiller_71 : decode b_Row_someGapIsNoFiller 71 = .ok (.getfield 19, 3) := by decide +kernel
theorem d_Row_someGapIsNoFiller_74 : decode b_Row_someGapIsNoFiller 74 = .ok (.iload_n 1, 1) := by decide +kernel
theorem d_Row_someGapIsNoFiller_75 : decode b_Row_someGapIsNoFiller 75 = .ok (.invokevirtual 116, 3) := by decide +kernel
theorem d_Row_someGapIsNoFiller_78 : decode b_Row_someGapIsNoFiller 78 = .ok (.ifCond .ne 7, 3) := by decide +kernel
theorem d_Row_someGapIsNoFiller_81 : decode b_Row_someGapIsNoFiller 81 = .ok (.iconst 1, 1) := by decide +kernel
theorem d_Row_someGapIsNoFiller_82 : decode b_Row_someGapIsNoFiller 82 = .ok (.goto 4, 3) := by decide +kernel
theorem d_Row_someGapIsNoFiller_85 : decode b_Row_someGapIsNoFiller 85 = .ok (.iconst 0, 1) := by decide +kernel
theorem d_Row_someGapIsNoFiller_86 : decode b_Row_someGapIsNoFiller 86 = .ok (.ireturn, 1) := by decide +kernel
