theorem d_Model_pairCode_0 : decode b_Model_pairCode 0 = .ok (.aload_n 0, 1) := by decide +kernel
theorem d_Model_pairCode_1 : decode b_Model_pairCode 1 = .ok (.iload_n 1, 1) := by decide +kernel
theorem d_Model_pairCode_2 : decode b_Model_pairCode 2 = .ok (.invokevirtual 100, 3) := by decide +kernel
theorem d_Model_pairCode_5 : decode b_Model_pairCode 5 = .ok (.ifCond .eq 11, 3) := by decide +kernel
theorem d_Model_pairCode_8 : decode b_Model_pairCode 8 = .ok (.aload_n 0, 1) := by decide +kernel
theorem d_Model_pairCode_9 : decode b_Model_pairCode 9 = .ok (.iload_n 2, 1) := by decide +kernel
theorem d_Model_pairCode_10 : decode b_Model_pairCode 10 = .ok (.invokevirtual 100, 3) := by decide +kernel
theorem d_Model_pairCode_13 : decode b_Model_pairCode 13 = .ok (.ifCond .ne 7, 3) := by decide +kernel
theorem d_Model_pairCode_16 : decode b_Model_pairCode 16 = .ok (.iconst 1, 1) := by decide +kernel
theorem d_Model_pairCode_17 : decode b_Model_pairCode 17 = .ok (.goto 13, 3) := by decide +kernel
theorem d_Model_pairCode_20 : decode b_Model_pairCode 20 = .ok (.iload_n 1, 1) := by decide +kernel
theorem d_Model_pairCode_21 : decode b_Model_pairCode 21 = .ok (.iload_n 2, 1) := by decide +kernel
theorem d_Model_pairCode_22 : decode b_Model_pairCode 22 = .ok (.if_icmp .ne 7, 3) := by decide +kernel
theorem d_Model_pairCode_25 : decode b_Model_pairCode 25 = .ok (.iconst 2, 1) := by decide +kernel
theorem d_Model_pairCode_26 : decode b_Model_pairCode 26 = .ok (.goto 4, 3) := by decide +kernel
theorem d_Model_pairCode_29 : decode b_Model_pairCode 29 = .ok (.iconst 0, 1) := by decide +kernel
theorem d_Model_pairCode_30 : decode b_Model_pairCode 30 = .ok (.ireturn, 1) := by decide +kernel
theorem d_Model_near_0 : decode b_Model_near 0 = .ok (.aload_n 0, 1) := by decide +kernel
theorem d_Model_near_1 : decode b_Model_near 1 = .ok (.aload_n 0, 1) := by decide +kernel
theorem d_Model_near_2 : decode b_Model_near 2 = .ok (.iload_n 1, 1) := by decide +kernel
theorem d_Model_near_3 : decode b_Model_near 3 = .ok (.iload_n 2, 1) := by decide +kernel
theorem d_Model_near_4 : decode b_Model_near 4 = .ok (.invokevirtual 108, 3) := by decide +kernel
theorem d_Model_near_7 : decode b_Model_near 7 = .ok (.putfield 76, 3) := by decide +kernel
theorem d_Model_near_10 : decode b_Model_near 10 = .ok (.aload_n 0, 1) := by decide +kernel
theorem d_Model_near_11 : decode b_Model_near 11 = .ok (.aload_n 0, 1) := by decide +kernel
theorem d_Model_near_12 : decode b_Model_near 12 = .ok (.getfield 76, 3) := by decide +kernel
theorem d_Model_near_15 : decode b_Model_near 15 = .ok (.ifCond .ne 18, 3) := by decide +kernel
theorem d_Model_near_18 : decode b_Model_near 18 = .ok (.lload_n 3, 1) := by decide +kernel
theorem d_Model_near_19 : decode b_Model_near 19 = .ok (.lconst 0, 1) := by decide +kernel
theorem d_Model_near_20 : decode b_Model_near 20 = .ok (.ldc2_w 95, 3) := by decide +kernel
theorem d_Model_near_23 : decode b_Model_near 23 = .ok (.invokestatic 91, 3) := by decide +kernel
theorem d_Model_near_26 : decode b_Model_near 26 = .ok (.ifCond .ne 7, 3) := by decide +kernel
theorem d_Model_near_29 : decode b_Model_near 29 = .ok (.iconst 2, 1) := by decide +kernel
theorem d_Model_near_30 : decode b_Model_near 30 = .ok (.goto 7, 3) := by decide +kernel
theorem d_Model_near_33 : decode b_Model_near 33 = .ok (.aload_n 0, 1) := by decide +kernel
theorem d_Model_near_34 : decode b_Model_near 34 = .ok (.getfield 76, 3) := by decide +kernel
theorem d_Model_near_37 : decode b_Model_near 37 = .ok (.putfield 76, 3) := by decide +kernel
theorem d_Model_near_40 : decode b_Model_near 40 = .ok (.aload_n 0, 1) := by decide +kernel
theorem d_Model_near_41 : decode b_Model_near 41 = .ok (.getfield 76, 3) := by decide +kernel
theorem d_Model_near_44 : decode b_Model_near 44 = .ok (.ifCond .gt 19, 3) := by decide +kernel
theorem d_Model_near_47 : decode b_Model_near 47 = .ok (.aload_n 0, 1) := by decide +kernel
theorem d_Model_near_48 : decode b_Model_near 48 = .ok (.getfield 33, 3) := by decide +kernel
theorem d_Model_near_51 : decode b_Model_near 51 = .ok (.bipush 6, 2) := by decide +kernel
theorem d_Model_near_53 : decode b_Model_near 53 = .ok (.iload_n 1, 1) := by decide +kernel
theorem d_Model_near_54 : decode b_Model_near 54 = .ok (.imul, 1) := by decide +kernel
theorem d_Model_near_55 : decode b_Model_near 55 = .ok (.iload_n 2, 1) := by decide +kernel
theorem d_Model_near_56 : decode b_Model_near 56 = .ok (.iadd, 1) := by decide +kernel
theorem d_Model_near_57 : decode b_Model_near 57 = .ok (.laload, 1) := by decide +kernel
theorem d_Model_near_58 : decode b_Model_near 58 = .ok (.lload_n 3, 1) := by decide +kernel
theorem d_Model_near_59 : decode b_Model_near 59 = .ok (.lcmp, 1) := by decide +kernel
theorem d_Model_near_60 : decode b_Model_near 60 = .ok (.ifCond .ne 5, 3) := by decide +kernel
theorem d_Model_near_63 : decode b_Model_near 63 = .ok (.iconst 0, 1) := by decide +kernel
theorem d_Model_near_64 : decode b_Model_near 64 = .ok (.ireturn, 1) := by decide +kernel
theorem d_Model_near_65 : decode b_Model_near 65 = .ok (.aload_n 0, 1) := by decide +kernel
theorem d_Model_near_66 : decode b_Model_near 66 = .ok (.getfield 33, 3) := by decide +kernel
theorem d_Model_near_69 : decode b_Model_near 69 = .ok (.bipush 6, 2) := by decide +kernel
theorem d_Model_near_71 : decode b_Model_near 71 = .ok (.iload_n 1, 1) := by decide +kernel
theorem d_Model_near_72 : decode b_Model_near 72 = .ok (.imul, 1) := by decide +kernel
theorem d_Model_near_73 : decode b_Model_near 73 = .ok (.iload_n 2, 1) := by decide +kernel
theorem d_Model_near_74 : decode b_Model_near 74 = .ok (.iadd, 1) := by decide +kernel
theorem d_Model_near_75 : decode b_Model_near 75 = .ok (.lload_n 3, 1) := by decide +kernel
theorem d_Model_near_76 : decode b_Model_near 76 = .ok (.lastore, 1) := by decide +kernel
theorem d_Model_near_77 : decode b_Model_near 77 = .ok (.aload_n 0, 1) := by decide +kernel
theorem d_Model_near_78 : decode b_Model_near 78 = .ok (.getfield 33, 3) := by decide +kernel
theorem d_Model_near_81 : decode b_Model_near 81 = .ok (.bipush 6, 2) := by decide +kernel
theorem d_Model_near_83 : decode b_Model_near 83 = .ok (.iload_n 2, 1) := by decide +kernel
theorem d_Model_near_84 : decode b_Model_near 84 = .ok (.imul, 1) := by decide +kernel
theorem d_Model_near_85 : decode b_Model_near 85 = .ok (.iload_n 1, 1) := by decide +kernel
theorem d_Model_near_86 : decode b_Model_near 86 = .ok (.iadd, 1) := by decide +kernel
theorem d_Model_near_87 : decode b_Model_near 87 = .ok (.lload_n 3, 1) := by decide +kernel
theorem d_Model_near_88 : decode b_Model_near 88 = .ok (.lastore, 1) := by decide +kernel
theorem d_Model_near_89 : decode b_Model_near 89 = .ok (.aload_n 0, 1) := by decide +kernel
theorem d_Model_near_90 : decode b_Model_near 90 = .ok (.invokevirtual 83, 3) := by decide +kernel
theorem d_Model_near_93 : decode b_Model_near 93 = .ok (.iconst 1, 1) := by decide +kernel
theorem d_Model_near_94 : decode b_Model_near 94 = .ok (.ireturn, 1) := by decide +kernel
theorem d_Model_bar_0 : decode b_Model_bar 0 = .ok (.aload_n 0, 1) := by decide +kernel
theorem d_Model_bar_1 : decode b_Model_bar 1 = .ok (.aload_n 0, 1) := by decide +kernel
theorem d_Model_bar_2 : decode b_Model_bar 2 = .ok (.iload_n 1, 1) := by decide +kernel
theorem d_Model_bar_3 : decode b_Model_bar 3 = .ok (.iload_n 2, 1) := by decide +kernel
theorem d_Model_bar_4 : decode b_Model_bar 4 = .ok (.invokevirtual 108, 3) := by decide +kernel
theorem d_Model_bar_7 : decode b_Model_bar 7 = .ok (.putfield 76, 3) := by decide +kernel
theorem d_Model_bar_10 : decode b_Model_bar 10 = .ok (.aload_n 0, 1) := by decide +kernel
theorem d_Model_bar_11 : decode b_Model_bar 11 = .ok (.getfield 76, 3) := by decide +kernel
theorem d_Model_bar_14 : decode b_Model_bar 14 = .ok (.ifCond .gt 17, 3) := by decide +kernel
theorem d_Model_bar_17 : decode b_Model_bar 17 = .ok (.aload_n 0, 1) := by decide +kernel
theorem d_Model_bar_18 : decode b_Model_bar 18 = .ok (.getfield 36, 3) := by decide +kernel
theorem d_Model_bar_21 : decode b_Model_bar 21 = .ok (.bipush 6, 2) := by decide +kernel
theorem d_Model_bar_23 : decode b_Model_bar 23 = .ok (.iload_n 1, 1) := by decide +kernel
theorem d_Model_bar_24 : decode b_Model_bar 24 = .ok (.imul, 1) := by decide +kernel
theorem d_Model_bar_25 : decode b_Model_bar 25 = .ok (.iload_n 2, 1) := by decide +kernel
theorem d_Model_bar_26 : decode b_Model_bar 26 = .ok (.iadd, 1) := by decide +kernel
theorem d_Model_bar_27 : decode b_Model_bar 27 = .ok (.baload, 1) := by decide +kernel
theorem d_Model_bar_28 : decode b_Model_bar 28 = .ok (.ifCond .eq 5, 3) := by decide +kernel
theorem d_Model_bar_31 : decode b_Model_bar 31 = .ok (.iconst 0, 1) := by decide +kernel
theorem d_Model_bar_32 : decode b_Model_bar 32 = .ok (.ireturn, 1) := by decide +kernel
theorem d_Model_bar_33 : decode b_Model_bar 33 = .ok (.aload_n 0, 1) := by decide +kernel
theorem d_Model_bar_34 : decode b_Model_bar 34 = .ok (.getfield 36, 3) := by decide +kernel
theorem d_Model_bar_37 : decode b_Model_bar 37 = .ok (.bipush 6, 2) := by decide +kernel
theorem d_Model_bar_39 : decode b_Model_bar 39 = .ok (.iload_n 1, 1) := by decide +kernel
theorem d_Model_bar_40 : decode b_Model_bar 40 = .ok (.imul, 1) := by decide +kernel
theorem d_Model_bar_41 : decode b_Model_bar 41 = .ok (.iload_n 2, 1) := by decide +kernel
theorem d_Model_bar_42 : decode b_Model_bar 42 = .ok (.iadd, 1) := by decide +kernel
theorem d_Model_bar_43 : decode b_Model_bar 43 = .ok (.iconst 1, 1) := by decide +kernel
theorem d_Model_bar_44 : decode b_Model_bar 44 = .ok (.bastore, 1) := by decide +kernel
theorem d_Model_bar_45 : decode b_Model_bar 45 = .ok (.aload_n 0, 1) := by decide +kernel
theorem d_Model_bar_46 : decode b_Model_bar 46 = .ok (.getfield 36, 3) := by decide +kernel
theorem d_Model_bar_49 : decode b_Model_bar 49 = .ok (.bipush 6, 2) := by decide +kernel
theorem d_Model_bar_51 : decode b_Model_bar 51 = .ok (.iload_n 2, 1) := by decide +kernel
theorem d_Model_bar_52 : decode b_Model_bar 52 = .ok (.imul, 1) := by decide +kernel
theorem d_Model_bar_53 : decode b_Model_bar 53 = .ok (.iload_n 1, 1) := by decide +kernel
theorem d_Model_bar_54 : decode b_Model_bar 54 = .ok (.iadd, 1) := by decide +kernel
theorem d_Model_bar_55 : decode b_Model_bar 55 = .ok (.iconst 1, 1) := by decide +kernel
theorem d_Model_bar_56 : decode b_Model_bar 56 = .ok (.bastore, 1) := by decide +kernel
theorem d_Model_bar_57 : decode b_Model_bar 57 = .ok (.aload_n 0, 1) := by decide +kernel
theorem d_Model_bar_58 : decode b_Model_bar 58 = .ok (.invokevirtual 83, 3) := by decide +kernel
theorem d_Model_bar_61 : decode b_Model_bar 61 = .ok (.iconst 1, 1) := by decide +kernel
theorem d_Model_bar_62 : decode b_Model_bar 62 = .ok (.ireturn, 1) := by decide +kernel
theorem d_Model_must_0 : decode b_Model_must 0 = .ok (.aload_n 0, 1) := by decide +kernel
theorem d_Model_must_1 : decode b_Model_must 1 = .ok (.aload_n 0, 1) := by decide +kernel
theorem d_Model_must_2 : decode b_Model_must 2 = .ok (.iload_n 1, 1) := by decide +kernel
theorem d_Model_must_3 : decode b_Model_must 3 = .ok (.invokevirtual 100, 3) := by decide +kernel
theorem d_Model_must_6 : decode b_Model_must 6 = .ok (.ifCond .eq 7, 3) := by decide +kernel
theorem d_Model_must_9 : decode b_Model_must 9 = .ok (.iconst 0, 1) := by decide +kernel
theorem d_Model_must_10 : decode b_Model_must 10 = .ok (.goto 4, 3) := by decide +kernel
theorem d_Model_must_13 : decode b_Model_must 13 = .ok (.iconst 1, 1) := by decide +kernel
theorem d_Model_must_14 : decode b_Model_must 14 = .ok (.putfield 76, 3) := by decide +kernel
theorem d_Model_must_17 : decode b_Model_must 17 = .ok (.aload_n 0, 1) := by decide +kernel
theorem d_Model_must_18 : decode b_Model_must 18 = .ok (.getfield 76, 3) := by decide +kernel
theorem d_Model_must_21 : decode b_Model_must 21 = .ok (.ifCond .gt 13, 3) := by decide +kernel
theorem d_Model_must_24 : decode b_Model_must 24 = .ok (.aload_n 0, 1) := by decide +kernel
theorem d_Model_must_25 : decode b_Model_must 25 = .ok (.getfield 30, 3) := by decide +kernel
theorem d_Model_must_28 : decode b_Model_must 28 = .ok (.iload_n 1, 1) := by decide +kernel
theorem d_Model_must_29 : decode b_Model_must 29 = .ok (.baload, 1) := by decide +kernel
theorem d_Model_must_30 : decode b_Model_must 30 = .ok (.iload_n 2, 1) := by decide +kernel
theorem d_Model_must_31 : decode b_Model_must 31 = .ok (.if_icmp .ne 5, 3) := by decide +kernel
theorem d_Model_must_34 : decode b_Model_must 34 = .ok (.iconst 0, 1) := by decide +kernel
theorem d_Model_must_35 : decode b_Model_must 35 = .ok (.ireturn, 1) := by decide +kernel
theorem d_Model_must_36 : decode b_Model_must 36 = .ok (.aload_n 0, 1) := by decide +kernel
theorem d_Model_must_37 : decode b_Model_must 37 = .ok (.getfield 30, 3) := by decide +kernel
theorem d_Model_must_40 : decode b_Model_must 40 = .ok (.iload_n 1, 1) := by decide +kernel
theorem d_Model_must_41 : decode b_Model_must 41 = .ok (.iload_n 2, 1) := by decide +kernel
theorem d_Model_must_42 : decode b_Model_must 42 = .ok (.bastore, 1) := by decide +kernel
theorem d_Model_must_43 : decode b_Model_must 43 = .ok (.aload_n 0, 1) := by decide +kernel
theorem d_Model_must_44 : decode b_Model_must 44 = .ok (.invokevirtual 83, 3) := by decide +kernel
theorem d_Model_must_47 : decode b_Model_must 47 = .ok (.iconst 1, 1) := by decide +kernel
theorem d_Model_must_48 : decode b_Model_must 48 = .ok (.ireturn, 1) := by decide +kernel
theorem d_Model_filler_0 : decode b_Model_filler 0 = .ok (.aload_n 0, 1) := by decide +kernel
theorem d_Model_filler_1 : decode b_Model_filler 1 = .ok (.iload_n 1, 1) := by decide +kernel
theorem d_Model_filler_2 : decode b_Model_filler 2 = .ok (.i2l, 1) := by decide +kernel
theorem d_Model_filler_3 : decode b_Model_filler 3 = .ok (.lconst 1, 1) := by decide +kernel
theorem d_Model_filler_4 : decode b_Model_filler 4 = .ok (.ldc2_w 106, 3) := by decide +kernel
theorem d_Model_filler_7 : decode b_Model_filler 7 = .ok (.invokestatic 91, 3) := by decide +kernel
theorem d_Model_filler_10 : decode b_Model_filler 10 = .ok (.ifCond .eq 20, 3) := by decide +kernel
theorem d_Model_filler_13 : decode b_Model_filler 13 = .ok (.iload_n 2, 1) := by decide +kernel
theorem d_Model_filler_14 : decode b_Model_filler 14 = .ok (.i2l, 1) := by decide +kernel
theorem d_Model_filler_15 : decode b_Model_filler 15 = .ok (.iload_n 1, 1) := by decide +kernel
theorem d_Model_filler_16 : decode b_Model_filler 16 = .ok (.i2l, 1) := by decide +kernel
theorem d_Model_filler_17 : decode b_Model_filler 17 = .ok (.ldc2_w 106, 3) := by decide +kernel
theorem d_Model_filler_20 : decode b_Model_filler 20 = .ok (.invokestatic 91, 3) := by decide +kernel
theorem d_Model_filler_23 : decode b_Model_filler 23 = .ok (.ifCond .eq 7, 3) := by decide +kernel
theorem d_Model_filler_26 : decode b_Model_filler 26 = .ok (.iconst 0, 1) := by decide +kernel
theorem d_Model_filler_27 : decode b_Model_filler 27 = .ok (.goto 4, 3) := by decide +kernel
theorem d_Model_filler_30 : decode b_Model_filler 30 = .ok (.iconst 1, 1) := by decide +kernel
theorem d_Model_filler_31 : decode b_Model_filler 31 = .ok (.putfield 76, 3) := by decide +kernel
theorem d_Model_filler_34 : decode b_Model_filler 34 = .ok (.aload_n 0, 1) := by decide +kernel
theorem d_Model_filler_35 : decode b_Model_filler 35 = .ok (.getfield 76, 3) := by decide +kernel
theorem d_Model_filler_38 : decode b_Model_filler 38 = .ok (.ifCond .gt 19, 3) := by decide +kernel
theorem d_Model_filler_41 : decode b_Model_filler 41 = .ok (.aload_n 0, 1) := by decide +kernel
theorem d_Model_filler_42 : decode b_Model_filler 42 = .ok (.getfield 73, 3) := by decide +kernel
theorem d_Model_filler_45 : decode b_Model_filler 45 = .ok (.iload_n 1, 1) := by decide +kernel
theorem d_Model_filler_46 : decode b_Model_filler 46 = .ok (.if_icmp .ne 13, 3) := by decide +kernel
theorem d_Model_filler_49 : decode b_Model_filler 49 = .ok (.aload_n 0, 1) := by decide +kernel
theorem d_Model_filler_50 : decode b_Model_filler 50 = .ok (.getfield 112, 3) := by decide +kernel
theorem d_Model_filler_53 : decode b_Model_filler 53 = .ok (.iload_n 2, 1) := by decide +kernel
theorem d_Model_filler_54 : decode b_Model_filler 54 = .ok (.if_icmp .ne 5, 3) := by decide +kernel
theorem d_Model_filler_57 : decode b_Model_filler 57 = .ok (.iconst 0, 1) := by decide +kernel
theorem d_Model_filler_58 : decode b_Model_filler 58 = .ok (.ireturn, 1) := by decide +kernel
theorem d_Model_filler_59 : decode b_Model_filler 59 = .ok (.aload_n 0, 1) := by decide +kernel
theorem d_Model_filler_60 : decode b_Model_filler 60 = .ok (.iload_n 1, 1) := by decide +kernel
theorem d_Model_filler_61 : decode b_Model_filler 61 = .ok (.putfield 73, 3) := by decide +kernel
theorem d_Model_filler_64 : decode b_Model_filler 64 = .ok (.aload_n 0, 1) := by decide +kernel
theorem d_Model_filler_65 : decode b_Model_filler 65 = .ok (.iload_n 2, 1) := by decide +kernel
theorem d_Model_filler_66 : decode b_Model_filler 66 = .ok (.putfield 112, 3) := by decide +kernel
theorem d_Model_filler_69 : decode b_Model_filler 69 = .ok (.aload_n 0, 1) := by decide +kernel
theorem d_Model_filler_70 : decode b_Model_filler 70 = .ok (.invokevirtual 83, 3) := by decide +kernel
theorem d_Model_filler_73 : decode b_Model_filler 73 = .ok (.iconst 1, 1) := by decide +kernel
theorem d_Model_filler_74 : decode b_Model_filler 74 = .ok (.ireturn, 1) := by decide +kernel
theorem d_Model_isNeeded_0 : decode b_Model_isNeeded 0 = .ok (.aload_n 0, 1) := by decide +kernel
theorem d_Model_isNeeded_1 : decode b_Model_isNeeded 1 = .ok (.getfield 27, 3) := by decide +kernel
theorem d_Model_isNeeded_4 : decode b_Model_isNeeded 4 = .ok (.iload_n 1, 1) := by decide +kernel
theorem d_Model_isNeeded_5 : decode b_Model_isNeeded 5 = .ok (.iaload, 1) := by decide +kernel
theorem d_Model_isNeeded_6 : decode b_Model_isNeeded 6 = .ok (.iconst (-1), 1) := by decide +kernel
theorem d_Model_isNeeded_7 : decode b_Model_isNeeded 7 = .ok (.if_icmp .ne 7, 3) := by decide +kernel
theorem d_Model_isNeeded_10 : decode b_Model_isNeeded 10 = .ok (.iconst 1, 1) := by decide +kernel
theorem d_Model_isNeeded_11 : decode b_Model_isNeeded 11 = .ok (.goto 4, 3) := by decide +kernel
theorem d_Model_isNeeded_14 : decode b_Model_isNeeded 14 = .ok (.iconst 0, 1) := by decide +kernel
theorem d_Model_isNeeded_15 : decode b_Model_isNeeded 15 = .ok (.istore_n 3, 1) := by decide +kernel
theorem d_Model_isNeeded_16 : decode b_Model_isNeeded 16 = .ok (.iconst 0, 1) := by decide +kernel
theorem d_Model_isNeeded_17 : decode b_Model_isNeeded 17 = .ok (.istore 4, 2) := by decide +kernel
theorem d_Model_isNeeded_19 : decode b_Model_isNeeded 19 = .ok (.iload 4, 2) := by decide +kernel
theorem d_Model_isNeeded_21 : decode b_Model_isNeeded 21 = .ok (.aload_n 0, 1) := by decide +kernel
theorem d_Model_isNeeded_22 : decode b_Model_isNeeded 22 = .ok (.getfield 86, 3) := by decide +kernel
theorem d_Model_isNeeded_25 : decode b_Model_isNeeded 25 = .ok (.if_icmp .ge 84, 3) := by decide +kernel
theorem d_Model_isNeeded_28 : decode b_Model_isNeeded 28 = .ok (.aload_n 0, 1) := by decide +kernel
theorem d_Model_isNeeded_29 : decode b_Model_isNeeded 29 = .ok (.getfield 13, 3) := by decide +kernel
theorem d_Model_isNeeded_32 : decode b_Model_isNeeded 32 = .ok (.iload 4, 2) := by decide +kernel
theorem d_Model_isNeeded_34 : decode b_Model_isNeeded 34 = .ok (.iaload, 1) := by decide +kernel
theorem d_Model_isNeeded_35 : decode b_Model_isNeeded 35 = .ok (.istore 5, 2) := by decide +kernel
theorem d_Model_isNeeded_37 : decode b_Model_isNeeded 37 = .ok (.iload 5, 2) := by decide +kernel
theorem d_Model_isNeeded_39 : decode b_Model_isNeeded 39 = .ok (.iload_n 2, 1) := by decide +kernel
theorem d_Model_isNeeded_40 : decode b_Model_isNeeded 40 = .ok (.if_icmp .ge 10, 3) := by decide +kernel
theorem d_Model_isNeeded_43 : decode b_Model_isNeeded 43 = .ok (.iload_n 2, 1) := by decide +kernel
theorem d_Model_isNeeded_44 : decode b_Model_isNeeded 44 = .ok (.iload 5, 2) := by decide +kernel
theorem d_Model_isNeeded_46 : decode b_Model_isNeeded 46 = .ok (.isub, 1) := by decide +kernel
theorem d_Model_isNeeded_47 : decode b_Model_isNeeded 47 = .ok (.goto 33, 3) := by decide +kernel
theorem d_Model_isNeeded_50 : decode b_Model_isNeeded 50 = .ok (.iload 5, 2) := by decide +kernel
theorem d_Model_isNeeded_52 : decode b_Model_isNeeded 52 = .ok (.iload_n 2, 1) := by decide +kernel
theorem d_Model_isNeeded_53 : decode b_Model_isNeeded 53 = .ok (.aload_n 0, 1) := by decide +kernel
theorem d_Model_isNeeded_54 : decode b_Model_isNeeded 54 = .ok (.getfield 17, 3) := by decide +kernel
theorem d_Model_isNeeded_57 : decode b_Model_isNeeded 57 = .ok (.iload_n 1, 1) := by decide +kernel
theorem d_Model_isNeeded_58 : decode b_Model_isNeeded 58 = .ok (.iaload, 1) := by decide +kernel
theorem d_Model_isNeeded_59 : decode b_Model_isNeeded 59 = .ok (.iadd, 1) := by decide +kernel
theorem d_Model_isNeeded_60 : decode b_Model_isNeeded 60 = .ok (.if_icmp .lt 19, 3) := by decide +kernel
theorem d_Model_isNeeded_63 : decode b_Model_isNeeded 63 = .ok (.iload 5, 2) := by decide +kernel
theorem d_Model_isNeeded_65 : decode b_Model_isNeeded 65 = .ok (.iload_n 2, 1) := by decide +kernel
theorem d_Model_isNeeded_66 : decode b_Model_isNeeded 66 = .ok (.isub, 1) := by decide +kernel
theorem d_Model_isNeeded_67 : decode b_Model_isNeeded 67 = .ok (.aload_n 0, 1) := by decide +kernel
theorem d_Model_isNeeded_68 : decode b_Model_isNeeded 68 = .ok (.getfield 17, 3) := by decide +kernel
theorem d_Model_isNeeded_71 : decode b_Model_isNeeded 71 = .ok (.iload_n 1, 1) := by decide +kernel
theorem d_Model_isNeeded_72 : decode b_Model_isNeeded 72 = .ok (.iaload, 1) := by decide +kernel
theorem d_Model_isNeeded_73 : decode b_Model_isNeeded 73 = .ok (.isub, 1) := by decide +kernel
theorem d_Model_isNeeded_74 : decode b_Model_isNeeded 74 = .ok (.iconst 1, 1) := by decide +kernel
theorem d_Model_isNeeded_75 : decode b_Model_isNeeded 75 = .ok (.iadd, 1) := by decide +kernel
theorem d_Model_isNeeded_76 : decode b_Model_isNeeded 76 = .ok (.goto 4, 3) := by decide +kernel
theorem d_Model_isNeeded_79 : decode b_Model_isNeeded 79 = .ok (.iconst 0, 1) := by decide +kernel
theorem d_Model_isNeeded_80 : decode b_Model_isNeeded 80 = .ok (.istore 6, 2) := by decide +kernel
theorem d_Model_isNeeded_82 : decode b_Model_isNeeded 82 = .ok (.iload_n 3, 1) := by decide +kernel
theorem d_Model_isNeeded_83 : decode b_Model_isNeeded 83 = .ok (.ifCond .ne 14, 3) := by decide +kernel
theorem d_Model_isNeeded_86 : decode b_Model_isNeeded 86 = .ok (.iload 6, 2) := by decide +kernel
theorem d_Model_isNeeded_88 : decode b_Model_isNeeded 88 = .ok (.aload_n 0, 1) := by decide +kernel
theorem d_Model_isNeeded_89 : decode b_Model_isNeeded 89 = .ok (.getfield 27, 3) := by decide +kernel
theorem d_Model_isNeeded_92 : decode b_Model_isNeeded 92 = .ok (.iload_n 1, 1) := by decide +kernel
theorem d_Model_isNeeded_93 : decode b_Model_isNeeded 93 = .ok (.iaload, 1) := by decide +kernel
theorem d_Model_isNeeded_94 : decode b_Model_isNeeded 94 = .ok (.if_icmp .gt 7, 3) := by decide +kernel
theorem d_Model_isNeeded_97 : decode b_Model_isNeeded 97 = .ok (.iconst 1, 1) := by decide +kernel
theorem d_Model_isNeeded_98 : decode b_Model_isNeeded 98 = .ok (.goto 4, 3) := by decide +kernel
theorem d_Model_isNeeded_101 : decode b_Model_isNeeded 101 = .ok (.iconst 0, 1) := by decide +kernel
theorem d_Model_isNeeded_102 : decode b_Model_isNeeded 102 = .ok (.istore_n 3, 1) := by decide +kernel
theorem d_Model_isNeeded_103 : decode b_Model_isNeeded 103 = .ok (.iinc 4 1, 3) := by decide +kernel
theorem d_Model_isNeeded_106 : decode b_Model_isNeeded 106 = .ok (.goto (-87), 3) := by decide +kernel
theorem d_Model_isNeeded_109 : decode b_Model_isNeeded 109 = .ok (.iload_n 3, 1) := by decide +kernel
theorem d_Model_isNeeded_110 : decode b_Model_isNeeded 110 = .ok (.ireturn, 1) := by decide +kernel
theorem d_Model_isClear_0 : decode b_Model_isClear 0 = .ok (.aload_n 0, 1) := by decide +kernel
theorem d_Model_isClear_1 : decode b_Model_isClear 1 = .ok (.getfield 51, 3) := by decide +kernel
theorem d_Model_isClear_4 : decode b_Model_isClear 4 = .ok (.iload_n 1, 1) := by decide +kernel
theorem d_Model_isClear_5 : decode b_Model_isClear 5 = .ok (.iaload, 1) := by decide +kernel
theorem d_Model_isClear_6 : decode b_Model_isClear 6 = .ok (.iload_n 2, 1) := by decide +kernel
theorem d_Model_isClear_7 : decode b_Model_isClear 7 = .ok (.if_icmp .lt 7, 3) := by decide +kernel
theorem d_Model_isClear_10 : decode b_Model_isClear 10 = .ok (.iconst 1, 1) := by decide +kernel
theorem d_Model_isClear_11 : decode b_Model_isClear 11 = .ok (.goto 4, 3) := by decide +kernel
theorem d_Model_isClear_14 : decode b_Model_isClear 14 = .ok (.iconst 0, 1) := by decide +kernel
theorem d_Model_isClear_15 : decode b_Model_isClear 15 = .ok (.ireturn, 1) := by decide +kernel
theorem d_Model_look_0 : decode b_Model_look 0 = .ok (.aload_n 0, 1) := by decide +kernel
theorem d_Model_look_1 : decode b_Model_look 1 = .ok (.getfield 51, 3) := by decide +kernel
theorem d_Model_look_4 : decode b_Model_look 4 = .ok (.aload_n 0, 1) := by decide +kernel
theorem d_Model_look_5 : decode b_Model_look 5 = .ok (.getfield 69, 3) := by decide +kernel
theorem d_Model_look_8 : decode b_Model_look 8 = .ok (.iconst 0, 1) := by decide +kernel
theorem d_Model_look_9 : decode b_Model_look 9 = .ok (.iastore, 1) := by decide +kernel
theorem d_Model_look_10 : decode b_Model_look 10 = .ok (.aload_n 0, 1) := by decide +kernel
theorem d_Model_look_11 : decode b_Model_look 11 = .ok (.getfield 69, 3) := by decide +kernel
theorem d_Model_look_14 : decode b_Model_look 14 = .ok (.iconst 1, 1) := by decide +kernel
theorem d_Model_look_15 : decode b_Model_look 15 = .ok (.isub, 1) := by decide +kernel
theorem d_Model_look_16 : decode b_Model_look 16 = .ok (.istore_n 1, 1) := by decide +kernel
theorem d_Model_look_17 : decode b_Model_look 17 = .ok (.iload_n 1, 1) := by decide +kernel
theorem d_Model_look_18 : decode b_Model_look 18 = .ok (.ifCond .lt 71, 3) := by decide +kernel
theorem d_Model_look_21 : decode b_Model_look 21 = .ok (.aload_n 0, 1) := by decide +kernel
theorem d_Model_look_22 : decode b_Model_look 22 = .ok (.getfield 51, 3) := by decide +kernel
theorem d_Model_look_25 : decode b_Model_look 25 = .ok (.iload_n 1, 1) := by decide +kernel
theorem d_Model_look_26 : decode b_Model_look 26 = .ok (.aload_n 0, 1) := by decide +kernel
theorem d_Model_look_27 : decode b_Model_look 27 = .ok (.getfield 7, 3) := by decide +kernel
theorem d_Model_look_30 : decode b_Model_look 30 = .ok (.iload_n 1, 1) := by decide +kernel
theorem d_Model_look_31 : decode b_Model_look 31 = .ok (.baload, 1) := by decide +kernel
theorem d_Model_look_32 : decode b_Model_look 32 = .ok (.ifCond .eq 7, 3) := by decide +kernel
theorem d_Model_look_35 : decode b_Model_look 35 = .ok (.iconst 0, 1) := by decide +kernel
theorem d_Model_look_36 : decode b_Model_look 36 = .ok (.goto 13, 3) := by decide +kernel
theorem d_Model_look_39 : decode b_Model_look 39 = .ok (.aload_n 0, 1) := by decide +kernel
theorem d_Model_look_40 : decode b_Model_look 40 = .ok (.getfield 51, 3) := by decide +kernel
theorem d_Model_look_43 : decode b_Model_look 43 = .ok (.iload_n 1, 1) := by decide +kernel
theorem d_Model_look_44 : decode b_Model_look 44 = .ok (.iconst 1, 1) := by decide +kernel
theorem d_Model_look_45 : decode b_Model_look 45 = .ok (.iadd, 1) := by decide +kernel
theorem d_Model_look_46 : decode b_Model_look 46 = .ok (.iaload, 1) := by decide +kernel
theorem d_Model_look_47 : decode b_Model_look 47 = .ok (.iconst 1, 1) := by decide +kernel
theorem d_Model_look_48 : decode b_Model_look 48 = .ok (.iadd, 1) := by decide +kernel
theorem d_Model_look_49 : decode b_Model_look 49 = .ok (.iastore, 1) := by decide +kernel
theorem d_Model_look_50 : decode b_Model_look 50 = .ok (.iconst 0, 1) := by decide +kernel
theorem d_Model_look_51 : decode b_Model_look 51 = .ok (.istore_n 2, 1) := by decide +kernel
theorem d_Model_look_52 : decode b_Model_look 52 = .ok (.iload_n 2, 1) := by decide +kernel
theorem d_Model_look_53 : decode b_Model_look 53 = .ok (.aload_n 0, 1) := by decide +kernel
theorem d_Model_look_54 : decode b_Model_look 54 = .ok (.getfield 97, 3) := by decide +kernel
theorem d_Model_look_57 : decode b_Model_look 57 = .ok (.if_icmp .ge 26, 3) := by decide +kernel
theorem d_Model_look_60 : decode b_Model_look 60 = .ok (.aload_n 0, 1) := by decide +kernel
theorem d_Model_look_61 : decode b_Model_look 61 = .ok (.getfield 54, 3) := by decide +kernel
theorem d_Model_look_64 : decode b_Model_look 64 = .ok (.bipush 41, 2) := by decide +kernel
theorem d_Model_look_66 : decode b_Model_look 66 = .ok (.iload_n 2, 1) := by decide +kernel
theorem d_Model_look_67 : decode b_Model_look 67 = .ok (.imul, 1) := by decide +kernel
theorem d_Model_look_68 : decode b_Model_look 68 = .ok (.iload_n 1, 1) := by decide +kernel
theorem d_Model_look_69 : decode b_Model_look 69 = .ok (.iadd, 1) := by decide +kernel
theorem d_Model_look_70 : decode b_Model_look 70 = .ok (.aload_n 0, 1) := by decide +kernel
theorem d_Model_look_71 : decode b_Model_look 71 = .ok (.iload_n 2, 1) := by decide +kernel
theorem d_Model_look_72 : decode b_Model_look 72 = .ok (.iload_n 1, 1) := by decide +kernel
theorem d_Model_look_73 : decode b_Model_look 73 = .ok (.invokevirtual 115, 3) := by decide +kernel
theorem d_Model_look_76 : decode b_Model_look 76 = .ok (.bastore, 1) := by decide +kernel
theorem d_Model_look_77 : decode b_Model_look 77 = .ok (.iinc 2 1, 3) := by decide +kernel
theorem d_Model_look_80 : decode b_Model_look 80 = .ok (.goto (-28), 3) := by decide +kernel
theorem d_Model_look_83 : decode b_Model_look 83 = .ok (.iinc 1 (-1), 3) := by decide +kernel
theorem d_Model_look_86 : decode b_Model_look 86 = .ok (.goto (-69), 3) := by decide +kernel
theorem d_Model_look_89 : decode b_Model_look 89 = .ok (.return_, 1) := by decide +kernel
theorem d_Model_mayStand_0 : decode b_Model_mayStand 0 = .ok (.iload 4, 2) := by decide +kernel
theorem d_Model_mayStand_2 : decode b_Model_mayStand 2 = .ok (.iload_n 1, 1) := by decide +kernel
theorem d_Model_mayStand_3 : decode b_Model_mayStand 3 = .ok (.ishr, 1) := by decide +kernel
theorem d_Model_mayStand_4 : decode b_Model_mayStand 4 = .ok (.iconst 1, 1) := by decide +kernel
theorem d_Model_mayStand_5 : decode b_Model_mayStand 5 = .ok (.iand, 1) := by decide +kernel
theorem d_Model_mayStand_6 : decode b_Model_mayStand 6 = .ok (.ifCond .ne 55, 3) := by decide +kernel
theorem d_Model_mayStand_9 : decode b_Model_mayStand 9 = .ok (.aload_n 0, 1) := by decide +kernel
theorem d_Model_mayStand_10 : decode b_Model_mayStand 10 = .ok (.iload_n 2, 1) := by decide +kernel
theorem d_Model_mayStand_11 : decode b_Model_mayStand 11 = .ok (.aload_n 0, 1) := by decide +kernel
theorem d_Model_mayStand_12 : decode b_Model_mayStand 12 = .ok (.getfield 17, 3) := by decide +kernel
theorem d_Model_mayStand_15 : decode b_Model_mayStand 15 = .ok (.iload_n 1, 1) := by decide +kernel
theorem d_Model_mayStand_16 : decode b_Model_mayStand 16 = .ok (.iaload, 1) := by decide +kernel
theorem d_Model_mayStand_17 : decode b_Model_mayStand 17 = .ok (.invokevirtual 119, 3) := by decide +kernel
theorem d_Model_mayStand_20 : decode b_Model_mayStand 20 = .ok (.ifCond .eq 41, 3) := by decide +kernel
theorem d_Model_mayStand_23 : decode b_Model_mayStand 23 = .ok (.aload_n 0, 1) := by decide +kernel
theorem d_Model_mayStand_24 : decode b_Model_mayStand 24 = .ok (.getfield 54, 3) := by decide +kernel
theorem d_Model_mayStand_27 : decode b_Model_mayStand 27 = .ok (.bipush 41, 2) := by decide +kernel
theorem d_Model_mayStand_29 : decode b_Model_mayStand 29 = .ok (.iload_n 1, 1) := by decide +kernel
theorem d_Model_mayStand_30 : decode b_Model_mayStand 30 = .ok (.imul, 1) := by decide +kernel
theorem d_Model_mayStand_31 : decode b_Model_mayStand 31 = .ok (.iload_n 2, 1) := by decide +kernel
theorem d_Model_mayStand_32 : decode b_Model_mayStand 32 = .ok (.iadd, 1) := by decide +kernel
theorem d_Model_mayStand_33 : decode b_Model_mayStand 33 = .ok (.baload, 1) := by decide +kernel
theorem d_Model_mayStand_34 : decode b_Model_mayStand 34 = .ok (.ifCond .eq 27, 3) := by decide +kernel
theorem d_Model_mayStand_37 : decode b_Model_mayStand 37 = .ok (.iload_n 3, 1) := by decide +kernel
theorem d_Model_mayStand_38 : decode b_Model_mayStand 38 = .ok (.bipush 6, 2) := by decide +kernel
theorem d_Model_mayStand_40 : decode b_Model_mayStand 40 = .ok (.if_icmp .ge 17, 3) := by decide +kernel
theorem d_Model_mayStand_43 : decode b_Model_mayStand 43 = .ok (.aload_n 0, 1) := by decide +kernel
theorem d_Model_mayStand_44 : decode b_Model_mayStand 44 = .ok (.getfield 36, 3) := by decide +kernel
theorem d_Model_mayStand_47 : decode b_Model_mayStand 47 = .ok (.bipush 6, 2) := by decide +kernel
theorem d_Model_mayStand_49 : decode b_Model_mayStand 49 = .ok (.iload_n 3, 1) := by decide +kernel
theorem d_Model_mayStand_50 : decode b_Model_mayStand 50 = .ok (.imul, 1) := by decide +kernel
theorem d_Model_mayStand_51 : decode b_Model_mayStand 51 = .ok (.iload_n 1, 1) := by decide +kernel
theorem d_Model_mayStand_52 : decode b_Model_mayStand 52 = .ok (.iadd, 1) := by decide +kernel
theorem d_Model_mayStand_53 : decode b_Model_mayStand 53 = .ok (.baload, 1) := by decide +kernel
theorem d_Model_mayStand_54 : decode b_Model_mayStand 54 = .ok (.ifCond .ne 7, 3) := by decide +kernel
theorem d_Model_mayStand_57 : decode b_Model_mayStand 57 = .ok (.iconst 1, 1) := by decide +kernel
theorem d_Model_mayStand_58 : decode b_Model_mayStand 58 = .ok (.goto 4, 3) := by decide +kernel
theorem d_Model_mayStand_61 : decode b_Model_mayStand 61 = .ok (.iconst 0, 1) := by decide +kernel
theorem d_Model_mayStand_62 : decode b_Model_mayStand 62 = .ok (.ireturn, 1) := by decide +kernel
