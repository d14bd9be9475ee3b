theorem d_Fillers_init_0 : decode b_Fillers_init 0 = .ok (.aload_n 0, 1) := by decide +kernel
theorem d_Fillers_init_1 : decode b_Fillers_init 1 = .ok (.invokespecial 1, 3) := by decide +kernel
theorem d_Fillers_init_4 : decode b_Fillers_init 4 = .ok (.aload_n 0, 1) := by decide +kernel
theorem d_Fillers_init_5 : decode b_Fillers_init 5 = .ok (.iconst 1, 1) := by decide +kernel
theorem d_Fillers_init_6 : decode b_Fillers_init 6 = .ok (.putfield 7, 3) := by decide +kernel
theorem d_Fillers_init_9 : decode b_Fillers_init 9 = .ok (.aload_n 0, 1) := by decide +kernel
theorem d_Fillers_init_10 : decode b_Fillers_init 10 = .ok (.iconst 0, 1) := by decide +kernel
theorem d_Fillers_init_11 : decode b_Fillers_init 11 = .ok (.putfield 13, 3) := by decide +kernel
theorem d_Fillers_init_14 : decode b_Fillers_init 14 = .ok (.return_, 1) := by decide +kernel
theorem d_Fillers_setRange_0 : decode b_Fillers_setRange 0 = .ok (.aload_n 0, 1) := by decide +kernel
theorem d_Fillers_setRange_1 : decode b_Fillers_setRange 1 = .ok (.getfield 7, 3) := by decide +kernel
theorem d_Fillers_setRange_4 : decode b_Fillers_setRange 4 = .ok (.iload_n 1, 1) := by decide +kernel
theorem d_Fillers_setRange_5 : decode b_Fillers_setRange 5 = .ok (.if_icmp .ne 11, 3) := by decide +kernel
theorem d_Fillers_setRange_8 : decode b_Fillers_setRange 8 = .ok (.aload_n 0, 1) := by decide +kernel
theorem d_Fillers_setRange_9 : decode b_Fillers_setRange 9 = .ok (.getfield 13, 3) := by decide +kernel
theorem d_Fillers_setRange_12 : decode b_Fillers_setRange 12 = .ok (.iload_n 2, 1) := by decide +kernel
theorem d_Fillers_setRange_13 : decode b_Fillers_setRange 13 = .ok (.if_icmp .eq 7, 3) := by decide +kernel
theorem d_Fillers_setRange_16 : decode b_Fillers_setRange 16 = .ok (.iconst 1, 1) := by decide +kernel
theorem d_Fillers_setRange_17 : decode b_Fillers_setRange 17 = .ok (.goto 4, 3) := by decide +kernel
theorem d_Fillers_setRange_20 : decode b_Fillers_setRange 20 = .ok (.iconst 0, 1) := by decide +kernel
theorem d_Fillers_setRange_21 : decode b_Fillers_setRange 21 = .ok (.istore_n 3, 1) := by decide +kernel
theorem d_Fillers_setRange_22 : decode b_Fillers_setRange 22 = .ok (.aload_n 0, 1) := by decide +kernel
theorem d_Fillers_setRange_23 : decode b_Fillers_setRange 23 = .ok (.iload_n 1, 1) := by decide +kernel
theorem d_Fillers_setRange_24 : decode b_Fillers_setRange 24 = .ok (.putfield 7, 3) := by decide +kernel
theorem d_Fillers_setRange_27 : decode b_Fillers_setRange 27 = .ok (.aload_n 0, 1) := by decide +kernel
theorem d_Fillers_setRange_28 : decode b_Fillers_setRange 28 = .ok (.iload_n 2, 1) := by decide +kernel
theorem d_Fillers_setRange_29 : decode b_Fillers_setRange 29 = .ok (.putfield 13, 3) := by decide +kernel
theorem d_Fillers_setRange_32 : decode b_Fillers_setRange 32 = .ok (.iload_n 3, 1) := by decide +kernel
theorem d_Fillers_setRange_33 : decode b_Fillers_setRange 33 = .ok (.ireturn, 1) := by decide +kernel
theorem d_Fillers_isWidth_0 : decode b_Fillers_isWidth 0 = .ok (.iload_n 1, 1) := by decide +kernel
theorem d_Fillers_isWidth_1 : decode b_Fillers_isWidth 1 = .ok (.aload_n 0, 1) := by decide +kernel
theorem d_Fillers_isWidth_2 : decode b_Fillers_isWidth 2 = .ok (.getfield 7, 3) := by decide +kernel
theorem d_Fillers_isWidth_5 : decode b_Fillers_isWidth 5 = .ok (.if_icmp .lt 15, 3) := by decide +kernel
theorem d_Fillers_isWidth_8 : decode b_Fillers_isWidth 8 = .ok (.iload_n 1, 1) := by decide +kernel
theorem d_Fillers_isWidth_9 : decode b_Fillers_isWidth 9 = .ok (.aload_n 0, 1) := by decide +kernel
theorem d_Fillers_isWidth_10 : decode b_Fillers_isWidth 10 = .ok (.getfield 13, 3) := by decide +kernel
theorem d_Fillers_isWidth_13 : decode b_Fillers_isWidth 13 = .ok (.if_icmp .gt 7, 3) := by decide +kernel
theorem d_Fillers_isWidth_16 : decode b_Fillers_isWidth 16 = .ok (.iconst 1, 1) := by decide +kernel
theorem d_Fillers_isWidth_17 : decode b_Fillers_isWidth 17 = .ok (.goto 4, 3) := by decide +kernel
theorem d_Fillers_isWidth_20 : decode b_Fillers_isWidth 20 = .ok (.iconst 0, 1) := by decide +kernel
theorem d_Fillers_isWidth_21 : decode b_Fillers_isWidth 21 = .ok (.ireturn, 1) := by decide +kernel
theorem d_Items_init_0 : decode b_Items_init 0 = .ok (.aload_n 0, 1) := by decide +kernel
theorem d_Items_init_1 : decode b_Items_init 1 = .ok (.invokespecial 3, 3) := by decide +kernel
theorem d_Items_init_4 : decode b_Items_init 4 = .ok (.aload_n 0, 1) := by decide +kernel
theorem d_Items_init_5 : decode b_Items_init 5 = .ok (.bipush 6, 2) := by decide +kernel
theorem d_Items_init_7 : decode b_Items_init 7 = .ok (.newarray .int, 2) := by decide +kernel
theorem d_Items_init_9 : decode b_Items_init 9 = .ok (.putfield 9, 3) := by decide +kernel
theorem d_Items_init_12 : decode b_Items_init 12 = .ok (.aload_n 0, 1) := by decide +kernel
theorem d_Items_init_13 : decode b_Items_init 13 = .ok (.bipush 6, 2) := by decide +kernel
theorem d_Items_init_15 : decode b_Items_init 15 = .ok (.newarray .int, 2) := by decide +kernel
theorem d_Items_init_17 : decode b_Items_init 17 = .ok (.putfield 15, 3) := by decide +kernel
theorem d_Items_init_20 : decode b_Items_init 20 = .ok (.aload_n 0, 1) := by decide +kernel
theorem d_Items_init_21 : decode b_Items_init 21 = .ok (.bipush 8, 2) := by decide +kernel
theorem d_Items_init_23 : decode b_Items_init 23 = .ok (.newarray .int, 2) := by decide +kernel
theorem d_Items_init_25 : decode b_Items_init 25 = .ok (.putfield 18, 3) := by decide +kernel
theorem d_Items_init_28 : decode b_Items_init 28 = .ok (.aload_n 0, 1) := by decide +kernel
theorem d_Items_init_29 : decode b_Items_init 29 = .ok (.bipush 64, 2) := by decide +kernel
theorem d_Items_init_31 : decode b_Items_init 31 = .ok (.newarray .long, 2) := by decide +kernel
theorem d_Items_init_33 : decode b_Items_init 33 = .ok (.putfield 21, 3) := by decide +kernel
theorem d_Items_init_36 : decode b_Items_init 36 = .ok (.aload_n 0, 1) := by decide +kernel
theorem d_Items_init_37 : decode b_Items_init 37 = .ok (.bipush 64, 2) := by decide +kernel
theorem d_Items_init_39 : decode b_Items_init 39 = .ok (.newarray .int, 2) := by decide +kernel
theorem d_Items_init_41 : decode b_Items_init 41 = .ok (.putfield 25, 3) := by decide +kernel
theorem d_Items_init_44 : decode b_Items_init 44 = .ok (.aload_n 0, 1) := by decide +kernel
theorem d_Items_init_45 : decode b_Items_init 45 = .ok (.bipush 64, 2) := by decide +kernel
theorem d_Items_init_47 : decode b_Items_init 47 = .ok (.newarray .long, 2) := by decide +kernel
theorem d_Items_init_49 : decode b_Items_init 49 = .ok (.putfield 28, 3) := by decide +kernel
theorem d_Items_init_52 : decode b_Items_init 52 = .ok (.aload_n 0, 1) := by decide +kernel
theorem d_Items_init_53 : decode b_Items_init 53 = .ok (.bipush 64, 2) := by decide +kernel
theorem d_Items_init_55 : decode b_Items_init 55 = .ok (.newarray .long, 2) := by decide +kernel
theorem d_Items_init_57 : decode b_Items_init 57 = .ok (.putfield 31, 3) := by decide +kernel
theorem d_Items_init_60 : decode b_Items_init 60 = .ok (.aload_n 0, 1) := by decide +kernel
theorem d_Items_init_61 : decode b_Items_init 61 = .ok (.iconst 0, 1) := by decide +kernel
theorem d_Items_init_62 : decode b_Items_init 62 = .ok (.putfield 34, 3) := by decide +kernel
theorem d_Items_init_65 : decode b_Items_init 65 = .ok (.aload_n 0, 1) := by decide +kernel
theorem d_Items_init_66 : decode b_Items_init 66 = .ok (.iconst 0, 1) := by decide +kernel
theorem d_Items_init_67 : decode b_Items_init 67 = .ok (.putfield 38, 3) := by decide +kernel
theorem d_Items_init_70 : decode b_Items_init 70 = .ok (.return_, 1) := by decide +kernel
theorem d_Items_add_0 : decode b_Items_add 0 = .ok (.aload_n 0, 1) := by decide +kernel
theorem d_Items_add_1 : decode b_Items_add 1 = .ok (.getfield 38, 3) := by decide +kernel
theorem d_Items_add_4 : decode b_Items_add 4 = .ok (.istore 6, 2) := by decide +kernel
theorem d_Items_add_6 : decode b_Items_add 6 = .ok (.aload_n 0, 1) := by decide +kernel
theorem d_Items_add_7 : decode b_Items_add 7 = .ok (.getfield 9, 3) := by decide +kernel
theorem d_Items_add_10 : decode b_Items_add 10 = .ok (.iload 6, 2) := by decide +kernel
theorem d_Items_add_12 : decode b_Items_add 12 = .ok (.iload_n 1, 1) := by decide +kernel
theorem d_Items_add_13 : decode b_Items_add 13 = .ok (.iastore, 1) := by decide +kernel
theorem d_Items_add_14 : decode b_Items_add 14 = .ok (.aload_n 0, 1) := by decide +kernel
theorem d_Items_add_15 : decode b_Items_add 15 = .ok (.getfield 15, 3) := by decide +kernel
theorem d_Items_add_18 : decode b_Items_add 18 = .ok (.iload 6, 2) := by decide +kernel
theorem d_Items_add_20 : decode b_Items_add 20 = .ok (.iconst (-1), 1) := by decide +kernel
theorem d_Items_add_21 : decode b_Items_add 21 = .ok (.iastore, 1) := by decide +kernel
theorem d_Items_add_22 : decode b_Items_add 22 = .ok (.iconst 1, 1) := by decide +kernel
theorem d_Items_add_23 : decode b_Items_add 23 = .ok (.iload 6, 2) := by decide +kernel
theorem d_Items_add_25 : decode b_Items_add 25 = .ok (.ishl, 1) := by decide +kernel
theorem d_Items_add_26 : decode b_Items_add 26 = .ok (.istore 7, 2) := by decide +kernel
theorem d_Items_add_28 : decode b_Items_add 28 = .ok (.iconst 0, 1) := by decide +kernel
theorem d_Items_add_29 : decode b_Items_add 29 = .ok (.istore 8, 2) := by decide +kernel
theorem d_Items_add_31 : decode b_Items_add 31 = .ok (.iload 8, 2) := by decide +kernel
theorem d_Items_add_33 : decode b_Items_add 33 = .ok (.iload 7, 2) := by decide +kernel
theorem d_Items_add_35 : decode b_Items_add 35 = .ok (.if_icmp .ge 67, 3) := by decide +kernel
theorem d_Items_add_38 : decode b_Items_add 38 = .ok (.aload_n 0, 1) := by decide +kernel
theorem d_Items_add_39 : decode b_Items_add 39 = .ok (.getfield 25, 3) := by decide +kernel
theorem d_Items_add_42 : decode b_Items_add 42 = .ok (.iload 7, 2) := by decide +kernel
theorem d_Items_add_44 : decode b_Items_add 44 = .ok (.iload 8, 2) := by decide +kernel
theorem d_Items_add_46 : decode b_Items_add 46 = .ok (.iadd, 1) := by decide +kernel
theorem d_Items_add_47 : decode b_Items_add 47 = .ok (.aload_n 0, 1) := by decide +kernel
theorem d_Items_add_48 : decode b_Items_add 48 = .ok (.getfield 25, 3) := by decide +kernel
theorem d_Items_add_51 : decode b_Items_add 51 = .ok (.iload 8, 2) := by decide +kernel
theorem d_Items_add_53 : decode b_Items_add 53 = .ok (.iaload, 1) := by decide +kernel
theorem d_Items_add_54 : decode b_Items_add 54 = .ok (.iload_n 1, 1) := by decide +kernel
theorem d_Items_add_55 : decode b_Items_add 55 = .ok (.iadd, 1) := by decide +kernel
theorem d_Items_add_56 : decode b_Items_add 56 = .ok (.iastore, 1) := by decide +kernel
theorem d_Items_add_57 : decode b_Items_add 57 = .ok (.aload_n 0, 1) := by decide +kernel
theorem d_Items_add_58 : decode b_Items_add 58 = .ok (.getfield 28, 3) := by decide +kernel
theorem d_Items_add_61 : decode b_Items_add 61 = .ok (.iload 7, 2) := by decide +kernel
theorem d_Items_add_63 : decode b_Items_add 63 = .ok (.iload 8, 2) := by decide +kernel
theorem d_Items_add_65 : decode b_Items_add 65 = .ok (.iadd, 1) := by decide +kernel
theorem d_Items_add_66 : decode b_Items_add 66 = .ok (.aload_n 0, 1) := by decide +kernel
theorem d_Items_add_67 : decode b_Items_add 67 = .ok (.getfield 28, 3) := by decide +kernel
theorem d_Items_add_70 : decode b_Items_add 70 = .ok (.iload 8, 2) := by decide +kernel
theorem d_Items_add_72 : decode b_Items_add 72 = .ok (.laload, 1) := by decide +kernel
theorem d_Items_add_73 : decode b_Items_add 73 = .ok (.lload_n 2, 1) := by decide +kernel
theorem d_Items_add_74 : decode b_Items_add 74 = .ok (.ladd, 1) := by decide +kernel
theorem d_Items_add_75 : decode b_Items_add 75 = .ok (.lastore, 1) := by decide +kernel
theorem d_Items_add_76 : decode b_Items_add 76 = .ok (.aload_n 0, 1) := by decide +kernel
theorem d_Items_add_77 : decode b_Items_add 77 = .ok (.getfield 31, 3) := by decide +kernel
theorem d_Items_add_80 : decode b_Items_add 80 = .ok (.iload 7, 2) := by decide +kernel
theorem d_Items_add_82 : decode b_Items_add 82 = .ok (.iload 8, 2) := by decide +kernel
theorem d_Items_add_84 : decode b_Items_add 84 = .ok (.iadd, 1) := by decide +kernel
theorem d_Items_add_85 : decode b_Items_add 85 = .ok (.aload_n 0, 1) := by decide +kernel
theorem d_Items_add_86 : decode b_Items_add 86 = .ok (.getfield 31, 3) := by decide +kernel
theorem d_Items_add_89 : decode b_Items_add 89 = .ok (.iload 8, 2) := by decide +kernel
theorem d_Items_add_91 : decode b_Items_add 91 = .ok (.laload, 1) := by decide +kernel
theorem d_Items_add_92 : decode b_Items_add 92 = .ok (.lload 4, 2) := by decide +kernel
theorem d_Items_add_94 : decode b_Items_add 94 = .ok (.ladd, 1) := by decide +kernel
theorem d_Items_add_95 : decode b_Items_add 95 = .ok (.lastore, 1) := by decide +kernel
theorem d_Items_add_96 : decode b_Items_add 96 = .ok (.iinc 8 1, 3) := by decide +kernel
theorem d_Items_add_99 : decode b_Items_add 99 = .ok (.goto (-68), 3) := by decide +kernel
theorem d_Items_add_102 : decode b_Items_add 102 = .ok (.aload_n 0, 1) := by decide +kernel
theorem d_Items_add_103 : decode b_Items_add 103 = .ok (.dup, 1) := by decide +kernel
theorem d_Items_add_104 : decode b_Items_add 104 = .ok (.getfield 38, 3) := by decide +kernel
theorem d_Items_add_107 : decode b_Items_add 107 = .ok (.iconst 1, 1) := by decide +kernel
theorem d_Items_add_108 : decode b_Items_add 108 = .ok (.iadd, 1) := by decide +kernel
theorem d_Items_add_109 : decode b_Items_add 109 = .ok (.putfield 38, 3) := by decide +kernel
theorem d_Items_add_112 : decode b_Items_add 112 = .ok (.iload 6, 2) := by decide +kernel
theorem d_Items_add_114 : decode b_Items_add 114 = .ok (.ireturn, 1) := by decide +kernel
theorem d_Items_setNeed_0 : decode b_Items_setNeed 0 = .ok (.aload_n 0, 1) := by decide +kernel
theorem d_Items_setNeed_1 : decode b_Items_setNeed 1 = .ok (.getfield 15, 3) := by decide +kernel
theorem d_Items_setNeed_4 : decode b_Items_setNeed 4 = .ok (.iload_n 1, 1) := by decide +kernel
theorem d_Items_setNeed_5 : decode b_Items_setNeed 5 = .ok (.iaload, 1) := by decide +kernel
theorem d_Items_setNeed_6 : decode b_Items_setNeed 6 = .ok (.iload_n 2, 1) := by decide +kernel
theorem d_Items_setNeed_7 : decode b_Items_setNeed 7 = .ok (.if_icmp .eq 7, 3) := by decide +kernel
theorem d_Items_setNeed_10 : decode b_Items_setNeed 10 = .ok (.iconst 1, 1) := by decide +kernel
theorem d_Items_setNeed_11 : decode b_Items_setNeed 11 = .ok (.goto 4, 3) := by decide +kernel
theorem d_Items_setNeed_14 : decode b_Items_setNeed 14 = .ok (.iconst 0, 1) := by decide +kernel
theorem d_Items_setNeed_15 : decode b_Items_setNeed 15 = .ok (.istore_n 3, 1) := by decide +kernel
theorem d_Items_setNeed_16 : decode b_Items_setNeed 16 = .ok (.aload_n 0, 1) := by decide +kernel
theorem d_Items_setNeed_17 : decode b_Items_setNeed 17 = .ok (.getfield 15, 3) := by decide +kernel
theorem d_Items_setNeed_20 : decode b_Items_setNeed 20 = .ok (.iload_n 1, 1) := by decide +kernel
theorem d_Items_setNeed_21 : decode b_Items_setNeed 21 = .ok (.iload_n 2, 1) := by decide +kernel
theorem d_Items_setNeed_22 : decode b_Items_setNeed 22 = .ok (.iastore, 1) := by decide +kernel
theorem d_Items_setNeed_23 : decode b_Items_setNeed 23 = .ok (.iload_n 3, 1) := by decide +kernel
theorem d_Items_setNeed_24 : decode b_Items_setNeed 24 = .ok (.ireturn, 1) := by decide +kernel
theorem d_Items_setNear_0 : decode b_Items_setNear 0 = .ok (.aload_n 0, 1) := by decide +kernel
theorem d_Items_setNear_1 : decode b_Items_setNear 1 = .ok (.iload_n 1, 1) := by decide +kernel
theorem d_Items_setNear_2 : decode b_Items_setNear 2 = .ok (.iload_n 2, 1) := by decide +kernel
theorem d_Items_setNear_3 : decode b_Items_setNear 3 = .ok (.invokevirtual 41, 3) := by decide +kernel
theorem d_Items_setNear_6 : decode b_Items_setNear 6 = .ok (.lload_n 3, 1) := by decide +kernel
theorem d_Items_setNear_7 : decode b_Items_setNear 7 = .ok (.lcmp, 1) := by decide +kernel
theorem d_Items_setNear_8 : decode b_Items_setNear 8 = .ok (.ifCond .eq 7, 3) := by decide +kernel
theorem d_Items_setNear_11 : decode b_Items_setNear 11 = .ok (.iconst 1, 1) := by decide +kernel
theorem d_Items_setNear_12 : decode b_Items_setNear 12 = .ok (.goto 4, 3) := by decide +kernel
theorem d_Items_setNear_15 : decode b_Items_setNear 15 = .ok (.iconst 0, 1) := by decide +kernel
theorem d_Items_setNear_16 : decode b_Items_setNear 16 = .ok (.istore 5, 2) := by decide +kernel
theorem d_Items_setNear_18 : decode b_Items_setNear 18 = .ok (.aload_n 0, 1) := by decide +kernel
theorem d_Items_setNear_19 : decode b_Items_setNear 19 = .ok (.getfield 21, 3) := by decide +kernel
theorem d_Items_setNear_22 : decode b_Items_setNear 22 = .ok (.iload_n 1, 1) := by decide +kernel
theorem d_Items_setNear_23 : decode b_Items_setNear 23 = .ok (.bipush 8, 2) := by decide +kernel
theorem d_Items_setNear_25 : decode b_Items_setNear 25 = .ok (.imul, 1) := by decide +kernel
theorem d_Items_setNear_26 : decode b_Items_setNear 26 = .ok (.iload_n 2, 1) := by decide +kernel
theorem d_Items_setNear_27 : decode b_Items_setNear 27 = .ok (.iadd, 1) := by decide +kernel
theorem d_Items_setNear_28 : decode b_Items_setNear 28 = .ok (.lload_n 3, 1) := by decide +kernel
theorem d_Items_setNear_29 : decode b_Items_setNear 29 = .ok (.lastore, 1) := by decide +kernel
theorem d_Items_setNear_30 : decode b_Items_setNear 30 = .ok (.aload_n 0, 1) := by decide +kernel
theorem d_Items_setNear_31 : decode b_Items_setNear 31 = .ok (.getfield 21, 3) := by decide +kernel
theorem d_Items_setNear_34 : decode b_Items_setNear 34 = .ok (.iload_n 2, 1) := by decide +kernel
theorem d_Items_setNear_35 : decode b_Items_setNear 35 = .ok (.bipush 8, 2) := by decide +kernel
theorem d_Items_setNear_37 : decode b_Items_setNear 37 = .ok (.imul, 1) := by decide +kernel
theorem d_Items_setNear_38 : decode b_Items_setNear 38 = .ok (.iload_n 1, 1) := by decide +kernel
theorem d_Items_setNear_39 : decode b_Items_setNear 39 = .ok (.iadd, 1) := by decide +kernel
theorem d_Items_setNear_40 : decode b_Items_setNear 40 = .ok (.lload_n 3, 1) := by decide +kernel
theorem d_Items_setNear_41 : decode b_Items_setNear 41 = .ok (.lastore, 1) := by decide +kernel
theorem d_Items_setNear_42 : decode b_Items_setNear 42 = .ok (.iload 5, 2) := by decide +kernel
theorem d_Items_setNear_44 : decode b_Items_setNear 44 = .ok (.ireturn, 1) := by decide +kernel
theorem d_Items_setBarred_0 : decode b_Items_setBarred 0 = .ok (.aload_n 0, 1) := by decide +kernel
theorem d_Items_setBarred_1 : decode b_Items_setBarred 1 = .ok (.iload_n 1, 1) := by decide +kernel
theorem d_Items_setBarred_2 : decode b_Items_setBarred 2 = .ok (.iload_n 2, 1) := by decide +kernel
theorem d_Items_setBarred_3 : decode b_Items_setBarred 3 = .ok (.invokevirtual 45, 3) := by decide +kernel
theorem d_Items_setBarred_6 : decode b_Items_setBarred 6 = .ok (.ifCond .ne 7, 3) := by decide +kernel
theorem d_Items_setBarred_9 : decode b_Items_setBarred 9 = .ok (.iconst 1, 1) := by decide +kernel
theorem d_Items_setBarred_10 : decode b_Items_setBarred 10 = .ok (.goto 4, 3) := by decide +kernel
theorem d_Items_setBarred_13 : decode b_Items_setBarred 13 = .ok (.iconst 0, 1) := by decide +kernel
theorem d_Items_setBarred_14 : decode b_Items_setBarred 14 = .ok (.istore_n 3, 1) := by decide +kernel
theorem d_Items_setBarred_15 : decode b_Items_setBarred 15 = .ok (.aload_n 0, 1) := by decide +kernel
theorem d_Items_setBarred_16 : decode b_Items_setBarred 16 = .ok (.getfield 18, 3) := by decide +kernel
theorem d_Items_setBarred_19 : decode b_Items_setBarred 19 = .ok (.iload_n 1, 1) := by decide +kernel
theorem d_Items_setBarred_20 : decode b_Items_setBarred 20 = .ok (.dup2, 1) := by decide +kernel
theorem d_Items_setBarred_21 : decode b_Items_setBarred 21 = .ok (.iaload, 1) := by decide +kernel
theorem d_Items_setBarred_22 : decode b_Items_setBarred 22 = .ok (.iconst 1, 1) := by decide +kernel
theorem d_Items_setBarred_23 : decode b_Items_setBarred 23 = .ok (.iload_n 2, 1) := by decide +kernel
theorem d_Items_setBarred_24 : decode b_Items_setBarred 24 = .ok (.ishl, 1) := by decide +kernel
theorem d_Items_setBarred_25 : decode b_Items_setBarred 25 = .ok (.ior, 1) := by decide +kernel
theorem d_Items_setBarred_26 : decode b_Items_setBarred 26 = .ok (.iastore, 1) := by decide +kernel
theorem d_Items_setBarred_27 : decode b_Items_setBarred 27 = .ok (.aload_n 0, 1) := by decide +kernel
theorem d_Items_setBarred_28 : decode b_Items_setBarred 28 = .ok (.getfield 18, 3) := by decide +kernel
theorem d_Items_setBarred_31 : decode b_Items_setBarred 31 = .ok (.iload_n 2, 1) := by decide +kernel
theorem d_Items_setBarred_32 : decode b_Items_setBarred 32 = .ok (.dup2, 1) := by decide +kernel
theorem d_Items_setBarred_33 : decode b_Items_setBarred 33 = .ok (.iaload, 1) := by decide +kernel
theorem d_Items_setBarred_34 : decode b_Items_setBarred 34 = .ok (.iconst 1, 1) := by decide +kernel
theorem d_Items_setBarred_35 : decode b_Items_setBarred 35 = .ok (.iload_n 1, 1) := by decide +kernel
theorem d_Items_setBarred_36 : decode b_Items_setBarred 36 = .ok (.ishl, 1) := by decide +kernel
theorem d_Items_setBarred_37 : decode b_Items_setBarred 37 = .ok (.ior, 1) := by decide +kernel
theorem d_Items_setBarred_38 : decode b_Items_setBarred 38 = .ok (.iastore, 1) := by decide +kernel
theorem d_Items_setBarred_39 : decode b_Items_setBarred 39 = .ok (.iload_n 3, 1) := by decide +kernel
theorem d_Items_setBarred_40 : decode b_Items_setBarred 40 = .ok (.ireturn, 1) := by decide +kernel
theorem d_Items_setMust_0 : decode b_Items_setMust 0 = .ok (.iload_n 2, 1) := by decide +kernel
theorem d_Items_setMust_1 : decode b_Items_setMust 1 = .ok (.ifCond .eq 14, 3) := by decide +kernel
theorem d_Items_setMust_4 : decode b_Items_setMust 4 = .ok (.aload_n 0, 1) := by decide +kernel
theorem d_Items_setMust_5 : decode b_Items_setMust 5 = .ok (.getfield 34, 3) := by decide +kernel
theorem d_Items_setMust_8 : decode b_Items_setMust 8 = .ok (.iconst 1, 1) := by decide +kernel
theorem d_Items_setMust_9 : decode b_Items_setMust 9 = .ok (.iload_n 1, 1) := by decide +kernel
theorem d_Items_setMust_10 : decode b_Items_setMust 10 = .ok (.ishl, 1) := by decide +kernel
theorem d_Items_setMust_11 : decode b_Items_setMust 11 = .ok (.ior, 1) := by decide +kernel
theorem d_Items_setMust_12 : decode b_Items_setMust 12 = .ok (.goto 13, 3) := by decide +kernel
theorem d_Items_setMust_15 : decode b_Items_setMust 15 = .ok (.aload_n 0, 1) := by decide +kernel
theorem d_Items_setMust_16 : decode b_Items_setMust 16 = .ok (.getfield 34, 3) := by decide +kernel
theorem d_Items_setMust_19 : decode b_Items_setMust 19 = .ok (.iconst 1, 1) := by decide +kernel
theorem d_Items_setMust_20 : decode b_Items_setMust 20 = .ok (.iload_n 1, 1) := by decide +kernel
theorem d_Items_setMust_21 : decode b_Items_setMust 21 = .ok (.ishl, 1) := by decide +kernel
theorem d_Items_setMust_22 : decode b_Items_setMust 22 = .ok (.iconst (-1), 1) := by decide +kernel
theorem d_Items_setMust_23 : decode b_Items_setMust 23 = .ok (.ixor, 1) := by decide +kernel
theorem d_Items_setMust_24 : decode b_Items_setMust 24 = .ok (.iand, 1) := by decide +kernel
theorem d_Items_setMust_25 : decode b_Items_setMust 25 = .ok (.istore_n 3, 1) := by decide +kernel
theorem d_Items_setMust_26 : decode b_Items_setMust 26 = .ok (.iload_n 3, 1) := by decide +kernel
theorem d_Items_setMust_27 : decode b_Items_setMust 27 = .ok (.aload_n 0, 1) := by decide +kernel
theorem d_Items_setMust_28 : decode b_Items_setMust 28 = .ok (.getfield 34, 3) := by decide +kernel
theorem d_Items_setMust_31 : decode b_Items_setMust 31 = .ok (.if_icmp .eq 7, 3) := by decide +kernel
theorem d_Items_setMust_34 : decode b_Items_setMust 34 = .ok (.iconst 1, 1) := by decide +kernel
theorem d_Items_setMust_35 : decode b_Items_setMust 35 = .ok (.goto 4, 3) := by decide +kernel
theorem d_Items_setMust_38 : decode b_Items_setMust 38 = .ok (.iconst 0, 1) := by decide +kernel
theorem d_Items_setMust_39 : decode b_Items_setMust 39 = .ok (.istore 4, 2) := by decide +kernel
theorem d_Items_setMust_41 : decode b_Items_setMust 41 = .ok (.aload_n 0, 1) := by decide +kernel
theorem d_Items_setMust_42 : decode b_Items_setMust 42 = .ok (.iload_n 3, 1) := by decide +kernel
theorem d_Items_setMust_43 : decode b_Items_setMust 43 = .ok (.putfield 34, 3) := by decide +kernel
theorem d_Items_setMust_46 : decode b_Items_setMust 46 = .ok (.iload 4, 2) := by decide +kernel
theorem d_Items_setMust_48 : decode b_Items_setMust 48 = .ok (.ireturn, 1) := by decide +kernel
theorem d_Items_nearWorthOf_0 : decode b_Items_nearWorthOf 0 = .ok (.aload_n 0, 1) := by decide +kernel
theorem d_Items_nearWorthOf_1 : decode b_Items_nearWorthOf 1 = .ok (.getfield 21, 3) := by decide +kernel
theorem d_Items_nearWorthOf_4 : decode b_Items_nearWorthOf 4 = .ok (.iload_n 1, 1) := by decide +kernel
theorem d_Items_nearWorthOf_5 : decode b_Items_nearWorthOf 5 = .ok (.bipush 8, 2) := by decide +kernel
theorem d_Items_nearWorthOf_7 : decode b_Items_nearWorthOf 7 = .ok (.imul, 1) := by decide +kernel
theorem d_Items_nearWorthOf_8 : decode b_Items_nearWorthOf 8 = .ok (.iload_n 2, 1) := by decide +kernel
theorem d_Items_nearWorthOf_9 : decode b_Items_nearWorthOf 9 = .ok (.iadd, 1) := by decide +kernel
theorem d_Items_nearWorthOf_10 : decode b_Items_nearWorthOf 10 = .ok (.laload, 1) := by decide +kernel
theorem d_Items_nearWorthOf_11 : decode b_Items_nearWorthOf 11 = .ok (.lreturn, 1) := by decide +kernel
theorem d_Items_isBarred_0 : decode b_Items_isBarred 0 = .ok (.aload_n 0, 1) := by decide +kernel
theorem d_Items_isBarred_1 : decode b_Items_isBarred 1 = .ok (.getfield 18, 3) := by decide +kernel
theorem d_Items_isBarred_4 : decode b_Items_isBarred 4 = .ok (.iload_n 1, 1) := by decide +kernel
theorem d_Items_isBarred_5 : decode b_Items_isBarred 5 = .ok (.iaload, 1) := by decide +kernel
theorem d_Items_isBarred_6 : decode b_Items_isBarred 6 = .ok (.iconst 1, 1) := by decide +kernel
theorem d_Items_isBarred_7 : decode b_Items_isBarred 7 = .ok (.iload_n 2, 1) := by decide +kernel
theorem d_Items_isBarred_8 : decode b_Items_isBarred 8 = .ok (.ishl, 1) := by decide +kernel
theorem d_Items_isBarred_9 : decode b_Items_isBarred 9 = .ok (.iand, 1) := by decide +kernel
theorem d_Items_isBarred_10 : decode b_Items_isBarred 10 = .ok (.ifCond .eq 7, 3) := by decide +kernel
theorem d_Items_isBarred_13 : decode b_Items_isBarred 13 = .ok (.iconst 1, 1) := by decide +kernel
theorem d_Items_isBarred_14 : decode b_Items_isBarred 14 = .ok (.goto 4, 3) := by decide +kernel
theorem d_Items_isBarred_17 : decode b_Items_isBarred 17 = .ok (.iconst 0, 1) := by decide +kernel
theorem d_Items_isBarred_18 : decode b_Items_isBarred 18 = .ok (.ireturn, 1) := by decide +kernel
theorem d_Items_isNeedMet_0 : decode b_Items_isNeedMet 0 = .ok (.aload_n 0, 1) := by decide +kernel
theorem d_Items_isNeedMet_1 : decode b_Items_isNeedMet 1 = .ok (.getfield 15, 3) := by decide +kernel
theorem d_Items_isNeedMet_4 : decode b_Items_isNeedMet 4 = .ok (.iload_n 1, 1) := by decide +kernel
theorem d_Items_isNeedMet_5 : decode b_Items_isNeedMet 5 = .ok (.iaload, 1) := by decide +kernel
theorem d_Items_isNeedMet_6 : decode b_Items_isNeedMet 6 = .ok (.iconst (-1), 1) := by decide +kernel
theorem d_Items_isNeedMet_7 : decode b_Items_isNeedMet 7 = .ok (.if_icmp .eq 23, 3) := by decide +kernel
theorem d_Items_isNeedMet_10 : decode b_Items_isNeedMet 10 = .ok (.aload_n 3, 1) := by decide +kernel
theorem d_Items_isNeedMet_11 : decode b_Items_isNeedMet 11 = .ok (.iload_n 2, 1) := by decide +kernel
theorem d_Items_isNeedMet_12 : decode b_Items_isNeedMet 12 = .ok (.aload_n 0, 1) := by decide +kernel
theorem d_Items_isNeedMet_13 : decode b_Items_isNeedMet 13 = .ok (.getfield 9, 3) := by decide +kernel
theorem d_Items_isNeedMet_16 : decode b_Items_isNeedMet 16 = .ok (.iload_n 1, 1) := by decide +kernel
theorem d_Items_isNeedMet_17 : decode b_Items_isNeedMet 17 = .ok (.iaload, 1) := by decide +kernel
theorem d_Items_isNeedMet_18 : decode b_Items_isNeedMet 18 = .ok (.aload_n 0, 1) := by decide +kernel
theorem d_Items_isNeedMet_19 : decode b_Items_isNeedMet 19 = .ok (.getfield 15, 3) := by decide +kernel
theorem d_Items_isNeedMet_22 : decode b_Items_isNeedMet 22 = .ok (.iload_n 1, 1) := by decide +kernel
theorem d_Items_isNeedMet_23 : decode b_Items_isNeedMet 23 = .ok (.iaload, 1) := by decide +kernel
theorem d_Items_isNeedMet_24 : decode b_Items_isNeedMet 24 = .ok (.invokevirtual 49, 3) := by decide +kernel
theorem d_Items_isNeedMet_27 : decode b_Items_isNeedMet 27 = .ok (.ifCond .eq 7, 3) := by decide +kernel
theorem d_Items_isNeedMet_30 : decode b_Items_isNeedMet 30 = .ok (.iconst 1, 1) := by decide +kernel
theorem d_Items_isNeedMet_31 : decode b_Items_isNeedMet 31 = .ok (.goto 4, 3) := by decide +kernel
theorem d_Items_isNeedMet_34 : decode b_Items_isNeedMet 34 = .ok (.iconst 0, 1) := by decide +kernel
theorem d_Items_isNeedMet_35 : decode b_Items_isNeedMet 35 = .ok (.ireturn, 1) := by decide +kernel
