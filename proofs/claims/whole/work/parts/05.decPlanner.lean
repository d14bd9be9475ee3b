theorem d_Planner_init_0 : decode b_Planner_init 0 = .ok (.aload_n 0, 1) := by decide +kernel
theorem d_Planner_init_1 : decode b_Planner_init 1 = .ok (.invokespecial 3, 3) := by decide +kernel
theorem d_Planner_init_4 : decode b_Planner_init 4 = .ok (.aload_n 0, 1) := by decide +kernel
theorem d_Planner_init_5 : decode b_Planner_init 5 = .ok (.aload_n 1, 1) := by decide +kernel
theorem d_Planner_init_6 : decode b_Planner_init 6 = .ok (.putfield 9, 3) := by decide +kernel
theorem d_Planner_init_9 : decode b_Planner_init 9 = .ok (.aload_n 0, 1) := by decide +kernel
theorem d_Planner_init_10 : decode b_Planner_init 10 = .ok (.aload_n 2, 1) := by decide +kernel
theorem d_Planner_init_11 : decode b_Planner_init 11 = .ok (.putfield 15, 3) := by decide +kernel
theorem d_Planner_init_14 : decode b_Planner_init 14 = .ok (.aload_n 0, 1) := by decide +kernel
theorem d_Planner_init_15 : decode b_Planner_init 15 = .ok (.new 19, 3) := by decide +kernel
theorem d_Planner_init_18 : decode b_Planner_init 18 = .ok (.dup, 1) := by decide +kernel
theorem d_Planner_init_19 : decode b_Planner_init 19 = .ok (.aload_n 1, 1) := by decide +kernel
theorem d_Planner_init_20 : decode b_Planner_init 20 = .ok (.aload_n 2, 1) := by decide +kernel
theorem d_Planner_init_21 : decode b_Planner_init 21 = .ok (.aload_n 3, 1) := by decide +kernel
theorem d_Planner_init_22 : decode b_Planner_init 22 = .ok (.invokespecial 21, 3) := by decide +kernel
theorem d_Planner_init_25 : decode b_Planner_init 25 = .ok (.putfield 24, 3) := by decide +kernel
theorem d_Planner_init_28 : decode b_Planner_init 28 = .ok (.aload_n 0, 1) := by decide +kernel
theorem d_Planner_init_29 : decode b_Planner_init 29 = .ok (.new 28, 3) := by decide +kernel
theorem d_Planner_init_32 : decode b_Planner_init 32 = .ok (.dup, 1) := by decide +kernel
theorem d_Planner_init_33 : decode b_Planner_init 33 = .ok (.invokespecial 30, 3) := by decide +kernel
theorem d_Planner_init_36 : decode b_Planner_init 36 = .ok (.putfield 31, 3) := by decide +kernel
theorem d_Planner_init_39 : decode b_Planner_init 39 = .ok (.aload_n 0, 1) := by decide +kernel
theorem d_Planner_init_40 : decode b_Planner_init 40 = .ok (.bipush 64, 2) := by decide +kernel
theorem d_Planner_init_42 : decode b_Planner_init 42 = .ok (.newarray .int, 2) := by decide +kernel
theorem d_Planner_init_44 : decode b_Planner_init 44 = .ok (.putfield 35, 3) := by decide +kernel
theorem d_Planner_init_47 : decode b_Planner_init 47 = .ok (.return_, 1) := by decide +kernel
theorem d_Planner_chooseSets_0 : decode b_Planner_chooseSets 0 = .ok (.aload_n 0, 1) := by decide +kernel
theorem d_Planner_chooseSets_1 : decode b_Planner_chooseSets 1 = .ok (.iconst 0, 1) := by decide +kernel
theorem d_Planner_chooseSets_2 : decode b_Planner_chooseSets 2 = .ok (.putfield 39, 3) := by decide +kernel
theorem d_Planner_chooseSets_5 : decode b_Planner_chooseSets 5 = .ok (.iconst 0, 1) := by decide +kernel
theorem d_Planner_chooseSets_6 : decode b_Planner_chooseSets 6 = .ok (.istore 4, 2) := by decide +kernel
theorem d_Planner_chooseSets_8 : decode b_Planner_chooseSets 8 = .ok (.iload 4, 2) := by decide +kernel
theorem d_Planner_chooseSets_10 : decode b_Planner_chooseSets 10 = .ok (.iconst 1, 1) := by decide +kernel
theorem d_Planner_chooseSets_11 : decode b_Planner_chooseSets 11 = .ok (.aload_n 0, 1) := by decide +kernel
theorem d_Planner_chooseSets_12 : decode b_Planner_chooseSets 12 = .ok (.getfield 15, 3) := by decide +kernel
theorem d_Planner_chooseSets_15 : decode b_Planner_chooseSets 15 = .ok (.getfield 43, 3) := by decide +kernel
theorem d_Planner_chooseSets_18 : decode b_Planner_chooseSets 18 = .ok (.ishl, 1) := by decide +kernel
theorem d_Planner_chooseSets_19 : decode b_Planner_chooseSets 19 = .ok (.if_icmp .ge 41, 3) := by decide +kernel
theorem d_Planner_chooseSets_22 : decode b_Planner_chooseSets 22 = .ok (.aload_n 0, 1) := by decide +kernel
theorem d_Planner_chooseSets_23 : decode b_Planner_chooseSets 23 = .ok (.getfield 15, 3) := by decide +kernel
theorem d_Planner_chooseSets_26 : decode b_Planner_chooseSets 26 = .ok (.getfield 48, 3) := by decide +kernel
theorem d_Planner_chooseSets_29 : decode b_Planner_chooseSets 29 = .ok (.iload 4, 2) := by decide +kernel
theorem d_Planner_chooseSets_31 : decode b_Planner_chooseSets 31 = .ok (.iconst (-1), 1) := by decide +kernel
theorem d_Planner_chooseSets_32 : decode b_Planner_chooseSets 32 = .ok (.ixor, 1) := by decide +kernel
theorem d_Planner_chooseSets_33 : decode b_Planner_chooseSets 33 = .ok (.iand, 1) := by decide +kernel
theorem d_Planner_chooseSets_34 : decode b_Planner_chooseSets 34 = .ok (.ifCond .ne 20, 3) := by decide +kernel
theorem d_Planner_chooseSets_37 : decode b_Planner_chooseSets 37 = .ok (.iload 4, 2) := by decide +kernel
theorem d_Planner_chooseSets_39 : decode b_Planner_chooseSets 39 = .ok (.aload_n 1, 1) := by decide +kernel
theorem d_Planner_chooseSets_40 : decode b_Planner_chooseSets 40 = .ok (.iload_n 2, 1) := by decide +kernel
theorem d_Planner_chooseSets_41 : decode b_Planner_chooseSets 41 = .ok (.iload_n 3, 1) := by decide +kernel
theorem d_Planner_chooseSets_42 : decode b_Planner_chooseSets 42 = .ok (.invokestatic 51, 3) := by decide +kernel
theorem d_Planner_chooseSets_45 : decode b_Planner_chooseSets 45 = .ok (.ifCond .eq 9, 3) := by decide +kernel
theorem d_Planner_chooseSets_48 : decode b_Planner_chooseSets 48 = .ok (.aload_n 0, 1) := by decide +kernel
theorem d_Planner_chooseSets_49 : decode b_Planner_chooseSets 49 = .ok (.iload 4, 2) := by decide +kernel
theorem d_Planner_chooseSets_51 : decode b_Planner_chooseSets 51 = .ok (.invokevirtual 55, 3) := by decide +kernel
theorem d_Planner_chooseSets_54 : decode b_Planner_chooseSets 54 = .ok (.iinc 4 1, 3) := by decide +kernel
theorem d_Planner_chooseSets_57 : decode b_Planner_chooseSets 57 = .ok (.goto (-49), 3) := by decide +kernel
theorem d_Planner_chooseSets_60 : decode b_Planner_chooseSets 60 = .ok (.aload_n 0, 1) := by decide +kernel
theorem d_Planner_chooseSets_61 : decode b_Planner_chooseSets 61 = .ok (.getfield 39, 3) := by decide +kernel
theorem d_Planner_chooseSets_64 : decode b_Planner_chooseSets 64 = .ok (.ifCond .le 7, 3) := by decide +kernel
theorem d_Planner_chooseSets_67 : decode b_Planner_chooseSets 67 = .ok (.iconst 1, 1) := by decide +kernel
theorem d_Planner_chooseSets_68 : decode b_Planner_chooseSets 68 = .ok (.goto 4, 3) := by decide +kernel
theorem d_Planner_chooseSets_71 : decode b_Planner_chooseSets 71 = .ok (.iconst 0, 1) := by decide +kernel
theorem d_Planner_chooseSets_72 : decode b_Planner_chooseSets 72 = .ok (.ireturn, 1) := by decide +kernel
theorem d_Planner_isUnlike_0 : decode b_Planner_isUnlike 0 = .ok (.iconst 0, 1) := by decide +kernel
theorem d_Planner_isUnlike_1 : decode b_Planner_isUnlike 1 = .ok (.istore 4, 2) := by decide +kernel
theorem d_Planner_isUnlike_3 : decode b_Planner_isUnlike 3 = .ok (.iload 4, 2) := by decide +kernel
theorem d_Planner_isUnlike_5 : decode b_Planner_isUnlike 5 = .ok (.iload_n 2, 1) := by decide +kernel
theorem d_Planner_isUnlike_6 : decode b_Planner_isUnlike 6 = .ok (.if_icmp .ge 24, 3) := by decide +kernel
theorem d_Planner_isUnlike_9 : decode b_Planner_isUnlike 9 = .ok (.iload_n 0, 1) := by decide +kernel
theorem d_Planner_isUnlike_10 : decode b_Planner_isUnlike 10 = .ok (.aload_n 1, 1) := by decide +kernel
theorem d_Planner_isUnlike_11 : decode b_Planner_isUnlike 11 = .ok (.iload 4, 2) := by decide +kernel
theorem d_Planner_isUnlike_13 : decode b_Planner_isUnlike 13 = .ok (.iaload, 1) := by decide +kernel
theorem d_Planner_isUnlike_14 : decode b_Planner_isUnlike 14 = .ok (.ixor, 1) := by decide +kernel
theorem d_Planner_isUnlike_15 : decode b_Planner_isUnlike 15 = .ok (.invokestatic 59, 3) := by decide +kernel
theorem d_Planner_isUnlike_18 : decode b_Planner_isUnlike 18 = .ok (.iload_n 3, 1) := by decide +kernel
theorem d_Planner_isUnlike_19 : decode b_Planner_isUnlike 19 = .ok (.if_icmp .ge 5, 3) := by decide +kernel
theorem d_Planner_isUnlike_22 : decode b_Planner_isUnlike 22 = .ok (.iconst 0, 1) := by decide +kernel
theorem d_Planner_isUnlike_23 : decode b_Planner_isUnlike 23 = .ok (.ireturn, 1) := by decide +kernel
theorem d_Planner_isUnlike_24 : decode b_Planner_isUnlike 24 = .ok (.iinc 4 1, 3) := by decide +kernel
theorem d_Planner_isUnlike_27 : decode b_Planner_isUnlike 27 = .ok (.goto (-24), 3) := by decide +kernel
theorem d_Planner_isUnlike_30 : decode b_Planner_isUnlike 30 = .ok (.iconst 1, 1) := by decide +kernel
theorem d_Planner_isUnlike_31 : decode b_Planner_isUnlike 31 = .ok (.ireturn, 1) := by decide +kernel
theorem d_Planner_offerSet_0 : decode b_Planner_offerSet 0 = .ok (.aload_n 0, 1) := by decide +kernel
theorem d_Planner_offerSet_1 : decode b_Planner_offerSet 1 = .ok (.getfield 24, 3) := by decide +kernel
theorem d_Planner_offerSet_4 : decode b_Planner_offerSet 4 = .ok (.iconst 0, 1) := by decide +kernel
theorem d_Planner_offerSet_5 : decode b_Planner_offerSet 5 = .ok (.iload_n 1, 1) := by decide +kernel
theorem d_Planner_offerSet_6 : decode b_Planner_offerSet 6 = .ok (.bipush 7, 2) := by decide +kernel
theorem d_Planner_offerSet_8 : decode b_Planner_offerSet 8 = .ok (.invokevirtual 65, 3) := by decide +kernel
theorem d_Planner_offerSet_11 : decode b_Planner_offerSet 11 = .ok (.lstore_n 2, 1) := by decide +kernel
theorem d_Planner_offerSet_12 : decode b_Planner_offerSet 12 = .ok (.lload_n 2, 1) := by decide +kernel
theorem d_Planner_offerSet_13 : decode b_Planner_offerSet 13 = .ok (.ldc2_w 69, 3) := by decide +kernel
theorem d_Planner_offerSet_16 : decode b_Planner_offerSet 16 = .ok (.lcmp, 1) := by decide +kernel
theorem d_Planner_offerSet_17 : decode b_Planner_offerSet 17 = .ok (.ifCond .ne 4, 3) := by decide +kernel
theorem d_Planner_offerSet_20 : decode b_Planner_offerSet 20 = .ok (.return_, 1) := by decide +kernel
theorem d_Planner_offerSet_21 : decode b_Planner_offerSet 21 = .ok (.aload_n 0, 1) := by decide +kernel
theorem d_Planner_offerSet_22 : decode b_Planner_offerSet 22 = .ok (.getfield 15, 3) := by decide +kernel
theorem d_Planner_offerSet_25 : decode b_Planner_offerSet 25 = .ok (.getfield 71, 3) := by decide +kernel
theorem d_Planner_offerSet_28 : decode b_Planner_offerSet 28 = .ok (.iload_n 1, 1) := by decide +kernel
theorem d_Planner_offerSet_29 : decode b_Planner_offerSet 29 = .ok (.laload, 1) := by decide +kernel
theorem d_Planner_offerSet_30 : decode b_Planner_offerSet 30 = .ok (.lload_n 2, 1) := by decide +kernel
theorem d_Planner_offerSet_31 : decode b_Planner_offerSet 31 = .ok (.ladd, 1) := by decide +kernel
theorem d_Planner_offerSet_32 : decode b_Planner_offerSet 32 = .ok (.lstore 4, 2) := by decide +kernel
theorem d_Planner_offerSet_34 : decode b_Planner_offerSet 34 = .ok (.aload_n 0, 1) := by decide +kernel
theorem d_Planner_offerSet_35 : decode b_Planner_offerSet 35 = .ok (.getfield 15, 3) := by decide +kernel
theorem d_Planner_offerSet_38 : decode b_Planner_offerSet 38 = .ok (.getfield 75, 3) := by decide +kernel
theorem d_Planner_offerSet_41 : decode b_Planner_offerSet 41 = .ok (.iload_n 1, 1) := by decide +kernel
theorem d_Planner_offerSet_42 : decode b_Planner_offerSet 42 = .ok (.laload, 1) := by decide +kernel
theorem d_Planner_offerSet_43 : decode b_Planner_offerSet 43 = .ok (.lstore 6, 2) := by decide +kernel
theorem d_Planner_offerSet_45 : decode b_Planner_offerSet 45 = .ok (.aload_n 0, 1) := by decide +kernel
theorem d_Planner_offerSet_46 : decode b_Planner_offerSet 46 = .ok (.getfield 39, 3) := by decide +kernel
theorem d_Planner_offerSet_49 : decode b_Planner_offerSet 49 = .ok (.ifCond .le 34, 3) := by decide +kernel
theorem d_Planner_offerSet_52 : decode b_Planner_offerSet 52 = .ok (.lload 4, 2) := by decide +kernel
theorem d_Planner_offerSet_54 : decode b_Planner_offerSet 54 = .ok (.aload_n 0, 1) := by decide +kernel
theorem d_Planner_offerSet_55 : decode b_Planner_offerSet 55 = .ok (.getfield 78, 3) := by decide +kernel
theorem d_Planner_offerSet_58 : decode b_Planner_offerSet 58 = .ok (.lcmp, 1) := by decide +kernel
theorem d_Planner_offerSet_59 : decode b_Planner_offerSet 59 = .ok (.ifCond .lt 23, 3) := by decide +kernel
theorem d_Planner_offerSet_62 : decode b_Planner_offerSet 62 = .ok (.lload 4, 2) := by decide +kernel
theorem d_Planner_offerSet_64 : decode b_Planner_offerSet 64 = .ok (.aload_n 0, 1) := by decide +kernel
theorem d_Planner_offerSet_65 : decode b_Planner_offerSet 65 = .ok (.getfield 78, 3) := by decide +kernel
theorem d_Planner_offerSet_68 : decode b_Planner_offerSet 68 = .ok (.lcmp, 1) := by decide +kernel
theorem d_Planner_offerSet_69 : decode b_Planner_offerSet 69 = .ok (.ifCond .ne 14, 3) := by decide +kernel
theorem d_Planner_offerSet_72 : decode b_Planner_offerSet 72 = .ok (.lload 6, 2) := by decide +kernel
theorem d_Planner_offerSet_74 : decode b_Planner_offerSet 74 = .ok (.aload_n 0, 1) := by decide +kernel
theorem d_Planner_offerSet_75 : decode b_Planner_offerSet 75 = .ok (.getfield 82, 3) := by decide +kernel
theorem d_Planner_offerSet_78 : decode b_Planner_offerSet 78 = .ok (.lcmp, 1) := by decide +kernel
theorem d_Planner_offerSet_79 : decode b_Planner_offerSet 79 = .ok (.ifCond .le 4, 3) := by decide +kernel
theorem d_Planner_offerSet_82 : decode b_Planner_offerSet 82 = .ok (.return_, 1) := by decide +kernel
theorem d_Planner_offerSet_83 : decode b_Planner_offerSet 83 = .ok (.aload_n 0, 1) := by decide +kernel
theorem d_Planner_offerSet_84 : decode b_Planner_offerSet 84 = .ok (.getfield 39, 3) := by decide +kernel
theorem d_Planner_offerSet_87 : decode b_Planner_offerSet 87 = .ok (.ifCond .le 28, 3) := by decide +kernel
theorem d_Planner_offerSet_90 : decode b_Planner_offerSet 90 = .ok (.lload 4, 2) := by decide +kernel
theorem d_Planner_offerSet_92 : decode b_Planner_offerSet 92 = .ok (.aload_n 0, 1) := by decide +kernel
theorem d_Planner_offerSet_93 : decode b_Planner_offerSet 93 = .ok (.getfield 78, 3) := by decide +kernel
theorem d_Planner_offerSet_96 : decode b_Planner_offerSet 96 = .ok (.lcmp, 1) := by decide +kernel
theorem d_Planner_offerSet_97 : decode b_Planner_offerSet 97 = .ok (.ifCond .gt 13, 3) := by decide +kernel
theorem d_Planner_offerSet_100 : decode b_Planner_offerSet 100 = .ok (.lload 6, 2) := by decide +kernel
theorem d_Planner_offerSet_102 : decode b_Planner_offerSet 102 = .ok (.aload_n 0, 1) := by decide +kernel
theorem d_Planner_offerSet_103 : decode b_Planner_offerSet 103 = .ok (.getfield 82, 3) := by decide +kernel
theorem d_Planner_offerSet_106 : decode b_Planner_offerSet 106 = .ok (.lcmp, 1) := by decide +kernel
theorem d_Planner_offerSet_107 : decode b_Planner_offerSet 107 = .ok (.ifCond .ge 8, 3) := by decide +kernel
theorem d_Planner_offerSet_110 : decode b_Planner_offerSet 110 = .ok (.aload_n 0, 1) := by decide +kernel
theorem d_Planner_offerSet_111 : decode b_Planner_offerSet 111 = .ok (.iconst 0, 1) := by decide +kernel
theorem d_Planner_offerSet_112 : decode b_Planner_offerSet 112 = .ok (.putfield 39, 3) := by decide +kernel
theorem d_Planner_offerSet_115 : decode b_Planner_offerSet 115 = .ok (.aload_n 0, 1) := by decide +kernel
theorem d_Planner_offerSet_116 : decode b_Planner_offerSet 116 = .ok (.lload 4, 2) := by decide +kernel
theorem d_Planner_offerSet_118 : decode b_Planner_offerSet 118 = .ok (.putfield 78, 3) := by decide +kernel
theorem d_Planner_offerSet_121 : decode b_Planner_offerSet 121 = .ok (.aload_n 0, 1) := by decide +kernel
theorem d_Planner_offerSet_122 : decode b_Planner_offerSet 122 = .ok (.lload 6, 2) := by decide +kernel
theorem d_Planner_offerSet_124 : decode b_Planner_offerSet 124 = .ok (.putfield 82, 3) := by decide +kernel
theorem d_Planner_offerSet_127 : decode b_Planner_offerSet 127 = .ok (.aload_n 0, 1) := by decide +kernel
theorem d_Planner_offerSet_128 : decode b_Planner_offerSet 128 = .ok (.getfield 35, 3) := by decide +kernel
theorem d_Planner_offerSet_131 : decode b_Planner_offerSet 131 = .ok (.aload_n 0, 1) := by decide +kernel
theorem d_Planner_offerSet_132 : decode b_Planner_offerSet 132 = .ok (.getfield 39, 3) := by decide +kernel
theorem d_Planner_offerSet_135 : decode b_Planner_offerSet 135 = .ok (.iload_n 1, 1) := by decide +kernel
theorem d_Planner_offerSet_136 : decode b_Planner_offerSet 136 = .ok (.iastore, 1) := by decide +kernel
theorem d_Planner_offerSet_137 : decode b_Planner_offerSet 137 = .ok (.aload_n 0, 1) := by decide +kernel
theorem d_Planner_offerSet_138 : decode b_Planner_offerSet 138 = .ok (.dup, 1) := by decide +kernel
theorem d_Planner_offerSet_139 : decode b_Planner_offerSet 139 = .ok (.getfield 39, 3) := by decide +kernel
theorem d_Planner_offerSet_142 : decode b_Planner_offerSet 142 = .ok (.iconst 1, 1) := by decide +kernel
theorem d_Planner_offerSet_143 : decode b_Planner_offerSet 143 = .ok (.iadd, 1) := by decide +kernel
theorem d_Planner_offerSet_144 : decode b_Planner_offerSet 144 = .ok (.putfield 39, 3) := by decide +kernel
theorem d_Planner_offerSet_147 : decode b_Planner_offerSet 147 = .ok (.return_, 1) := by decide +kernel
theorem d_Planner_layOut_0 : decode b_Planner_layOut 0 = .ok (.aload_n 0, 1) := by decide +kernel
theorem d_Planner_layOut_1 : decode b_Planner_layOut 1 = .ok (.getfield 31, 3) := by decide +kernel
theorem d_Planner_layOut_4 : decode b_Planner_layOut 4 = .ok (.aload_n 0, 1) := by decide +kernel
theorem d_Planner_layOut_5 : decode b_Planner_layOut 5 = .ok (.getfield 78, 3) := by decide +kernel
theorem d_Planner_layOut_8 : decode b_Planner_layOut 8 = .ok (.aload_n 0, 1) := by decide +kernel
theorem d_Planner_layOut_9 : decode b_Planner_layOut 9 = .ok (.getfield 82, 3) := by decide +kernel
theorem d_Planner_layOut_12 : decode b_Planner_layOut 12 = .ok (.invokevirtual 85, 3) := by decide +kernel
theorem d_Planner_layOut_15 : decode b_Planner_layOut 15 = .ok (.aload_n 0, 1) := by decide +kernel
theorem d_Planner_layOut_16 : decode b_Planner_layOut 16 = .ok (.iconst 0, 1) := by decide +kernel
theorem d_Planner_layOut_17 : decode b_Planner_layOut 17 = .ok (.putfield 89, 3) := by decide +kernel
theorem d_Planner_layOut_20 : decode b_Planner_layOut 20 = .ok (.aload_n 0, 1) := by decide +kernel
theorem d_Planner_layOut_21 : decode b_Planner_layOut 21 = .ok (.bipush 7, 2) := by decide +kernel
theorem d_Planner_layOut_23 : decode b_Planner_layOut 23 = .ok (.putfield 92, 3) := by decide +kernel
theorem d_Planner_layOut_26 : decode b_Planner_layOut 26 = .ok (.iconst 0, 1) := by decide +kernel
theorem d_Planner_layOut_27 : decode b_Planner_layOut 27 = .ok (.istore_n 1, 1) := by decide +kernel
theorem d_Planner_layOut_28 : decode b_Planner_layOut 28 = .ok (.iload_n 1, 1) := by decide +kernel
theorem d_Planner_layOut_29 : decode b_Planner_layOut 29 = .ok (.aload_n 0, 1) := by decide +kernel
theorem d_Planner_layOut_30 : decode b_Planner_layOut 30 = .ok (.getfield 9, 3) := by decide +kernel
theorem d_Planner_layOut_33 : decode b_Planner_layOut 33 = .ok (.getfield 95, 3) := by decide +kernel
theorem d_Planner_layOut_36 : decode b_Planner_layOut 36 = .ok (.if_icmp .ge 71, 3) := by decide +kernel
theorem d_Planner_layOut_39 : decode b_Planner_layOut 39 = .ok (.aload_n 0, 1) := by decide +kernel
theorem d_Planner_layOut_40 : decode b_Planner_layOut 40 = .ok (.getfield 89, 3) := by decide +kernel
theorem d_Planner_layOut_43 : decode b_Planner_layOut 43 = .ok (.aload_n 0, 1) := by decide +kernel
theorem d_Planner_layOut_44 : decode b_Planner_layOut 44 = .ok (.getfield 9, 3) := by decide +kernel
theorem d_Planner_layOut_47 : decode b_Planner_layOut 47 = .ok (.getfield 95, 3) := by decide +kernel
theorem d_Planner_layOut_50 : decode b_Planner_layOut 50 = .ok (.if_icmp .ge 57, 3) := by decide +kernel
theorem d_Planner_layOut_53 : decode b_Planner_layOut 53 = .ok (.aload_n 0, 1) := by decide +kernel
theorem d_Planner_layOut_54 : decode b_Planner_layOut 54 = .ok (.getfield 9, 3) := by decide +kernel
theorem d_Planner_layOut_57 : decode b_Planner_layOut 57 = .ok (.aload_n 0, 1) := by decide +kernel
theorem d_Planner_layOut_58 : decode b_Planner_layOut 58 = .ok (.getfield 89, 3) := by decide +kernel
theorem d_Planner_layOut_61 : decode b_Planner_layOut 61 = .ok (.invokevirtual 100, 3) := by decide +kernel
theorem d_Planner_layOut_64 : decode b_Planner_layOut 64 = .ok (.ifCond .eq 22, 3) := by decide +kernel
theorem d_Planner_layOut_67 : decode b_Planner_layOut 67 = .ok (.aload_n 0, 1) := by decide +kernel
theorem d_Planner_layOut_68 : decode b_Planner_layOut 68 = .ok (.dup, 1) := by decide +kernel
theorem d_Planner_layOut_69 : decode b_Planner_layOut 69 = .ok (.getfield 89, 3) := by decide +kernel
theorem d_Planner_layOut_72 : decode b_Planner_layOut 72 = .ok (.iconst 1, 1) := by decide +kernel
theorem d_Planner_layOut_73 : decode b_Planner_layOut 73 = .ok (.iadd, 1) := by decide +kernel
theorem d_Planner_layOut_74 : decode b_Planner_layOut 74 = .ok (.putfield 89, 3) := by decide +kernel
theorem d_Planner_layOut_77 : decode b_Planner_layOut 77 = .ok (.aload_n 0, 1) := by decide +kernel
theorem d_Planner_layOut_78 : decode b_Planner_layOut 78 = .ok (.bipush 7, 2) := by decide +kernel
theorem d_Planner_layOut_80 : decode b_Planner_layOut 80 = .ok (.putfield 92, 3) := by decide +kernel
theorem d_Planner_layOut_83 : decode b_Planner_layOut 83 = .ok (.goto 18, 3) := by decide +kernel
theorem d_Planner_layOut_86 : decode b_Planner_layOut 86 = .ok (.aload_n 0, 1) := by decide +kernel
theorem d_Planner_layOut_87 : decode b_Planner_layOut 87 = .ok (.invokevirtual 104, 3) := by decide +kernel
theorem d_Planner_layOut_90 : decode b_Planner_layOut 90 = .ok (.ifCond .ne 11, 3) := by decide +kernel
theorem d_Planner_layOut_93 : decode b_Planner_layOut 93 = .ok (.aload_n 0, 1) := by decide +kernel
theorem d_Planner_layOut_94 : decode b_Planner_layOut 94 = .ok (.invokevirtual 108, 3) := by decide +kernel
theorem d_Planner_layOut_97 : decode b_Planner_layOut 97 = .ok (.ifCond .ne 4, 3) := by decide +kernel
theorem d_Planner_layOut_100 : decode b_Planner_layOut 100 = .ok (.return_, 1) := by decide +kernel
theorem d_Planner_layOut_101 : decode b_Planner_layOut 101 = .ok (.iinc 1 1, 3) := by decide +kernel
theorem d_Planner_layOut_104 : decode b_Planner_layOut 104 = .ok (.goto (-76), 3) := by decide +kernel
theorem d_Planner_layOut_107 : decode b_Planner_layOut 107 = .ok (.return_, 1) := by decide +kernel
theorem d_Planner_takeItem_0 : decode b_Planner_takeItem 0 = .ok (.iconst 0, 1) := by decide +kernel
theorem d_Planner_takeItem_1 : decode b_Planner_takeItem 1 = .ok (.istore_n 1, 1) := by decide +kernel
theorem d_Planner_takeItem_2 : decode b_Planner_takeItem 2 = .ok (.iload_n 1, 1) := by decide +kernel
theorem d_Planner_takeItem_3 : decode b_Planner_takeItem 3 = .ok (.aload_n 0, 1) := by decide +kernel
theorem d_Planner_takeItem_4 : decode b_Planner_takeItem 4 = .ok (.getfield 15, 3) := by decide +kernel
theorem d_Planner_takeItem_7 : decode b_Planner_takeItem 7 = .ok (.getfield 43, 3) := by decide +kernel
theorem d_Planner_takeItem_10 : decode b_Planner_takeItem 10 = .ok (.if_icmp .ge 42, 3) := by decide +kernel
theorem d_Planner_takeItem_13 : decode b_Planner_takeItem 13 = .ok (.aload_n 0, 1) := by decide +kernel
theorem d_Planner_takeItem_14 : decode b_Planner_takeItem 14 = .ok (.iload_n 1, 1) := by decide +kernel
theorem d_Planner_takeItem_15 : decode b_Planner_takeItem 15 = .ok (.aload_n 0, 1) := by decide +kernel
theorem d_Planner_takeItem_16 : decode b_Planner_takeItem 16 = .ok (.getfield 15, 3) := by decide +kernel
theorem d_Planner_takeItem_19 : decode b_Planner_takeItem 19 = .ok (.getfield 111, 3) := by decide +kernel
theorem d_Planner_takeItem_22 : decode b_Planner_takeItem 22 = .ok (.iload_n 1, 1) := by decide +kernel
theorem d_Planner_takeItem_23 : decode b_Planner_takeItem 23 = .ok (.iaload, 1) := by decide +kernel
theorem d_Planner_takeItem_24 : decode b_Planner_takeItem 24 = .ok (.invokevirtual 114, 3) := by decide +kernel
theorem d_Planner_takeItem_27 : decode b_Planner_takeItem 27 = .ok (.ifCond .eq 19, 3) := by decide +kernel
theorem d_Planner_takeItem_30 : decode b_Planner_takeItem 30 = .ok (.aload_n 0, 1) := by decide +kernel
theorem d_Planner_takeItem_31 : decode b_Planner_takeItem 31 = .ok (.iload_n 1, 1) := by decide +kernel
theorem d_Planner_takeItem_32 : decode b_Planner_takeItem 32 = .ok (.aload_n 0, 1) := by decide +kernel
theorem d_Planner_takeItem_33 : decode b_Planner_takeItem 33 = .ok (.getfield 15, 3) := by decide +kernel
theorem d_Planner_takeItem_36 : decode b_Planner_takeItem 36 = .ok (.getfield 111, 3) := by decide +kernel
theorem d_Planner_takeItem_39 : decode b_Planner_takeItem 39 = .ok (.iload_n 1, 1) := by decide +kernel
theorem d_Planner_takeItem_40 : decode b_Planner_takeItem 40 = .ok (.iaload, 1) := by decide +kernel
theorem d_Planner_takeItem_41 : decode b_Planner_takeItem 41 = .ok (.invokevirtual 118, 3) := by decide +kernel
theorem d_Planner_takeItem_44 : decode b_Planner_takeItem 44 = .ok (.iconst 1, 1) := by decide +kernel
theorem d_Planner_takeItem_45 : decode b_Planner_takeItem 45 = .ok (.ireturn, 1) := by decide +kernel
theorem d_Planner_takeItem_46 : decode b_Planner_takeItem 46 = .ok (.iinc 1 1, 3) := by decide +kernel
theorem d_Planner_takeItem_49 : decode b_Planner_takeItem 49 = .ok (.goto (-47), 3) := by decide +kernel
theorem d_Planner_takeItem_52 : decode b_Planner_takeItem 52 = .ok (.iconst 0, 1) := by decide +kernel
theorem d_Planner_takeItem_53 : decode b_Planner_takeItem 53 = .ok (.ireturn, 1) := by decide +kernel
theorem d_Planner_takeFiller_0 : decode b_Planner_takeFiller 0 = .ok (.aload_n 0, 1) := by decide +kernel
theorem d_Planner_takeFiller_1 : decode b_Planner_takeFiller 1 = .ok (.getfield 24, 3) := by decide +kernel
theorem d_Planner_takeFiller_4 : decode b_Planner_takeFiller 4 = .ok (.getfield 122, 3) := by decide +kernel
theorem d_Planner_takeFiller_7 : decode b_Planner_takeFiller 7 = .ok (.getfield 126, 3) := by decide +kernel
theorem d_Planner_takeFiller_10 : decode b_Planner_takeFiller 10 = .ok (.istore_n 1, 1) := by decide +kernel
theorem d_Planner_takeFiller_11 : decode b_Planner_takeFiller 11 = .ok (.iload_n 1, 1) := by decide +kernel
theorem d_Planner_takeFiller_12 : decode b_Planner_takeFiller 12 = .ok (.aload_n 0, 1) := by decide +kernel
theorem d_Planner_takeFiller_13 : decode b_Planner_takeFiller 13 = .ok (.getfield 24, 3) := by decide +kernel
theorem d_Planner_takeFiller_16 : decode b_Planner_takeFiller 16 = .ok (.getfield 131, 3) := by decide +kernel
theorem d_Planner_takeFiller_19 : decode b_Planner_takeFiller 19 = .ok (.aload_n 0, 1) := by decide +kernel
theorem d_Planner_takeFiller_20 : decode b_Planner_takeFiller 20 = .ok (.getfield 89, 3) := by decide +kernel
theorem d_Planner_takeFiller_23 : decode b_Planner_takeFiller 23 = .ok (.iaload, 1) := by decide +kernel
theorem d_Planner_takeFiller_24 : decode b_Planner_takeFiller 24 = .ok (.if_icmp .gt 26, 3) := by decide +kernel
theorem d_Planner_takeFiller_27 : decode b_Planner_takeFiller 27 = .ok (.aload_n 0, 1) := by decide +kernel
theorem d_Planner_takeFiller_28 : decode b_Planner_takeFiller 28 = .ok (.iconst (-1), 1) := by decide +kernel
theorem d_Planner_takeFiller_29 : decode b_Planner_takeFiller 29 = .ok (.iload_n 1, 1) := by decide +kernel
theorem d_Planner_takeFiller_30 : decode b_Planner_takeFiller 30 = .ok (.invokevirtual 114, 3) := by decide +kernel
theorem d_Planner_takeFiller_33 : decode b_Planner_takeFiller 33 = .ok (.ifCond .eq 11, 3) := by decide +kernel
theorem d_Planner_takeFiller_36 : decode b_Planner_takeFiller 36 = .ok (.aload_n 0, 1) := by decide +kernel
theorem d_Planner_takeFiller_37 : decode b_Planner_takeFiller 37 = .ok (.iconst (-1), 1) := by decide +kernel
theorem d_Planner_takeFiller_38 : decode b_Planner_takeFiller 38 = .ok (.iload_n 1, 1) := by decide +kernel
theorem d_Planner_takeFiller_39 : decode b_Planner_takeFiller 39 = .ok (.invokevirtual 118, 3) := by decide +kernel
theorem d_Planner_takeFiller_42 : decode b_Planner_takeFiller 42 = .ok (.iconst 1, 1) := by decide +kernel
theorem d_Planner_takeFiller_43 : decode b_Planner_takeFiller 43 = .ok (.ireturn, 1) := by decide +kernel
theorem d_Planner_takeFiller_44 : decode b_Planner_takeFiller 44 = .ok (.iinc 1 1, 3) := by decide +kernel
theorem d_Planner_takeFiller_47 : decode b_Planner_takeFiller 47 = .ok (.goto (-36), 3) := by decide +kernel
theorem d_Planner_takeFiller_50 : decode b_Planner_takeFiller 50 = .ok (.iconst 0, 1) := by decide +kernel
theorem d_Planner_takeFiller_51 : decode b_Planner_takeFiller 51 = .ok (.ireturn, 1) := by decide +kernel
theorem d_Planner_takePiece_0 : decode b_Planner_takePiece 0 = .ok (.aload_n 0, 1) := by decide +kernel
theorem d_Planner_takePiece_1 : decode b_Planner_takePiece 1 = .ok (.getfield 31, 3) := by decide +kernel
theorem d_Planner_takePiece_4 : decode b_Planner_takePiece 4 = .ok (.iload_n 1, 1) := by decide +kernel
theorem d_Planner_takePiece_5 : decode b_Planner_takePiece 5 = .ok (.aload_n 0, 1) := by decide +kernel
theorem d_Planner_takePiece_6 : decode b_Planner_takePiece 6 = .ok (.getfield 89, 3) := by decide +kernel
theorem d_Planner_takePiece_9 : decode b_Planner_takePiece 9 = .ok (.iload_n 2, 1) := by decide +kernel
theorem d_Planner_takePiece_10 : decode b_Planner_takePiece 10 = .ok (.invokevirtual 134, 3) := by decide +kernel
theorem d_Planner_takePiece_13 : decode b_Planner_takePiece 13 = .ok (.aload_n 0, 1) := by decide +kernel
theorem d_Planner_takePiece_14 : decode b_Planner_takePiece 14 = .ok (.dup, 1) := by decide +kernel
theorem d_Planner_takePiece_15 : decode b_Planner_takePiece 15 = .ok (.getfield 89, 3) := by decide +kernel
theorem d_Planner_takePiece_18 : decode b_Planner_takePiece 18 = .ok (.iload_n 2, 1) := by decide +kernel
theorem d_Planner_takePiece_19 : decode b_Planner_takePiece 19 = .ok (.iadd, 1) := by decide +kernel
theorem d_Planner_takePiece_20 : decode b_Planner_takePiece 20 = .ok (.putfield 89, 3) := by decide +kernel
theorem d_Planner_takePiece_23 : decode b_Planner_takePiece 23 = .ok (.aload_n 0, 1) := by decide +kernel
theorem d_Planner_takePiece_24 : decode b_Planner_takePiece 24 = .ok (.iload_n 1, 1) := by decide +kernel
theorem d_Planner_takePiece_25 : decode b_Planner_takePiece 25 = .ok (.iconst (-1), 1) := by decide +kernel
theorem d_Planner_takePiece_26 : decode b_Planner_takePiece 26 = .ok (.if_icmp .ne 8, 3) := by decide +kernel
theorem d_Planner_takePiece_29 : decode b_Planner_takePiece 29 = .ok (.bipush 6, 2) := by decide +kernel
theorem d_Planner_takePiece_31 : decode b_Planner_takePiece 31 = .ok (.goto 4, 3) := by decide +kernel
theorem d_Planner_takePiece_34 : decode b_Planner_takePiece 34 = .ok (.iload_n 1, 1) := by decide +kernel
theorem d_Planner_takePiece_35 : decode b_Planner_takePiece 35 = .ok (.putfield 92, 3) := by decide +kernel
theorem d_Planner_takePiece_38 : decode b_Planner_takePiece 38 = .ok (.return_, 1) := by decide +kernel
theorem d_Planner_keepSets_0 : decode b_Planner_keepSets 0 = .ok (.iconst 0, 1) := by decide +kernel
theorem d_Planner_keepSets_1 : decode b_Planner_keepSets 1 = .ok (.istore_n 3, 1) := by decide +kernel
theorem d_Planner_keepSets_2 : decode b_Planner_keepSets 2 = .ok (.iconst 0, 1) := by decide +kernel
theorem d_Planner_keepSets_3 : decode b_Planner_keepSets 3 = .ok (.istore 4, 2) := by decide +kernel
theorem d_Planner_keepSets_5 : decode b_Planner_keepSets 5 = .ok (.iload 4, 2) := by decide +kernel
theorem d_Planner_keepSets_7 : decode b_Planner_keepSets 7 = .ok (.aload_n 0, 1) := by decide +kernel
theorem d_Planner_keepSets_8 : decode b_Planner_keepSets 8 = .ok (.getfield 39, 3) := by decide +kernel
theorem d_Planner_keepSets_11 : decode b_Planner_keepSets 11 = .ok (.if_icmp .ge 95, 3) := by decide +kernel
theorem d_Planner_keepSets_14 : decode b_Planner_keepSets 14 = .ok (.aload_n 0, 1) := by decide +kernel
theorem d_Planner_keepSets_15 : decode b_Planner_keepSets 15 = .ok (.getfield 35, 3) := by decide +kernel
theorem d_Planner_keepSets_18 : decode b_Planner_keepSets 18 = .ok (.iload 4, 2) := by decide +kernel
theorem d_Planner_keepSets_20 : decode b_Planner_keepSets 20 = .ok (.iaload, 1) := by decide +kernel
theorem d_Planner_keepSets_21 : decode b_Planner_keepSets 21 = .ok (.aload_n 0, 1) := by decide +kernel
theorem d_Planner_keepSets_22 : decode b_Planner_keepSets 22 = .ok (.getfield 31, 3) := by decide +kernel
theorem d_Planner_keepSets_25 : decode b_Planner_keepSets 25 = .ok (.getfield 138, 3) := by decide +kernel
theorem d_Planner_keepSets_28 : decode b_Planner_keepSets 28 = .ok (.iconst (-1), 1) := by decide +kernel
theorem d_Planner_keepSets_29 : decode b_Planner_keepSets 29 = .ok (.ixor, 1) := by decide +kernel
theorem d_Planner_keepSets_30 : decode b_Planner_keepSets 30 = .ok (.iand, 1) := by decide +kernel
theorem d_Planner_keepSets_31 : decode b_Planner_keepSets 31 = .ok (.istore 5, 2) := by decide +kernel
theorem d_Planner_keepSets_33 : decode b_Planner_keepSets 33 = .ok (.iload_n 1, 1) := by decide +kernel
theorem d_Planner_keepSets_34 : decode b_Planner_keepSets 34 = .ok (.iconst (-1), 1) := by decide +kernel
theorem d_Planner_keepSets_35 : decode b_Planner_keepSets 35 = .ok (.if_icmp .ne 24, 3) := by decide +kernel
theorem d_Planner_keepSets_38 : decode b_Planner_keepSets 38 = .ok (.aload_n 0, 1) := by decide +kernel
theorem d_Planner_keepSets_39 : decode b_Planner_keepSets 39 = .ok (.getfield 24, 3) := by decide +kernel
theorem d_Planner_keepSets_42 : decode b_Planner_keepSets 42 = .ok (.aload_n 0, 1) := by decide +kernel
theorem d_Planner_keepSets_43 : decode b_Planner_keepSets 43 = .ok (.getfield 89, 3) := by decide +kernel
theorem d_Planner_keepSets_46 : decode b_Planner_keepSets 46 = .ok (.iload 5, 2) := by decide +kernel
theorem d_Planner_keepSets_48 : decode b_Planner_keepSets 48 = .ok (.aload_n 0, 1) := by decide +kernel
theorem d_Planner_keepSets_49 : decode b_Planner_keepSets 49 = .ok (.getfield 92, 3) := by decide +kernel
theorem d_Planner_keepSets_52 : decode b_Planner_keepSets 52 = .ok (.iload_n 2, 1) := by decide +kernel
theorem d_Planner_keepSets_53 : decode b_Planner_keepSets 53 = .ok (.invokevirtual 141, 3) := by decide +kernel
theorem d_Planner_keepSets_56 : decode b_Planner_keepSets 56 = .ok (.goto 21, 3) := by decide +kernel
theorem d_Planner_keepSets_59 : decode b_Planner_keepSets 59 = .ok (.aload_n 0, 1) := by decide +kernel
theorem d_Planner_keepSets_60 : decode b_Planner_keepSets 60 = .ok (.getfield 24, 3) := by decide +kernel
theorem d_Planner_keepSets_63 : decode b_Planner_keepSets 63 = .ok (.aload_n 0, 1) := by decide +kernel
theorem d_Planner_keepSets_64 : decode b_Planner_keepSets 64 = .ok (.getfield 89, 3) := by decide +kernel
theorem d_Planner_keepSets_67 : decode b_Planner_keepSets 67 = .ok (.iload 5, 2) := by decide +kernel
theorem d_Planner_keepSets_69 : decode b_Planner_keepSets 69 = .ok (.aload_n 0, 1) := by decide +kernel
theorem d_Planner_keepSets_70 : decode b_Planner_keepSets 70 = .ok (.getfield 92, 3) := by decide +kernel
theorem d_Planner_keepSets_73 : decode b_Planner_keepSets 73 = .ok (.iload_n 1, 1) := by decide +kernel
theorem d_Planner_keepSets_74 : decode b_Planner_keepSets 74 = .ok (.invokevirtual 145, 3) := by decide +kernel
theorem d_Planner_keepSets_77 : decode b_Planner_keepSets 77 = .ok (.istore 6, 2) := by decide +kernel
theorem d_Planner_keepSets_79 : decode b_Planner_keepSets 79 = .ok (.iload 6, 2) := by decide +kernel
theorem d_Planner_keepSets_81 : decode b_Planner_keepSets 81 = .ok (.ifCond .eq 19, 3) := by decide +kernel
theorem d_Planner_keepSets_84 : decode b_Planner_keepSets 84 = .ok (.aload_n 0, 1) := by decide +kernel
theorem d_Planner_keepSets_85 : decode b_Planner_keepSets 85 = .ok (.getfield 35, 3) := by decide +kernel
theorem d_Planner_keepSets_88 : decode b_Planner_keepSets 88 = .ok (.iload_n 3, 1) := by decide +kernel
theorem d_Planner_keepSets_89 : decode b_Planner_keepSets 89 = .ok (.aload_n 0, 1) := by decide +kernel
theorem d_Planner_keepSets_90 : decode b_Planner_keepSets 90 = .ok (.getfield 35, 3) := by decide +kernel
theorem d_Planner_keepSets_93 : decode b_Planner_keepSets 93 = .ok (.iload 4, 2) := by decide +kernel
theorem d_Planner_keepSets_95 : decode b_Planner_keepSets 95 = .ok (.iaload, 1) := by decide +kernel
theorem d_Planner_keepSets_96 : decode b_Planner_keepSets 96 = .ok (.iastore, 1) := by decide +kernel
theorem d_Planner_keepSets_97 : decode b_Planner_keepSets 97 = .ok (.iinc 3 1, 3) := by decide +kernel
theorem d_Planner_keepSets_100 : decode b_Planner_keepSets 100 = .ok (.iinc 4 1, 3) := by decide +kernel
theorem d_Planner_keepSets_103 : decode b_Planner_keepSets 103 = .ok (.goto (-98), 3) := by decide +kernel
theorem d_Planner_keepSets_106 : decode b_Planner_keepSets 106 = .ok (.iload_n 3, 1) := by decide +kernel
theorem d_Planner_keepSets_107 : decode b_Planner_keepSets 107 = .ok (.ifCond .ne 5, 3) := by decide +kernel
theorem d_Planner_keepSets_110 : decode b_Planner_keepSets 110 = .ok (.iconst 0, 1) := by decide +kernel
theorem d_Planner_keepSets_111 : decode b_Planner_keepSets 111 = .ok (.ireturn, 1) := by decide +kernel
theorem d_Planner_keepSets_112 : decode b_Planner_keepSets 112 = .ok (.aload_n 0, 1) := by decide +kernel
theorem d_Planner_keepSets_113 : decode b_Planner_keepSets 113 = .ok (.iload_n 3, 1) := by decide +kernel
theorem d_Planner_keepSets_114 : decode b_Planner_keepSets 114 = .ok (.putfield 39, 3) := by decide +kernel
theorem d_Planner_keepSets_117 : decode b_Planner_keepSets 117 = .ok (.iconst 1, 1) := by decide +kernel
theorem d_Planner_keepSets_118 : decode b_Planner_keepSets 118 = .ok (.ireturn, 1) := by decide +kernel
