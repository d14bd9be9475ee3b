theorem d_Model_index_0 : decode b_Model_index 0 = .ok (.sipush 512, 3) := by decide +kernel
theorem d_Model_index_3 : decode b_Model_index 3 = .ok (.iload_n 0, 1) := by decide +kernel
theorem d_Model_index_4 : decode b_Model_index 4 = .ok (.imul, 1) := by decide +kernel
theorem d_Model_index_5 : decode b_Model_index 5 = .ok (.bipush 64, 2) := by decide +kernel
theorem d_Model_index_7 : decode b_Model_index 7 = .ok (.iload_n 1, 1) := by decide +kernel
theorem d_Model_index_8 : decode b_Model_index 8 = .ok (.imul, 1) := by decide +kernel
theorem d_Model_index_9 : decode b_Model_index 9 = .ok (.iadd, 1) := by decide +kernel
theorem d_Model_index_10 : decode b_Model_index 10 = .ok (.iload_n 2, 1) := by decide +kernel
theorem d_Model_index_11 : decode b_Model_index 11 = .ok (.iadd, 1) := by decide +kernel
theorem d_Model_index_12 : decode b_Model_index 12 = .ok (.ireturn, 1) := by decide +kernel
theorem d_Model_choose_0 : decode b_Model_choose 0 = .ok (.aload_n 0, 1) := by decide +kernel
theorem d_Model_choose_1 : decode b_Model_choose 1 = .ok (.getfield 42, 3) := by decide +kernel
theorem d_Model_choose_4 : decode b_Model_choose 4 = .ok (.iload_n 2, 1) := by decide +kernel
theorem d_Model_choose_5 : decode b_Model_choose 5 = .ok (.laload, 1) := by decide +kernel
theorem d_Model_choose_6 : decode b_Model_choose 6 = .ok (.lconst 0, 1) := by decide +kernel
theorem d_Model_choose_7 : decode b_Model_choose 7 = .ok (.lcmp, 1) := by decide +kernel
theorem d_Model_choose_8 : decode b_Model_choose 8 = .ok (.ifCond .ge 4, 3) := by decide +kernel
theorem d_Model_choose_11 : decode b_Model_choose 11 = .ok (.return_, 1) := by decide +kernel
theorem d_Model_choose_12 : decode b_Model_choose 12 = .ok (.aload_n 0, 1) := by decide +kernel
theorem d_Model_choose_13 : decode b_Model_choose 13 = .ok (.getfield 42, 3) := by decide +kernel
theorem d_Model_choose_16 : decode b_Model_choose 16 = .ok (.iload_n 2, 1) := by decide +kernel
theorem d_Model_choose_17 : decode b_Model_choose 17 = .ok (.laload, 1) := by decide +kernel
theorem d_Model_choose_18 : decode b_Model_choose 18 = .ok (.lload_n 3, 1) := by decide +kernel
theorem d_Model_choose_19 : decode b_Model_choose 19 = .ok (.ladd, 1) := by decide +kernel
theorem d_Model_choose_20 : decode b_Model_choose 20 = .ok (.lstore 7, 2) := by decide +kernel
theorem d_Model_choose_22 : decode b_Model_choose 22 = .ok (.aload_n 0, 1) := by decide +kernel
theorem d_Model_choose_23 : decode b_Model_choose 23 = .ok (.getfield 45, 3) := by decide +kernel
theorem d_Model_choose_26 : decode b_Model_choose 26 = .ok (.iload_n 2, 1) := by decide +kernel
theorem d_Model_choose_27 : decode b_Model_choose 27 = .ok (.laload, 1) := by decide +kernel
theorem d_Model_choose_28 : decode b_Model_choose 28 = .ok (.lload 5, 2) := by decide +kernel
theorem d_Model_choose_30 : decode b_Model_choose 30 = .ok (.ladd, 1) := by decide +kernel
theorem d_Model_choose_31 : decode b_Model_choose 31 = .ok (.lstore 9, 2) := by decide +kernel
theorem d_Model_choose_33 : decode b_Model_choose 33 = .ok (.lload 7, 2) := by decide +kernel
theorem d_Model_choose_35 : decode b_Model_choose 35 = .ok (.aload_n 0, 1) := by decide +kernel
theorem d_Model_choose_36 : decode b_Model_choose 36 = .ok (.getfield 42, 3) := by decide +kernel
theorem d_Model_choose_39 : decode b_Model_choose 39 = .ok (.iload_n 1, 1) := by decide +kernel
theorem d_Model_choose_40 : decode b_Model_choose 40 = .ok (.laload, 1) := by decide +kernel
theorem d_Model_choose_41 : decode b_Model_choose 41 = .ok (.lcmp, 1) := by decide +kernel
theorem d_Model_choose_42 : decode b_Model_choose 42 = .ok (.ifCond .gt 27, 3) := by decide +kernel
theorem d_Model_choose_45 : decode b_Model_choose 45 = .ok (.lload 7, 2) := by decide +kernel
theorem d_Model_choose_47 : decode b_Model_choose 47 = .ok (.aload_n 0, 1) := by decide +kernel
theorem d_Model_choose_48 : decode b_Model_choose 48 = .ok (.getfield 42, 3) := by decide +kernel
theorem d_Model_choose_51 : decode b_Model_choose 51 = .ok (.iload_n 1, 1) := by decide +kernel
theorem d_Model_choose_52 : decode b_Model_choose 52 = .ok (.laload, 1) := by decide +kernel
theorem d_Model_choose_53 : decode b_Model_choose 53 = .ok (.lcmp, 1) := by decide +kernel
theorem d_Model_choose_54 : decode b_Model_choose 54 = .ok (.ifCond .ne 31, 3) := by decide +kernel
theorem d_Model_choose_57 : decode b_Model_choose 57 = .ok (.lload 9, 2) := by decide +kernel
theorem d_Model_choose_59 : decode b_Model_choose 59 = .ok (.aload_n 0, 1) := by decide +kernel
theorem d_Model_choose_60 : decode b_Model_choose 60 = .ok (.getfield 45, 3) := by decide +kernel
theorem d_Model_choose_63 : decode b_Model_choose 63 = .ok (.iload_n 1, 1) := by decide +kernel
theorem d_Model_choose_64 : decode b_Model_choose 64 = .ok (.laload, 1) := by decide +kernel
theorem d_Model_choose_65 : decode b_Model_choose 65 = .ok (.lcmp, 1) := by decide +kernel
theorem d_Model_choose_66 : decode b_Model_choose 66 = .ok (.ifCond .ge 19, 3) := by decide +kernel
theorem d_Model_choose_69 : decode b_Model_choose 69 = .ok (.aload_n 0, 1) := by decide +kernel
theorem d_Model_choose_70 : decode b_Model_choose 70 = .ok (.getfield 42, 3) := by decide +kernel
theorem d_Model_choose_73 : decode b_Model_choose 73 = .ok (.iload_n 1, 1) := by decide +kernel
theorem d_Model_choose_74 : decode b_Model_choose 74 = .ok (.lload 7, 2) := by decide +kernel
theorem d_Model_choose_76 : decode b_Model_choose 76 = .ok (.lastore, 1) := by decide +kernel
theorem d_Model_choose_77 : decode b_Model_choose 77 = .ok (.aload_n 0, 1) := by decide +kernel
theorem d_Model_choose_78 : decode b_Model_choose 78 = .ok (.getfield 45, 3) := by decide +kernel
theorem d_Model_choose_81 : decode b_Model_choose 81 = .ok (.iload_n 1, 1) := by decide +kernel
theorem d_Model_choose_82 : decode b_Model_choose 82 = .ok (.lload 9, 2) := by decide +kernel
theorem d_Model_choose_84 : decode b_Model_choose 84 = .ok (.lastore, 1) := by decide +kernel
theorem d_Model_choose_85 : decode b_Model_choose 85 = .ok (.return_, 1) := by decide +kernel
theorem d_Model_worthBehind_0 : decode b_Model_worthBehind 0 = .ok (.aload_n 0, 1) := by decide +kernel
theorem d_Model_worthBehind_1 : decode b_Model_worthBehind 1 = .ok (.getfield 20, 3) := by decide +kernel
theorem d_Model_worthBehind_4 : decode b_Model_worthBehind 4 = .ok (.iload_n 1, 1) := by decide +kernel
theorem d_Model_worthBehind_5 : decode b_Model_worthBehind 5 = .ok (.laload, 1) := by decide +kernel
theorem d_Model_worthBehind_6 : decode b_Model_worthBehind 6 = .ok (.iload_n 2, 1) := by decide +kernel
theorem d_Model_worthBehind_7 : decode b_Model_worthBehind 7 = .ok (.bipush 6, 2) := by decide +kernel
theorem d_Model_worthBehind_9 : decode b_Model_worthBehind 9 = .ok (.if_icmp .ge 17, 3) := by decide +kernel
theorem d_Model_worthBehind_12 : decode b_Model_worthBehind 12 = .ok (.aload_n 0, 1) := by decide +kernel
theorem d_Model_worthBehind_13 : decode b_Model_worthBehind 13 = .ok (.getfield 33, 3) := by decide +kernel
theorem d_Model_worthBehind_16 : decode b_Model_worthBehind 16 = .ok (.bipush 6, 2) := by decide +kernel
theorem d_Model_worthBehind_18 : decode b_Model_worthBehind 18 = .ok (.iload_n 2, 1) := by decide +kernel
theorem d_Model_worthBehind_19 : decode b_Model_worthBehind 19 = .ok (.imul, 1) := by decide +kernel
theorem d_Model_worthBehind_20 : decode b_Model_worthBehind 20 = .ok (.iload_n 1, 1) := by decide +kernel
theorem d_Model_worthBehind_21 : decode b_Model_worthBehind 21 = .ok (.iadd, 1) := by decide +kernel
theorem d_Model_worthBehind_22 : decode b_Model_worthBehind 22 = .ok (.laload, 1) := by decide +kernel
theorem d_Model_worthBehind_23 : decode b_Model_worthBehind 23 = .ok (.goto 4, 3) := by decide +kernel
theorem d_Model_worthBehind_26 : decode b_Model_worthBehind 26 = .ok (.lconst 0, 1) := by decide +kernel
theorem d_Model_worthBehind_27 : decode b_Model_worthBehind 27 = .ok (.ladd, 1) := by decide +kernel
theorem d_Model_worthBehind_28 : decode b_Model_worthBehind 28 = .ok (.lreturn, 1) := by decide +kernel
theorem d_Model_behindFree_0 : decode b_Model_behindFree 0 = .ok (.iload_n 1, 1) := by decide +kernel
theorem d_Model_behindFree_1 : decode b_Model_behindFree 1 = .ok (.istore_n 2, 1) := by decide +kernel
theorem d_Model_behindFree_2 : decode b_Model_behindFree 2 = .ok (.iload_n 2, 1) := by decide +kernel
theorem d_Model_behindFree_3 : decode b_Model_behindFree 3 = .ok (.aload_n 0, 1) := by decide +kernel
theorem d_Model_behindFree_4 : decode b_Model_behindFree 4 = .ok (.getfield 69, 3) := by decide +kernel
theorem d_Model_behindFree_7 : decode b_Model_behindFree 7 = .ok (.if_icmp .ge 18, 3) := by decide +kernel
theorem d_Model_behindFree_10 : decode b_Model_behindFree 10 = .ok (.aload_n 0, 1) := by decide +kernel
theorem d_Model_behindFree_11 : decode b_Model_behindFree 11 = .ok (.getfield 7, 3) := by decide +kernel
theorem d_Model_behindFree_14 : decode b_Model_behindFree 14 = .ok (.iload_n 2, 1) := by decide +kernel
theorem d_Model_behindFree_15 : decode b_Model_behindFree 15 = .ok (.baload, 1) := by decide +kernel
theorem d_Model_behindFree_16 : decode b_Model_behindFree 16 = .ok (.ifCond .eq 9, 3) := by decide +kernel
theorem d_Model_behindFree_19 : decode b_Model_behindFree 19 = .ok (.iinc 2 1, 3) := by decide +kernel
theorem d_Model_behindFree_22 : decode b_Model_behindFree 22 = .ok (.goto (-20), 3) := by decide +kernel
theorem d_Model_behindFree_25 : decode b_Model_behindFree 25 = .ok (.iload_n 2, 1) := by decide +kernel
theorem d_Model_behindFree_26 : decode b_Model_behindFree 26 = .ok (.ireturn, 1) := by decide +kernel
theorem d_Model_fillAt_0 : decode b_Model_fillAt 0 = .ok (.iload_n 1, 1) := by decide +kernel
theorem d_Model_fillAt_1 : decode b_Model_fillAt 1 = .ok (.iload_n 2, 1) := by decide +kernel
theorem d_Model_fillAt_2 : decode b_Model_fillAt 2 = .ok (.iload_n 3, 1) := by decide +kernel
theorem d_Model_fillAt_3 : decode b_Model_fillAt 3 = .ok (.invokestatic 122, 3) := by decide +kernel
theorem d_Model_fillAt_6 : decode b_Model_fillAt 6 = .ok (.istore 4, 2) := by decide +kernel
theorem d_Model_fillAt_8 : decode b_Model_fillAt 8 = .ok (.aload_n 0, 1) := by decide +kernel
theorem d_Model_fillAt_9 : decode b_Model_fillAt 9 = .ok (.getfield 42, 3) := by decide +kernel
theorem d_Model_fillAt_12 : decode b_Model_fillAt 12 = .ok (.iload 4, 2) := by decide +kernel
theorem d_Model_fillAt_14 : decode b_Model_fillAt 14 = .ok (.ldc2_w 104, 3) := by decide +kernel
theorem d_Model_fillAt_17 : decode b_Model_fillAt 17 = .ok (.lastore, 1) := by decide +kernel
theorem d_Model_fillAt_18 : decode b_Model_fillAt 18 = .ok (.aload_n 0, 1) := by decide +kernel
theorem d_Model_fillAt_19 : decode b_Model_fillAt 19 = .ok (.getfield 45, 3) := by decide +kernel
theorem d_Model_fillAt_22 : decode b_Model_fillAt 22 = .ok (.iload 4, 2) := by decide +kernel
theorem d_Model_fillAt_24 : decode b_Model_fillAt 24 = .ok (.lconst 0, 1) := by decide +kernel
theorem d_Model_fillAt_25 : decode b_Model_fillAt 25 = .ok (.lastore, 1) := by decide +kernel
theorem d_Model_fillAt_26 : decode b_Model_fillAt 26 = .ok (.iload_n 1, 1) := by decide +kernel
theorem d_Model_fillAt_27 : decode b_Model_fillAt 27 = .ok (.aload_n 0, 1) := by decide +kernel
theorem d_Model_fillAt_28 : decode b_Model_fillAt 28 = .ok (.getfield 69, 3) := by decide +kernel
theorem d_Model_fillAt_31 : decode b_Model_fillAt 31 = .ok (.if_icmp .ne 29, 3) := by decide +kernel
theorem d_Model_fillAt_34 : decode b_Model_fillAt 34 = .ok (.aload_n 0, 1) := by decide +kernel
theorem d_Model_fillAt_35 : decode b_Model_fillAt 35 = .ok (.getfield 42, 3) := by decide +kernel
theorem d_Model_fillAt_38 : decode b_Model_fillAt 38 = .ok (.iload 4, 2) := by decide +kernel
theorem d_Model_fillAt_40 : decode b_Model_fillAt 40 = .ok (.aload_n 0, 1) := by decide +kernel
theorem d_Model_fillAt_41 : decode b_Model_fillAt 41 = .ok (.getfield 48, 3) := by decide +kernel
theorem d_Model_fillAt_44 : decode b_Model_fillAt 44 = .ok (.iload_n 3, 1) := by decide +kernel
theorem d_Model_fillAt_45 : decode b_Model_fillAt 45 = .ok (.baload, 1) := by decide +kernel
theorem d_Model_fillAt_46 : decode b_Model_fillAt 46 = .ok (.ifCond .eq 7, 3) := by decide +kernel
theorem d_Model_fillAt_49 : decode b_Model_fillAt 49 = .ok (.lconst 0, 1) := by decide +kernel
theorem d_Model_fillAt_50 : decode b_Model_fillAt 50 = .ok (.goto 6, 3) := by decide +kernel
theorem d_Model_fillAt_53 : decode b_Model_fillAt 53 = .ok (.ldc2_w 104, 3) := by decide +kernel
theorem d_Model_fillAt_56 : decode b_Model_fillAt 56 = .ok (.lastore, 1) := by decide +kernel
theorem d_Model_fillAt_57 : decode b_Model_fillAt 57 = .ok (.goto 160, 3) := by decide +kernel
theorem d_Model_fillAt_60 : decode b_Model_fillAt 60 = .ok (.aload_n 0, 1) := by decide +kernel
theorem d_Model_fillAt_61 : decode b_Model_fillAt 61 = .ok (.getfield 7, 3) := by decide +kernel
theorem d_Model_fillAt_64 : decode b_Model_fillAt 64 = .ok (.iload_n 1, 1) := by decide +kernel
theorem d_Model_fillAt_65 : decode b_Model_fillAt 65 = .ok (.baload, 1) := by decide +kernel
theorem d_Model_fillAt_66 : decode b_Model_fillAt 66 = .ok (.ifCond .eq 25, 3) := by decide +kernel
theorem d_Model_fillAt_69 : decode b_Model_fillAt 69 = .ok (.aload_n 0, 1) := by decide +kernel
theorem d_Model_fillAt_70 : decode b_Model_fillAt 70 = .ok (.iload 4, 2) := by decide +kernel
theorem d_Model_fillAt_72 : decode b_Model_fillAt 72 = .ok (.aload_n 0, 1) := by decide +kernel
theorem d_Model_fillAt_73 : decode b_Model_fillAt 73 = .ok (.iload_n 1, 1) := by decide +kernel
theorem d_Model_fillAt_74 : decode b_Model_fillAt 74 = .ok (.invokevirtual 126, 3) := by decide +kernel
theorem d_Model_fillAt_77 : decode b_Model_fillAt 77 = .ok (.bipush 6, 2) := by decide +kernel
theorem d_Model_fillAt_79 : decode b_Model_fillAt 79 = .ok (.iload_n 3, 1) := by decide +kernel
theorem d_Model_fillAt_80 : decode b_Model_fillAt 80 = .ok (.invokestatic 122, 3) := by decide +kernel
theorem d_Model_fillAt_83 : decode b_Model_fillAt 83 = .ok (.lconst 0, 1) := by decide +kernel
theorem d_Model_fillAt_84 : decode b_Model_fillAt 84 = .ok (.lconst 0, 1) := by decide +kernel
theorem d_Model_fillAt_85 : decode b_Model_fillAt 85 = .ok (.invokevirtual 130, 3) := by decide +kernel
theorem d_Model_fillAt_88 : decode b_Model_fillAt 88 = .ok (.goto 129, 3) := by decide +kernel
theorem d_Model_fillAt_91 : decode b_Model_fillAt 91 = .ok (.iconst 0, 1) := by decide +kernel
theorem d_Model_fillAt_92 : decode b_Model_fillAt 92 = .ok (.istore 5, 2) := by decide +kernel
theorem d_Model_fillAt_94 : decode b_Model_fillAt 94 = .ok (.iload 5, 2) := by decide +kernel
theorem d_Model_fillAt_96 : decode b_Model_fillAt 96 = .ok (.aload_n 0, 1) := by decide +kernel
theorem d_Model_fillAt_97 : decode b_Model_fillAt 97 = .ok (.getfield 97, 3) := by decide +kernel
theorem d_Model_fillAt_100 : decode b_Model_fillAt 100 = .ok (.if_icmp .ge 61, 3) := by decide +kernel
theorem d_Model_fillAt_103 : decode b_Model_fillAt 103 = .ok (.aload_n 0, 1) := by decide +kernel
theorem d_Model_fillAt_104 : decode b_Model_fillAt 104 = .ok (.iload 5, 2) := by decide +kernel
theorem d_Model_fillAt_106 : decode b_Model_fillAt 106 = .ok (.iload_n 1, 1) := by decide +kernel
theorem d_Model_fillAt_107 : decode b_Model_fillAt 107 = .ok (.iload_n 2, 1) := by decide +kernel
theorem d_Model_fillAt_108 : decode b_Model_fillAt 108 = .ok (.iload_n 3, 1) := by decide +kernel
theorem d_Model_fillAt_109 : decode b_Model_fillAt 109 = .ok (.invokevirtual 134, 3) := by decide +kernel
theorem d_Model_fillAt_112 : decode b_Model_fillAt 112 = .ok (.ifCond .eq 43, 3) := by decide +kernel
theorem d_Model_fillAt_115 : decode b_Model_fillAt 115 = .ok (.aload_n 0, 1) := by decide +kernel
theorem d_Model_fillAt_116 : decode b_Model_fillAt 116 = .ok (.iload 4, 2) := by decide +kernel
theorem d_Model_fillAt_118 : decode b_Model_fillAt 118 = .ok (.iload_n 1, 1) := by decide +kernel
theorem d_Model_fillAt_119 : decode b_Model_fillAt 119 = .ok (.aload_n 0, 1) := by decide +kernel
theorem d_Model_fillAt_120 : decode b_Model_fillAt 120 = .ok (.getfield 17, 3) := by decide +kernel
theorem d_Model_fillAt_123 : decode b_Model_fillAt 123 = .ok (.iload 5, 2) := by decide +kernel
theorem d_Model_fillAt_125 : decode b_Model_fillAt 125 = .ok (.iaload, 1) := by decide +kernel
theorem d_Model_fillAt_126 : decode b_Model_fillAt 126 = .ok (.iadd, 1) := by decide +kernel
theorem d_Model_fillAt_127 : decode b_Model_fillAt 127 = .ok (.iload 5, 2) := by decide +kernel
theorem d_Model_fillAt_129 : decode b_Model_fillAt 129 = .ok (.iload_n 3, 1) := by decide +kernel
theorem d_Model_fillAt_130 : decode b_Model_fillAt 130 = .ok (.iconst 1, 1) := by decide +kernel
theorem d_Model_fillAt_131 : decode b_Model_fillAt 131 = .ok (.iload 5, 2) := by decide +kernel
theorem d_Model_fillAt_133 : decode b_Model_fillAt 133 = .ok (.ishl, 1) := by decide +kernel
theorem d_Model_fillAt_134 : decode b_Model_fillAt 134 = .ok (.ior, 1) := by decide +kernel
theorem d_Model_fillAt_135 : decode b_Model_fillAt 135 = .ok (.invokestatic 122, 3) := by decide +kernel
theorem d_Model_fillAt_138 : decode b_Model_fillAt 138 = .ok (.aload_n 0, 1) := by decide +kernel
theorem d_Model_fillAt_139 : decode b_Model_fillAt 139 = .ok (.iload 5, 2) := by decide +kernel
theorem d_Model_fillAt_141 : decode b_Model_fillAt 141 = .ok (.iload_n 2, 1) := by decide +kernel
theorem d_Model_fillAt_142 : decode b_Model_fillAt 142 = .ok (.invokevirtual 138, 3) := by decide +kernel
theorem d_Model_fillAt_145 : decode b_Model_fillAt 145 = .ok (.aload_n 0, 1) := by decide +kernel
theorem d_Model_fillAt_146 : decode b_Model_fillAt 146 = .ok (.getfield 24, 3) := by decide +kernel
theorem d_Model_fillAt_149 : decode b_Model_fillAt 149 = .ok (.iload 5, 2) := by decide +kernel
theorem d_Model_fillAt_151 : decode b_Model_fillAt 151 = .ok (.laload, 1) := by decide +kernel
theorem d_Model_fillAt_152 : decode b_Model_fillAt 152 = .ok (.invokevirtual 130, 3) := by decide +kernel
theorem d_Model_fillAt_155 : decode b_Model_fillAt 155 = .ok (.iinc 5 1, 3) := by decide +kernel
theorem d_Model_fillAt_158 : decode b_Model_fillAt 158 = .ok (.goto (-64), 3) := by decide +kernel
theorem d_Model_fillAt_161 : decode b_Model_fillAt 161 = .ok (.aload_n 0, 1) := by decide +kernel
theorem d_Model_fillAt_162 : decode b_Model_fillAt 162 = .ok (.getfield 73, 3) := by decide +kernel
theorem d_Model_fillAt_165 : decode b_Model_fillAt 165 = .ok (.istore 5, 2) := by decide +kernel
theorem d_Model_fillAt_167 : decode b_Model_fillAt 167 = .ok (.iload 5, 2) := by decide +kernel
theorem d_Model_fillAt_169 : decode b_Model_fillAt 169 = .ok (.aload_n 0, 1) := by decide +kernel
theorem d_Model_fillAt_170 : decode b_Model_fillAt 170 = .ok (.getfield 112, 3) := by decide +kernel
theorem d_Model_fillAt_173 : decode b_Model_fillAt 173 = .ok (.if_icmp .gt 44, 3) := by decide +kernel
theorem d_Model_fillAt_176 : decode b_Model_fillAt 176 = .ok (.iload 5, 2) := by decide +kernel
theorem d_Model_fillAt_178 : decode b_Model_fillAt 178 = .ok (.aload_n 0, 1) := by decide +kernel
theorem d_Model_fillAt_179 : decode b_Model_fillAt 179 = .ok (.getfield 51, 3) := by decide +kernel
theorem d_Model_fillAt_182 : decode b_Model_fillAt 182 = .ok (.iload_n 1, 1) := by decide +kernel
theorem d_Model_fillAt_183 : decode b_Model_fillAt 183 = .ok (.iaload, 1) := by decide +kernel
theorem d_Model_fillAt_184 : decode b_Model_fillAt 184 = .ok (.if_icmp .gt 33, 3) := by decide +kernel
theorem d_Model_fillAt_187 : decode b_Model_fillAt 187 = .ok (.iload_n 2, 1) := by decide +kernel
theorem d_Model_fillAt_188 : decode b_Model_fillAt 188 = .ok (.bipush 7, 2) := by decide +kernel
theorem d_Model_fillAt_190 : decode b_Model_fillAt 190 = .ok (.if_icmp .eq 27, 3) := by decide +kernel
theorem d_Model_fillAt_193 : decode b_Model_fillAt 193 = .ok (.aload_n 0, 1) := by decide +kernel
theorem d_Model_fillAt_194 : decode b_Model_fillAt 194 = .ok (.iload 4, 2) := by decide +kernel
theorem d_Model_fillAt_196 : decode b_Model_fillAt 196 = .ok (.iload_n 1, 1) := by decide +kernel
theorem d_Model_fillAt_197 : decode b_Model_fillAt 197 = .ok (.iload 5, 2) := by decide +kernel
theorem d_Model_fillAt_199 : decode b_Model_fillAt 199 = .ok (.iadd, 1) := by decide +kernel
theorem d_Model_fillAt_200 : decode b_Model_fillAt 200 = .ok (.bipush 7, 2) := by decide +kernel
theorem d_Model_fillAt_202 : decode b_Model_fillAt 202 = .ok (.iload_n 3, 1) := by decide +kernel
theorem d_Model_fillAt_203 : decode b_Model_fillAt 203 = .ok (.invokestatic 122, 3) := by decide +kernel
theorem d_Model_fillAt_206 : decode b_Model_fillAt 206 = .ok (.lconst 0, 1) := by decide +kernel
theorem d_Model_fillAt_207 : decode b_Model_fillAt 207 = .ok (.lconst 0, 1) := by decide +kernel
theorem d_Model_fillAt_208 : decode b_Model_fillAt 208 = .ok (.invokevirtual 130, 3) := by decide +kernel
theorem d_Model_fillAt_211 : decode b_Model_fillAt 211 = .ok (.iinc 5 1, 3) := by decide +kernel
theorem d_Model_fillAt_214 : decode b_Model_fillAt 214 = .ok (.goto (-47), 3) := by decide +kernel
theorem d_Model_fillAt_217 : decode b_Model_fillAt 217 = .ok (.return_, 1) := by decide +kernel
theorem d_Model_fill_0 : decode b_Model_fill 0 = .ok (.aload_n 0, 1) := by decide +kernel
theorem d_Model_fill_1 : decode b_Model_fill 1 = .ok (.invokevirtual 142, 3) := by decide +kernel
theorem d_Model_fill_4 : decode b_Model_fill 4 = .ok (.aload_n 0, 1) := by decide +kernel
theorem d_Model_fill_5 : decode b_Model_fill 5 = .ok (.getfield 69, 3) := by decide +kernel
theorem d_Model_fill_8 : decode b_Model_fill 8 = .ok (.istore_n 1, 1) := by decide +kernel
theorem d_Model_fill_9 : decode b_Model_fill 9 = .ok (.iload_n 1, 1) := by decide +kernel
theorem d_Model_fill_10 : decode b_Model_fill 10 = .ok (.ifCond .lt 48, 3) := by decide +kernel
theorem d_Model_fill_13 : decode b_Model_fill 13 = .ok (.iconst 0, 1) := by decide +kernel
theorem d_Model_fill_14 : decode b_Model_fill 14 = .ok (.istore_n 2, 1) := by decide +kernel
theorem d_Model_fill_15 : decode b_Model_fill 15 = .ok (.iload_n 2, 1) := by decide +kernel
theorem d_Model_fill_16 : decode b_Model_fill 16 = .ok (.bipush 8, 2) := by decide +kernel
theorem d_Model_fill_18 : decode b_Model_fill 18 = .ok (.if_icmp .ge 34, 3) := by decide +kernel
theorem d_Model_fill_21 : decode b_Model_fill 21 = .ok (.iconst 0, 1) := by decide +kernel
theorem d_Model_fill_22 : decode b_Model_fill 22 = .ok (.istore_n 3, 1) := by decide +kernel
theorem d_Model_fill_23 : decode b_Model_fill 23 = .ok (.iload_n 3, 1) := by decide +kernel
theorem d_Model_fill_24 : decode b_Model_fill 24 = .ok (.iconst 1, 1) := by decide +kernel
theorem d_Model_fill_25 : decode b_Model_fill 25 = .ok (.aload_n 0, 1) := by decide +kernel
theorem d_Model_fill_26 : decode b_Model_fill 26 = .ok (.getfield 97, 3) := by decide +kernel
theorem d_Model_fill_29 : decode b_Model_fill 29 = .ok (.ishl, 1) := by decide +kernel
theorem d_Model_fill_30 : decode b_Model_fill 30 = .ok (.if_icmp .ge 16, 3) := by decide +kernel
theorem d_Model_fill_33 : decode b_Model_fill 33 = .ok (.aload_n 0, 1) := by decide +kernel
theorem d_Model_fill_34 : decode b_Model_fill 34 = .ok (.iload_n 1, 1) := by decide +kernel
theorem d_Model_fill_35 : decode b_Model_fill 35 = .ok (.iload_n 2, 1) := by decide +kernel
theorem d_Model_fill_36 : decode b_Model_fill 36 = .ok (.iload_n 3, 1) := by decide +kernel
theorem d_Model_fill_37 : decode b_Model_fill 37 = .ok (.invokevirtual 145, 3) := by decide +kernel
theorem d_Model_fill_40 : decode b_Model_fill 40 = .ok (.iinc 3 1, 3) := by decide +kernel
theorem d_Model_fill_43 : decode b_Model_fill 43 = .ok (.goto (-20), 3) := by decide +kernel
theorem d_Model_fill_46 : decode b_Model_fill 46 = .ok (.iinc 2 1, 3) := by decide +kernel
theorem d_Model_fill_49 : decode b_Model_fill 49 = .ok (.goto (-34), 3) := by decide +kernel
theorem d_Model_fill_52 : decode b_Model_fill 52 = .ok (.iinc 1 (-1), 3) := by decide +kernel
theorem d_Model_fill_55 : decode b_Model_fill 55 = .ok (.goto (-46), 3) := by decide +kernel
theorem d_Model_fill_58 : decode b_Model_fill 58 = .ok (.return_, 1) := by decide +kernel
theorem d_Model_goesOn_0 : decode b_Model_goesOn 0 = .ok (.aload_n 0, 1) := by decide +kernel
theorem d_Model_goesOn_1 : decode b_Model_goesOn 1 = .ok (.getfield 42, 3) := by decide +kernel
theorem d_Model_goesOn_4 : decode b_Model_goesOn 4 = .ok (.iload_n 2, 1) := by decide +kernel
theorem d_Model_goesOn_5 : decode b_Model_goesOn 5 = .ok (.laload, 1) := by decide +kernel
theorem d_Model_goesOn_6 : decode b_Model_goesOn 6 = .ok (.lconst 0, 1) := by decide +kernel
theorem d_Model_goesOn_7 : decode b_Model_goesOn 7 = .ok (.lcmp, 1) := by decide +kernel
theorem d_Model_goesOn_8 : decode b_Model_goesOn 8 = .ok (.ifCond .lt 44, 3) := by decide +kernel
theorem d_Model_goesOn_11 : decode b_Model_goesOn 11 = .ok (.aload_n 0, 1) := by decide +kernel
theorem d_Model_goesOn_12 : decode b_Model_goesOn 12 = .ok (.getfield 42, 3) := by decide +kernel
theorem d_Model_goesOn_15 : decode b_Model_goesOn 15 = .ok (.iload_n 2, 1) := by decide +kernel
theorem d_Model_goesOn_16 : decode b_Model_goesOn 16 = .ok (.laload, 1) := by decide +kernel
theorem d_Model_goesOn_17 : decode b_Model_goesOn 17 = .ok (.lload_n 3, 1) := by decide +kernel
theorem d_Model_goesOn_18 : decode b_Model_goesOn 18 = .ok (.ladd, 1) := by decide +kernel
theorem d_Model_goesOn_19 : decode b_Model_goesOn 19 = .ok (.aload_n 0, 1) := by decide +kernel
theorem d_Model_goesOn_20 : decode b_Model_goesOn 20 = .ok (.getfield 42, 3) := by decide +kernel
theorem d_Model_goesOn_23 : decode b_Model_goesOn 23 = .ok (.iload_n 1, 1) := by decide +kernel
theorem d_Model_goesOn_24 : decode b_Model_goesOn 24 = .ok (.laload, 1) := by decide +kernel
theorem d_Model_goesOn_25 : decode b_Model_goesOn 25 = .ok (.lcmp, 1) := by decide +kernel
theorem d_Model_goesOn_26 : decode b_Model_goesOn 26 = .ok (.ifCond .ne 26, 3) := by decide +kernel
theorem d_Model_goesOn_29 : decode b_Model_goesOn 29 = .ok (.aload_n 0, 1) := by decide +kernel
theorem d_Model_goesOn_30 : decode b_Model_goesOn 30 = .ok (.getfield 45, 3) := by decide +kernel
theorem d_Model_goesOn_33 : decode b_Model_goesOn 33 = .ok (.iload_n 2, 1) := by decide +kernel
theorem d_Model_goesOn_34 : decode b_Model_goesOn 34 = .ok (.laload, 1) := by decide +kernel
theorem d_Model_goesOn_35 : decode b_Model_goesOn 35 = .ok (.lload 5, 2) := by decide +kernel
theorem d_Model_goesOn_37 : decode b_Model_goesOn 37 = .ok (.ladd, 1) := by decide +kernel
theorem d_Model_goesOn_38 : decode b_Model_goesOn 38 = .ok (.aload_n 0, 1) := by decide +kernel
theorem d_Model_goesOn_39 : decode b_Model_goesOn 39 = .ok (.getfield 45, 3) := by decide +kernel
theorem d_Model_goesOn_42 : decode b_Model_goesOn 42 = .ok (.iload_n 1, 1) := by decide +kernel
theorem d_Model_goesOn_43 : decode b_Model_goesOn 43 = .ok (.laload, 1) := by decide +kernel
theorem d_Model_goesOn_44 : decode b_Model_goesOn 44 = .ok (.lcmp, 1) := by decide +kernel
theorem d_Model_goesOn_45 : decode b_Model_goesOn 45 = .ok (.ifCond .ne 7, 3) := by decide +kernel
theorem d_Model_goesOn_48 : decode b_Model_goesOn 48 = .ok (.iconst 1, 1) := by decide +kernel
theorem d_Model_goesOn_49 : decode b_Model_goesOn 49 = .ok (.goto 4, 3) := by decide +kernel
theorem d_Model_goesOn_52 : decode b_Model_goesOn 52 = .ok (.iconst 0, 1) := by decide +kernel
theorem d_Model_goesOn_53 : decode b_Model_goesOn 53 = .ok (.ireturn, 1) := by decide +kernel
theorem d_Model_add_0 : decode b_Model_add 0 = .ok (.aload_n 0, 1) := by decide +kernel
theorem d_Model_add_1 : decode b_Model_add 1 = .ok (.getfield 60, 3) := by decide +kernel
theorem d_Model_add_4 : decode b_Model_add 4 = .ok (.aload_n 0, 1) := by decide +kernel
theorem d_Model_add_5 : decode b_Model_add 5 = .ok (.getfield 149, 3) := by decide +kernel
theorem d_Model_add_8 : decode b_Model_add 8 = .ok (.iload_n 1, 1) := by decide +kernel
theorem d_Model_add_9 : decode b_Model_add 9 = .ok (.iastore, 1) := by decide +kernel
theorem d_Model_add_10 : decode b_Model_add 10 = .ok (.aload_n 0, 1) := by decide +kernel
theorem d_Model_add_11 : decode b_Model_add 11 = .ok (.getfield 63, 3) := by decide +kernel
theorem d_Model_add_14 : decode b_Model_add 14 = .ok (.aload_n 0, 1) := by decide +kernel
theorem d_Model_add_15 : decode b_Model_add 15 = .ok (.getfield 149, 3) := by decide +kernel
theorem d_Model_add_18 : decode b_Model_add 18 = .ok (.iload_n 2, 1) := by decide +kernel
theorem d_Model_add_19 : decode b_Model_add 19 = .ok (.iastore, 1) := by decide +kernel
theorem d_Model_add_20 : decode b_Model_add 20 = .ok (.aload_n 0, 1) := by decide +kernel
theorem d_Model_add_21 : decode b_Model_add 21 = .ok (.getfield 66, 3) := by decide +kernel
theorem d_Model_add_24 : decode b_Model_add 24 = .ok (.aload_n 0, 1) := by decide +kernel
theorem d_Model_add_25 : decode b_Model_add 25 = .ok (.getfield 149, 3) := by decide +kernel
theorem d_Model_add_28 : decode b_Model_add 28 = .ok (.iload_n 3, 1) := by decide +kernel
theorem d_Model_add_29 : decode b_Model_add 29 = .ok (.iastore, 1) := by decide +kernel
theorem d_Model_add_30 : decode b_Model_add 30 = .ok (.aload_n 0, 1) := by decide +kernel
theorem d_Model_add_31 : decode b_Model_add 31 = .ok (.dup, 1) := by decide +kernel
theorem d_Model_add_32 : decode b_Model_add 32 = .ok (.getfield 149, 3) := by decide +kernel
theorem d_Model_add_35 : decode b_Model_add 35 = .ok (.iconst 1, 1) := by decide +kernel
theorem d_Model_add_36 : decode b_Model_add 36 = .ok (.iadd, 1) := by decide +kernel
theorem d_Model_add_37 : decode b_Model_add 37 = .ok (.putfield 149, 3) := by decide +kernel
theorem d_Model_add_40 : decode b_Model_add 40 = .ok (.return_, 1) := by decide +kernel
theorem d_Model_walk_0 : decode b_Model_walk 0 = .ok (.aload_n 0, 1) := by decide +kernel
theorem d_Model_walk_1 : decode b_Model_walk 1 = .ok (.iconst 0, 1) := by decide +kernel
theorem d_Model_walk_2 : decode b_Model_walk 2 = .ok (.putfield 149, 3) := by decide +kernel
theorem d_Model_walk_5 : decode b_Model_walk 5 = .ok (.iconst 0, 1) := by decide +kernel
theorem d_Model_walk_6 : decode b_Model_walk 6 = .ok (.istore_n 1, 1) := by decide +kernel
theorem d_Model_walk_7 : decode b_Model_walk 7 = .ok (.bipush 6, 2) := by decide +kernel
theorem d_Model_walk_9 : decode b_Model_walk 9 = .ok (.istore_n 2, 1) := by decide +kernel
theorem d_Model_walk_10 : decode b_Model_walk 10 = .ok (.iconst 0, 1) := by decide +kernel
theorem d_Model_walk_11 : decode b_Model_walk 11 = .ok (.istore_n 3, 1) := by decide +kernel
theorem d_Model_walk_12 : decode b_Model_walk 12 = .ok (.iload_n 1, 1) := by decide +kernel
theorem d_Model_walk_13 : decode b_Model_walk 13 = .ok (.aload_n 0, 1) := by decide +kernel
theorem d_Model_walk_14 : decode b_Model_walk 14 = .ok (.getfield 69, 3) := by decide +kernel
theorem d_Model_walk_17 : decode b_Model_walk 17 = .ok (.if_icmp .ge 213, 3) := by decide +kernel
theorem d_Model_walk_20 : decode b_Model_walk 20 = .ok (.iload_n 1, 1) := by decide +kernel
theorem d_Model_walk_21 : decode b_Model_walk 21 = .ok (.iload_n 2, 1) := by decide +kernel
theorem d_Model_walk_22 : decode b_Model_walk 22 = .ok (.iload_n 3, 1) := by decide +kernel
theorem d_Model_walk_23 : decode b_Model_walk 23 = .ok (.invokestatic 122, 3) := by decide +kernel
theorem d_Model_walk_26 : decode b_Model_walk 26 = .ok (.istore 4, 2) := by decide +kernel
theorem d_Model_walk_28 : decode b_Model_walk 28 = .ok (.aload_n 0, 1) := by decide +kernel
theorem d_Model_walk_29 : decode b_Model_walk 29 = .ok (.getfield 7, 3) := by decide +kernel
theorem d_Model_walk_32 : decode b_Model_walk 32 = .ok (.iload_n 1, 1) := by decide +kernel
theorem d_Model_walk_33 : decode b_Model_walk 33 = .ok (.baload, 1) := by decide +kernel
theorem d_Model_walk_34 : decode b_Model_walk 34 = .ok (.ifCond .eq 15, 3) := by decide +kernel
theorem d_Model_walk_37 : decode b_Model_walk 37 = .ok (.aload_n 0, 1) := by decide +kernel
theorem d_Model_walk_38 : decode b_Model_walk 38 = .ok (.iload_n 1, 1) := by decide +kernel
theorem d_Model_walk_39 : decode b_Model_walk 39 = .ok (.invokevirtual 126, 3) := by decide +kernel
theorem d_Model_walk_42 : decode b_Model_walk 42 = .ok (.istore_n 1, 1) := by decide +kernel
theorem d_Model_walk_43 : decode b_Model_walk 43 = .ok (.bipush 6, 2) := by decide +kernel
theorem d_Model_walk_45 : decode b_Model_walk 45 = .ok (.istore_n 2, 1) := by decide +kernel
theorem d_Model_walk_46 : decode b_Model_walk 46 = .ok (.goto 181, 3) := by decide +kernel
theorem d_Model_walk_49 : decode b_Model_walk 49 = .ok (.iconst 0, 1) := by decide +kernel
theorem d_Model_walk_50 : decode b_Model_walk 50 = .ok (.istore 5, 2) := by decide +kernel
theorem d_Model_walk_52 : decode b_Model_walk 52 = .ok (.iload 5, 2) := by decide +kernel
theorem d_Model_walk_54 : decode b_Model_walk 54 = .ok (.aload_n 0, 1) := by decide +kernel
theorem d_Model_walk_55 : decode b_Model_walk 55 = .ok (.getfield 97, 3) := by decide +kernel
theorem d_Model_walk_58 : decode b_Model_walk 58 = .ok (.if_icmp .ge 64, 3) := by decide +kernel
theorem d_Model_walk_61 : decode b_Model_walk 61 = .ok (.aload_n 0, 1) := by decide +kernel
theorem d_Model_walk_62 : decode b_Model_walk 62 = .ok (.iload 5, 2) := by decide +kernel
theorem d_Model_walk_64 : decode b_Model_walk 64 = .ok (.iload_n 1, 1) := by decide +kernel
theorem d_Model_walk_65 : decode b_Model_walk 65 = .ok (.iload_n 2, 1) := by decide +kernel
theorem d_Model_walk_66 : decode b_Model_walk 66 = .ok (.iload_n 3, 1) := by decide +kernel
theorem d_Model_walk_67 : decode b_Model_walk 67 = .ok (.invokevirtual 134, 3) := by decide +kernel
theorem d_Model_walk_70 : decode b_Model_walk 70 = .ok (.ifCond .eq 46, 3) := by decide +kernel
theorem d_Model_walk_73 : decode b_Model_walk 73 = .ok (.aload_n 0, 1) := by decide +kernel
theorem d_Model_walk_74 : decode b_Model_walk 74 = .ok (.iload 4, 2) := by decide +kernel
theorem d_Model_walk_76 : decode b_Model_walk 76 = .ok (.iload_n 1, 1) := by decide +kernel
theorem d_Model_walk_77 : decode b_Model_walk 77 = .ok (.aload_n 0, 1) := by decide +kernel
theorem d_Model_walk_78 : decode b_Model_walk 78 = .ok (.getfield 17, 3) := by decide +kernel
theorem d_Model_walk_81 : decode b_Model_walk 81 = .ok (.iload 5, 2) := by decide +kernel
theorem d_Model_walk_83 : decode b_Model_walk 83 = .ok (.iaload, 1) := by decide +kernel
theorem d_Model_walk_84 : decode b_Model_walk 84 = .ok (.iadd, 1) := by decide +kernel
theorem d_Model_walk_85 : decode b_Model_walk 85 = .ok (.iload 5, 2) := by decide +kernel
theorem d_Model_walk_87 : decode b_Model_walk 87 = .ok (.iload_n 3, 1) := by decide +kernel
theorem d_Model_walk_88 : decode b_Model_walk 88 = .ok (.iconst 1, 1) := by decide +kernel
theorem d_Model_walk_89 : decode b_Model_walk 89 = .ok (.iload 5, 2) := by decide +kernel
theorem d_Model_walk_91 : decode b_Model_walk 91 = .ok (.ishl, 1) := by decide +kernel
theorem d_Model_walk_92 : decode b_Model_walk 92 = .ok (.ior, 1) := by decide +kernel
theorem d_Model_walk_93 : decode b_Model_walk 93 = .ok (.invokestatic 122, 3) := by decide +kernel
theorem d_Model_walk_96 : decode b_Model_walk 96 = .ok (.aload_n 0, 1) := by decide +kernel
theorem d_Model_walk_97 : decode b_Model_walk 97 = .ok (.iload 5, 2) := by decide +kernel
theorem d_Model_walk_99 : decode b_Model_walk 99 = .ok (.iload_n 2, 1) := by decide +kernel
theorem d_Model_walk_100 : decode b_Model_walk 100 = .ok (.invokevirtual 138, 3) := by decide +kernel
theorem d_Model_walk_103 : decode b_Model_walk 103 = .ok (.aload_n 0, 1) := by decide +kernel
theorem d_Model_walk_104 : decode b_Model_walk 104 = .ok (.getfield 24, 3) := by decide +kernel
theorem d_Model_walk_107 : decode b_Model_walk 107 = .ok (.iload 5, 2) := by decide +kernel
theorem d_Model_walk_109 : decode b_Model_walk 109 = .ok (.laload, 1) := by decide +kernel
theorem d_Model_walk_110 : decode b_Model_walk 110 = .ok (.invokevirtual 152, 3) := by decide +kernel
theorem d_Model_walk_113 : decode b_Model_walk 113 = .ok (.ifCond .ne 9, 3) := by decide +kernel
theorem d_Model_walk_116 : decode b_Model_walk 116 = .ok (.iinc 5 1, 3) := by decide +kernel
theorem d_Model_walk_119 : decode b_Model_walk 119 = .ok (.goto (-67), 3) := by decide +kernel
theorem d_Model_walk_122 : decode b_Model_walk 122 = .ok (.iload 5, 2) := by decide +kernel
theorem d_Model_walk_124 : decode b_Model_walk 124 = .ok (.aload_n 0, 1) := by decide +kernel
theorem d_Model_walk_125 : decode b_Model_walk 125 = .ok (.getfield 97, 3) := by decide +kernel
theorem d_Model_walk_128 : decode b_Model_walk 128 = .ok (.if_icmp .ge 40, 3) := by decide +kernel
theorem d_Model_walk_131 : decode b_Model_walk 131 = .ok (.aload_n 0, 1) := by decide +kernel
theorem d_Model_walk_132 : decode b_Model_walk 132 = .ok (.iload 5, 2) := by decide +kernel
theorem d_Model_walk_134 : decode b_Model_walk 134 = .ok (.iload_n 1, 1) := by decide +kernel
theorem d_Model_walk_135 : decode b_Model_walk 135 = .ok (.aload_n 0, 1) := by decide +kernel
theorem d_Model_walk_136 : decode b_Model_walk 136 = .ok (.getfield 17, 3) := by decide +kernel
theorem d_Model_walk_139 : decode b_Model_walk 139 = .ok (.iload 5, 2) := by decide +kernel
theorem d_Model_walk_141 : decode b_Model_walk 141 = .ok (.iaload, 1) := by decide +kernel
theorem d_Model_walk_142 : decode b_Model_walk 142 = .ok (.invokevirtual 156, 3) := by decide +kernel
theorem d_Model_walk_145 : decode b_Model_walk 145 = .ok (.iload_n 1, 1) := by decide +kernel
theorem d_Model_walk_146 : decode b_Model_walk 146 = .ok (.aload_n 0, 1) := by decide +kernel
theorem d_Model_walk_147 : decode b_Model_walk 147 = .ok (.getfield 17, 3) := by decide +kernel
theorem d_Model_walk_150 : decode b_Model_walk 150 = .ok (.iload 5, 2) := by decide +kernel
theorem d_Model_walk_152 : decode b_Model_walk 152 = .ok (.iaload, 1) := by decide +kernel
theorem d_Model_walk_153 : decode b_Model_walk 153 = .ok (.iadd, 1) := by decide +kernel
theorem d_Model_walk_154 : decode b_Model_walk 154 = .ok (.istore_n 1, 1) := by decide +kernel
theorem d_Model_walk_155 : decode b_Model_walk 155 = .ok (.iload 5, 2) := by decide +kernel
theorem d_Model_walk_157 : decode b_Model_walk 157 = .ok (.istore_n 2, 1) := by decide +kernel
theorem d_Model_walk_158 : decode b_Model_walk 158 = .ok (.iload_n 3, 1) := by decide +kernel
theorem d_Model_walk_159 : decode b_Model_walk 159 = .ok (.iconst 1, 1) := by decide +kernel
theorem d_Model_walk_160 : decode b_Model_walk 160 = .ok (.iload 5, 2) := by decide +kernel
theorem d_Model_walk_162 : decode b_Model_walk 162 = .ok (.ishl, 1) := by decide +kernel
theorem d_Model_walk_163 : decode b_Model_walk 163 = .ok (.ior, 1) := by decide +kernel
theorem d_Model_walk_164 : decode b_Model_walk 164 = .ok (.istore_n 3, 1) := by decide +kernel
theorem d_Model_walk_165 : decode b_Model_walk 165 = .ok (.goto 62, 3) := by decide +kernel
theorem d_Model_walk_168 : decode b_Model_walk 168 = .ok (.aload_n 0, 1) := by decide +kernel
theorem d_Model_walk_169 : decode b_Model_walk 169 = .ok (.getfield 73, 3) := by decide +kernel
theorem d_Model_walk_172 : decode b_Model_walk 172 = .ok (.istore 6, 2) := by decide +kernel
theorem d_Model_walk_174 : decode b_Model_walk 174 = .ok (.aload_n 0, 1) := by decide +kernel
theorem d_Model_walk_175 : decode b_Model_walk 175 = .ok (.iload_n 1, 1) := by decide +kernel
theorem d_Model_walk_176 : decode b_Model_walk 176 = .ok (.iload 6, 2) := by decide +kernel
theorem d_Model_walk_178 : decode b_Model_walk 178 = .ok (.invokevirtual 119, 3) := by decide +kernel
theorem d_Model_walk_181 : decode b_Model_walk 181 = .ok (.ifCond .eq 24, 3) := by decide +kernel
theorem d_Model_walk_184 : decode b_Model_walk 184 = .ok (.aload_n 0, 1) := by decide +kernel
theorem d_Model_walk_185 : decode b_Model_walk 185 = .ok (.iload 4, 2) := by decide +kernel
theorem d_Model_walk_187 : decode b_Model_walk 187 = .ok (.iload_n 1, 1) := by decide +kernel
theorem d_Model_walk_188 : decode b_Model_walk 188 = .ok (.iload 6, 2) := by decide +kernel
theorem d_Model_walk_190 : decode b_Model_walk 190 = .ok (.iadd, 1) := by decide +kernel
theorem d_Model_walk_191 : decode b_Model_walk 191 = .ok (.bipush 7, 2) := by decide +kernel
theorem d_Model_walk_193 : decode b_Model_walk 193 = .ok (.iload_n 3, 1) := by decide +kernel
theorem d_Model_walk_194 : decode b_Model_walk 194 = .ok (.invokestatic 122, 3) := by decide +kernel
theorem d_Model_walk_197 : decode b_Model_walk 197 = .ok (.lconst 0, 1) := by decide +kernel
theorem d_Model_walk_198 : decode b_Model_walk 198 = .ok (.lconst 0, 1) := by decide +kernel
theorem d_Model_walk_199 : decode b_Model_walk 199 = .ok (.invokevirtual 152, 3) := by decide +kernel
theorem d_Model_walk_202 : decode b_Model_walk 202 = .ok (.ifCond .ne 9, 3) := by decide +kernel
theorem d_Model_walk_205 : decode b_Model_walk 205 = .ok (.iinc 6 1, 3) := by decide +kernel
theorem d_Model_walk_208 : decode b_Model_walk 208 = .ok (.goto (-34), 3) := by decide +kernel
theorem d_Model_walk_211 : decode b_Model_walk 211 = .ok (.aload_n 0, 1) := by decide +kernel
theorem d_Model_walk_212 : decode b_Model_walk 212 = .ok (.iconst (-1), 1) := by decide +kernel
theorem d_Model_walk_213 : decode b_Model_walk 213 = .ok (.iload_n 1, 1) := by decide +kernel
theorem d_Model_walk_214 : decode b_Model_walk 214 = .ok (.iload 6, 2) := by decide +kernel
theorem d_Model_walk_216 : decode b_Model_walk 216 = .ok (.invokevirtual 156, 3) := by decide +kernel
theorem d_Model_walk_219 : decode b_Model_walk 219 = .ok (.iload_n 1, 1) := by decide +kernel
theorem d_Model_walk_220 : decode b_Model_walk 220 = .ok (.iload 6, 2) := by decide +kernel
theorem d_Model_walk_222 : decode b_Model_walk 222 = .ok (.iadd, 1) := by decide +kernel
theorem d_Model_walk_223 : decode b_Model_walk 223 = .ok (.istore_n 1, 1) := by decide +kernel
theorem d_Model_walk_224 : decode b_Model_walk 224 = .ok (.bipush 7, 2) := by decide +kernel
theorem d_Model_walk_226 : decode b_Model_walk 226 = .ok (.istore_n 2, 1) := by decide +kernel
theorem d_Model_walk_227 : decode b_Model_walk 227 = .ok (.goto (-215), 3) := by decide +kernel
theorem d_Model_walk_230 : decode b_Model_walk 230 = .ok (.iload_n 3, 1) := by decide +kernel
theorem d_Model_walk_231 : decode b_Model_walk 231 = .ok (.ireturn, 1) := by decide +kernel
