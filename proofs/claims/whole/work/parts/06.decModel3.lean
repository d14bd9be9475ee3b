theorem d_Model_size_0 : decode b_Model_size 0 = .ok (.iconst 0, 1) := by decide +kernel
theorem d_Model_size_1 : decode b_Model_size 1 = .ok (.istore_n 1, 1) := by decide +kernel
theorem d_Model_size_2 : decode b_Model_size 2 = .ok (.iconst 0, 1) := by decide +kernel
theorem d_Model_size_3 : decode b_Model_size 3 = .ok (.istore_n 2, 1) := by decide +kernel
theorem d_Model_size_4 : decode b_Model_size 4 = .ok (.iload_n 2, 1) := by decide +kernel
theorem d_Model_size_5 : decode b_Model_size 5 = .ok (.bipush 6, 2) := by decide +kernel
theorem d_Model_size_7 : decode b_Model_size 7 = .ok (.if_icmp .ge 17, 3) := by decide +kernel
theorem d_Model_size_10 : decode b_Model_size 10 = .ok (.iload_n 1, 1) := by decide +kernel
theorem d_Model_size_11 : decode b_Model_size 11 = .ok (.iload_n 0, 1) := by decide +kernel
theorem d_Model_size_12 : decode b_Model_size 12 = .ok (.iload_n 2, 1) := by decide +kernel
theorem d_Model_size_13 : decode b_Model_size 13 = .ok (.ishr, 1) := by decide +kernel
theorem d_Model_size_14 : decode b_Model_size 14 = .ok (.iconst 1, 1) := by decide +kernel
theorem d_Model_size_15 : decode b_Model_size 15 = .ok (.iand, 1) := by decide +kernel
theorem d_Model_size_16 : decode b_Model_size 16 = .ok (.iadd, 1) := by decide +kernel
theorem d_Model_size_17 : decode b_Model_size 17 = .ok (.istore_n 1, 1) := by decide +kernel
theorem d_Model_size_18 : decode b_Model_size 18 = .ok (.iinc 2 1, 3) := by decide +kernel
theorem d_Model_size_21 : decode b_Model_size 21 = .ok (.goto (-17), 3) := by decide +kernel
theorem d_Model_size_24 : decode b_Model_size 24 = .ok (.iload_n 1, 1) := by decide +kernel
theorem d_Model_size_25 : decode b_Model_size 25 = .ok (.ireturn, 1) := by decide +kernel
theorem d_Model_find_0 : decode b_Model_find 0 = .ok (.iconst 0, 1) := by decide +kernel
theorem d_Model_find_1 : decode b_Model_find 1 = .ok (.istore_n 2, 1) := by decide +kernel
theorem d_Model_find_2 : decode b_Model_find 2 = .ok (.iload_n 2, 1) := by decide +kernel
theorem d_Model_find_3 : decode b_Model_find 3 = .ok (.iconst 1, 1) := by decide +kernel
theorem d_Model_find_4 : decode b_Model_find 4 = .ok (.aload_n 0, 1) := by decide +kernel
theorem d_Model_find_5 : decode b_Model_find 5 = .ok (.getfield 97, 3) := by decide +kernel
theorem d_Model_find_8 : decode b_Model_find 8 = .ok (.ishl, 1) := by decide +kernel
theorem d_Model_find_9 : decode b_Model_find 9 = .ok (.if_icmp .ge 121, 3) := by decide +kernel
theorem d_Model_find_12 : decode b_Model_find 12 = .ok (.aload_n 0, 1) := by decide +kernel
theorem d_Model_find_13 : decode b_Model_find 13 = .ok (.getfield 48, 3) := by decide +kernel
theorem d_Model_find_16 : decode b_Model_find 16 = .ok (.iload_n 2, 1) := by decide +kernel
theorem d_Model_find_17 : decode b_Model_find 17 = .ok (.iconst 1, 1) := by decide +kernel
theorem d_Model_find_18 : decode b_Model_find 18 = .ok (.bastore, 1) := by decide +kernel
theorem d_Model_find_19 : decode b_Model_find 19 = .ok (.iconst 0, 1) := by decide +kernel
theorem d_Model_find_20 : decode b_Model_find 20 = .ok (.istore_n 3, 1) := by decide +kernel
theorem d_Model_find_21 : decode b_Model_find 21 = .ok (.iload_n 3, 1) := by decide +kernel
theorem d_Model_find_22 : decode b_Model_find 22 = .ok (.aload_n 0, 1) := by decide +kernel
theorem d_Model_find_23 : decode b_Model_find 23 = .ok (.getfield 97, 3) := by decide +kernel
theorem d_Model_find_26 : decode b_Model_find 26 = .ok (.if_icmp .ge 47, 3) := by decide +kernel
theorem d_Model_find_29 : decode b_Model_find 29 = .ok (.aload_n 0, 1) := by decide +kernel
theorem d_Model_find_30 : decode b_Model_find 30 = .ok (.getfield 48, 3) := by decide +kernel
theorem d_Model_find_33 : decode b_Model_find 33 = .ok (.iload_n 2, 1) := by decide +kernel
theorem d_Model_find_34 : decode b_Model_find 34 = .ok (.aload_n 0, 1) := by decide +kernel
theorem d_Model_find_35 : decode b_Model_find 35 = .ok (.getfield 48, 3) := by decide +kernel
theorem d_Model_find_38 : decode b_Model_find 38 = .ok (.iload_n 2, 1) := by decide +kernel
theorem d_Model_find_39 : decode b_Model_find 39 = .ok (.baload, 1) := by decide +kernel
theorem d_Model_find_40 : decode b_Model_find 40 = .ok (.ifCond .eq 25, 3) := by decide +kernel
theorem d_Model_find_43 : decode b_Model_find 43 = .ok (.aload_n 0, 1) := by decide +kernel
theorem d_Model_find_44 : decode b_Model_find 44 = .ok (.getfield 30, 3) := by decide +kernel
theorem d_Model_find_47 : decode b_Model_find 47 = .ok (.iload_n 3, 1) := by decide +kernel
theorem d_Model_find_48 : decode b_Model_find 48 = .ok (.baload, 1) := by decide +kernel
theorem d_Model_find_49 : decode b_Model_find 49 = .ok (.ifCond .eq 12, 3) := by decide +kernel
theorem d_Model_find_52 : decode b_Model_find 52 = .ok (.iload_n 2, 1) := by decide +kernel
theorem d_Model_find_53 : decode b_Model_find 53 = .ok (.iload_n 3, 1) := by decide +kernel
theorem d_Model_find_54 : decode b_Model_find 54 = .ok (.ishr, 1) := by decide +kernel
theorem d_Model_find_55 : decode b_Model_find 55 = .ok (.iconst 1, 1) := by decide +kernel
theorem d_Model_find_56 : decode b_Model_find 56 = .ok (.iand, 1) := by decide +kernel
theorem d_Model_find_57 : decode b_Model_find 57 = .ok (.iconst 1, 1) := by decide +kernel
theorem d_Model_find_58 : decode b_Model_find 58 = .ok (.if_icmp .ne 7, 3) := by decide +kernel
theorem d_Model_find_61 : decode b_Model_find 61 = .ok (.iconst 1, 1) := by decide +kernel
theorem d_Model_find_62 : decode b_Model_find 62 = .ok (.goto 4, 3) := by decide +kernel
theorem d_Model_find_65 : decode b_Model_find 65 = .ok (.iconst 0, 1) := by decide +kernel
theorem d_Model_find_66 : decode b_Model_find 66 = .ok (.bastore, 1) := by decide +kernel
theorem d_Model_find_67 : decode b_Model_find 67 = .ok (.iinc 3 1, 3) := by decide +kernel
theorem d_Model_find_70 : decode b_Model_find 70 = .ok (.goto (-49), 3) := by decide +kernel
theorem d_Model_find_73 : decode b_Model_find 73 = .ok (.iconst 0, 1) := by decide +kernel
theorem d_Model_find_74 : decode b_Model_find 74 = .ok (.istore_n 3, 1) := by decide +kernel
theorem d_Model_find_75 : decode b_Model_find 75 = .ok (.iload_n 3, 1) := by decide +kernel
theorem d_Model_find_76 : decode b_Model_find 76 = .ok (.aload_n 0, 1) := by decide +kernel
theorem d_Model_find_77 : decode b_Model_find 77 = .ok (.getfield 159, 3) := by decide +kernel
theorem d_Model_find_80 : decode b_Model_find 80 = .ok (.if_icmp .ge 44, 3) := by decide +kernel
theorem d_Model_find_83 : decode b_Model_find 83 = .ok (.aload_n 0, 1) := by decide +kernel
theorem d_Model_find_84 : decode b_Model_find 84 = .ok (.getfield 48, 3) := by decide +kernel
theorem d_Model_find_87 : decode b_Model_find 87 = .ok (.iload_n 2, 1) := by decide +kernel
theorem d_Model_find_88 : decode b_Model_find 88 = .ok (.aload_n 0, 1) := by decide +kernel
theorem d_Model_find_89 : decode b_Model_find 89 = .ok (.getfield 48, 3) := by decide +kernel
theorem d_Model_find_92 : decode b_Model_find 92 = .ok (.iload_n 2, 1) := by decide +kernel
theorem d_Model_find_93 : decode b_Model_find 93 = .ok (.baload, 1) := by decide +kernel
theorem d_Model_find_94 : decode b_Model_find 94 = .ok (.ifCond .eq 22, 3) := by decide +kernel
theorem d_Model_find_97 : decode b_Model_find 97 = .ok (.iload_n 2, 1) := by decide +kernel
theorem d_Model_find_98 : decode b_Model_find 98 = .ok (.aload_n 0, 1) := by decide +kernel
theorem d_Model_find_99 : decode b_Model_find 99 = .ok (.getfield 57, 3) := by decide +kernel
theorem d_Model_find_102 : decode b_Model_find 102 = .ok (.iload_n 3, 1) := by decide +kernel
theorem d_Model_find_103 : decode b_Model_find 103 = .ok (.iaload, 1) := by decide +kernel
theorem d_Model_find_104 : decode b_Model_find 104 = .ok (.ixor, 1) := by decide +kernel
theorem d_Model_find_105 : decode b_Model_find 105 = .ok (.invokestatic 162, 3) := by decide +kernel
theorem d_Model_find_108 : decode b_Model_find 108 = .ok (.iload_n 1, 1) := by decide +kernel
theorem d_Model_find_109 : decode b_Model_find 109 = .ok (.if_icmp .lt 7, 3) := by decide +kernel
theorem d_Model_find_112 : decode b_Model_find 112 = .ok (.iconst 1, 1) := by decide +kernel
theorem d_Model_find_113 : decode b_Model_find 113 = .ok (.goto 4, 3) := by decide +kernel
theorem d_Model_find_116 : decode b_Model_find 116 = .ok (.iconst 0, 1) := by decide +kernel
theorem d_Model_find_117 : decode b_Model_find 117 = .ok (.bastore, 1) := by decide +kernel
theorem d_Model_find_118 : decode b_Model_find 118 = .ok (.iinc 3 1, 3) := by decide +kernel
theorem d_Model_find_121 : decode b_Model_find 121 = .ok (.goto (-46), 3) := by decide +kernel
theorem d_Model_find_124 : decode b_Model_find 124 = .ok (.iinc 2 1, 3) := by decide +kernel
theorem d_Model_find_127 : decode b_Model_find 127 = .ok (.goto (-125), 3) := by decide +kernel
theorem d_Model_find_130 : decode b_Model_find 130 = .ok (.aload_n 0, 1) := by decide +kernel
theorem d_Model_find_131 : decode b_Model_find 131 = .ok (.invokevirtual 165, 3) := by decide +kernel
theorem d_Model_find_134 : decode b_Model_find 134 = .ok (.iconst 0, 1) := by decide +kernel
theorem d_Model_find_135 : decode b_Model_find 135 = .ok (.bipush 6, 2) := by decide +kernel
theorem d_Model_find_137 : decode b_Model_find 137 = .ok (.iconst 0, 1) := by decide +kernel
theorem d_Model_find_138 : decode b_Model_find 138 = .ok (.invokestatic 122, 3) := by decide +kernel
theorem d_Model_find_141 : decode b_Model_find 141 = .ok (.istore_n 2, 1) := by decide +kernel
theorem d_Model_find_142 : decode b_Model_find 142 = .ok (.aload_n 0, 1) := by decide +kernel
theorem d_Model_find_143 : decode b_Model_find 143 = .ok (.getfield 42, 3) := by decide +kernel
theorem d_Model_find_146 : decode b_Model_find 146 = .ok (.iload_n 2, 1) := by decide +kernel
theorem d_Model_find_147 : decode b_Model_find 147 = .ok (.laload, 1) := by decide +kernel
theorem d_Model_find_148 : decode b_Model_find 148 = .ok (.lconst 0, 1) := by decide +kernel
theorem d_Model_find_149 : decode b_Model_find 149 = .ok (.lcmp, 1) := by decide +kernel
theorem d_Model_find_150 : decode b_Model_find 150 = .ok (.ifCond .ge 5, 3) := by decide +kernel
theorem d_Model_find_153 : decode b_Model_find 153 = .ok (.iconst 0, 1) := by decide +kernel
theorem d_Model_find_154 : decode b_Model_find 154 = .ok (.ireturn, 1) := by decide +kernel
theorem d_Model_find_155 : decode b_Model_find 155 = .ok (.aload_n 0, 1) := by decide +kernel
theorem d_Model_find_156 : decode b_Model_find 156 = .ok (.aload_n 0, 1) := by decide +kernel
theorem d_Model_find_157 : decode b_Model_find 157 = .ok (.getfield 42, 3) := by decide +kernel
theorem d_Model_find_160 : decode b_Model_find 160 = .ok (.iload_n 2, 1) := by decide +kernel
theorem d_Model_find_161 : decode b_Model_find 161 = .ok (.laload, 1) := by decide +kernel
theorem d_Model_find_162 : decode b_Model_find 162 = .ok (.putfield 168, 3) := by decide +kernel
theorem d_Model_find_165 : decode b_Model_find 165 = .ok (.aload_n 0, 1) := by decide +kernel
theorem d_Model_find_166 : decode b_Model_find 166 = .ok (.aload_n 0, 1) := by decide +kernel
theorem d_Model_find_167 : decode b_Model_find 167 = .ok (.getfield 45, 3) := by decide +kernel
theorem d_Model_find_170 : decode b_Model_find 170 = .ok (.iload_n 2, 1) := by decide +kernel
theorem d_Model_find_171 : decode b_Model_find 171 = .ok (.laload, 1) := by decide +kernel
theorem d_Model_find_172 : decode b_Model_find 172 = .ok (.putfield 172, 3) := by decide +kernel
theorem d_Model_find_175 : decode b_Model_find 175 = .ok (.aload_n 0, 1) := by decide +kernel
theorem d_Model_find_176 : decode b_Model_find 176 = .ok (.getfield 57, 3) := by decide +kernel
theorem d_Model_find_179 : decode b_Model_find 179 = .ok (.aload_n 0, 1) := by decide +kernel
theorem d_Model_find_180 : decode b_Model_find 180 = .ok (.getfield 159, 3) := by decide +kernel
theorem d_Model_find_183 : decode b_Model_find 183 = .ok (.aload_n 0, 1) := by decide +kernel
theorem d_Model_find_184 : decode b_Model_find 184 = .ok (.invokevirtual 175, 3) := by decide +kernel
theorem d_Model_find_187 : decode b_Model_find 187 = .ok (.iastore, 1) := by decide +kernel
theorem d_Model_find_188 : decode b_Model_find 188 = .ok (.aload_n 0, 1) := by decide +kernel
theorem d_Model_find_189 : decode b_Model_find 189 = .ok (.dup, 1) := by decide +kernel
theorem d_Model_find_190 : decode b_Model_find 190 = .ok (.getfield 159, 3) := by decide +kernel
theorem d_Model_find_193 : decode b_Model_find 193 = .ok (.iconst 1, 1) := by decide +kernel
theorem d_Model_find_194 : decode b_Model_find 194 = .ok (.iadd, 1) := by decide +kernel
theorem d_Model_find_195 : decode b_Model_find 195 = .ok (.putfield 159, 3) := by decide +kernel
theorem d_Model_find_198 : decode b_Model_find 198 = .ok (.iconst 1, 1) := by decide +kernel
theorem d_Model_find_199 : decode b_Model_find 199 = .ok (.ireturn, 1) := by decide +kernel
theorem d_Model_run_0 : decode b_Model_run 0 = .ok (.aload_n 0, 1) := by decide +kernel
theorem d_Model_run_1 : decode b_Model_run 1 = .ok (.iconst 0, 1) := by decide +kernel
theorem d_Model_run_2 : decode b_Model_run 2 = .ok (.putfield 76, 3) := by decide +kernel
theorem d_Model_run_5 : decode b_Model_run 5 = .ok (.aload_n 0, 1) := by decide +kernel
theorem d_Model_run_6 : decode b_Model_run 6 = .ok (.iconst 0, 1) := by decide +kernel
theorem d_Model_run_7 : decode b_Model_run 7 = .ok (.putfield 159, 3) := by decide +kernel
theorem d_Model_run_10 : decode b_Model_run 10 = .ok (.aload_n 0, 1) := by decide +kernel
theorem d_Model_run_11 : decode b_Model_run 11 = .ok (.aload_n 0, 1) := by decide +kernel
theorem d_Model_run_12 : decode b_Model_run 12 = .ok (.iconst 0, 1) := by decide +kernel
theorem d_Model_run_13 : decode b_Model_run 13 = .ok (.invokevirtual 179, 3) := by decide +kernel
theorem d_Model_run_16 : decode b_Model_run 16 = .ok (.putfield 79, 3) := by decide +kernel
theorem d_Model_run_19 : decode b_Model_run 19 = .ok (.aload_n 0, 1) := by decide +kernel
theorem d_Model_run_20 : decode b_Model_run 20 = .ok (.getfield 79, 3) := by decide +kernel
theorem d_Model_run_23 : decode b_Model_run 23 = .ok (.ifCond .eq 10, 3) := by decide +kernel
theorem d_Model_run_26 : decode b_Model_run 26 = .ok (.aload_n 0, 1) := by decide +kernel
theorem d_Model_run_27 : decode b_Model_run 27 = .ok (.getfield 149, 3) := by decide +kernel
theorem d_Model_run_30 : decode b_Model_run 30 = .ok (.goto 4, 3) := by decide +kernel
theorem d_Model_run_33 : decode b_Model_run 33 = .ok (.iconst (-1), 1) := by decide +kernel
theorem d_Model_run_34 : decode b_Model_run 34 = .ok (.ireturn, 1) := by decide +kernel
theorem d_Model_variant_0 : decode b_Model_variant 0 = .ok (.aload_n 0, 1) := by decide +kernel
theorem d_Model_variant_1 : decode b_Model_variant 1 = .ok (.aload_n 0, 1) := by decide +kernel
theorem d_Model_variant_2 : decode b_Model_variant 2 = .ok (.getfield 79, 3) := by decide +kernel
theorem d_Model_variant_5 : decode b_Model_variant 5 = .ok (.ifCond .eq 12, 3) := by decide +kernel
theorem d_Model_variant_8 : decode b_Model_variant 8 = .ok (.aload_n 0, 1) := by decide +kernel
theorem d_Model_variant_9 : decode b_Model_variant 9 = .ok (.getfield 159, 3) := by decide +kernel
theorem d_Model_variant_12 : decode b_Model_variant 12 = .ok (.bipush 16, 2) := by decide +kernel
theorem d_Model_variant_14 : decode b_Model_variant 14 = .ok (.if_icmp .ne 7, 3) := by decide +kernel
theorem d_Model_variant_17 : decode b_Model_variant 17 = .ok (.iconst 1, 1) := by decide +kernel
theorem d_Model_variant_18 : decode b_Model_variant 18 = .ok (.goto 20, 3) := by decide +kernel
theorem d_Model_variant_21 : decode b_Model_variant 21 = .ok (.iload_n 1, 1) := by decide +kernel
theorem d_Model_variant_22 : decode b_Model_variant 22 = .ok (.i2l, 1) := by decide +kernel
theorem d_Model_variant_23 : decode b_Model_variant 23 = .ok (.lconst 0, 1) := by decide +kernel
theorem d_Model_variant_24 : decode b_Model_variant 24 = .ok (.ldc2_w 182, 3) := by decide +kernel
theorem d_Model_variant_27 : decode b_Model_variant 27 = .ok (.invokestatic 91, 3) := by decide +kernel
theorem d_Model_variant_30 : decode b_Model_variant 30 = .ok (.ifCond .eq 7, 3) := by decide +kernel
theorem d_Model_variant_33 : decode b_Model_variant 33 = .ok (.iconst 0, 1) := by decide +kernel
theorem d_Model_variant_34 : decode b_Model_variant 34 = .ok (.goto 4, 3) := by decide +kernel
theorem d_Model_variant_37 : decode b_Model_variant 37 = .ok (.iconst 2, 1) := by decide +kernel
theorem d_Model_variant_38 : decode b_Model_variant 38 = .ok (.putfield 76, 3) := by decide +kernel
theorem d_Model_variant_41 : decode b_Model_variant 41 = .ok (.aload_n 0, 1) := by decide +kernel
theorem d_Model_variant_42 : decode b_Model_variant 42 = .ok (.getfield 76, 3) := by decide +kernel
theorem d_Model_variant_45 : decode b_Model_variant 45 = .ok (.ifCond .le 5, 3) := by decide +kernel
theorem d_Model_variant_48 : decode b_Model_variant 48 = .ok (.iconst 0, 1) := by decide +kernel
theorem d_Model_variant_49 : decode b_Model_variant 49 = .ok (.ireturn, 1) := by decide +kernel
theorem d_Model_variant_50 : decode b_Model_variant 50 = .ok (.aload_n 0, 1) := by decide +kernel
theorem d_Model_variant_51 : decode b_Model_variant 51 = .ok (.iload_n 1, 1) := by decide +kernel
theorem d_Model_variant_52 : decode b_Model_variant 52 = .ok (.invokevirtual 179, 3) := by decide +kernel
theorem d_Model_variant_55 : decode b_Model_variant 55 = .ok (.ifCond .eq 10, 3) := by decide +kernel
theorem d_Model_variant_58 : decode b_Model_variant 58 = .ok (.aload_n 0, 1) := by decide +kernel
theorem d_Model_variant_59 : decode b_Model_variant 59 = .ok (.getfield 149, 3) := by decide +kernel
theorem d_Model_variant_62 : decode b_Model_variant 62 = .ok (.goto 4, 3) := by decide +kernel
theorem d_Model_variant_65 : decode b_Model_variant 65 = .ok (.iconst (-1), 1) := by decide +kernel
theorem d_Model_variant_66 : decode b_Model_variant 66 = .ok (.ireturn, 1) := by decide +kernel
theorem d_Model_none_0 : decode b_Model_none 0 = .ok (.aload_n 0, 1) := by decide +kernel
theorem d_Model_none_1 : decode b_Model_none 1 = .ok (.aload_n 0, 1) := by decide +kernel
theorem d_Model_none_2 : decode b_Model_none 2 = .ok (.getfield 79, 3) := by decide +kernel
theorem d_Model_none_5 : decode b_Model_none 5 = .ok (.ifCond .eq 7, 3) := by decide +kernel
theorem d_Model_none_8 : decode b_Model_none 8 = .ok (.iconst 0, 1) := by decide +kernel
theorem d_Model_none_9 : decode b_Model_none 9 = .ok (.goto 4, 3) := by decide +kernel
theorem d_Model_none_12 : decode b_Model_none 12 = .ok (.iconst 1, 1) := by decide +kernel
theorem d_Model_none_13 : decode b_Model_none 13 = .ok (.putfield 76, 3) := by decide +kernel
theorem d_Model_none_16 : decode b_Model_none 16 = .ok (.aload_n 0, 1) := by decide +kernel
theorem d_Model_none_17 : decode b_Model_none 17 = .ok (.getfield 76, 3) := by decide +kernel
theorem d_Model_none_20 : decode b_Model_none 20 = .ok (.ifCond .le 7, 3) := by decide +kernel
theorem d_Model_none_23 : decode b_Model_none 23 = .ok (.iconst 1, 1) := by decide +kernel
theorem d_Model_none_24 : decode b_Model_none 24 = .ok (.goto 4, 3) := by decide +kernel
theorem d_Model_none_27 : decode b_Model_none 27 = .ok (.iconst 0, 1) := by decide +kernel
theorem d_Model_none_28 : decode b_Model_none 28 = .ok (.ireturn, 1) := by decide +kernel
theorem d_Model_at_0 : decode b_Model_at 0 = .ok (.aload_n 0, 1) := by decide +kernel
theorem d_Model_at_1 : decode b_Model_at 1 = .ok (.invokevirtual 184, 3) := by decide +kernel
theorem d_Model_at_4 : decode b_Model_at 4 = .ok (.ifCond .eq 5, 3) := by decide +kernel
theorem d_Model_at_7 : decode b_Model_at 7 = .ok (.iconst 0, 1) := by decide +kernel
theorem d_Model_at_8 : decode b_Model_at 8 = .ok (.ireturn, 1) := by decide +kernel
theorem d_Model_at_9 : decode b_Model_at 9 = .ok (.aload_n 0, 1) := by decide +kernel
theorem d_Model_at_10 : decode b_Model_at 10 = .ok (.aload_n 0, 1) := by decide +kernel
theorem d_Model_at_11 : decode b_Model_at 11 = .ok (.iload_n 1, 1) := by decide +kernel
theorem d_Model_at_12 : decode b_Model_at 12 = .ok (.invokevirtual 100, 3) := by decide +kernel
theorem d_Model_at_15 : decode b_Model_at 15 = .ok (.ifCond .eq 7, 3) := by decide +kernel
theorem d_Model_at_18 : decode b_Model_at 18 = .ok (.iconst 0, 1) := by decide +kernel
theorem d_Model_at_19 : decode b_Model_at 19 = .ok (.goto 4, 3) := by decide +kernel
theorem d_Model_at_22 : decode b_Model_at 22 = .ok (.iconst 2, 1) := by decide +kernel
theorem d_Model_at_23 : decode b_Model_at 23 = .ok (.putfield 76, 3) := by decide +kernel
theorem d_Model_at_26 : decode b_Model_at 26 = .ok (.iconst 0, 1) := by decide +kernel
theorem d_Model_at_27 : decode b_Model_at 27 = .ok (.istore_n 2, 1) := by decide +kernel
theorem d_Model_at_28 : decode b_Model_at 28 = .ok (.iload_n 2, 1) := by decide +kernel
theorem d_Model_at_29 : decode b_Model_at 29 = .ok (.aload_n 0, 1) := by decide +kernel
theorem d_Model_at_30 : decode b_Model_at 30 = .ok (.getfield 149, 3) := by decide +kernel
theorem d_Model_at_33 : decode b_Model_at 33 = .ok (.if_icmp .ge 33, 3) := by decide +kernel
theorem d_Model_at_36 : decode b_Model_at 36 = .ok (.aload_n 0, 1) := by decide +kernel
theorem d_Model_at_37 : decode b_Model_at 37 = .ok (.getfield 76, 3) := by decide +kernel
theorem d_Model_at_40 : decode b_Model_at 40 = .ok (.ifCond .ne 26, 3) := by decide +kernel
theorem d_Model_at_43 : decode b_Model_at 43 = .ok (.aload_n 0, 1) := by decide +kernel
theorem d_Model_at_44 : decode b_Model_at 44 = .ok (.getfield 60, 3) := by decide +kernel
theorem d_Model_at_47 : decode b_Model_at 47 = .ok (.iload_n 2, 1) := by decide +kernel
theorem d_Model_at_48 : decode b_Model_at 48 = .ok (.iaload, 1) := by decide +kernel
theorem d_Model_at_49 : decode b_Model_at 49 = .ok (.iload_n 1, 1) := by decide +kernel
theorem d_Model_at_50 : decode b_Model_at 50 = .ok (.if_icmp .ne 10, 3) := by decide +kernel
theorem d_Model_at_53 : decode b_Model_at 53 = .ok (.aload_n 0, 1) := by decide +kernel
theorem d_Model_at_54 : decode b_Model_at 54 = .ok (.getfield 63, 3) := by decide +kernel
theorem d_Model_at_57 : decode b_Model_at 57 = .ok (.iload_n 2, 1) := by decide +kernel
theorem d_Model_at_58 : decode b_Model_at 58 = .ok (.iaload, 1) := by decide +kernel
theorem d_Model_at_59 : decode b_Model_at 59 = .ok (.ireturn, 1) := by decide +kernel
theorem d_Model_at_60 : decode b_Model_at 60 = .ok (.iinc 2 1, 3) := by decide +kernel
theorem d_Model_at_63 : decode b_Model_at 63 = .ok (.goto (-35), 3) := by decide +kernel
theorem d_Model_at_66 : decode b_Model_at 66 = .ok (.aload_n 0, 1) := by decide +kernel
theorem d_Model_at_67 : decode b_Model_at 67 = .ok (.getfield 76, 3) := by decide +kernel
theorem d_Model_at_70 : decode b_Model_at 70 = .ok (.ifCond .le 7, 3) := by decide +kernel
theorem d_Model_at_73 : decode b_Model_at 73 = .ok (.iconst 0, 1) := by decide +kernel
theorem d_Model_at_74 : decode b_Model_at 74 = .ok (.goto 4, 3) := by decide +kernel
theorem d_Model_at_77 : decode b_Model_at 77 = .ok (.iconst (-1), 1) := by decide +kernel
theorem d_Model_at_78 : decode b_Model_at 78 = .ok (.ireturn, 1) := by decide +kernel
theorem d_Model_plan_0 : decode b_Model_plan 0 = .ok (.aload_n 0, 1) := by decide +kernel
theorem d_Model_plan_1 : decode b_Model_plan 1 = .ok (.invokevirtual 184, 3) := by decide +kernel
theorem d_Model_plan_4 : decode b_Model_plan 4 = .ok (.ifCond .eq 5, 3) := by decide +kernel
theorem d_Model_plan_7 : decode b_Model_plan 7 = .ok (.iconst 0, 1) := by decide +kernel
theorem d_Model_plan_8 : decode b_Model_plan 8 = .ok (.ireturn, 1) := by decide +kernel
theorem d_Model_plan_9 : decode b_Model_plan 9 = .ok (.aload_n 0, 1) := by decide +kernel
theorem d_Model_plan_10 : decode b_Model_plan 10 = .ok (.iload_n 1, 1) := by decide +kernel
theorem d_Model_plan_11 : decode b_Model_plan 11 = .ok (.ifCond .lt 11, 3) := by decide +kernel
theorem d_Model_plan_14 : decode b_Model_plan 14 = .ok (.iload_n 1, 1) := by decide +kernel
theorem d_Model_plan_15 : decode b_Model_plan 15 = .ok (.aload_n 0, 1) := by decide +kernel
theorem d_Model_plan_16 : decode b_Model_plan 16 = .ok (.getfield 149, 3) := by decide +kernel
theorem d_Model_plan_19 : decode b_Model_plan 19 = .ok (.if_icmp .lt 7, 3) := by decide +kernel
theorem d_Model_plan_22 : decode b_Model_plan 22 = .ok (.iconst 2, 1) := by decide +kernel
theorem d_Model_plan_23 : decode b_Model_plan 23 = .ok (.goto 20, 3) := by decide +kernel
theorem d_Model_plan_26 : decode b_Model_plan 26 = .ok (.iload_n 2, 1) := by decide +kernel
theorem d_Model_plan_27 : decode b_Model_plan 27 = .ok (.i2l, 1) := by decide +kernel
theorem d_Model_plan_28 : decode b_Model_plan 28 = .ok (.lconst 0, 1) := by decide +kernel
theorem d_Model_plan_29 : decode b_Model_plan 29 = .ok (.ldc2_w 188, 3) := by decide +kernel
theorem d_Model_plan_32 : decode b_Model_plan 32 = .ok (.invokestatic 91, 3) := by decide +kernel
theorem d_Model_plan_35 : decode b_Model_plan 35 = .ok (.ifCond .eq 7, 3) := by decide +kernel
theorem d_Model_plan_38 : decode b_Model_plan 38 = .ok (.iconst 0, 1) := by decide +kernel
theorem d_Model_plan_39 : decode b_Model_plan 39 = .ok (.goto 4, 3) := by decide +kernel
theorem d_Model_plan_42 : decode b_Model_plan 42 = .ok (.iconst 3, 1) := by decide +kernel
theorem d_Model_plan_43 : decode b_Model_plan 43 = .ok (.putfield 76, 3) := by decide +kernel
theorem d_Model_plan_46 : decode b_Model_plan 46 = .ok (.aload_n 0, 1) := by decide +kernel
theorem d_Model_plan_47 : decode b_Model_plan 47 = .ok (.getfield 76, 3) := by decide +kernel
theorem d_Model_plan_50 : decode b_Model_plan 50 = .ok (.ifCond .le 5, 3) := by decide +kernel
theorem d_Model_plan_53 : decode b_Model_plan 53 = .ok (.iconst 0, 1) := by decide +kernel
theorem d_Model_plan_54 : decode b_Model_plan 54 = .ok (.ireturn, 1) := by decide +kernel
theorem d_Model_plan_55 : decode b_Model_plan 55 = .ok (.iload_n 2, 1) := by decide +kernel
theorem d_Model_plan_56 : decode b_Model_plan 56 = .ok (.ifCond .ne 12, 3) := by decide +kernel
theorem d_Model_plan_59 : decode b_Model_plan 59 = .ok (.aload_n 0, 1) := by decide +kernel
theorem d_Model_plan_60 : decode b_Model_plan 60 = .ok (.getfield 60, 3) := by decide +kernel
theorem d_Model_plan_63 : decode b_Model_plan 63 = .ok (.iload_n 1, 1) := by decide +kernel
theorem d_Model_plan_64 : decode b_Model_plan 64 = .ok (.iaload, 1) := by decide +kernel
theorem d_Model_plan_65 : decode b_Model_plan 65 = .ok (.goto 23, 3) := by decide +kernel
theorem d_Model_plan_68 : decode b_Model_plan 68 = .ok (.iload_n 2, 1) := by decide +kernel
theorem d_Model_plan_69 : decode b_Model_plan 69 = .ok (.iconst 1, 1) := by decide +kernel
theorem d_Model_plan_70 : decode b_Model_plan 70 = .ok (.if_icmp .ne 12, 3) := by decide +kernel
theorem d_Model_plan_73 : decode b_Model_plan 73 = .ok (.aload_n 0, 1) := by decide +kernel
theorem d_Model_plan_74 : decode b_Model_plan 74 = .ok (.getfield 63, 3) := by decide +kernel
theorem d_Model_plan_77 : decode b_Model_plan 77 = .ok (.iload_n 1, 1) := by decide +kernel
theorem d_Model_plan_78 : decode b_Model_plan 78 = .ok (.iaload, 1) := by decide +kernel
theorem d_Model_plan_79 : decode b_Model_plan 79 = .ok (.goto 9, 3) := by decide +kernel
theorem d_Model_plan_82 : decode b_Model_plan 82 = .ok (.aload_n 0, 1) := by decide +kernel
theorem d_Model_plan_83 : decode b_Model_plan 83 = .ok (.getfield 66, 3) := by decide +kernel
theorem d_Model_plan_86 : decode b_Model_plan 86 = .ok (.iload_n 1, 1) := by decide +kernel
theorem d_Model_plan_87 : decode b_Model_plan 87 = .ok (.iaload, 1) := by decide +kernel
theorem d_Model_plan_88 : decode b_Model_plan 88 = .ok (.ireturn, 1) := by decide +kernel
theorem d_Model_worth_0 : decode b_Model_worth 0 = .ok (.aload_n 0, 1) := by decide +kernel
theorem d_Model_worth_1 : decode b_Model_worth 1 = .ok (.invokevirtual 184, 3) := by decide +kernel
theorem d_Model_worth_4 : decode b_Model_worth 4 = .ok (.ifCond .eq 5, 3) := by decide +kernel
theorem d_Model_worth_7 : decode b_Model_worth 7 = .ok (.lconst 0, 1) := by decide +kernel
theorem d_Model_worth_8 : decode b_Model_worth 8 = .ok (.lreturn, 1) := by decide +kernel
theorem d_Model_worth_9 : decode b_Model_worth 9 = .ok (.aload_n 0, 1) := by decide +kernel
theorem d_Model_worth_10 : decode b_Model_worth 10 = .ok (.iload_n 1, 1) := by decide +kernel
theorem d_Model_worth_11 : decode b_Model_worth 11 = .ok (.i2l, 1) := by decide +kernel
theorem d_Model_worth_12 : decode b_Model_worth 12 = .ok (.lconst 0, 1) := by decide +kernel
theorem d_Model_worth_13 : decode b_Model_worth 13 = .ok (.lconst 1, 1) := by decide +kernel
theorem d_Model_worth_14 : decode b_Model_worth 14 = .ok (.invokestatic 91, 3) := by decide +kernel
theorem d_Model_worth_17 : decode b_Model_worth 17 = .ok (.ifCond .eq 7, 3) := by decide +kernel
theorem d_Model_worth_20 : decode b_Model_worth 20 = .ok (.iconst 0, 1) := by decide +kernel
theorem d_Model_worth_21 : decode b_Model_worth 21 = .ok (.goto 4, 3) := by decide +kernel
theorem d_Model_worth_24 : decode b_Model_worth 24 = .ok (.iconst 2, 1) := by decide +kernel
theorem d_Model_worth_25 : decode b_Model_worth 25 = .ok (.putfield 76, 3) := by decide +kernel
theorem d_Model_worth_28 : decode b_Model_worth 28 = .ok (.aload_n 0, 1) := by decide +kernel
theorem d_Model_worth_29 : decode b_Model_worth 29 = .ok (.getfield 76, 3) := by decide +kernel
theorem d_Model_worth_32 : decode b_Model_worth 32 = .ok (.ifCond .le 7, 3) := by decide +kernel
theorem d_Model_worth_35 : decode b_Model_worth 35 = .ok (.lconst 0, 1) := by decide +kernel
theorem d_Model_worth_36 : decode b_Model_worth 36 = .ok (.goto 18, 3) := by decide +kernel
theorem d_Model_worth_39 : decode b_Model_worth 39 = .ok (.iload_n 1, 1) := by decide +kernel
theorem d_Model_worth_40 : decode b_Model_worth 40 = .ok (.ifCond .ne 10, 3) := by decide +kernel
theorem d_Model_worth_43 : decode b_Model_worth 43 = .ok (.aload_n 0, 1) := by decide +kernel
theorem d_Model_worth_44 : decode b_Model_worth 44 = .ok (.getfield 168, 3) := by decide +kernel
theorem d_Model_worth_47 : decode b_Model_worth 47 = .ok (.goto 7, 3) := by decide +kernel
theorem d_Model_worth_50 : decode b_Model_worth 50 = .ok (.aload_n 0, 1) := by decide +kernel
theorem d_Model_worth_51 : decode b_Model_worth 51 = .ok (.getfield 172, 3) := by decide +kernel
theorem d_Model_worth_54 : decode b_Model_worth 54 = .ok (.lreturn, 1) := by decide +kernel
theorem d_Model_beginsTop_0 : decode b_Model_beginsTop 0 = .ok (.iload_n 1, 1) := by decide +kernel
theorem d_Model_beginsTop_1 : decode b_Model_beginsTop 1 = .ok (.ifCond .eq 29, 3) := by decide +kernel
theorem d_Model_beginsTop_4 : decode b_Model_beginsTop 4 = .ok (.aload_n 0, 1) := by decide +kernel
theorem d_Model_beginsTop_5 : decode b_Model_beginsTop 5 = .ok (.getfield 63, 3) := by decide +kernel
theorem d_Model_beginsTop_8 : decode b_Model_beginsTop 8 = .ok (.iload_n 1, 1) := by decide +kernel
theorem d_Model_beginsTop_9 : decode b_Model_beginsTop 9 = .ok (.iconst 1, 1) := by decide +kernel
theorem d_Model_beginsTop_10 : decode b_Model_beginsTop 10 = .ok (.isub, 1) := by decide +kernel
theorem d_Model_beginsTop_11 : decode b_Model_beginsTop 11 = .ok (.iaload, 1) := by decide +kernel
theorem d_Model_beginsTop_12 : decode b_Model_beginsTop 12 = .ok (.aload_n 0, 1) := by decide +kernel
theorem d_Model_beginsTop_13 : decode b_Model_beginsTop 13 = .ok (.getfield 66, 3) := by decide +kernel
theorem d_Model_beginsTop_16 : decode b_Model_beginsTop 16 = .ok (.iload_n 1, 1) := by decide +kernel
theorem d_Model_beginsTop_17 : decode b_Model_beginsTop 17 = .ok (.iconst 1, 1) := by decide +kernel
theorem d_Model_beginsTop_18 : decode b_Model_beginsTop 18 = .ok (.isub, 1) := by decide +kernel
theorem d_Model_beginsTop_19 : decode b_Model_beginsTop 19 = .ok (.iaload, 1) := by decide +kernel
theorem d_Model_beginsTop_20 : decode b_Model_beginsTop 20 = .ok (.iadd, 1) := by decide +kernel
theorem d_Model_beginsTop_21 : decode b_Model_beginsTop 21 = .ok (.aload_n 0, 1) := by decide +kernel
theorem d_Model_beginsTop_22 : decode b_Model_beginsTop 22 = .ok (.getfield 63, 3) := by decide +kernel
theorem d_Model_beginsTop_25 : decode b_Model_beginsTop 25 = .ok (.iload_n 1, 1) := by decide +kernel
theorem d_Model_beginsTop_26 : decode b_Model_beginsTop 26 = .ok (.iaload, 1) := by decide +kernel
theorem d_Model_beginsTop_27 : decode b_Model_beginsTop 27 = .ok (.if_icmp .eq 7, 3) := by decide +kernel
theorem d_Model_beginsTop_30 : decode b_Model_beginsTop 30 = .ok (.iconst 1, 1) := by decide +kernel
theorem d_Model_beginsTop_31 : decode b_Model_beginsTop 31 = .ok (.goto 4, 3) := by decide +kernel
theorem d_Model_beginsTop_34 : decode b_Model_beginsTop 34 = .ok (.iconst 0, 1) := by decide +kernel
theorem d_Model_beginsTop_35 : decode b_Model_beginsTop 35 = .ok (.ireturn, 1) := by decide +kernel
