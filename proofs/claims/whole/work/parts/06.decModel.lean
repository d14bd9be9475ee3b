theorem d_Model_init_0 : decode b_Model_init 0 = .ok (.aload_n 0, 1) := by decide +kernel
theorem d_Model_init_1 : decode b_Model_init 1 = .ok (.invokespecial 1, 3) := by decide +kernel
theorem d_Model_init_4 : decode b_Model_init 4 = .ok (.aload_n 0, 1) := by decide +kernel
theorem d_Model_init_5 : decode b_Model_init 5 = .ok (.bipush 41, 2) := by decide +kernel
theorem d_Model_init_7 : decode b_Model_init 7 = .ok (.newarray .boolean, 2) := by decide +kernel
theorem d_Model_init_9 : decode b_Model_init 9 = .ok (.putfield 7, 3) := by decide +kernel
theorem d_Model_init_12 : decode b_Model_init 12 = .ok (.aload_n 0, 1) := by decide +kernel
theorem d_Model_init_13 : decode b_Model_init 13 = .ok (.bipush 8, 2) := by decide +kernel
theorem d_Model_init_15 : decode b_Model_init 15 = .ok (.newarray .int, 2) := by decide +kernel
theorem d_Model_init_17 : decode b_Model_init 17 = .ok (.putfield 13, 3) := by decide +kernel
theorem d_Model_init_20 : decode b_Model_init 20 = .ok (.aload_n 0, 1) := by decide +kernel
theorem d_Model_init_21 : decode b_Model_init 21 = .ok (.bipush 6, 2) := by decide +kernel
theorem d_Model_init_23 : decode b_Model_init 23 = .ok (.newarray .int, 2) := by decide +kernel
theorem d_Model_init_25 : decode b_Model_init 25 = .ok (.putfield 17, 3) := by decide +kernel
theorem d_Model_init_28 : decode b_Model_init 28 = .ok (.aload_n 0, 1) := by decide +kernel
theorem d_Model_init_29 : decode b_Model_init 29 = .ok (.bipush 6, 2) := by decide +kernel
theorem d_Model_init_31 : decode b_Model_init 31 = .ok (.newarray .long, 2) := by decide +kernel
theorem d_Model_init_33 : decode b_Model_init 33 = .ok (.putfield 20, 3) := by decide +kernel
theorem d_Model_init_36 : decode b_Model_init 36 = .ok (.aload_n 0, 1) := by decide +kernel
theorem d_Model_init_37 : decode b_Model_init 37 = .ok (.bipush 6, 2) := by decide +kernel
theorem d_Model_init_39 : decode b_Model_init 39 = .ok (.newarray .long, 2) := by decide +kernel
theorem d_Model_init_41 : decode b_Model_init 41 = .ok (.putfield 24, 3) := by decide +kernel
theorem d_Model_init_44 : decode b_Model_init 44 = .ok (.aload_n 0, 1) := by decide +kernel
theorem d_Model_init_45 : decode b_Model_init 45 = .ok (.bipush 6, 2) := by decide +kernel
theorem d_Model_init_47 : decode b_Model_init 47 = .ok (.newarray .int, 2) := by decide +kernel
theorem d_Model_init_49 : decode b_Model_init 49 = .ok (.putfield 27, 3) := by decide +kernel
theorem d_Model_init_52 : decode b_Model_init 52 = .ok (.aload_n 0, 1) := by decide +kernel
theorem d_Model_init_53 : decode b_Model_init 53 = .ok (.bipush 6, 2) := by decide +kernel
theorem d_Model_init_55 : decode b_Model_init 55 = .ok (.newarray .boolean, 2) := by decide +kernel
theorem d_Model_init_57 : decode b_Model_init 57 = .ok (.putfield 30, 3) := by decide +kernel
theorem d_Model_init_60 : decode b_Model_init 60 = .ok (.aload_n 0, 1) := by decide +kernel
theorem d_Model_init_61 : decode b_Model_init 61 = .ok (.bipush 36, 2) := by decide +kernel
theorem d_Model_init_63 : decode b_Model_init 63 = .ok (.newarray .long, 2) := by decide +kernel
theorem d_Model_init_65 : decode b_Model_init 65 = .ok (.putfield 33, 3) := by decide +kernel
theorem d_Model_init_68 : decode b_Model_init 68 = .ok (.aload_n 0, 1) := by decide +kernel
theorem d_Model_init_69 : decode b_Model_init 69 = .ok (.bipush 36, 2) := by decide +kernel
theorem d_Model_init_71 : decode b_Model_init 71 = .ok (.newarray .boolean, 2) := by decide +kernel
theorem d_Model_init_73 : decode b_Model_init 73 = .ok (.putfield 36, 3) := by decide +kernel
theorem d_Model_init_76 : decode b_Model_init 76 = .ok (.aload_n 0, 1) := by decide +kernel
theorem d_Model_init_77 : decode b_Model_init 77 = .ok (.bipush 6, 2) := by decide +kernel
theorem d_Model_init_79 : decode b_Model_init 79 = .ok (.newarray .int, 2) := by decide +kernel
theorem d_Model_init_81 : decode b_Model_init 81 = .ok (.putfield 39, 3) := by decide +kernel
theorem d_Model_init_84 : decode b_Model_init 84 = .ok (.aload_n 0, 1) := by decide +kernel
theorem d_Model_init_85 : decode b_Model_init 85 = .ok (.sipush 20992, 3) := by decide +kernel
theorem d_Model_init_88 : decode b_Model_init 88 = .ok (.newarray .long, 2) := by decide +kernel
theorem d_Model_init_90 : decode b_Model_init 90 = .ok (.putfield 42, 3) := by decide +kernel
theorem d_Model_init_93 : decode b_Model_init 93 = .ok (.aload_n 0, 1) := by decide +kernel
theorem d_Model_init_94 : decode b_Model_init 94 = .ok (.sipush 20992, 3) := by decide +kernel
theorem d_Model_init_97 : decode b_Model_init 97 = .ok (.newarray .long, 2) := by decide +kernel
theorem d_Model_init_99 : decode b_Model_init 99 = .ok (.putfield 45, 3) := by decide +kernel
theorem d_Model_init_102 : decode b_Model_init 102 = .ok (.aload_n 0, 1) := by decide +kernel
theorem d_Model_init_103 : decode b_Model_init 103 = .ok (.bipush 64, 2) := by decide +kernel
theorem d_Model_init_105 : decode b_Model_init 105 = .ok (.newarray .boolean, 2) := by decide +kernel
theorem d_Model_init_107 : decode b_Model_init 107 = .ok (.putfield 48, 3) := by decide +kernel
theorem d_Model_init_110 : decode b_Model_init 110 = .ok (.aload_n 0, 1) := by decide +kernel
theorem d_Model_init_111 : decode b_Model_init 111 = .ok (.bipush 42, 2) := by decide +kernel
theorem d_Model_init_113 : decode b_Model_init 113 = .ok (.newarray .int, 2) := by decide +kernel
theorem d_Model_init_115 : decode b_Model_init 115 = .ok (.putfield 51, 3) := by decide +kernel
theorem d_Model_init_118 : decode b_Model_init 118 = .ok (.aload_n 0, 1) := by decide +kernel
theorem d_Model_init_119 : decode b_Model_init 119 = .ok (.sipush 246, 3) := by decide +kernel
theorem d_Model_init_122 : decode b_Model_init 122 = .ok (.newarray .boolean, 2) := by decide +kernel
theorem d_Model_init_124 : decode b_Model_init 124 = .ok (.putfield 54, 3) := by decide +kernel
theorem d_Model_init_127 : decode b_Model_init 127 = .ok (.aload_n 0, 1) := by decide +kernel
theorem d_Model_init_128 : decode b_Model_init 128 = .ok (.bipush 16, 2) := by decide +kernel
theorem d_Model_init_130 : decode b_Model_init 130 = .ok (.newarray .int, 2) := by decide +kernel
theorem d_Model_init_132 : decode b_Model_init 132 = .ok (.putfield 57, 3) := by decide +kernel
theorem d_Model_init_135 : decode b_Model_init 135 = .ok (.aload_n 0, 1) := by decide +kernel
theorem d_Model_init_136 : decode b_Model_init 136 = .ok (.bipush 41, 2) := by decide +kernel
theorem d_Model_init_138 : decode b_Model_init 138 = .ok (.newarray .int, 2) := by decide +kernel
theorem d_Model_init_140 : decode b_Model_init 140 = .ok (.putfield 60, 3) := by decide +kernel
theorem d_Model_init_143 : decode b_Model_init 143 = .ok (.aload_n 0, 1) := by decide +kernel
theorem d_Model_init_144 : decode b_Model_init 144 = .ok (.bipush 41, 2) := by decide +kernel
theorem d_Model_init_146 : decode b_Model_init 146 = .ok (.newarray .int, 2) := by decide +kernel
theorem d_Model_init_148 : decode b_Model_init 148 = .ok (.putfield 63, 3) := by decide +kernel
theorem d_Model_init_151 : decode b_Model_init 151 = .ok (.aload_n 0, 1) := by decide +kernel
theorem d_Model_init_152 : decode b_Model_init 152 = .ok (.bipush 41, 2) := by decide +kernel
theorem d_Model_init_154 : decode b_Model_init 154 = .ok (.newarray .int, 2) := by decide +kernel
theorem d_Model_init_156 : decode b_Model_init 156 = .ok (.putfield 66, 3) := by decide +kernel
theorem d_Model_init_159 : decode b_Model_init 159 = .ok (.aload_n 0, 1) := by decide +kernel
theorem d_Model_init_160 : decode b_Model_init 160 = .ok (.iload_n 1, 1) := by decide +kernel
theorem d_Model_init_161 : decode b_Model_init 161 = .ok (.iconst 1, 1) := by decide +kernel
theorem d_Model_init_162 : decode b_Model_init 162 = .ok (.if_icmp .ge 7, 3) := by decide +kernel
theorem d_Model_init_165 : decode b_Model_init 165 = .ok (.iconst 1, 1) := by decide +kernel
theorem d_Model_init_166 : decode b_Model_init 166 = .ok (.goto 15, 3) := by decide +kernel
theorem d_Model_init_169 : decode b_Model_init 169 = .ok (.iload_n 1, 1) := by decide +kernel
theorem d_Model_init_170 : decode b_Model_init 170 = .ok (.bipush 40, 2) := by decide +kernel
theorem d_Model_init_172 : decode b_Model_init 172 = .ok (.if_icmp .le 8, 3) := by decide +kernel
theorem d_Model_init_175 : decode b_Model_init 175 = .ok (.bipush 40, 2) := by decide +kernel
theorem d_Model_init_177 : decode b_Model_init 177 = .ok (.goto 4, 3) := by decide +kernel
theorem d_Model_init_180 : decode b_Model_init 180 = .ok (.iload_n 1, 1) := by decide +kernel
theorem d_Model_init_181 : decode b_Model_init 181 = .ok (.putfield 69, 3) := by decide +kernel
theorem d_Model_init_184 : decode b_Model_init 184 = .ok (.iconst 0, 1) := by decide +kernel
theorem d_Model_init_185 : decode b_Model_init 185 = .ok (.istore_n 2, 1) := by decide +kernel
theorem d_Model_init_186 : decode b_Model_init 186 = .ok (.iload_n 2, 1) := by decide +kernel
theorem d_Model_init_187 : decode b_Model_init 187 = .ok (.bipush 6, 2) := by decide +kernel
theorem d_Model_init_189 : decode b_Model_init 189 = .ok (.if_icmp .ge 24, 3) := by decide +kernel
theorem d_Model_init_192 : decode b_Model_init 192 = .ok (.aload_n 0, 1) := by decide +kernel
theorem d_Model_init_193 : decode b_Model_init 193 = .ok (.getfield 27, 3) := by decide +kernel
theorem d_Model_init_196 : decode b_Model_init 196 = .ok (.iload_n 2, 1) := by decide +kernel
theorem d_Model_init_197 : decode b_Model_init 197 = .ok (.iconst (-1), 1) := by decide +kernel
theorem d_Model_init_198 : decode b_Model_init 198 = .ok (.iastore, 1) := by decide +kernel
theorem d_Model_init_199 : decode b_Model_init 199 = .ok (.aload_n 0, 1) := by decide +kernel
theorem d_Model_init_200 : decode b_Model_init 200 = .ok (.getfield 39, 3) := by decide +kernel
theorem d_Model_init_203 : decode b_Model_init 203 = .ok (.iload_n 2, 1) := by decide +kernel
theorem d_Model_init_204 : decode b_Model_init 204 = .ok (.bipush (-101), 2) := by decide +kernel
theorem d_Model_init_206 : decode b_Model_init 206 = .ok (.iastore, 1) := by decide +kernel
theorem d_Model_init_207 : decode b_Model_init 207 = .ok (.iinc 2 1, 3) := by decide +kernel
theorem d_Model_init_210 : decode b_Model_init 210 = .ok (.goto (-24), 3) := by decide +kernel
theorem d_Model_init_213 : decode b_Model_init 213 = .ok (.aload_n 0, 1) := by decide +kernel
theorem d_Model_init_214 : decode b_Model_init 214 = .ok (.iconst 1, 1) := by decide +kernel
theorem d_Model_init_215 : decode b_Model_init 215 = .ok (.putfield 73, 3) := by decide +kernel
theorem d_Model_init_218 : decode b_Model_init 218 = .ok (.return_, 1) := by decide +kernel
theorem d_Model_thrown_0 : decode b_Model_thrown 0 = .ok (.aload_n 0, 1) := by decide +kernel
theorem d_Model_thrown_1 : decode b_Model_thrown 1 = .ok (.getfield 76, 3) := by decide +kernel
theorem d_Model_thrown_4 : decode b_Model_thrown 4 = .ok (.ireturn, 1) := by decide +kernel
theorem d_Model_isIn_0 : decode b_Model_isIn 0 = .ok (.lload_n 0, 1) := by decide +kernel
theorem d_Model_isIn_1 : decode b_Model_isIn 1 = .ok (.lload_n 2, 1) := by decide +kernel
theorem d_Model_isIn_2 : decode b_Model_isIn 2 = .ok (.lcmp, 1) := by decide +kernel
theorem d_Model_isIn_3 : decode b_Model_isIn 3 = .ok (.ifCond .lt 14, 3) := by decide +kernel
theorem d_Model_isIn_6 : decode b_Model_isIn 6 = .ok (.lload_n 0, 1) := by decide +kernel
theorem d_Model_isIn_7 : decode b_Model_isIn 7 = .ok (.lload 4, 2) := by decide +kernel
theorem d_Model_isIn_9 : decode b_Model_isIn 9 = .ok (.lcmp, 1) := by decide +kernel
theorem d_Model_isIn_10 : decode b_Model_isIn 10 = .ok (.ifCond .gt 7, 3) := by decide +kernel
theorem d_Model_isIn_13 : decode b_Model_isIn 13 = .ok (.iconst 1, 1) := by decide +kernel
theorem d_Model_isIn_14 : decode b_Model_isIn 14 = .ok (.goto 4, 3) := by decide +kernel
theorem d_Model_isIn_17 : decode b_Model_isIn 17 = .ok (.iconst 0, 1) := by decide +kernel
theorem d_Model_isIn_18 : decode b_Model_isIn 18 = .ok (.ireturn, 1) := by decide +kernel
theorem d_Model_change_0 : decode b_Model_change 0 = .ok (.aload_n 0, 1) := by decide +kernel
theorem d_Model_change_1 : decode b_Model_change 1 = .ok (.iconst 0, 1) := by decide +kernel
theorem d_Model_change_2 : decode b_Model_change 2 = .ok (.putfield 79, 3) := by decide +kernel
theorem d_Model_change_5 : decode b_Model_change 5 = .ok (.return_, 1) := by decide +kernel
theorem d_Model_door_0 : decode b_Model_door 0 = .ok (.aload_n 0, 1) := by decide +kernel
theorem d_Model_door_1 : decode b_Model_door 1 = .ok (.iload_n 1, 1) := by decide +kernel
theorem d_Model_door_2 : decode b_Model_door 2 = .ok (.ifCond .lt 24, 3) := by decide +kernel
theorem d_Model_door_5 : decode b_Model_door 5 = .ok (.iload_n 1, 1) := by decide +kernel
theorem d_Model_door_6 : decode b_Model_door 6 = .ok (.aload_n 0, 1) := by decide +kernel
theorem d_Model_door_7 : decode b_Model_door 7 = .ok (.getfield 69, 3) := by decide +kernel
theorem d_Model_door_10 : decode b_Model_door 10 = .ok (.if_icmp .ge 16, 3) := by decide +kernel
theorem d_Model_door_13 : decode b_Model_door 13 = .ok (.iload_n 2, 1) := by decide +kernel
theorem d_Model_door_14 : decode b_Model_door 14 = .ok (.iload_n 1, 1) := by decide +kernel
theorem d_Model_door_15 : decode b_Model_door 15 = .ok (.if_icmp .le 11, 3) := by decide +kernel
theorem d_Model_door_18 : decode b_Model_door 18 = .ok (.iload_n 2, 1) := by decide +kernel
theorem d_Model_door_19 : decode b_Model_door 19 = .ok (.aload_n 0, 1) := by decide +kernel
theorem d_Model_door_20 : decode b_Model_door 20 = .ok (.getfield 69, 3) := by decide +kernel
theorem d_Model_door_23 : decode b_Model_door 23 = .ok (.if_icmp .le 7, 3) := by decide +kernel
theorem d_Model_door_26 : decode b_Model_door 26 = .ok (.iconst 1, 1) := by decide +kernel
theorem d_Model_door_27 : decode b_Model_door 27 = .ok (.goto 4, 3) := by decide +kernel
theorem d_Model_door_30 : decode b_Model_door 30 = .ok (.iconst 0, 1) := by decide +kernel
theorem d_Model_door_31 : decode b_Model_door 31 = .ok (.putfield 76, 3) := by decide +kernel
theorem d_Model_door_34 : decode b_Model_door 34 = .ok (.iconst 0, 1) := by decide +kernel
theorem d_Model_door_35 : decode b_Model_door 35 = .ok (.istore_n 3, 1) := by decide +kernel
theorem d_Model_door_36 : decode b_Model_door 36 = .ok (.iload_n 1, 1) := by decide +kernel
theorem d_Model_door_37 : decode b_Model_door 37 = .ok (.istore 4, 2) := by decide +kernel
theorem d_Model_door_39 : decode b_Model_door 39 = .ok (.iload 4, 2) := by decide +kernel
theorem d_Model_door_41 : decode b_Model_door 41 = .ok (.iload_n 2, 1) := by decide +kernel
theorem d_Model_door_42 : decode b_Model_door 42 = .ok (.if_icmp .ge 44, 3) := by decide +kernel
theorem d_Model_door_45 : decode b_Model_door 45 = .ok (.aload_n 0, 1) := by decide +kernel
theorem d_Model_door_46 : decode b_Model_door 46 = .ok (.getfield 76, 3) := by decide +kernel
theorem d_Model_door_49 : decode b_Model_door 49 = .ok (.ifCond .ne 37, 3) := by decide +kernel
theorem d_Model_door_52 : decode b_Model_door 52 = .ok (.iload_n 3, 1) := by decide +kernel
theorem d_Model_door_53 : decode b_Model_door 53 = .ok (.ifCond .ne 13, 3) := by decide +kernel
theorem d_Model_door_56 : decode b_Model_door 56 = .ok (.aload_n 0, 1) := by decide +kernel
theorem d_Model_door_57 : decode b_Model_door 57 = .ok (.getfield 7, 3) := by decide +kernel
theorem d_Model_door_60 : decode b_Model_door 60 = .ok (.iload 4, 2) := by decide +kernel
theorem d_Model_door_62 : decode b_Model_door 62 = .ok (.baload, 1) := by decide +kernel
theorem d_Model_door_63 : decode b_Model_door 63 = .ok (.ifCond .ne 7, 3) := by decide +kernel
theorem d_Model_door_66 : decode b_Model_door 66 = .ok (.iconst 1, 1) := by decide +kernel
theorem d_Model_door_67 : decode b_Model_door 67 = .ok (.goto 4, 3) := by decide +kernel
theorem d_Model_door_70 : decode b_Model_door 70 = .ok (.iconst 0, 1) := by decide +kernel
theorem d_Model_door_71 : decode b_Model_door 71 = .ok (.istore_n 3, 1) := by decide +kernel
theorem d_Model_door_72 : decode b_Model_door 72 = .ok (.aload_n 0, 1) := by decide +kernel
theorem d_Model_door_73 : decode b_Model_door 73 = .ok (.getfield 7, 3) := by decide +kernel
theorem d_Model_door_76 : decode b_Model_door 76 = .ok (.iload 4, 2) := by decide +kernel
theorem d_Model_door_78 : decode b_Model_door 78 = .ok (.iconst 1, 1) := by decide +kernel
theorem d_Model_door_79 : decode b_Model_door 79 = .ok (.bastore, 1) := by decide +kernel
theorem d_Model_door_80 : decode b_Model_door 80 = .ok (.iinc 4 1, 3) := by decide +kernel
theorem d_Model_door_83 : decode b_Model_door 83 = .ok (.goto (-44), 3) := by decide +kernel
theorem d_Model_door_86 : decode b_Model_door 86 = .ok (.iload_n 3, 1) := by decide +kernel
theorem d_Model_door_87 : decode b_Model_door 87 = .ok (.ifCond .eq 7, 3) := by decide +kernel
theorem d_Model_door_90 : decode b_Model_door 90 = .ok (.aload_n 0, 1) := by decide +kernel
theorem d_Model_door_91 : decode b_Model_door 91 = .ok (.invokevirtual 83, 3) := by decide +kernel
theorem d_Model_door_94 : decode b_Model_door 94 = .ok (.iload_n 3, 1) := by decide +kernel
theorem d_Model_door_95 : decode b_Model_door 95 = .ok (.ireturn, 1) := by decide +kernel
theorem d_Model_pipe_0 : decode b_Model_pipe 0 = .ok (.aload_n 0, 1) := by decide +kernel
theorem d_Model_pipe_1 : decode b_Model_pipe 1 = .ok (.iload_n 1, 1) := by decide +kernel
theorem d_Model_pipe_2 : decode b_Model_pipe 2 = .ok (.ifCond .lt 11, 3) := by decide +kernel
theorem d_Model_pipe_5 : decode b_Model_pipe 5 = .ok (.iload_n 1, 1) := by decide +kernel
theorem d_Model_pipe_6 : decode b_Model_pipe 6 = .ok (.aload_n 0, 1) := by decide +kernel
theorem d_Model_pipe_7 : decode b_Model_pipe 7 = .ok (.getfield 69, 3) := by decide +kernel
theorem d_Model_pipe_10 : decode b_Model_pipe 10 = .ok (.if_icmp .lt 7, 3) := by decide +kernel
theorem d_Model_pipe_13 : decode b_Model_pipe 13 = .ok (.iconst 1, 1) := by decide +kernel
theorem d_Model_pipe_14 : decode b_Model_pipe 14 = .ok (.goto 4, 3) := by decide +kernel
theorem d_Model_pipe_17 : decode b_Model_pipe 17 = .ok (.iconst 0, 1) := by decide +kernel
theorem d_Model_pipe_18 : decode b_Model_pipe 18 = .ok (.putfield 76, 3) := by decide +kernel
theorem d_Model_pipe_21 : decode b_Model_pipe 21 = .ok (.aload_n 0, 1) := by decide +kernel
theorem d_Model_pipe_22 : decode b_Model_pipe 22 = .ok (.getfield 76, 3) := by decide +kernel
theorem d_Model_pipe_25 : decode b_Model_pipe 25 = .ok (.ifCond .gt 12, 3) := by decide +kernel
theorem d_Model_pipe_28 : decode b_Model_pipe 28 = .ok (.aload_n 0, 1) := by decide +kernel
theorem d_Model_pipe_29 : decode b_Model_pipe 29 = .ok (.getfield 86, 3) := by decide +kernel
theorem d_Model_pipe_32 : decode b_Model_pipe 32 = .ok (.bipush 8, 2) := by decide +kernel
theorem d_Model_pipe_34 : decode b_Model_pipe 34 = .ok (.if_icmp .ne 7, 3) := by decide +kernel
theorem d_Model_pipe_37 : decode b_Model_pipe 37 = .ok (.iconst 1, 1) := by decide +kernel
theorem d_Model_pipe_38 : decode b_Model_pipe 38 = .ok (.goto 4, 3) := by decide +kernel
theorem d_Model_pipe_41 : decode b_Model_pipe 41 = .ok (.iconst 0, 1) := by decide +kernel
theorem d_Model_pipe_42 : decode b_Model_pipe 42 = .ok (.istore_n 2, 1) := by decide +kernel
theorem d_Model_pipe_43 : decode b_Model_pipe 43 = .ok (.iconst 0, 1) := by decide +kernel
theorem d_Model_pipe_44 : decode b_Model_pipe 44 = .ok (.istore_n 3, 1) := by decide +kernel
theorem d_Model_pipe_45 : decode b_Model_pipe 45 = .ok (.iload_n 3, 1) := by decide +kernel
theorem d_Model_pipe_46 : decode b_Model_pipe 46 = .ok (.aload_n 0, 1) := by decide +kernel
theorem d_Model_pipe_47 : decode b_Model_pipe 47 = .ok (.getfield 86, 3) := by decide +kernel
theorem d_Model_pipe_50 : decode b_Model_pipe 50 = .ok (.if_icmp .ge 29, 3) := by decide +kernel
theorem d_Model_pipe_53 : decode b_Model_pipe 53 = .ok (.iload_n 2, 1) := by decide +kernel
theorem d_Model_pipe_54 : decode b_Model_pipe 54 = .ok (.ifCond .ne 13, 3) := by decide +kernel
theorem d_Model_pipe_57 : decode b_Model_pipe 57 = .ok (.aload_n 0, 1) := by decide +kernel
theorem d_Model_pipe_58 : decode b_Model_pipe 58 = .ok (.getfield 13, 3) := by decide +kernel
theorem d_Model_pipe_61 : decode b_Model_pipe 61 = .ok (.iload_n 3, 1) := by decide +kernel
theorem d_Model_pipe_62 : decode b_Model_pipe 62 = .ok (.iaload, 1) := by decide +kernel
theorem d_Model_pipe_63 : decode b_Model_pipe 63 = .ok (.iload_n 1, 1) := by decide +kernel
theorem d_Model_pipe_64 : decode b_Model_pipe 64 = .ok (.if_icmp .ne 7, 3) := by decide +kernel
theorem d_Model_pipe_67 : decode b_Model_pipe 67 = .ok (.iconst 1, 1) := by decide +kernel
theorem d_Model_pipe_68 : decode b_Model_pipe 68 = .ok (.goto 4, 3) := by decide +kernel
theorem d_Model_pipe_71 : decode b_Model_pipe 71 = .ok (.iconst 0, 1) := by decide +kernel
theorem d_Model_pipe_72 : decode b_Model_pipe 72 = .ok (.istore_n 2, 1) := by decide +kernel
theorem d_Model_pipe_73 : decode b_Model_pipe 73 = .ok (.iinc 3 1, 3) := by decide +kernel
theorem d_Model_pipe_76 : decode b_Model_pipe 76 = .ok (.goto (-31), 3) := by decide +kernel
theorem d_Model_pipe_79 : decode b_Model_pipe 79 = .ok (.iload_n 2, 1) := by decide +kernel
theorem d_Model_pipe_80 : decode b_Model_pipe 80 = .ok (.ifCond .eq 5, 3) := by decide +kernel
theorem d_Model_pipe_83 : decode b_Model_pipe 83 = .ok (.iconst 0, 1) := by decide +kernel
theorem d_Model_pipe_84 : decode b_Model_pipe 84 = .ok (.ireturn, 1) := by decide +kernel
theorem d_Model_pipe_85 : decode b_Model_pipe 85 = .ok (.aload_n 0, 1) := by decide +kernel
theorem d_Model_pipe_86 : decode b_Model_pipe 86 = .ok (.getfield 13, 3) := by decide +kernel
theorem d_Model_pipe_89 : decode b_Model_pipe 89 = .ok (.aload_n 0, 1) := by decide +kernel
theorem d_Model_pipe_90 : decode b_Model_pipe 90 = .ok (.getfield 86, 3) := by decide +kernel
theorem d_Model_pipe_93 : decode b_Model_pipe 93 = .ok (.iload_n 1, 1) := by decide +kernel
theorem d_Model_pipe_94 : decode b_Model_pipe 94 = .ok (.iastore, 1) := by decide +kernel
theorem d_Model_pipe_95 : decode b_Model_pipe 95 = .ok (.aload_n 0, 1) := by decide +kernel
theorem d_Model_pipe_96 : decode b_Model_pipe 96 = .ok (.dup, 1) := by decide +kernel
theorem d_Model_pipe_97 : decode b_Model_pipe 97 = .ok (.getfield 86, 3) := by decide +kernel
theorem d_Model_pipe_100 : decode b_Model_pipe 100 = .ok (.iconst 1, 1) := by decide +kernel
theorem d_Model_pipe_101 : decode b_Model_pipe 101 = .ok (.iadd, 1) := by decide +kernel
theorem d_Model_pipe_102 : decode b_Model_pipe 102 = .ok (.putfield 86, 3) := by decide +kernel
theorem d_Model_pipe_105 : decode b_Model_pipe 105 = .ok (.aload_n 0, 1) := by decide +kernel
theorem d_Model_pipe_106 : decode b_Model_pipe 106 = .ok (.invokevirtual 83, 3) := by decide +kernel
theorem d_Model_pipe_109 : decode b_Model_pipe 109 = .ok (.iconst 1, 1) := by decide +kernel
theorem d_Model_pipe_110 : decode b_Model_pipe 110 = .ok (.ireturn, 1) := by decide +kernel
theorem d_Model_item_0 : decode b_Model_item 0 = .ok (.iload_n 1, 1) := by decide +kernel
theorem d_Model_item_1 : decode b_Model_item 1 = .ok (.i2l, 1) := by decide +kernel
theorem d_Model_item_2 : decode b_Model_item 2 = .ok (.lconst 1, 1) := by decide +kernel
theorem d_Model_item_3 : decode b_Model_item 3 = .ok (.ldc2_w 89, 3) := by decide +kernel
theorem d_Model_item_6 : decode b_Model_item 6 = .ok (.invokestatic 91, 3) := by decide +kernel
theorem d_Model_item_9 : decode b_Model_item 9 = .ok (.ifCond .eq 30, 3) := by decide +kernel
theorem d_Model_item_12 : decode b_Model_item 12 = .ok (.lload_n 2, 1) := by decide +kernel
theorem d_Model_item_13 : decode b_Model_item 13 = .ok (.lconst 0, 1) := by decide +kernel
theorem d_Model_item_14 : decode b_Model_item 14 = .ok (.ldc2_w 95, 3) := by decide +kernel
theorem d_Model_item_17 : decode b_Model_item 17 = .ok (.invokestatic 91, 3) := by decide +kernel
theorem d_Model_item_20 : decode b_Model_item 20 = .ok (.ifCond .eq 19, 3) := by decide +kernel
theorem d_Model_item_23 : decode b_Model_item 23 = .ok (.lload 4, 2) := by decide +kernel
theorem d_Model_item_25 : decode b_Model_item 25 = .ok (.lconst 0, 1) := by decide +kernel
theorem d_Model_item_26 : decode b_Model_item 26 = .ok (.ldc2_w 95, 3) := by decide +kernel
theorem d_Model_item_29 : decode b_Model_item 29 = .ok (.invokestatic 91, 3) := by decide +kernel
theorem d_Model_item_32 : decode b_Model_item 32 = .ok (.ifCond .eq 7, 3) := by decide +kernel
theorem d_Model_item_35 : decode b_Model_item 35 = .ok (.iconst 1, 1) := by decide +kernel
theorem d_Model_item_36 : decode b_Model_item 36 = .ok (.goto 4, 3) := by decide +kernel
theorem d_Model_item_39 : decode b_Model_item 39 = .ok (.iconst 0, 1) := by decide +kernel
theorem d_Model_item_40 : decode b_Model_item 40 = .ok (.istore 6, 2) := by decide +kernel
theorem d_Model_item_42 : decode b_Model_item 42 = .ok (.aload_n 0, 1) := by decide +kernel
theorem d_Model_item_43 : decode b_Model_item 43 = .ok (.aload_n 0, 1) := by decide +kernel
theorem d_Model_item_44 : decode b_Model_item 44 = .ok (.getfield 97, 3) := by decide +kernel
theorem d_Model_item_47 : decode b_Model_item 47 = .ok (.bipush 6, 2) := by decide +kernel
theorem d_Model_item_49 : decode b_Model_item 49 = .ok (.if_icmp .ne 7, 3) := by decide +kernel
theorem d_Model_item_52 : decode b_Model_item 52 = .ok (.iconst 1, 1) := by decide +kernel
theorem d_Model_item_53 : decode b_Model_item 53 = .ok (.goto 13, 3) := by decide +kernel
theorem d_Model_item_56 : decode b_Model_item 56 = .ok (.iload 6, 2) := by decide +kernel
theorem d_Model_item_58 : decode b_Model_item 58 = .ok (.ifCond .eq 7, 3) := by decide +kernel
theorem d_Model_item_61 : decode b_Model_item 61 = .ok (.iconst 0, 1) := by decide +kernel
theorem d_Model_item_62 : decode b_Model_item 62 = .ok (.goto 4, 3) := by decide +kernel
theorem d_Model_item_65 : decode b_Model_item 65 = .ok (.iconst 2, 1) := by decide +kernel
theorem d_Model_item_66 : decode b_Model_item 66 = .ok (.putfield 76, 3) := by decide +kernel
theorem d_Model_item_69 : decode b_Model_item 69 = .ok (.aload_n 0, 1) := by decide +kernel
theorem d_Model_item_70 : decode b_Model_item 70 = .ok (.getfield 76, 3) := by decide +kernel
theorem d_Model_item_73 : decode b_Model_item 73 = .ok (.ifCond .le 5, 3) := by decide +kernel
theorem d_Model_item_76 : decode b_Model_item 76 = .ok (.iconst 0, 1) := by decide +kernel
theorem d_Model_item_77 : decode b_Model_item 77 = .ok (.ireturn, 1) := by decide +kernel
theorem d_Model_item_78 : decode b_Model_item 78 = .ok (.aload_n 0, 1) := by decide +kernel
theorem d_Model_item_79 : decode b_Model_item 79 = .ok (.getfield 17, 3) := by decide +kernel
theorem d_Model_item_82 : decode b_Model_item 82 = .ok (.aload_n 0, 1) := by decide +kernel
theorem d_Model_item_83 : decode b_Model_item 83 = .ok (.getfield 97, 3) := by decide +kernel
theorem d_Model_item_86 : decode b_Model_item 86 = .ok (.iload_n 1, 1) := by decide +kernel
theorem d_Model_item_87 : decode b_Model_item 87 = .ok (.iastore, 1) := by decide +kernel
theorem d_Model_item_88 : decode b_Model_item 88 = .ok (.aload_n 0, 1) := by decide +kernel
theorem d_Model_item_89 : decode b_Model_item 89 = .ok (.getfield 20, 3) := by decide +kernel
theorem d_Model_item_92 : decode b_Model_item 92 = .ok (.aload_n 0, 1) := by decide +kernel
theorem d_Model_item_93 : decode b_Model_item 93 = .ok (.getfield 97, 3) := by decide +kernel
theorem d_Model_item_96 : decode b_Model_item 96 = .ok (.lload_n 2, 1) := by decide +kernel
theorem d_Model_item_97 : decode b_Model_item 97 = .ok (.lastore, 1) := by decide +kernel
theorem d_Model_item_98 : decode b_Model_item 98 = .ok (.aload_n 0, 1) := by decide +kernel
theorem d_Model_item_99 : decode b_Model_item 99 = .ok (.getfield 24, 3) := by decide +kernel
theorem d_Model_item_102 : decode b_Model_item 102 = .ok (.aload_n 0, 1) := by decide +kernel
theorem d_Model_item_103 : decode b_Model_item 103 = .ok (.getfield 97, 3) := by decide +kernel
theorem d_Model_item_106 : decode b_Model_item 106 = .ok (.lload 4, 2) := by decide +kernel
theorem d_Model_item_108 : decode b_Model_item 108 = .ok (.lastore, 1) := by decide +kernel
theorem d_Model_item_109 : decode b_Model_item 109 = .ok (.aload_n 0, 1) := by decide +kernel
theorem d_Model_item_110 : decode b_Model_item 110 = .ok (.dup, 1) := by decide +kernel
theorem d_Model_item_111 : decode b_Model_item 111 = .ok (.getfield 97, 3) := by decide +kernel
theorem d_Model_item_114 : decode b_Model_item 114 = .ok (.iconst 1, 1) := by decide +kernel
theorem d_Model_item_115 : decode b_Model_item 115 = .ok (.iadd, 1) := by decide +kernel
theorem d_Model_item_116 : decode b_Model_item 116 = .ok (.putfield 97, 3) := by decide +kernel
theorem d_Model_item_119 : decode b_Model_item 119 = .ok (.aload_n 0, 1) := by decide +kernel
theorem d_Model_item_120 : decode b_Model_item 120 = .ok (.invokevirtual 83, 3) := by decide +kernel
theorem d_Model_item_123 : decode b_Model_item 123 = .ok (.aload_n 0, 1) := by decide +kernel
theorem d_Model_item_124 : decode b_Model_item 124 = .ok (.getfield 97, 3) := by decide +kernel
theorem d_Model_item_127 : decode b_Model_item 127 = .ok (.iconst 1, 1) := by decide +kernel
theorem d_Model_item_128 : decode b_Model_item 128 = .ok (.isub, 1) := by decide +kernel
theorem d_Model_item_129 : decode b_Model_item 129 = .ok (.ireturn, 1) := by decide +kernel
theorem d_Model_isItem_0 : decode b_Model_isItem 0 = .ok (.iload_n 1, 1) := by decide +kernel
theorem d_Model_isItem_1 : decode b_Model_isItem 1 = .ok (.ifCond .lt 15, 3) := by decide +kernel
theorem d_Model_isItem_4 : decode b_Model_isItem 4 = .ok (.iload_n 1, 1) := by decide +kernel
theorem d_Model_isItem_5 : decode b_Model_isItem 5 = .ok (.aload_n 0, 1) := by decide +kernel
theorem d_Model_isItem_6 : decode b_Model_isItem 6 = .ok (.getfield 97, 3) := by decide +kernel
theorem d_Model_isItem_9 : decode b_Model_isItem 9 = .ok (.if_icmp .ge 7, 3) := by decide +kernel
theorem d_Model_isItem_12 : decode b_Model_isItem 12 = .ok (.iconst 1, 1) := by decide +kernel
theorem d_Model_isItem_13 : decode b_Model_isItem 13 = .ok (.goto 4, 3) := by decide +kernel
theorem d_Model_isItem_16 : decode b_Model_isItem 16 = .ok (.iconst 0, 1) := by decide +kernel
theorem d_Model_isItem_17 : decode b_Model_isItem 17 = .ok (.ireturn, 1) := by decide +kernel
theorem d_Model_need_0 : decode b_Model_need 0 = .ok (.aload_n 0, 1) := by decide +kernel
theorem d_Model_need_1 : decode b_Model_need 1 = .ok (.aload_n 0, 1) := by decide +kernel
theorem d_Model_need_2 : decode b_Model_need 2 = .ok (.iload_n 1, 1) := by decide +kernel
theorem d_Model_need_3 : decode b_Model_need 3 = .ok (.invokevirtual 100, 3) := by decide +kernel
theorem d_Model_need_6 : decode b_Model_need 6 = .ok (.ifCond .ne 7, 3) := by decide +kernel
theorem d_Model_need_9 : decode b_Model_need 9 = .ok (.iconst 1, 1) := by decide +kernel
theorem d_Model_need_10 : decode b_Model_need 10 = .ok (.goto 22, 3) := by decide +kernel
theorem d_Model_need_13 : decode b_Model_need 13 = .ok (.iload_n 2, 1) := by decide +kernel
theorem d_Model_need_14 : decode b_Model_need 14 = .ok (.i2l, 1) := by decide +kernel
theorem d_Model_need_15 : decode b_Model_need 15 = .ok (.ldc2_w 104, 3) := by decide +kernel
theorem d_Model_need_18 : decode b_Model_need 18 = .ok (.ldc2_w 106, 3) := by decide +kernel
theorem d_Model_need_21 : decode b_Model_need 21 = .ok (.invokestatic 91, 3) := by decide +kernel
theorem d_Model_need_24 : decode b_Model_need 24 = .ok (.ifCond .eq 7, 3) := by decide +kernel
theorem d_Model_need_27 : decode b_Model_need 27 = .ok (.iconst 0, 1) := by decide +kernel
theorem d_Model_need_28 : decode b_Model_need 28 = .ok (.goto 4, 3) := by decide +kernel
theorem d_Model_need_31 : decode b_Model_need 31 = .ok (.iconst 2, 1) := by decide +kernel
theorem d_Model_need_32 : decode b_Model_need 32 = .ok (.putfield 76, 3) := by decide +kernel
theorem d_Model_need_35 : decode b_Model_need 35 = .ok (.aload_n 0, 1) := by decide +kernel
theorem d_Model_need_36 : decode b_Model_need 36 = .ok (.getfield 76, 3) := by decide +kernel
theorem d_Model_need_39 : decode b_Model_need 39 = .ok (.ifCond .gt 13, 3) := by decide +kernel
theorem d_Model_need_42 : decode b_Model_need 42 = .ok (.aload_n 0, 1) := by decide +kernel
theorem d_Model_need_43 : decode b_Model_need 43 = .ok (.getfield 27, 3) := by decide +kernel
theorem d_Model_need_46 : decode b_Model_need 46 = .ok (.iload_n 1, 1) := by decide +kernel
theorem d_Model_need_47 : decode b_Model_need 47 = .ok (.iaload, 1) := by decide +kernel
theorem d_Model_need_48 : decode b_Model_need 48 = .ok (.iload_n 2, 1) := by decide +kernel
theorem d_Model_need_49 : decode b_Model_need 49 = .ok (.if_icmp .ne 5, 3) := by decide +kernel
theorem d_Model_need_52 : decode b_Model_need 52 = .ok (.iconst 0, 1) := by decide +kernel
theorem d_Model_need_53 : decode b_Model_need 53 = .ok (.ireturn, 1) := by decide +kernel
theorem d_Model_need_54 : decode b_Model_need 54 = .ok (.aload_n 0, 1) := by decide +kernel
theorem d_Model_need_55 : decode b_Model_need 55 = .ok (.getfield 27, 3) := by decide +kernel
theorem d_Model_need_58 : decode b_Model_need 58 = .ok (.iload_n 1, 1) := by decide +kernel
theorem d_Model_need_59 : decode b_Model_need 59 = .ok (.iload_n 2, 1) := by decide +kernel
theorem d_Model_need_60 : decode b_Model_need 60 = .ok (.iastore, 1) := by decide +kernel
theorem d_Model_need_61 : decode b_Model_need 61 = .ok (.aload_n 0, 1) := by decide +kernel
theorem d_Model_need_62 : decode b_Model_need 62 = .ok (.invokevirtual 83, 3) := by decide +kernel
theorem d_Model_need_65 : decode b_Model_need 65 = .ok (.iconst 1, 1) := by decide +kernel
theorem d_Model_need_66 : decode b_Model_need 66 = .ok (.ireturn, 1) := by decide +kernel
theorem d_Model_pairCode_0 : decode b_Model_pairCode 0 = .ok (.aload_n 0, 1) := by decide +kernel
theorem d_Model_pairCode_1 : decode b_Model_pairCode 1 = .ok (.iload_n 1, 1) := by decide +kernel
theorem d_Model_pairCode_2 : decode b_Model_pairCode 2 = .ok (.invokevirtual 100, 3) := by decide +kernel
theorem d_Model_pairCode_5 : decode b_Model_pairCode 5 = .ok (.ifCond .eq 11, 3) := by decide +kernel
theorem d_Model_pairCode_8 : decode b_Model_pairCode 8 = .ok (.aload_n 0, 1) := by decide +kernel
theorem d_Model_pairCode_9 : decode b_Model_pairCode 9 = .ok (.iload_n 2, 1) := by decide +kernel
theorem d_Model_pairCode_10 : decode b_Model_pairCode 10 = .ok (.invokevirtual 100, 3) := by decide +kernel
theorem d_Model_pairCode_13 : decode b_Model_pairCode 13 = .ok (.ifCond .ne 7, 3) := by decide +kernel
theorem d_Model_pairCode_16 : decode b_Model_pairCode 16 = .ok (.iconst 1, 1) := by decide +kernel
theorem d_Model_pairCode_17 : decode b_Model_pairCode 17 = .ok (.goto 13, 3) := by decide +kernel
theorem d_Model_pairCode_20 : decode b_Model_pairCode 20 = .ok (.iload_n 1, 1) := by decide +kernel
theorem d_Model_pairCode_21 : decode b_Model_pairCode 21 = .ok (.iload_n 2, 1) := by decide +kernel
theorem d_Model_pairCode_22 : decode b_Model_pairCode 22 = .ok (.if_icmp .ne 7, 3) := by decide +kernel
theorem d_Model_pairCode_25 : decode b_Model_pairCode 25 = .ok (.iconst 2, 1) := by decide +kernel
theorem d_Model_pairCode_26 : decode b_Model_pairCode 26 = .ok (.goto 4, 3) := by decide +kernel
theorem d_Model_pairCode_29 : decode b_Model_pairCode 29 = .ok (.iconst 0, 1) := by decide +kernel
theorem d_Model_pairCode_30 : decode b_Model_pairCode 30 = .ok (.ireturn, 1) := by decide +kernel
theorem d_Model_near_0 : decode b_Model_near 0 = .ok (.aload_n 0, 1) := by decide +kernel
theorem d_Model_near_1 : decode b_Model_near 1 = .ok (.aload_n 0, 1) := by decide +kernel
theorem d_Model_near_2 : decode b_Model_near 2 = .ok (.iload_n 1, 1) := by decide +kernel
theorem d_Model_near_3 : decode b_Model_near 3 = .ok (.iload_n 2, 1) := by decide +kernel
theorem d_Model_near_4 : decode b_Model_near 4 = .ok (.invokevirtual 108, 3) := by decide +kernel
theorem d_Model_near_7 : decode b_Model_near 7 = .ok (.putfield 76, 3) := by decide +kernel
theorem d_Model_near_10 : decode b_Model_near 10 = .ok (.aload_n 0, 1) := by decide +kernel
theorem d_Model_near_11 : decode b_Model_near 11 = .ok (.aload_n 0, 1) := by decide +kernel
theorem d_Model_near_12 : decode b_Model_near 12 = .ok (.getfield 76, 3) := by decide +kernel
theorem d_Model_near_15 : decode b_Model_near 15 = .ok (.ifCond .ne 18, 3) := by decide +kernel
theorem d_Model_near_18 : decode b_Model_near 18 = .ok (.lload_n 3, 1) := by decide +kernel
theorem d_Model_near_19 : decode b_Model_near 19 = .ok (.lconst 0, 1) := by decide +kernel
theorem d_Model_near_20 : decode b_Model_near 20 = .ok (.ldc2_w 95, 3) := by decide +kernel
theorem d_Model_near_23 : decode b_Model_near 23 = .ok (.invokestatic 91, 3) := by decide +kernel
theorem d_Model_near_26 : decode b_Model_near 26 = .ok (.ifCond .ne 7, 3) := by decide +kernel
theorem d_Model_near_29 : decode b_Model_near 29 = .ok (.iconst 2, 1) := by decide +kernel
theorem d_Model_near_30 : decode b_Model_near 30 = .ok (.goto 7, 3) := by decide +kernel
theorem d_Model_near_33 : decode b_Model_near 33 = .ok (.aload_n 0, 1) := by decide +kernel
theorem d_Model_near_34 : decode b_Model_near 34 = .ok (.getfield 76, 3) := by decide +kernel
theorem d_Model_near_37 : decode b_Model_near 37 = .ok (.putfield 76, 3) := by decide +kernel
theorem d_Model_near_40 : decode b_Model_near 40 = .ok (.aload_n 0, 1) := by decide +kernel
theorem d_Model_near_41 : decode b_Model_near 41 = .ok (.getfield 76, 3) := by decide +kernel
theorem d_Model_near_44 : decode b_Model_near 44 = .ok (.ifCond .gt 19, 3) := by decide +kernel
theorem d_Model_near_47 : decode b_Model_near 47 = .ok (.aload_n 0, 1) := by decide +kernel
theorem d_Model_near_48 : decode b_Model_near 48 = .ok (.getfield 33, 3) := by decide +kernel
theorem d_Model_near_51 : decode b_Model_near 51 = .ok (.bipush 6, 2) := by decide +kernel
theorem d_Model_near_53 : decode b_Model_near 53 = .ok (.iload_n 1, 1) := by decide +kernel
theorem d_Model_near_54 : decode b_Model_near 54 = .ok (.imul, 1) := by decide +kernel
theorem d_Model_near_55 : decode b_Model_near 55 = .ok (.iload_n 2, 1) := by decide +kernel
theorem d_Model_near_56 : decode b_Model_near 56 = .ok (.iadd, 1) := by decide +kernel
theorem d_Model_near_57 : decode b_Model_near 57 = .ok (.laload, 1) := by decide +kernel
theorem d_Model_near_58 : decode b_Model_near 58 = .ok (.lload_n 3, 1) := by decide +kernel
theorem d_Model_near_59 : decode b_Model_near 59 = .ok (.lcmp, 1) := by decide +kernel
theorem d_Model_near_60 : decode b_Model_near 60 = .ok (.ifCond .ne 5, 3) := by decide +kernel
theorem d_Model_near_63 : decode b_Model_near 63 = .ok (.iconst 0, 1) := by decide +kernel
theorem d_Model_near_64 : decode b_Model_near 64 = .ok (.ireturn, 1) := by decide +kernel
theorem d_Model_near_65 : decode b_Model_near 65 = .ok (.aload_n 0, 1) := by decide +kernel
theorem d_Model_near_66 : decode b_Model_near 66 = .ok (.getfield 33, 3) := by decide +kernel
theorem d_Model_near_69 : decode b_Model_near 69 = .ok (.bipush 6, 2) := by decide +kernel
theorem d_Model_near_71 : decode b_Model_near 71 = .ok (.iload_n 1, 1) := by decide +kernel
theorem d_Model_near_72 : decode b_Model_near 72 = .ok (.imul, 1) := by decide +kernel
theorem d_Model_near_73 : decode b_Model_near 73 = .ok (.iload_n 2, 1) := by decide +kernel
theorem d_Model_near_74 : decode b_Model_near 74 = .ok (.iadd, 1) := by decide +kernel
theorem d_Model_near_75 : decode b_Model_near 75 = .ok (.lload_n 3, 1) := by decide +kernel
theorem d_Model_near_76 : decode b_Model_near 76 = .ok (.lastore, 1) := by decide +kernel
theorem d_Model_near_77 : decode b_Model_near 77 = .ok (.aload_n 0, 1) := by decide +kernel
theorem d_Model_near_78 : decode b_Model_near 78 = .ok (.getfield 33, 3) := by decide +kernel
theorem d_Model_near_81 : decode b_Model_near 81 = .ok (.bipush 6, 2) := by decide +kernel
theorem d_Model_near_83 : decode b_Model_near 83 = .ok (.iload_n 2, 1) := by decide +kernel
theorem d_Model_near_84 : decode b_Model_near 84 = .ok (.imul, 1) := by decide +kernel
theorem d_Model_near_85 : decode b_Model_near 85 = .ok (.iload_n 1, 1) := by decide +kernel
theorem d_Model_near_86 : decode b_Model_near 86 = .ok (.iadd, 1) := by decide +kernel
theorem d_Model_near_87 : decode b_Model_near 87 = .ok (.lload_n 3, 1) := by decide +kernel
theorem d_Model_near_88 : decode b_Model_near 88 = .ok (.lastore, 1) := by decide +kernel
theorem d_Model_near_89 : decode b_Model_near 89 = .ok (.aload_n 0, 1) := by decide +kernel
theorem d_Model_near_90 : decode b_Model_near 90 = .ok (.invokevirtual 83, 3) := by decide +kernel
theorem d_Model_near_93 : decode b_Model_near 93 = .ok (.iconst 1, 1) := by decide +kernel
theorem d_Model_near_94 : decode b_Model_near 94 = .ok (.ireturn, 1) := by decide +kernel
theorem d_Model_bar_0 : decode b_Model_bar 0 = .ok (.aload_n 0, 1) := by decide +kernel
theorem d_Model_bar_1 : decode b_Model_bar 1 = .ok (.aload_n 0, 1) := by decide +kernel
theorem d_Model_bar_2 : decode b_Model_bar 2 = .ok (.iload_n 1, 1) := by decide +kernel
theorem d_Model_bar_3 : decode b_Model_bar 3 = .ok (.iload_n 2, 1) := by decide +kernel
theorem d_Model_bar_4 : decode b_Model_bar 4 = .ok (.invokevirtual 108, 3) := by decide +kernel
theorem d_Model_bar_7 : decode b_Model_bar 7 = .ok (.putfield 76, 3) := by decide +kernel
theorem d_Model_bar_10 : decode b_Model_bar 10 = .ok (.aload_n 0, 1) := by decide +kernel
theorem d_Model_bar_11 : decode b_Model_bar 11 = .ok (.getfield 76, 3) := by decide +kernel
theorem d_Model_bar_14 : decode b_Model_bar 14 = .ok (.ifCond .gt 17, 3) := by decide +kernel
theorem d_Model_bar_17 : decode b_Model_bar 17 = .ok (.aload_n 0, 1) := by decide +kernel
theorem d_Model_bar_18 : decode b_Model_bar 18 = .ok (.getfield 36, 3) := by decide +kernel
theorem d_Model_bar_21 : decode b_Model_bar 21 = .ok (.bipush 6, 2) := by decide +kernel
theorem d_Model_bar_23 : decode b_Model_bar 23 = .ok (.iload_n 1, 1) := by decide +kernel
theorem d_Model_bar_24 : decode b_Model_bar 24 = .ok (.imul, 1) := by decide +kernel
theorem d_Model_bar_25 : decode b_Model_bar 25 = .ok (.iload_n 2, 1) := by decide +kernel
theorem d_Model_bar_26 : decode b_Model_bar 26 = .ok (.iadd, 1) := by decide +kernel
theorem d_Model_bar_27 : decode b_Model_bar 27 = .ok (.baload, 1) := by decide +kernel
theorem d_Model_bar_28 : decode b_Model_bar 28 = .ok (.ifCond .eq 5, 3) := by decide +kernel
theorem d_Model_bar_31 : decode b_Model_bar 31 = .ok (.iconst 0, 1) := by decide +kernel
theorem d_Model_bar_32 : decode b_Model_bar 32 = .ok (.ireturn, 1) := by decide +kernel
theorem d_Model_bar_33 : decode b_Model_bar 33 = .ok (.aload_n 0, 1) := by decide +kernel
theorem d_Model_bar_34 : decode b_Model_bar 34 = .ok (.getfield 36, 3) := by decide +kernel
theorem d_Model_bar_37 : decode b_Model_bar 37 = .ok (.bipush 6, 2) := by decide +kernel
theorem d_Model_bar_39 : decode b_Model_bar 39 = .ok (.iload_n 1, 1) := by decide +kernel
theorem d_Model_bar_40 : decode b_Model_bar 40 = .ok (.imul, 1) := by decide +kernel
theorem d_Model_bar_41 : decode b_Model_bar 41 = .ok (.iload_n 2, 1) := by decide +kernel
theorem d_Model_bar_42 : decode b_Model_bar 42 = .ok (.iadd, 1) := by decide +kernel
theorem d_Model_bar_43 : decode b_Model_bar 43 = .ok (.iconst 1, 1) := by decide +kernel
theorem d_Model_bar_44 : decode b_Model_bar 44 = .ok (.bastore, 1) := by decide +kernel
theorem d_Model_bar_45 : decode b_Model_bar 45 = .ok (.aload_n 0, 1) := by decide +kernel
theorem d_Model_bar_46 : decode b_Model_bar 46 = .ok (.getfield 36, 3) := by decide +kernel
theorem d_Model_bar_49 : decode b_Model_bar 49 = .ok (.bipush 6, 2) := by decide +kernel
theorem d_Model_bar_51 : decode b_Model_bar 51 = .ok (.iload_n 2, 1) := by decide +kernel
theorem d_Model_bar_52 : decode b_Model_bar 52 = .ok (.imul, 1) := by decide +kernel
theorem d_Model_bar_53 : decode b_Model_bar 53 = .ok (.iload_n 1, 1) := by decide +kernel
theorem d_Model_bar_54 : decode b_Model_bar 54 = .ok (.iadd, 1) := by decide +kernel
theorem d_Model_bar_55 : decode b_Model_bar 55 = .ok (.iconst 1, 1) := by decide +kernel
theorem d_Model_bar_56 : decode b_Model_bar 56 = .ok (.bastore, 1) := by decide +kernel
theorem d_Model_bar_57 : decode b_Model_bar 57 = .ok (.aload_n 0, 1) := by decide +kernel
theorem d_Model_bar_58 : decode b_Model_bar 58 = .ok (.invokevirtual 83, 3) := by decide +kernel
theorem d_Model_bar_61 : decode b_Model_bar 61 = .ok (.iconst 1, 1) := by decide +kernel
theorem d_Model_bar_62 : decode b_Model_bar 62 = .ok (.ireturn, 1) := by decide +kernel
theorem d_Model_must_0 : decode b_Model_must 0 = .ok (.aload_n 0, 1) := by decide +kernel
theorem d_Model_must_1 : decode b_Model_must 1 = .ok (.aload_n 0, 1) := by decide +kernel
theorem d_Model_must_2 : decode b_Model_must 2 = .ok (.iload_n 1, 1) := by decide +kernel
theorem d_Model_must_3 : decode b_Model_must 3 = .ok (.invokevirtual 100, 3) := by decide +kernel
theorem d_Model_must_6 : decode b_Model_must 6 = .ok (.ifCond .eq 7, 3) := by decide +kernel
theorem d_Model_must_9 : decode b_Model_must 9 = .ok (.iconst 0, 1) := by decide +kernel
theorem d_Model_must_10 : decode b_Model_must 10 = .ok (.goto 4, 3) := by decide +kernel
theorem d_Model_must_13 : decode b_Model_must 13 = .ok (.iconst 1, 1) := by decide +kernel
theorem d_Model_must_14 : decode b_Model_must 14 = .ok (.putfield 76, 3) := by decide +kernel
theorem d_Model_must_17 : decode b_Model_must 17 = .ok (.aload_n 0, 1) := by decide +kernel
theorem d_Model_must_18 : decode b_Model_must 18 = .ok (.getfield 76, 3) := by decide +kernel
theorem d_Model_must_21 : decode b_Model_must 21 = .ok (.ifCond .gt 13, 3) := by decide +kernel
theorem d_Model_must_24 : decode b_Model_must 24 = .ok (.aload_n 0, 1) := by decide +kernel
theorem d_Model_must_25 : decode b_Model_must 25 = .ok (.getfield 30, 3) := by decide +kernel
theorem d_Model_must_28 : decode b_Model_must 28 = .ok (.iload_n 1, 1) := by decide +kernel
theorem d_Model_must_29 : decode b_Model_must 29 = .ok (.baload, 1) := by decide +kernel
theorem d_Model_must_30 : decode b_Model_must 30 = .ok (.iload_n 2, 1) := by decide +kernel
theorem d_Model_must_31 : decode b_Model_must 31 = .ok (.if_icmp .ne 5, 3) := by decide +kernel
theorem d_Model_must_34 : decode b_Model_must 34 = .ok (.iconst 0, 1) := by decide +kernel
theorem d_Model_must_35 : decode b_Model_must 35 = .ok (.ireturn, 1) := by decide +kernel
theorem d_Model_must_36 : decode b_Model_must 36 = .ok (.aload_n 0, 1) := by decide +kernel
theorem d_Model_must_37 : decode b_Model_must 37 = .ok (.getfield 30, 3) := by decide +kernel
theorem d_Model_must_40 : decode b_Model_must 40 = .ok (.iload_n 1, 1) := by decide +kernel
theorem d_Model_must_41 : decode b_Model_must 41 = .ok (.iload_n 2, 1) := by decide +kernel
theorem d_Model_must_42 : decode b_Model_must 42 = .ok (.bastore, 1) := by decide +kernel
theorem d_Model_must_43 : decode b_Model_must 43 = .ok (.aload_n 0, 1) := by decide +kernel
theorem d_Model_must_44 : decode b_Model_must 44 = .ok (.invokevirtual 83, 3) := by decide +kernel
theorem d_Model_must_47 : decode b_Model_must 47 = .ok (.iconst 1, 1) := by decide +kernel
theorem d_Model_must_48 : decode b_Model_must 48 = .ok (.ireturn, 1) := by decide +kernel
theorem d_Model_filler_0 : decode b_Model_filler 0 = .ok (.aload_n 0, 1) := by decide +kernel
theorem d_Model_filler_1 : decode b_Model_filler 1 = .ok (.iload_n 1, 1) := by decide +kernel
theorem d_Model_filler_2 : decode b_Model_filler 2 = .ok (.i2l, 1) := by decide +kernel
theorem d_Model_filler_3 : decode b_Model_filler 3 = .ok (.lconst 1, 1) := by decide +kernel
theorem d_Model_filler_4 : decode b_Model_filler 4 = .ok (.ldc2_w 106, 3) := by decide +kernel
theorem d_Model_filler_7 : decode b_Model_filler 7 = .ok (.invokestatic 91, 3) := by decide +kernel
theorem d_Model_filler_10 : decode b_Model_filler 10 = .ok (.ifCond .eq 20, 3) := by decide +kernel
theorem d_Model_filler_13 : decode b_Model_filler 13 = .ok (.iload_n 2, 1) := by decide +kernel
theorem d_Model_filler_14 : decode b_Model_filler 14 = .ok (.i2l, 1) := by decide +kernel
theorem d_Model_filler_15 : decode b_Model_filler 15 = .ok (.iload_n 1, 1) := by decide +kernel
theorem d_Model_filler_16 : decode b_Model_filler 16 = .ok (.i2l, 1) := by decide +kernel
theorem d_Model_filler_17 : decode b_Model_filler 17 = .ok (.ldc2_w 106, 3) := by decide +kernel
theorem d_Model_filler_20 : decode b_Model_filler 20 = .ok (.invokestatic 91, 3) := by decide +kernel
theorem d_Model_filler_23 : decode b_Model_filler 23 = .ok (.ifCond .eq 7, 3) := by decide +kernel
theorem d_Model_filler_26 : decode b_Model_filler 26 = .ok (.iconst 0, 1) := by decide +kernel
theorem d_Model_filler_27 : decode b_Model_filler 27 = .ok (.goto 4, 3) := by decide +kernel
theorem d_Model_filler_30 : decode b_Model_filler 30 = .ok (.iconst 1, 1) := by decide +kernel
theorem d_Model_filler_31 : decode b_Model_filler 31 = .ok (.putfield 76, 3) := by decide +kernel
theorem d_Model_filler_34 : decode b_Model_filler 34 = .ok (.aload_n 0, 1) := by decide +kernel
theorem d_Model_filler_35 : decode b_Model_filler 35 = .ok (.getfield 76, 3) := by decide +kernel
theorem d_Model_filler_38 : decode b_Model_filler 38 = .ok (.ifCond .gt 19, 3) := by decide +kernel
theorem d_Model_filler_41 : decode b_Model_filler 41 = .ok (.aload_n 0, 1) := by decide +kernel
theorem d_Model_filler_42 : decode b_Model_filler 42 = .ok (.getfield 73, 3) := by decide +kernel
theorem d_Model_filler_45 : decode b_Model_filler 45 = .ok (.iload_n 1, 1) := by decide +kernel
theorem d_Model_filler_46 : decode b_Model_filler 46 = .ok (.if_icmp .ne 13, 3) := by decide +kernel
theorem d_Model_filler_49 : decode b_Model_filler 49 = .ok (.aload_n 0, 1) := by decide +kernel
theorem d_Model_filler_50 : decode b_Model_filler 50 = .ok (.getfield 112, 3) := by decide +kernel
theorem d_Model_filler_53 : decode b_Model_filler 53 = .ok (.iload_n 2, 1) := by decide +kernel
theorem d_Model_filler_54 : decode b_Model_filler 54 = .ok (.if_icmp .ne 5, 3) := by decide +kernel
theorem d_Model_filler_57 : decode b_Model_filler 57 = .ok (.iconst 0, 1) := by decide +kernel
theorem d_Model_filler_58 : decode b_Model_filler 58 = .ok (.ireturn, 1) := by decide +kernel
theorem d_Model_filler_59 : decode b_Model_filler 59 = .ok (.aload_n 0, 1) := by decide +kernel
theorem d_Model_filler_60 : decode b_Model_filler 60 = .ok (.iload_n 1, 1) := by decide +kernel
theorem d_Model_filler_61 : decode b_Model_filler 61 = .ok (.putfield 73, 3) := by decide +kernel
theorem d_Model_filler_64 : decode b_Model_filler 64 = .ok (.aload_n 0, 1) := by decide +kernel
theorem d_Model_filler_65 : decode b_Model_filler 65 = .ok (.iload_n 2, 1) := by decide +kernel
theorem d_Model_filler_66 : decode b_Model_filler 66 = .ok (.putfield 112, 3) := by decide +kernel
theorem d_Model_filler_69 : decode b_Model_filler 69 = .ok (.aload_n 0, 1) := by decide +kernel
theorem d_Model_filler_70 : decode b_Model_filler 70 = .ok (.invokevirtual 83, 3) := by decide +kernel
theorem d_Model_filler_73 : decode b_Model_filler 73 = .ok (.iconst 1, 1) := by decide +kernel
theorem d_Model_filler_74 : decode b_Model_filler 74 = .ok (.ireturn, 1) := by decide +kernel
theorem d_Model_isNeeded_0 : decode b_Model_isNeeded 0 = .ok (.aload_n 0, 1) := by decide +kernel
theorem d_Model_isNeeded_1 : decode b_Model_isNeeded 1 = .ok (.getfield 27, 3) := by decide +kernel
theorem d_Model_isNeeded_4 : decode b_Model_isNeeded 4 = .ok (.iload_n 1, 1) := by decide +kernel
theorem d_Model_isNeeded_5 : decode b_Model_isNeeded 5 = .ok (.iaload, 1) := by decide +kernel
theorem d_Model_isNeeded_6 : decode b_Model_isNeeded 6 = .ok (.iconst (-1), 1) := by decide +kernel
theorem d_Model_isNeeded_7 : decode b_Model_isNeeded 7 = .ok (.if_icmp .ne 7, 3) := by decide +kernel
theorem d_Model_isNeeded_10 : decode b_Model_isNeeded 10 = .ok (.iconst 1, 1) := by decide +kernel
theorem d_Model_isNeeded_11 : decode b_Model_isNeeded 11 = .ok (.goto 4, 3) := by decide +kernel
theorem d_Model_isNeeded_14 : decode b_Model_isNeeded 14 = .ok (.iconst 0, 1) := by decide +kernel
theorem d_Model_isNeeded_15 : decode b_Model_isNeeded 15 = .ok (.istore_n 3, 1) := by decide +kernel
theorem d_Model_isNeeded_16 : decode b_Model_isNeeded 16 = .ok (.iconst 0, 1) := by decide +kernel
theorem d_Model_isNeeded_17 : decode b_Model_isNeeded 17 = .ok (.istore 4, 2) := by decide +kernel
theorem d_Model_isNeeded_19 : decode b_Model_isNeeded 19 = .ok (.iload 4, 2) := by decide +kernel
theorem d_Model_isNeeded_21 : decode b_Model_isNeeded 21 = .ok (.aload_n 0, 1) := by decide +kernel
theorem d_Model_isNeeded_22 : decode b_Model_isNeeded 22 = .ok (.getfield 86, 3) := by decide +kernel
theorem d_Model_isNeeded_25 : decode b_Model_isNeeded 25 = .ok (.if_icmp .ge 84, 3) := by decide +kernel
theorem d_Model_isNeeded_28 : decode b_Model_isNeeded 28 = .ok (.aload_n 0, 1) := by decide +kernel
theorem d_Model_isNeeded_29 : decode b_Model_isNeeded 29 = .ok (.getfield 13, 3) := by decide +kernel
theorem d_Model_isNeeded_32 : decode b_Model_isNeeded 32 = .ok (.iload 4, 2) := by decide +kernel
theorem d_Model_isNeeded_34 : decode b_Model_isNeeded 34 = .ok (.iaload, 1) := by decide +kernel
theorem d_Model_isNeeded_35 : decode b_Model_isNeeded 35 = .ok (.istore 5, 2) := by decide +kernel
theorem d_Model_isNeeded_37 : decode b_Model_isNeeded 37 = .ok (.iload 5, 2) := by decide +kernel
theorem d_Model_isNeeded_39 : decode b_Model_isNeeded 39 = .ok (.iload_n 2, 1) := by decide +kernel
theorem d_Model_isNeeded_40 : decode b_Model_isNeeded 40 = .ok (.if_icmp .ge 10, 3) := by decide +kernel
theorem d_Model_isNeeded_43 : decode b_Model_isNeeded 43 = .ok (.iload_n 2, 1) := by decide +kernel
theorem d_Model_isNeeded_44 : decode b_Model_isNeeded 44 = .ok (.iload 5, 2) := by decide +kernel
theorem d_Model_isNeeded_46 : decode b_Model_isNeeded 46 = .ok (.isub, 1) := by decide +kernel
theorem d_Model_isNeeded_47 : decode b_Model_isNeeded 47 = .ok (.goto 33, 3) := by decide +kernel
theorem d_Model_isNeeded_50 : decode b_Model_isNeeded 50 = .ok (.iload 5, 2) := by decide +kernel
theorem d_Model_isNeeded_52 : decode b_Model_isNeeded 52 = .ok (.iload_n 2, 1) := by decide +kernel
theorem d_Model_isNeeded_53 : decode b_Model_isNeeded 53 = .ok (.aload_n 0, 1) := by decide +kernel
theorem d_Model_isNeeded_54 : decode b_Model_isNeeded 54 = .ok (.getfield 17, 3) := by decide +kernel
theorem d_Model_isNeeded_57 : decode b_Model_isNeeded 57 = .ok (.iload_n 1, 1) := by decide +kernel
theorem d_Model_isNeeded_58 : decode b_Model_isNeeded 58 = .ok (.iaload, 1) := by decide +kernel
theorem d_Model_isNeeded_59 : decode b_Model_isNeeded 59 = .ok (.iadd, 1) := by decide +kernel
theorem d_Model_isNeeded_60 : decode b_Model_isNeeded 60 = .ok (.if_icmp .lt 19, 3) := by decide +kernel
theorem d_Model_isNeeded_63 : decode b_Model_isNeeded 63 = .ok (.iload 5, 2) := by decide +kernel
theorem d_Model_isNeeded_65 : decode b_Model_isNeeded 65 = .ok (.iload_n 2, 1) := by decide +kernel
theorem d_Model_isNeeded_66 : decode b_Model_isNeeded 66 = .ok (.isub, 1) := by decide +kernel
theorem d_Model_isNeeded_67 : decode b_Model_isNeeded 67 = .ok (.aload_n 0, 1) := by decide +kernel
theorem d_Model_isNeeded_68 : decode b_Model_isNeeded 68 = .ok (.getfield 17, 3) := by decide +kernel
theorem d_Model_isNeeded_71 : decode b_Model_isNeeded 71 = .ok (.iload_n 1, 1) := by decide +kernel
theorem d_Model_isNeeded_72 : decode b_Model_isNeeded 72 = .ok (.iaload, 1) := by decide +kernel
theorem d_Model_isNeeded_73 : decode b_Model_isNeeded 73 = .ok (.isub, 1) := by decide +kernel
theorem d_Model_isNeeded_74 : decode b_Model_isNeeded 74 = .ok (.iconst 1, 1) := by decide +kernel
theorem d_Model_isNeeded_75 : decode b_Model_isNeeded 75 = .ok (.iadd, 1) := by decide +kernel
theorem d_Model_isNeeded_76 : decode b_Model_isNeeded 76 = .ok (.goto 4, 3) := by decide +kernel
theorem d_Model_isNeeded_79 : decode b_Model_isNeeded 79 = .ok (.iconst 0, 1) := by decide +kernel
theorem d_Model_isNeeded_80 : decode b_Model_isNeeded 80 = .ok (.istore 6, 2) := by decide +kernel
theorem d_Model_isNeeded_82 : decode b_Model_isNeeded 82 = .ok (.iload_n 3, 1) := by decide +kernel
theorem d_Model_isNeeded_83 : decode b_Model_isNeeded 83 = .ok (.ifCond .ne 14, 3) := by decide +kernel
theorem d_Model_isNeeded_86 : decode b_Model_isNeeded 86 = .ok (.iload 6, 2) := by decide +kernel
theorem d_Model_isNeeded_88 : decode b_Model_isNeeded 88 = .ok (.aload_n 0, 1) := by decide +kernel
theorem d_Model_isNeeded_89 : decode b_Model_isNeeded 89 = .ok (.getfield 27, 3) := by decide +kernel
theorem d_Model_isNeeded_92 : decode b_Model_isNeeded 92 = .ok (.iload_n 1, 1) := by decide +kernel
theorem d_Model_isNeeded_93 : decode b_Model_isNeeded 93 = .ok (.iaload, 1) := by decide +kernel
theorem d_Model_isNeeded_94 : decode b_Model_isNeeded 94 = .ok (.if_icmp .gt 7, 3) := by decide +kernel
theorem d_Model_isNeeded_97 : decode b_Model_isNeeded 97 = .ok (.iconst 1, 1) := by decide +kernel
theorem d_Model_isNeeded_98 : decode b_Model_isNeeded 98 = .ok (.goto 4, 3) := by decide +kernel
theorem d_Model_isNeeded_101 : decode b_Model_isNeeded 101 = .ok (.iconst 0, 1) := by decide +kernel
theorem d_Model_isNeeded_102 : decode b_Model_isNeeded 102 = .ok (.istore_n 3, 1) := by decide +kernel
theorem d_Model_isNeeded_103 : decode b_Model_isNeeded 103 = .ok (.iinc 4 1, 3) := by decide +kernel
theorem d_Model_isNeeded_106 : decode b_Model_isNeeded 106 = .ok (.goto (-87), 3) := by decide +kernel
theorem d_Model_isNeeded_109 : decode b_Model_isNeeded 109 = .ok (.iload_n 3, 1) := by decide +kernel
theorem d_Model_isNeeded_110 : decode b_Model_isNeeded 110 = .ok (.ireturn, 1) := by decide +kernel
theorem d_Model_isClear_0 : decode b_Model_isClear 0 = .ok (.aload_n 0, 1) := by decide +kernel
theorem d_Model_isClear_1 : decode b_Model_isClear 1 = .ok (.getfield 51, 3) := by decide +kernel
theorem d_Model_isClear_4 : decode b_Model_isClear 4 = .ok (.iload_n 1, 1) := by decide +kernel
theorem d_Model_isClear_5 : decode b_Model_isClear 5 = .ok (.iaload, 1) := by decide +kernel
theorem d_Model_isClear_6 : decode b_Model_isClear 6 = .ok (.iload_n 2, 1) := by decide +kernel
theorem d_Model_isClear_7 : decode b_Model_isClear 7 = .ok (.if_icmp .lt 7, 3) := by decide +kernel
theorem d_Model_isClear_10 : decode b_Model_isClear 10 = .ok (.iconst 1, 1) := by decide +kernel
theorem d_Model_isClear_11 : decode b_Model_isClear 11 = .ok (.goto 4, 3) := by decide +kernel
theorem d_Model_isClear_14 : decode b_Model_isClear 14 = .ok (.iconst 0, 1) := by decide +kernel
theorem d_Model_isClear_15 : decode b_Model_isClear 15 = .ok (.ireturn, 1) := by decide +kernel
theorem d_Model_look_0 : decode b_Model_look 0 = .ok (.aload_n 0, 1) := by decide +kernel
theorem d_Model_look_1 : decode b_Model_look 1 = .ok (.getfield 51, 3) := by decide +kernel
theorem d_Model_look_4 : decode b_Model_look 4 = .ok (.aload_n 0, 1) := by decide +kernel
theorem d_Model_look_5 : decode b_Model_look 5 = .ok (.getfield 69, 3) := by decide +kernel
theorem d_Model_look_8 : decode b_Model_look 8 = .ok (.iconst 0, 1) := by decide +kernel
theorem d_Model_look_9 : decode b_Model_look 9 = .ok (.iastore, 1) := by decide +kernel
theorem d_Model_look_10 : decode b_Model_look 10 = .ok (.aload_n 0, 1) := by decide +kernel
theorem d_Model_look_11 : decode b_Model_look 11 = .ok (.getfield 69, 3) := by decide +kernel
theorem d_Model_look_14 : decode b_Model_look 14 = .ok (.iconst 1, 1) := by decide +kernel
theorem d_Model_look_15 : decode b_Model_look 15 = .ok (.isub, 1) := by decide +kernel
theorem d_Model_look_16 : decode b_Model_look 16 = .ok (.istore_n 1, 1) := by decide +kernel
theorem d_Model_look_17 : decode b_Model_look 17 = .ok (.iload_n 1, 1) := by decide +kernel
theorem d_Model_look_18 : decode b_Model_look 18 = .ok (.ifCond .lt 71, 3) := by decide +kernel
theorem d_Model_look_21 : decode b_Model_look 21 = .ok (.aload_n 0, 1) := by decide +kernel
theorem d_Model_look_22 : decode b_Model_look 22 = .ok (.getfield 51, 3) := by decide +kernel
theorem d_Model_look_25 : decode b_Model_look 25 = .ok (.iload_n 1, 1) := by decide +kernel
theorem d_Model_look_26 : decode b_Model_look 26 = .ok (.aload_n 0, 1) := by decide +kernel
theorem d_Model_look_27 : decode b_Model_look 27 = .ok (.getfield 7, 3) := by decide +kernel
theorem d_Model_look_30 : decode b_Model_look 30 = .ok (.iload_n 1, 1) := by decide +kernel
theorem d_Model_look_31 : decode b_Model_look 31 = .ok (.baload, 1) := by decide +kernel
theorem d_Model_look_32 : decode b_Model_look 32 = .ok (.ifCond .eq 7, 3) := by decide +kernel
theorem d_Model_look_35 : decode b_Model_look 35 = .ok (.iconst 0, 1) := by decide +kernel
theorem d_Model_look_36 : decode b_Model_look 36 = .ok (.goto 13, 3) := by decide +kernel
theorem d_Model_look_39 : decode b_Model_look 39 = .ok (.aload_n 0, 1) := by decide +kernel
theorem d_Model_look_40 : decode b_Model_look 40 = .ok (.getfield 51, 3) := by decide +kernel
theorem d_Model_look_43 : decode b_Model_look 43 = .ok (.iload_n 1, 1) := by decide +kernel
theorem d_Model_look_44 : decode b_Model_look 44 = .ok (.iconst 1, 1) := by decide +kernel
theorem d_Model_look_45 : decode b_Model_look 45 = .ok (.iadd, 1) := by decide +kernel
theorem d_Model_look_46 : decode b_Model_look 46 = .ok (.iaload, 1) := by decide +kernel
theorem d_Model_look_47 : decode b_Model_look 47 = .ok (.iconst 1, 1) := by decide +kernel
theorem d_Model_look_48 : decode b_Model_look 48 = .ok (.iadd, 1) := by decide +kernel
theorem d_Model_look_49 : decode b_Model_look 49 = .ok (.iastore, 1) := by decide +kernel
theorem d_Model_look_50 : decode b_Model_look 50 = .ok (.iconst 0, 1) := by decide +kernel
theorem d_Model_look_51 : decode b_Model_look 51 = .ok (.istore_n 2, 1) := by decide +kernel
theorem d_Model_look_52 : decode b_Model_look 52 = .ok (.iload_n 2, 1) := by decide +kernel
theorem d_Model_look_53 : decode b_Model_look 53 = .ok (.aload_n 0, 1) := by decide +kernel
theorem d_Model_look_54 : decode b_Model_look 54 = .ok (.getfield 97, 3) := by decide +kernel
theorem d_Model_look_57 : decode b_Model_look 57 = .ok (.if_icmp .ge 26, 3) := by decide +kernel
theorem d_Model_look_60 : decode b_Model_look 60 = .ok (.aload_n 0, 1) := by decide +kernel
theorem d_Model_look_61 : decode b_Model_look 61 = .ok (.getfield 54, 3) := by decide +kernel
theorem d_Model_look_64 : decode b_Model_look 64 = .ok (.bipush 41, 2) := by decide +kernel
theorem d_Model_look_66 : decode b_Model_look 66 = .ok (.iload_n 2, 1) := by decide +kernel
theorem d_Model_look_67 : decode b_Model_look 67 = .ok (.imul, 1) := by decide +kernel
theorem d_Model_look_68 : decode b_Model_look 68 = .ok (.iload_n 1, 1) := by decide +kernel
theorem d_Model_look_69 : decode b_Model_look 69 = .ok (.iadd, 1) := by decide +kernel
theorem d_Model_look_70 : decode b_Model_look 70 = .ok (.aload_n 0, 1) := by decide +kernel
theorem d_Model_look_71 : decode b_Model_look 71 = .ok (.iload_n 2, 1) := by decide +kernel
theorem d_Model_look_72 : decode b_Model_look 72 = .ok (.iload_n 1, 1) := by decide +kernel
theorem d_Model_look_73 : decode b_Model_look 73 = .ok (.invokevirtual 115, 3) := by decide +kernel
theorem d_Model_look_76 : decode b_Model_look 76 = .ok (.bastore, 1) := by decide +kernel
theorem d_Model_look_77 : decode b_Model_look 77 = .ok (.iinc 2 1, 3) := by decide +kernel
theorem d_Model_look_80 : decode b_Model_look 80 = .ok (.goto (-28), 3) := by decide +kernel
theorem d_Model_look_83 : decode b_Model_look 83 = .ok (.iinc 1 (-1), 3) := by decide +kernel
theorem d_Model_look_86 : decode b_Model_look 86 = .ok (.goto (-69), 3) := by decide +kernel
theorem d_Model_look_89 : decode b_Model_look 89 = .ok (.return_, 1) := by decide +kernel
theorem d_Model_mayStand_0 : decode b_Model_mayStand 0 = .ok (.iload 4, 2) := by decide +kernel
theorem d_Model_mayStand_2 : decode b_Model_mayStand 2 = .ok (.iload_n 1, 1) := by decide +kernel
theorem d_Model_mayStand_3 : decode b_Model_mayStand 3 = .ok (.ishr, 1) := by decide +kernel
theorem d_Model_mayStand_4 : decode b_Model_mayStand 4 = .ok (.iconst 1, 1) := by decide +kernel
theorem d_Model_mayStand_5 : decode b_Model_mayStand 5 = .ok (.iand, 1) := by decide +kernel
theorem d_Model_mayStand_6 : decode b_Model_mayStand 6 = .ok (.ifCond .ne 55, 3) := by decide +kernel
theorem d_Model_mayStand_9 : decode b_Model_mayStand 9 = .ok (.aload_n 0, 1) := by decide +kernel
theorem d_Model_mayStand_10 : decode b_Model_mayStand 10 = .ok (.iload_n 2, 1) := by decide +kernel
theorem d_Model_mayStand_11 : decode b_Model_mayStand 11 = .ok (.aload_n 0, 1) := by decide +kernel
theorem d_Model_mayStand_12 : decode b_Model_mayStand 12 = .ok (.getfield 17, 3) := by decide +kernel
theorem d_Model_mayStand_15 : decode b_Model_mayStand 15 = .ok (.iload_n 1, 1) := by decide +kernel
theorem d_Model_mayStand_16 : decode b_Model_mayStand 16 = .ok (.iaload, 1) := by decide +kernel
theorem d_Model_mayStand_17 : decode b_Model_mayStand 17 = .ok (.invokevirtual 119, 3) := by decide +kernel
theorem d_Model_mayStand_20 : decode b_Model_mayStand 20 = .ok (.ifCond .eq 41, 3) := by decide +kernel
theorem d_Model_mayStand_23 : decode b_Model_mayStand 23 = .ok (.aload_n 0, 1) := by decide +kernel
theorem d_Model_mayStand_24 : decode b_Model_mayStand 24 = .ok (.getfield 54, 3) := by decide +kernel
theorem d_Model_mayStand_27 : decode b_Model_mayStand 27 = .ok (.bipush 41, 2) := by decide +kernel
theorem d_Model_mayStand_29 : decode b_Model_mayStand 29 = .ok (.iload_n 1, 1) := by decide +kernel
theorem d_Model_mayStand_30 : decode b_Model_mayStand 30 = .ok (.imul, 1) := by decide +kernel
theorem d_Model_mayStand_31 : decode b_Model_mayStand 31 = .ok (.iload_n 2, 1) := by decide +kernel
theorem d_Model_mayStand_32 : decode b_Model_mayStand 32 = .ok (.iadd, 1) := by decide +kernel
theorem d_Model_mayStand_33 : decode b_Model_mayStand 33 = .ok (.baload, 1) := by decide +kernel
theorem d_Model_mayStand_34 : decode b_Model_mayStand 34 = .ok (.ifCond .eq 27, 3) := by decide +kernel
theorem d_Model_mayStand_37 : decode b_Model_mayStand 37 = .ok (.iload_n 3, 1) := by decide +kernel
theorem d_Model_mayStand_38 : decode b_Model_mayStand 38 = .ok (.bipush 6, 2) := by decide +kernel
theorem d_Model_mayStand_40 : decode b_Model_mayStand 40 = .ok (.if_icmp .ge 17, 3) := by decide +kernel
theorem d_Model_mayStand_43 : decode b_Model_mayStand 43 = .ok (.aload_n 0, 1) := by decide +kernel
theorem d_Model_mayStand_44 : decode b_Model_mayStand 44 = .ok (.getfield 36, 3) := by decide +kernel
theorem d_Model_mayStand_47 : decode b_Model_mayStand 47 = .ok (.bipush 6, 2) := by decide +kernel
theorem d_Model_mayStand_49 : decode b_Model_mayStand 49 = .ok (.iload_n 3, 1) := by decide +kernel
theorem d_Model_mayStand_50 : decode b_Model_mayStand 50 = .ok (.imul, 1) := by decide +kernel
theorem d_Model_mayStand_51 : decode b_Model_mayStand 51 = .ok (.iload_n 1, 1) := by decide +kernel
theorem d_Model_mayStand_52 : decode b_Model_mayStand 52 = .ok (.iadd, 1) := by decide +kernel
theorem d_Model_mayStand_53 : decode b_Model_mayStand 53 = .ok (.baload, 1) := by decide +kernel
theorem d_Model_mayStand_54 : decode b_Model_mayStand 54 = .ok (.ifCond .ne 7, 3) := by decide +kernel
theorem d_Model_mayStand_57 : decode b_Model_mayStand 57 = .ok (.iconst 1, 1) := by decide +kernel
theorem d_Model_mayStand_58 : decode b_Model_mayStand 58 = .ok (.goto 4, 3) := by decide +kernel
theorem d_Model_mayStand_61 : decode b_Model_mayStand 61 = .ok (.iconst 0, 1) := by decide +kernel
theorem d_Model_mayStand_62 : decode b_Model_mayStand 62 = .ok (.ireturn, 1) := by decide +kernel
theorem d_Model_index_0 : decode b_Model_index 0 = .ok (.sipush 512, 3) := by decide +kernel
theorem d_Model_index_3 : decode b_Model_index 3 = .ok (.iload_n 0, 1) := by decide +kernel
theorem d_Model_index_4 : decode b_Model_index 4 = .ok (.imul, 1) := by decide +kernel
theorem d_Model_index_5 : decode b_Model_index 5 = .ok (.bipush 64, 2) := by decide +kernel
theorem d_Model_index_7 : decode b_Model_index 7 = .ok (.iload_n 1, 1) := by decide +kernel
theorem d_Model_index_8 : decode b_Model_index 8 = .ok (.imul, 1) := by decide +kernel
theorem d_Model_index_9 : decode b_Model_index 9 = .ok (.iadd, 1) := by decide +kernel
theorem d_Model_index_10 : decode b_Model_index 10 = .ok (.iload_n 2, 1) := by decide +kernel
theorem d_Model_index_11 : decode b_Model_index 11 = .ok (.iadd, 1) := by decide +kernel
theorem d_Model_index_12 : decode b_Model_index 12 = .ok (.ireturn, 1) := by decide +kernel
theorem d_Model_choose_0 : decode b_Model_choose 0 = .ok (.aload_n 0, 1) := by decide +kernel
theorem d_Model_choose_1 : decode b_Model_choose 1 = .ok (.getfield 42, 3) := by decide +kernel
theorem d_Model_choose_4 : decode b_Model_choose 4 = .ok (.iload_n 2, 1) := by decide +kernel
theorem d_Model_choose_5 : decode b_Model_choose 5 = .ok (.laload, 1) := by decide +kernel
theorem d_Model_choose_6 : decode b_Model_choose 6 = .ok (.lconst 0, 1) := by decide +kernel
theorem d_Model_choose_7 : decode b_Model_choose 7 = .ok (.lcmp, 1) := by decide +kernel
theorem d_Model_choose_8 : decode b_Model_choose 8 = .ok (.ifCond .ge 4, 3) := by decide +kernel
theorem d_Model_choose_11 : decode b_Model_choose 11 = .ok (.return_, 1) := by decide +kernel
theorem d_Model_choose_12 : decode b_Model_choose 12 = .ok (.aload_n 0, 1) := by decide +kernel
theorem d_Model_choose_13 : decode b_Model_choose 13 = .ok (.getfield 42, 3) := by decide +kernel
theorem d_Model_choose_16 : decode b_Model_choose 16 = .ok (.iload_n 2, 1) := by decide +kernel
theorem d_Model_choose_17 : decode b_Model_choose 17 = .ok (.laload, 1) := by decide +kernel
theorem d_Model_choose_18 : decode b_Model_choose 18 = .ok (.lload_n 3, 1) := by decide +kernel
theorem d_Model_choose_19 : decode b_Model_choose 19 = .ok (.ladd, 1) := by decide +kernel
theorem d_Model_choose_20 : decode b_Model_choose 20 = .ok (.lstore 7, 2) := by decide +kernel
theorem d_Model_choose_22 : decode b_Model_choose 22 = .ok (.aload_n 0, 1) := by decide +kernel
theorem d_Model_choose_23 : decode b_Model_choose 23 = .ok (.getfield 45, 3) := by decide +kernel
theorem d_Model_choose_26 : decode b_Model_choose 26 = .ok (.iload_n 2, 1) := by decide +kernel
theorem d_Model_choose_27 : decode b_Model_choose 27 = .ok (.laload, 1) := by decide +kernel
theorem d_Model_choose_28 : decode b_Model_choose 28 = .ok (.lload 5, 2) := by decide +kernel
theorem d_Model_choose_30 : decode b_Model_choose 30 = .ok (.ladd, 1) := by decide +kernel
theorem d_Model_choose_31 : decode b_Model_choose 31 = .ok (.lstore 9, 2) := by decide +kernel
theorem d_Model_choose_33 : decode b_Model_choose 33 = .ok (.lload 7, 2) := by decide +kernel
theorem d_Model_choose_35 : decode b_Model_choose 35 = .ok (.aload_n 0, 1) := by decide +kernel
theorem d_Model_choose_36 : decode b_Model_choose 36 = .ok (.getfield 42, 3) := by decide +kernel
theorem d_Model_choose_39 : decode b_Model_choose 39 = .ok (.iload_n 1, 1) := by decide +kernel
theorem d_Model_choose_40 : decode b_Model_choose 40 = .ok (.laload, 1) := by decide +kernel
theorem d_Model_choose_41 : decode b_Model_choose 41 = .ok (.lcmp, 1) := by decide +kernel
theorem d_Model_choose_42 : decode b_Model_choose 42 = .ok (.ifCond .gt 27, 3) := by decide +kernel
theorem d_Model_choose_45 : decode b_Model_choose 45 = .ok (.lload 7, 2) := by decide +kernel
theorem d_Model_choose_47 : decode b_Model_choose 47 = .ok (.aload_n 0, 1) := by decide +kernel
theorem d_Model_choose_48 : decode b_Model_choose 48 = .ok (.getfield 42, 3) := by decide +kernel
theorem d_Model_choose_51 : decode b_Model_choose 51 = .ok (.iload_n 1, 1) := by decide +kernel
theorem d_Model_choose_52 : decode b_Model_choose 52 = .ok (.laload, 1) := by decide +kernel
theorem d_Model_choose_53 : decode b_Model_choose 53 = .ok (.lcmp, 1) := by decide +kernel
theorem d_Model_choose_54 : decode b_Model_choose 54 = .ok (.ifCond .ne 31, 3) := by decide +kernel
theorem d_Model_choose_57 : decode b_Model_choose 57 = .ok (.lload 9, 2) := by decide +kernel
theorem d_Model_choose_59 : decode b_Model_choose 59 = .ok (.aload_n 0, 1) := by decide +kernel
theorem d_Model_choose_60 : decode b_Model_choose 60 = .ok (.getfield 45, 3) := by decide +kernel
theorem d_Model_choose_63 : decode b_Model_choose 63 = .ok (.iload_n 1, 1) := by decide +kernel
theorem d_Model_choose_64 : decode b_Model_choose 64 = .ok (.laload, 1) := by decide +kernel
theorem d_Model_choose_65 : decode b_Model_choose 65 = .ok (.lcmp, 1) := by decide +kernel
theorem d_Model_choose_66 : decode b_Model_choose 66 = .ok (.ifCond .ge 19, 3) := by decide +kernel
theorem d_Model_choose_69 : decode b_Model_choose 69 = .ok (.aload_n 0, 1) := by decide +kernel
theorem d_Model_choose_70 : decode b_Model_choose 70 = .ok (.getfield 42, 3) := by decide +kernel
theorem d_Model_choose_73 : decode b_Model_choose 73 = .ok (.iload_n 1, 1) := by decide +kernel
theorem d_Model_choose_74 : decode b_Model_choose 74 = .ok (.lload 7, 2) := by decide +kernel
theorem d_Model_choose_76 : decode b_Model_choose 76 = .ok (.lastore, 1) := by decide +kernel
theorem d_Model_choose_77 : decode b_Model_choose 77 = .ok (.aload_n 0, 1) := by decide +kernel
theorem d_Model_choose_78 : decode b_Model_choose 78 = .ok (.getfield 45, 3) := by decide +kernel
theorem d_Model_choose_81 : decode b_Model_choose 81 = .ok (.iload_n 1, 1) := by decide +kernel
theorem d_Model_choose_82 : decode b_Model_choose 82 = .ok (.lload 9, 2) := by decide +kernel
theorem d_Model_choose_84 : decode b_Model_choose 84 = .ok (.lastore, 1) := by decide +kernel
theorem d_Model_choose_85 : decode b_Model_choose 85 = .ok (.return_, 1) := by decide +kernel
theorem d_Model_worthBehind_0 : decode b_Model_worthBehind 0 = .ok (.aload_n 0, 1) := by decide +kernel
theorem d_Model_worthBehind_1 : decode b_Model_worthBehind 1 = .ok (.getfield 20, 3) := by decide +kernel
theorem d_Model_worthBehind_4 : decode b_Model_worthBehind 4 = .ok (.iload_n 1, 1) := by decide +kernel
theorem d_Model_worthBehind_5 : decode b_Model_worthBehind 5 = .ok (.laload, 1) := by decide +kernel
theorem d_Model_worthBehind_6 : decode b_Model_worthBehind 6 = .ok (.iload_n 2, 1) := by decide +kernel
theorem d_Model_worthBehind_7 : decode b_Model_worthBehind 7 = .ok (.bipush 6, 2) := by decide +kernel
theorem d_Model_worthBehind_9 : decode b_Model_worthBehind 9 = .ok (.if_icmp .ge 17, 3) := by decide +kernel
theorem d_Model_worthBehind_12 : decode b_Model_worthBehind 12 = .ok (.aload_n 0, 1) := by decide +kernel
theorem d_Model_worthBehind_13 : decode b_Model_worthBehind 13 = .ok (.getfield 33, 3) := by decide +kernel
theorem d_Model_worthBehind_16 : decode b_Model_worthBehind 16 = .ok (.bipush 6, 2) := by decide +kernel
theorem d_Model_worthBehind_18 : decode b_Model_worthBehind 18 = .ok (.iload_n 2, 1) := by decide +kernel
theorem d_Model_worthBehind_19 : decode b_Model_worthBehind 19 = .ok (.imul, 1) := by decide +kernel
theorem d_Model_worthBehind_20 : decode b_Model_worthBehind 20 = .ok (.iload_n 1, 1) := by decide +kernel
theorem d_Model_worthBehind_21 : decode b_Model_worthBehind 21 = .ok (.iadd, 1) := by decide +kernel
theorem d_Model_worthBehind_22 : decode b_Model_worthBehind 22 = .ok (.laload, 1) := by decide +kernel
theorem d_Model_worthBehind_23 : decode b_Model_worthBehind 23 = .ok (.goto 4, 3) := by decide +kernel
theorem d_Model_worthBehind_26 : decode b_Model_worthBehind 26 = .ok (.lconst 0, 1) := by decide +kernel
theorem d_Model_worthBehind_27 : decode b_Model_worthBehind 27 = .ok (.ladd, 1) := by decide +kernel
theorem d_Model_worthBehind_28 : decode b_Model_worthBehind 28 = .ok (.lreturn, 1) := by decide +kernel
theorem d_Model_behindFree_0 : decode b_Model_behindFree 0 = .ok (.iload_n 1, 1) := by decide +kernel
theorem d_Model_behindFree_1 : decode b_Model_behindFree 1 = .ok (.istore_n 2, 1) := by decide +kernel
theorem d_Model_behindFree_2 : decode b_Model_behindFree 2 = .ok (.iload_n 2, 1) := by decide +kernel
theorem d_Model_behindFree_3 : decode b_Model_behindFree 3 = .ok (.aload_n 0, 1) := by decide +kernel
theorem d_Model_behindFree_4 : decode b_Model_behindFree 4 = .ok (.getfield 69, 3) := by decide +kernel
theorem d_Model_behindFree_7 : decode b_Model_behindFree 7 = .ok (.if_icmp .ge 18, 3) := by decide +kernel
theorem d_Model_behindFree_10 : decode b_Model_behindFree 10 = .ok (.aload_n 0, 1) := by decide +kernel
theorem d_Model_behindFree_11 : decode b_Model_behindFree 11 = .ok (.getfield 7, 3) := by decide +kernel
theorem d_Model_behindFree_14 : decode b_Model_behindFree 14 = .ok (.iload_n 2, 1) := by decide +kernel
theorem d_Model_behindFree_15 : decode b_Model_behindFree 15 = .ok (.baload, 1) := by decide +kernel
theorem d_Model_behindFree_16 : decode b_Model_behindFree 16 = .ok (.ifCond .eq 9, 3) := by decide +kernel
theorem d_Model_behindFree_19 : decode b_Model_behindFree 19 = .ok (.iinc 2 1, 3) := by decide +kernel
theorem d_Model_behindFree_22 : decode b_Model_behindFree 22 = .ok (.goto (-20), 3) := by decide +kernel
theorem d_Model_behindFree_25 : decode b_Model_behindFree 25 = .ok (.iload_n 2, 1) := by decide +kernel
theorem d_Model_behindFree_26 : decode b_Model_behindFree 26 = .ok (.ireturn, 1) := by decide +kernel
theorem d_Model_fillAt_0 : decode b_Model_fillAt 0 = .ok (.iload_n 1, 1) := by decide +kernel
theorem d_Model_fillAt_1 : decode b_Model_fillAt 1 = .ok (.iload_n 2, 1) := by decide +kernel
theorem d_Model_fillAt_2 : decode b_Model_fillAt 2 = .ok (.iload_n 3, 1) := by decide +kernel
theorem d_Model_fillAt_3 : decode b_Model_fillAt 3 = .ok (.invokestatic 122, 3) := by decide +kernel
theorem d_Model_fillAt_6 : decode b_Model_fillAt 6 = .ok (.istore 4, 2) := by decide +kernel
theorem d_Model_fillAt_8 : decode b_Model_fillAt 8 = .ok (.aload_n 0, 1) := by decide +kernel
theorem d_Model_fillAt_9 : decode b_Model_fillAt 9 = .ok (.getfield 42, 3) := by decide +kernel
theorem d_Model_fillAt_12 : decode b_Model_fillAt 12 = .ok (.iload 4, 2) := by decide +kernel
theorem d_Model_fillAt_14 : decode b_Model_fillAt 14 = .ok (.ldc2_w 104, 3) := by decide +kernel
theorem d_Model_fillAt_17 : decode b_Model_fillAt 17 = .ok (.lastore, 1) := by decide +kernel
theorem d_Model_fillAt_18 : decode b_Model_fillAt 18 = .ok (.aload_n 0, 1) := by decide +kernel
theorem d_Model_fillAt_19 : decode b_Model_fillAt 19 = .ok (.getfield 45, 3) := by decide +kernel
theorem d_Model_fillAt_22 : decode b_Model_fillAt 22 = .ok (.iload 4, 2) := by decide +kernel
theorem d_Model_fillAt_24 : decode b_Model_fillAt 24 = .ok (.lconst 0, 1) := by decide +kernel
theorem d_Model_fillAt_25 : decode b_Model_fillAt 25 = .ok (.lastore, 1) := by decide +kernel
theorem d_Model_fillAt_26 : decode b_Model_fillAt 26 = .ok (.iload_n 1, 1) := by decide +kernel
theorem d_Model_fillAt_27 : decode b_Model_fillAt 27 = .ok (.aload_n 0, 1) := by decide +kernel
theorem d_Model_fillAt_28 : decode b_Model_fillAt 28 = .ok (.getfield 69, 3) := by decide +kernel
theorem d_Model_fillAt_31 : decode b_Model_fillAt 31 = .ok (.if_icmp .ne 29, 3) := by decide +kernel
theorem d_Model_fillAt_34 : decode b_Model_fillAt 34 = .ok (.aload_n 0, 1) := by decide +kernel
theorem d_Model_fillAt_35 : decode b_Model_fillAt 35 = .ok (.getfield 42, 3) := by decide +kernel
theorem d_Model_fillAt_38 : decode b_Model_fillAt 38 = .ok (.iload 4, 2) := by decide +kernel
theorem d_Model_fillAt_40 : decode b_Model_fillAt 40 = .ok (.aload_n 0, 1) := by decide +kernel
theorem d_Model_fillAt_41 : decode b_Model_fillAt 41 = .ok (.getfield 48, 3) := by decide +kernel
theorem d_Model_fillAt_44 : decode b_Model_fillAt 44 = .ok (.iload_n 3, 1) := by decide +kernel
theorem d_Model_fillAt_45 : decode b_Model_fillAt 45 = .ok (.baload, 1) := by decide +kernel
theorem d_Model_fillAt_46 : decode b_Model_fillAt 46 = .ok (.ifCond .eq 7, 3) := by decide +kernel
theorem d_Model_fillAt_49 : decode b_Model_fillAt 49 = .ok (.lconst 0, 1) := by decide +kernel
theorem d_Model_fillAt_50 : decode b_Model_fillAt 50 = .ok (.goto 6, 3) := by decide +kernel
theorem d_Model_fillAt_53 : decode b_Model_fillAt 53 = .ok (.ldc2_w 104, 3) := by decide +kernel
theorem d_Model_fillAt_56 : decode b_Model_fillAt 56 = .ok (.lastore, 1) := by decide +kernel
theorem d_Model_fillAt_57 : decode b_Model_fillAt 57 = .ok (.goto 160, 3) := by decide +kernel
theorem d_Model_fillAt_60 : decode b_Model_fillAt 60 = .ok (.aload_n 0, 1) := by decide +kernel
theorem d_Model_fillAt_61 : decode b_Model_fillAt 61 = .ok (.getfield 7, 3) := by decide +kernel
theorem d_Model_fillAt_64 : decode b_Model_fillAt 64 = .ok (.iload_n 1, 1) := by decide +kernel
theorem d_Model_fillAt_65 : decode b_Model_fillAt 65 = .ok (.baload, 1) := by decide +kernel
theorem d_Model_fillAt_66 : decode b_Model_fillAt 66 = .ok (.ifCond .eq 25, 3) := by decide +kernel
theorem d_Model_fillAt_69 : decode b_Model_fillAt 69 = .ok (.aload_n 0, 1) := by decide +kernel
theorem d_Model_fillAt_70 : decode b_Model_fillAt 70 = .ok (.iload 4, 2) := by decide +kernel
theorem d_Model_fillAt_72 : decode b_Model_fillAt 72 = .ok (.aload_n 0, 1) := by decide +kernel
theorem d_Model_fillAt_73 : decode b_Model_fillAt 73 = .ok (.iload_n 1, 1) := by decide +kernel
theorem d_Model_fillAt_74 : decode b_Model_fillAt 74 = .ok (.invokevirtual 126, 3) := by decide +kernel
theorem d_Model_fillAt_77 : decode b_Model_fillAt 77 = .ok (.bipush 6, 2) := by decide +kernel
theorem d_Model_fillAt_79 : decode b_Model_fillAt 79 = .ok (.iload_n 3, 1) := by decide +kernel
theorem d_Model_fillAt_80 : decode b_Model_fillAt 80 = .ok (.invokestatic 122, 3) := by decide +kernel
theorem d_Model_fillAt_83 : decode b_Model_fillAt 83 = .ok (.lconst 0, 1) := by decide +kernel
theorem d_Model_fillAt_84 : decode b_Model_fillAt 84 = .ok (.lconst 0, 1) := by decide +kernel
theorem d_Model_fillAt_85 : decode b_Model_fillAt 85 = .ok (.invokevirtual 130, 3) := by decide +kernel
theorem d_Model_fillAt_88 : decode b_Model_fillAt 88 = .ok (.goto 129, 3) := by decide +kernel
theorem d_Model_fillAt_91 : decode b_Model_fillAt 91 = .ok (.iconst 0, 1) := by decide +kernel
theorem d_Model_fillAt_92 : decode b_Model_fillAt 92 = .ok (.istore 5, 2) := by decide +kernel
theorem d_Model_fillAt_94 : decode b_Model_fillAt 94 = .ok (.iload 5, 2) := by decide +kernel
theorem d_Model_fillAt_96 : decode b_Model_fillAt 96 = .ok (.aload_n 0, 1) := by decide +kernel
theorem d_Model_fillAt_97 : decode b_Model_fillAt 97 = .ok (.getfield 97, 3) := by decide +kernel
theorem d_Model_fillAt_100 : decode b_Model_fillAt 100 = .ok (.if_icmp .ge 61, 3) := by decide +kernel
theorem d_Model_fillAt_103 : decode b_Model_fillAt 103 = .ok (.aload_n 0, 1) := by decide +kernel
theorem d_Model_fillAt_104 : decode b_Model_fillAt 104 = .ok (.iload 5, 2) := by decide +kernel
theorem d_Model_fillAt_106 : decode b_Model_fillAt 106 = .ok (.iload_n 1, 1) := by decide +kernel
theorem d_Model_fillAt_107 : decode b_Model_fillAt 107 = .ok (.iload_n 2, 1) := by decide +kernel
theorem d_Model_fillAt_108 : decode b_Model_fillAt 108 = .ok (.iload_n 3, 1) := by decide +kernel
theorem d_Model_fillAt_109 : decode b_Model_fillAt 109 = .ok (.invokevirtual 134, 3) := by decide +kernel
theorem d_Model_fillAt_112 : decode b_Model_fillAt 112 = .ok (.ifCond .eq 43, 3) := by decide +kernel
theorem d_Model_fillAt_115 : decode b_Model_fillAt 115 = .ok (.aload_n 0, 1) := by decide +kernel
theorem d_Model_fillAt_116 : decode b_Model_fillAt 116 = .ok (.iload 4, 2) := by decide +kernel
theorem d_Model_fillAt_118 : decode b_Model_fillAt 118 = .ok (.iload_n 1, 1) := by decide +kernel
theorem d_Model_fillAt_119 : decode b_Model_fillAt 119 = .ok (.aload_n 0, 1) := by decide +kernel
theorem d_Model_fillAt_120 : decode b_Model_fillAt 120 = .ok (.getfield 17, 3) := by decide +kernel
theorem d_Model_fillAt_123 : decode b_Model_fillAt 123 = .ok (.iload 5, 2) := by decide +kernel
theorem d_Model_fillAt_125 : decode b_Model_fillAt 125 = .ok (.iaload, 1) := by decide +kernel
theorem d_Model_fillAt_126 : decode b_Model_fillAt 126 = .ok (.iadd, 1) := by decide +kernel
theorem d_Model_fillAt_127 : decode b_Model_fillAt 127 = .ok (.iload 5, 2) := by decide +kernel
theorem d_Model_fillAt_129 : decode b_Model_fillAt 129 = .ok (.iload_n 3, 1) := by decide +kernel
theorem d_Model_fillAt_130 : decode b_Model_fillAt 130 = .ok (.iconst 1, 1) := by decide +kernel
theorem d_Model_fillAt_131 : decode b_Model_fillAt 131 = .ok (.iload 5, 2) := by decide +kernel
theorem d_Model_fillAt_133 : decode b_Model_fillAt 133 = .ok (.ishl, 1) := by decide +kernel
theorem d_Model_fillAt_134 : decode b_Model_fillAt 134 = .ok (.ior, 1) := by decide +kernel
theorem d_Model_fillAt_135 : decode b_Model_fillAt 135 = .ok (.invokestatic 122, 3) := by decide +kernel
theorem d_Model_fillAt_138 : decode b_Model_fillAt 138 = .ok (.aload_n 0, 1) := by decide +kernel
theorem d_Model_fillAt_139 : decode b_Model_fillAt 139 = .ok (.iload 5, 2) := by decide +kernel
theorem d_Model_fillAt_141 : decode b_Model_fillAt 141 = .ok (.iload_n 2, 1) := by decide +kernel
theorem d_Model_fillAt_142 : decode b_Model_fillAt 142 = .ok (.invokevirtual 138, 3) := by decide +kernel
theorem d_Model_fillAt_145 : decode b_Model_fillAt 145 = .ok (.aload_n 0, 1) := by decide +kernel
theorem d_Model_fillAt_146 : decode b_Model_fillAt 146 = .ok (.getfield 24, 3) := by decide +kernel
theorem d_Model_fillAt_149 : decode b_Model_fillAt 149 = .ok (.iload 5, 2) := by decide +kernel
theorem d_Model_fillAt_151 : decode b_Model_fillAt 151 = .ok (.laload, 1) := by decide +kernel
theorem d_Model_fillAt_152 : decode b_Model_fillAt 152 = .ok (.invokevirtual 130, 3) := by decide +kernel
theorem d_Model_fillAt_155 : decode b_Model_fillAt 155 = .ok (.iinc 5 1, 3) := by decide +kernel
theorem d_Model_fillAt_158 : decode b_Model_fillAt 158 = .ok (.goto (-64), 3) := by decide +kernel
theorem d_Model_fillAt_161 : decode b_Model_fillAt 161 = .ok (.aload_n 0, 1) := by decide +kernel
theorem d_Model_fillAt_162 : decode b_Model_fillAt 162 = .ok (.getfield 73, 3) := by decide +kernel
theorem d_Model_fillAt_165 : decode b_Model_fillAt 165 = .ok (.istore 5, 2) := by decide +kernel
theorem d_Model_fillAt_167 : decode b_Model_fillAt 167 = .ok (.iload 5, 2) := by decide +kernel
theorem d_Model_fillAt_169 : decode b_Model_fillAt 169 = .ok (.aload_n 0, 1) := by decide +kernel
theorem d_Model_fillAt_170 : decode b_Model_fillAt 170 = .ok (.getfield 112, 3) := by decide +kernel
theorem d_Model_fillAt_173 : decode b_Model_fillAt 173 = .ok (.if_icmp .gt 44, 3) := by decide +kernel
theorem d_Model_fillAt_176 : decode b_Model_fillAt 176 = .ok (.iload 5, 2) := by decide +kernel
theorem d_Model_fillAt_178 : decode b_Model_fillAt 178 = .ok (.aload_n 0, 1) := by decide +kernel
theorem d_Model_fillAt_179 : decode b_Model_fillAt 179 = .ok (.getfield 51, 3) := by decide +kernel
theorem d_Model_fillAt_182 : decode b_Model_fillAt 182 = .ok (.iload_n 1, 1) := by decide +kernel
theorem d_Model_fillAt_183 : decode b_Model_fillAt 183 = .ok (.iaload, 1) := by decide +kernel
theorem d_Model_fillAt_184 : decode b_Model_fillAt 184 = .ok (.if_icmp .gt 33, 3) := by decide +kernel
theorem d_Model_fillAt_187 : decode b_Model_fillAt 187 = .ok (.iload_n 2, 1) := by decide +kernel
theorem d_Model_fillAt_188 : decode b_Model_fillAt 188 = .ok (.bipush 7, 2) := by decide +kernel
theorem d_Model_fillAt_190 : decode b_Model_fillAt 190 = .ok (.if_icmp .eq 27, 3) := by decide +kernel
theorem d_Model_fillAt_193 : decode b_Model_fillAt 193 = .ok (.aload_n 0, 1) := by decide +kernel
theorem d_Model_fillAt_194 : decode b_Model_fillAt 194 = .ok (.iload 4, 2) := by decide +kernel
theorem d_Model_fillAt_196 : decode b_Model_fillAt 196 = .ok (.iload_n 1, 1) := by decide +kernel
theorem d_Model_fillAt_197 : decode b_Model_fillAt 197 = .ok (.iload 5, 2) := by decide +kernel
theorem d_Model_fillAt_199 : decode b_Model_fillAt 199 = .ok (.iadd, 1) := by decide +kernel
theorem d_Model_fillAt_200 : decode b_Model_fillAt 200 = .ok (.bipush 7, 2) := by decide +kernel
theorem d_Model_fillAt_202 : decode b_Model_fillAt 202 = .ok (.iload_n 3, 1) := by decide +kernel
theorem d_Model_fillAt_203 : decode b_Model_fillAt 203 = .ok (.invokestatic 122, 3) := by decide +kernel
theorem d_Model_fillAt_206 : decode b_Model_fillAt 206 = .ok (.lconst 0, 1) := by decide +kernel
theorem d_Model_fillAt_207 : decode b_Model_fillAt 207 = .ok (.lconst 0, 1) := by decide +kernel
theorem d_Model_fillAt_208 : decode b_Model_fillAt 208 = .ok (.invokevirtual 130, 3) := by decide +kernel
theorem d_Model_fillAt_211 : decode b_Model_fillAt 211 = .ok (.iinc 5 1, 3) := by decide +kernel
theorem d_Model_fillAt_214 : decode b_Model_fillAt 214 = .ok (.goto (-47), 3) := by decide +kernel
theorem d_Model_fillAt_217 : decode b_Model_fillAt 217 = .ok (.return_, 1) := by decide +kernel
theorem d_Model_fill_0 : decode b_Model_fill 0 = .ok (.aload_n 0, 1) := by decide +kernel
theorem d_Model_fill_1 : decode b_Model_fill 1 = .ok (.invokevirtual 142, 3) := by decide +kernel
theorem d_Model_fill_4 : decode b_Model_fill 4 = .ok (.aload_n 0, 1) := by decide +kernel
theorem d_Model_fill_5 : decode b_Model_fill 5 = .ok (.getfield 69, 3) := by decide +kernel
theorem d_Model_fill_8 : decode b_Model_fill 8 = .ok (.istore_n 1, 1) := by decide +kernel
theorem d_Model_fill_9 : decode b_Model_fill 9 = .ok (.iload_n 1, 1) := by decide +kernel
theorem d_Model_fill_10 : decode b_Model_fill 10 = .ok (.ifCond .lt 48, 3) := by decide +kernel
theorem d_Model_fill_13 : decode b_Model_fill 13 = .ok (.iconst 0, 1) := by decide +kernel
theorem d_Model_fill_14 : decode b_Model_fill 14 = .ok (.istore_n 2, 1) := by decide +kernel
theorem d_Model_fill_15 : decode b_Model_fill 15 = .ok (.iload_n 2, 1) := by decide +kernel
theorem d_Model_fill_16 : decode b_Model_fill 16 = .ok (.bipush 8, 2) := by decide +kernel
theorem d_Model_fill_18 : decode b_Model_fill 18 = .ok (.if_icmp .ge 34, 3) := by decide +kernel
theorem d_Model_fill_21 : decode b_Model_fill 21 = .ok (.iconst 0, 1) := by decide +kernel
theorem d_Model_fill_22 : decode b_Model_fill 22 = .ok (.istore_n 3, 1) := by decide +kernel
theorem d_Model_fill_23 : decode b_Model_fill 23 = .ok (.iload_n 3, 1) := by decide +kernel
theorem d_Model_fill_24 : decode b_Model_fill 24 = .ok (.iconst 1, 1) := by decide +kernel
theorem d_Model_fill_25 : decode b_Model_fill 25 = .ok (.aload_n 0, 1) := by decide +kernel
theorem d_Model_fill_26 : decode b_Model_fill 26 = .ok (.getfield 97, 3) := by decide +kernel
theorem d_Model_fill_29 : decode b_Model_fill 29 = .ok (.ishl, 1) := by decide +kernel
theorem d_Model_fill_30 : decode b_Model_fill 30 = .ok (.if_icmp .ge 16, 3) := by decide +kernel
theorem d_Model_fill_33 : decode b_Model_fill 33 = .ok (.aload_n 0, 1) := by decide +kernel
theorem d_Model_fill_34 : decode b_Model_fill 34 = .ok (.iload_n 1, 1) := by decide +kernel
theorem d_Model_fill_35 : decode b_Model_fill 35 = .ok (.iload_n 2, 1) := by decide +kernel
theorem d_Model_fill_36 : decode b_Model_fill 36 = .ok (.iload_n 3, 1) := by decide +kernel
theorem d_Model_fill_37 : decode b_Model_fill 37 = .ok (.invokevirtual 145, 3) := by decide +kernel
theorem d_Model_fill_40 : decode b_Model_fill 40 = .ok (.iinc 3 1, 3) := by decide +kernel
theorem d_Model_fill_43 : decode b_Model_fill 43 = .ok (.goto (-20), 3) := by decide +kernel
theorem d_Model_fill_46 : decode b_Model_fill 46 = .ok (.iinc 2 1, 3) := by decide +kernel
theorem d_Model_fill_49 : decode b_Model_fill 49 = .ok (.goto (-34), 3) := by decide +kernel
theorem d_Model_fill_52 : decode b_Model_fill 52 = .ok (.iinc 1 (-1), 3) := by decide +kernel
theorem d_Model_fill_55 : decode b_Model_fill 55 = .ok (.goto (-46), 3) := by decide +kernel
theorem d_Model_fill_58 : decode b_Model_fill 58 = .ok (.return_, 1) := by decide +kernel
theorem d_Model_goesOn_0 : decode b_Model_goesOn 0 = .ok (.aload_n 0, 1) := by decide +kernel
theorem d_Model_goesOn_1 : decode b_Model_goesOn 1 = .ok (.getfield 42, 3) := by decide +kernel
theorem d_Model_goesOn_4 : decode b_Model_goesOn 4 = .ok (.iload_n 2, 1) := by decide +kernel
theorem d_Model_goesOn_5 : decode b_Model_goesOn 5 = .ok (.laload, 1) := by decide +kernel
theorem d_Model_goesOn_6 : decode b_Model_goesOn 6 = .ok (.lconst 0, 1) := by decide +kernel
theorem d_Model_goesOn_7 : decode b_Model_goesOn 7 = .ok (.lcmp, 1) := by decide +kernel
theorem d_Model_goesOn_8 : decode b_Model_goesOn 8 = .ok (.ifCond .lt 44, 3) := by decide +kernel
theorem d_Model_goesOn_11 : decode b_Model_goesOn 11 = .ok (.aload_n 0, 1) := by decide +kernel
theorem d_Model_goesOn_12 : decode b_Model_goesOn 12 = .ok (.getfield 42, 3) := by decide +kernel
theorem d_Model_goesOn_15 : decode b_Model_goesOn 15 = .ok (.iload_n 2, 1) := by decide +kernel
theorem d_Model_goesOn_16 : decode b_Model_goesOn 16 = .ok (.laload, 1) := by decide +kernel
theorem d_Model_goesOn_17 : decode b_Model_goesOn 17 = .ok (.lload_n 3, 1) := by decide +kernel
theorem d_Model_goesOn_18 : decode b_Model_goesOn 18 = .ok (.ladd, 1) := by decide +kernel
theorem d_Model_goesOn_19 : decode b_Model_goesOn 19 = .ok (.aload_n 0, 1) := by decide +kernel
theorem d_Model_goesOn_20 : decode b_Model_goesOn 20 = .ok (.getfield 42, 3) := by decide +kernel
theorem d_Model_goesOn_23 : decode b_Model_goesOn 23 = .ok (.iload_n 1, 1) := by decide +kernel
theorem d_Model_goesOn_24 : decode b_Model_goesOn 24 = .ok (.laload, 1) := by decide +kernel
theorem d_Model_goesOn_25 : decode b_Model_goesOn 25 = .ok (.lcmp, 1) := by decide +kernel
theorem d_Model_goesOn_26 : decode b_Model_goesOn 26 = .ok (.ifCond .ne 26, 3) := by decide +kernel
theorem d_Model_goesOn_29 : decode b_Model_goesOn 29 = .ok (.aload_n 0, 1) := by decide +kernel
theorem d_Model_goesOn_30 : decode b_Model_goesOn 30 = .ok (.getfield 45, 3) := by decide +kernel
theorem d_Model_goesOn_33 : decode b_Model_goesOn 33 = .ok (.iload_n 2, 1) := by decide +kernel
theorem d_Model_goesOn_34 : decode b_Model_goesOn 34 = .ok (.laload, 1) := by decide +kernel
theorem d_Model_goesOn_35 : decode b_Model_goesOn 35 = .ok (.lload 5, 2) := by decide +kernel
theorem d_Model_goesOn_37 : decode b_Model_goesOn 37 = .ok (.ladd, 1) := by decide +kernel
theorem d_Model_goesOn_38 : decode b_Model_goesOn 38 = .ok (.aload_n 0, 1) := by decide +kernel
theorem d_Model_goesOn_39 : decode b_Model_goesOn 39 = .ok (.getfield 45, 3) := by decide +kernel
theorem d_Model_goesOn_42 : decode b_Model_goesOn 42 = .ok (.iload_n 1, 1) := by decide +kernel
theorem d_Model_goesOn_43 : decode b_Model_goesOn 43 = .ok (.laload, 1) := by decide +kernel
theorem d_Model_goesOn_44 : decode b_Model_goesOn 44 = .ok (.lcmp, 1) := by decide +kernel
theorem d_Model_goesOn_45 : decode b_Model_goesOn 45 = .ok (.ifCond .ne 7, 3) := by decide +kernel
theorem d_Model_goesOn_48 : decode b_Model_goesOn 48 = .ok (.iconst 1, 1) := by decide +kernel
theorem d_Model_goesOn_49 : decode b_Model_goesOn 49 = .ok (.goto 4, 3) := by decide +kernel
theorem d_Model_goesOn_52 : decode b_Model_goesOn 52 = .ok (.iconst 0, 1) := by decide +kernel
theorem d_Model_goesOn_53 : decode b_Model_goesOn 53 = .ok (.ireturn, 1) := by decide +kernel
theorem d_Model_add_0 : decode b_Model_add 0 = .ok (.aload_n 0, 1) := by decide +kernel
theorem d_Model_add_1 : decode b_Model_add 1 = .ok (.getfield 60, 3) := by decide +kernel
theorem d_Model_add_4 : decode b_Model_add 4 = .ok (.aload_n 0, 1) := by decide +kernel
theorem d_Model_add_5 : decode b_Model_add 5 = .ok (.getfield 149, 3) := by decide +kernel
theorem d_Model_add_8 : decode b_Model_add 8 = .ok (.iload_n 1, 1) := by decide +kernel
theorem d_Model_add_9 : decode b_Model_add 9 = .ok (.iastore, 1) := by decide +kernel
theorem d_Model_add_10 : decode b_Model_add 10 = .ok (.aload_n 0, 1) := by decide +kernel
theorem d_Model_add_11 : decode b_Model_add 11 = .ok (.getfield 63, 3) := by decide +kernel
theorem d_Model_add_14 : decode b_Model_add 14 = .ok (.aload_n 0, 1) := by decide +kernel
theorem d_Model_add_15 : decode b_Model_add 15 = .ok (.getfield 149, 3) := by decide +kernel
theorem d_Model_add_18 : decode b_Model_add 18 = .ok (.iload_n 2, 1) := by decide +kernel
theorem d_Model_add_19 : decode b_Model_add 19 = .ok (.iastore, 1) := by decide +kernel
theorem d_Model_add_20 : decode b_Model_add 20 = .ok (.aload_n 0, 1) := by decide +kernel
theorem d_Model_add_21 : decode b_Model_add 21 = .ok (.getfield 66, 3) := by decide +kernel
theorem d_Model_add_24 : decode b_Model_add 24 = .ok (.aload_n 0, 1) := by decide +kernel
theorem d_Model_add_25 : decode b_Model_add 25 = .ok (.getfield 149, 3) := by decide +kernel
theorem d_Model_add_28 : decode b_Model_add 28 = .ok (.iload_n 3, 1) := by decide +kernel
theorem d_Model_add_29 : decode b_Model_add 29 = .ok (.iastore, 1) := by decide +kernel
theorem d_Model_add_30 : decode b_Model_add 30 = .ok (.aload_n 0, 1) := by decide +kernel
theorem d_Model_add_31 : decode b_Model_add 31 = .ok (.dup, 1) := by decide +kernel
theorem d_Model_add_32 : decode b_Model_add 32 = .ok (.getfield 149, 3) := by decide +kernel
theorem d_Model_add_35 : decode b_Model_add 35 = .ok (.iconst 1, 1) := by decide +kernel
theorem d_Model_add_36 : decode b_Model_add 36 = .ok (.iadd, 1) := by decide +kernel
theorem d_Model_add_37 : decode b_Model_add 37 = .ok (.putfield 149, 3) := by decide +kernel
theorem d_Model_add_40 : decode b_Model_add 40 = .ok (.return_, 1) := by decide +kernel
theorem d_Model_walk_0 : decode b_Model_walk 0 = .ok (.aload_n 0, 1) := by decide +kernel
theorem d_Model_walk_1 : decode b_Model_walk 1 = .ok (.iconst 0, 1) := by decide +kernel
theorem d_Model_walk_2 : decode b_Model_walk 2 = .ok (.putfield 149, 3) := by decide +kernel
theorem d_Model_walk_5 : decode b_Model_walk 5 = .ok (.iconst 0, 1) := by decide +kernel
theorem d_Model_walk_6 : decode b_Model_walk 6 = .ok (.istore_n 1, 1) := by decide +kernel
theorem d_Model_walk_7 : decode b_Model_walk 7 = .ok (.bipush 6, 2) := by decide +kernel
theorem d_Model_walk_9 : decode b_Model_walk 9 = .ok (.istore_n 2, 1) := by decide +kernel
theorem d_Model_walk_10 : decode b_Model_walk 10 = .ok (.iconst 0, 1) := by decide +kernel
theorem d_Model_walk_11 : decode b_Model_walk 11 = .ok (.istore_n 3, 1) := by decide +kernel
theorem d_Model_walk_12 : decode b_Model_walk 12 = .ok (.iload_n 1, 1) := by decide +kernel
theorem d_Model_walk_13 : decode b_Model_walk 13 = .ok (.aload_n 0, 1) := by decide +kernel
theorem d_Model_walk_14 : decode b_Model_walk 14 = .ok (.getfield 69, 3) := by decide +kernel
theorem d_Model_walk_17 : decode b_Model_walk 17 = .ok (.if_icmp .ge 213, 3) := by decide +kernel
theorem d_Model_walk_20 : decode b_Model_walk 20 = .ok (.iload_n 1, 1) := by decide +kernel
theorem d_Model_walk_21 : decode b_Model_walk 21 = .ok (.iload_n 2, 1) := by decide +kernel
theorem d_Model_walk_22 : decode b_Model_walk 22 = .ok (.iload_n 3, 1) := by decide +kernel
theorem d_Model_walk_23 : decode b_Model_walk 23 = .ok (.invokestatic 122, 3) := by decide +kernel
theorem d_Model_walk_26 : decode b_Model_walk 26 = .ok (.istore 4, 2) := by decide +kernel
theorem d_Model_walk_28 : decode b_Model_walk 28 = .ok (.aload_n 0, 1) := by decide +kernel
theorem d_Model_walk_29 : decode b_Model_walk 29 = .ok (.getfield 7, 3) := by decide +kernel
theorem d_Model_walk_32 : decode b_Model_walk 32 = .ok (.iload_n 1, 1) := by decide +kernel
theorem d_Model_walk_33 : decode b_Model_walk 33 = .ok (.baload, 1) := by decide +kernel
theorem d_Model_walk_34 : decode b_Model_walk 34 = .ok (.ifCond .eq 15, 3) := by decide +kernel
theorem d_Model_walk_37 : decode b_Model_walk 37 = .ok (.aload_n 0, 1) := by decide +kernel
theorem d_Model_walk_38 : decode b_Model_walk 38 = .ok (.iload_n 1, 1) := by decide +kernel
theorem d_Model_walk_39 : decode b_Model_walk 39 = .ok (.invokevirtual 126, 3) := by decide +kernel
theorem d_Model_walk_42 : decode b_Model_walk 42 = .ok (.istore_n 1, 1) := by decide +kernel
theorem d_Model_walk_43 : decode b_Model_walk 43 = .ok (.bipush 6, 2) := by decide +kernel
theorem d_Model_walk_45 : decode b_Model_walk 45 = .ok (.istore_n 2, 1) := by decide +kernel
theorem d_Model_walk_46 : decode b_Model_walk 46 = .ok (.goto 181, 3) := by decide +kernel
theorem d_Model_walk_49 : decode b_Model_walk 49 = .ok (.iconst 0, 1) := by decide +kernel
theorem d_Model_walk_50 : decode b_Model_walk 50 = .ok (.istore 5, 2) := by decide +kernel
theorem d_Model_walk_52 : decode b_Model_walk 52 = .ok (.iload 5, 2) := by decide +kernel
theorem d_Model_walk_54 : decode b_Model_walk 54 = .ok (.aload_n 0, 1) := by decide +kernel
theorem d_Model_walk_55 : decode b_Model_walk 55 = .ok (.getfield 97, 3) := by decide +kernel
theorem d_Model_walk_58 : decode b_Model_walk 58 = .ok (.if_icmp .ge 64, 3) := by decide +kernel
theorem d_Model_walk_61 : decode b_Model_walk 61 = .ok (.aload_n 0, 1) := by decide +kernel
theorem d_Model_walk_62 : decode b_Model_walk 62 = .ok (.iload 5, 2) := by decide +kernel
theorem d_Model_walk_64 : decode b_Model_walk 64 = .ok (.iload_n 1, 1) := by decide +kernel
theorem d_Model_walk_65 : decode b_Model_walk 65 = .ok (.iload_n 2, 1) := by decide +kernel
theorem d_Model_walk_66 : decode b_Model_walk 66 = .ok (.iload_n 3, 1) := by decide +kernel
theorem d_Model_walk_67 : decode b_Model_walk 67 = .ok (.invokevirtual 134, 3) := by decide +kernel
theorem d_Model_walk_70 : decode b_Model_walk 70 = .ok (.ifCond .eq 46, 3) := by decide +kernel
theorem d_Model_walk_73 : decode b_Model_walk 73 = .ok (.aload_n 0, 1) := by decide +kernel
theorem d_Model_walk_74 : decode b_Model_walk 74 = .ok (.iload 4, 2) := by decide +kernel
theorem d_Model_walk_76 : decode b_Model_walk 76 = .ok (.iload_n 1, 1) := by decide +kernel
theorem d_Model_walk_77 : decode b_Model_walk 77 = .ok (.aload_n 0, 1) := by decide +kernel
theorem d_Model_walk_78 : decode b_Model_walk 78 = .ok (.getfield 17, 3) := by decide +kernel
theorem d_Model_walk_81 : decode b_Model_walk 81 = .ok (.iload 5, 2) := by decide +kernel
theorem d_Model_walk_83 : decode b_Model_walk 83 = .ok (.iaload, 1) := by decide +kernel
theorem d_Model_walk_84 : decode b_Model_walk 84 = .ok (.iadd, 1) := by decide +kernel
theorem d_Model_walk_85 : decode b_Model_walk 85 = .ok (.iload 5, 2) := by decide +kernel
theorem d_Model_walk_87 : decode b_Model_walk 87 = .ok (.iload_n 3, 1) := by decide +kernel
theorem d_Model_walk_88 : decode b_Model_walk 88 = .ok (.iconst 1, 1) := by decide +kernel
theorem d_Model_walk_89 : decode b_Model_walk 89 = .ok (.iload 5, 2) := by decide +kernel
theorem d_Model_walk_91 : decode b_Model_walk 91 = .ok (.ishl, 1) := by decide +kernel
theorem d_Model_walk_92 : decode b_Model_walk 92 = .ok (.ior, 1) := by decide +kernel
theorem d_Model_walk_93 : decode b_Model_walk 93 = .ok (.invokestatic 122, 3) := by decide +kernel
theorem d_Model_walk_96 : decode b_Model_walk 96 = .ok (.aload_n 0, 1) := by decide +kernel
theorem d_Model_walk_97 : decode b_Model_walk 97 = .ok (.iload 5, 2) := by decide +kernel
theorem d_Model_walk_99 : decode b_Model_walk 99 = .ok (.iload_n 2, 1) := by decide +kernel
theorem d_Model_walk_100 : decode b_Model_walk 100 = .ok (.invokevirtual 138, 3) := by decide +kernel
theorem d_Model_walk_103 : decode b_Model_walk 103 = .ok (.aload_n 0, 1) := by decide +kernel
theorem d_Model_walk_104 : decode b_Model_walk 104 = .ok (.getfield 24, 3) := by decide +kernel
theorem d_Model_walk_107 : decode b_Model_walk 107 = .ok (.iload 5, 2) := by decide +kernel
theorem d_Model_walk_109 : decode b_Model_walk 109 = .ok (.laload, 1) := by decide +kernel
theorem d_Model_walk_110 : decode b_Model_walk 110 = .ok (.invokevirtual 152, 3) := by decide +kernel
theorem d_Model_walk_113 : decode b_Model_walk 113 = .ok (.ifCond .ne 9, 3) := by decide +kernel
theorem d_Model_walk_116 : decode b_Model_walk 116 = .ok (.iinc 5 1, 3) := by decide +kernel
theorem d_Model_walk_119 : decode b_Model_walk 119 = .ok (.goto (-67), 3) := by decide +kernel
theorem d_Model_walk_122 : decode b_Model_walk 122 = .ok (.iload 5, 2) := by decide +kernel
theorem d_Model_walk_124 : decode b_Model_walk 124 = .ok (.aload_n 0, 1) := by decide +kernel
theorem d_Model_walk_125 : decode b_Model_walk 125 = .ok (.getfield 97, 3) := by decide +kernel
theorem d_Model_walk_128 : decode b_Model_walk 128 = .ok (.if_icmp .ge 40, 3) := by decide +kernel
theorem d_Model_walk_131 : decode b_Model_walk 131 = .ok (.aload_n 0, 1) := by decide +kernel
theorem d_Model_walk_132 : decode b_Model_walk 132 = .ok (.iload 5, 2) := by decide +kernel
theorem d_Model_walk_134 : decode b_Model_walk 134 = .ok (.iload_n 1, 1) := by decide +kernel
theorem d_Model_walk_135 : decode b_Model_walk 135 = .ok (.aload_n 0, 1) := by decide +kernel
theorem d_Model_walk_136 : decode b_Model_walk 136 = .ok (.getfield 17, 3) := by decide +kernel
theorem d_Model_walk_139 : decode b_Model_walk 139 = .ok (.iload 5, 2) := by decide +kernel
theorem d_Model_walk_141 : decode b_Model_walk 141 = .ok (.iaload, 1) := by decide +kernel
theorem d_Model_walk_142 : decode b_Model_walk 142 = .ok (.invokevirtual 156, 3) := by decide +kernel
theorem d_Model_walk_145 : decode b_Model_walk 145 = .ok (.iload_n 1, 1) := by decide +kernel
theorem d_Model_walk_146 : decode b_Model_walk 146 = .ok (.aload_n 0, 1) := by decide +kernel
theorem d_Model_walk_147 : decode b_Model_walk 147 = .ok (.getfield 17, 3) := by decide +kernel
theorem d_Model_walk_150 : decode b_Model_walk 150 = .ok (.iload 5, 2) := by decide +kernel
theorem d_Model_walk_152 : decode b_Model_walk 152 = .ok (.iaload, 1) := by decide +kernel
theorem d_Model_walk_153 : decode b_Model_walk 153 = .ok (.iadd, 1) := by decide +kernel
theorem d_Model_walk_154 : decode b_Model_walk 154 = .ok (.istore_n 1, 1) := by decide +kernel
theorem d_Model_walk_155 : decode b_Model_walk 155 = .ok (.iload 5, 2) := by decide +kernel
theorem d_Model_walk_157 : decode b_Model_walk 157 = .ok (.istore_n 2, 1) := by decide +kernel
theorem d_Model_walk_158 : decode b_Model_walk 158 = .ok (.iload_n 3, 1) := by decide +kernel
theorem d_Model_walk_159 : decode b_Model_walk 159 = .ok (.iconst 1, 1) := by decide +kernel
theorem d_Model_walk_160 : decode b_Model_walk 160 = .ok (.iload 5, 2) := by decide +kernel
theorem d_Model_walk_162 : decode b_Model_walk 162 = .ok (.ishl, 1) := by decide +kernel
theorem d_Model_walk_163 : decode b_Model_walk 163 = .ok (.ior, 1) := by decide +kernel
theorem d_Model_walk_164 : decode b_Model_walk 164 = .ok (.istore_n 3, 1) := by decide +kernel
theorem d_Model_walk_165 : decode b_Model_walk 165 = .ok (.goto 62, 3) := by decide +kernel
theorem d_Model_walk_168 : decode b_Model_walk 168 = .ok (.aload_n 0, 1) := by decide +kernel
theorem d_Model_walk_169 : decode b_Model_walk 169 = .ok (.getfield 73, 3) := by decide +kernel
theorem d_Model_walk_172 : decode b_Model_walk 172 = .ok (.istore 6, 2) := by decide +kernel
theorem d_Model_walk_174 : decode b_Model_walk 174 = .ok (.aload_n 0, 1) := by decide +kernel
theorem d_Model_walk_175 : decode b_Model_walk 175 = .ok (.iload_n 1, 1) := by decide +kernel
theorem d_Model_walk_176 : decode b_Model_walk 176 = .ok (.iload 6, 2) := by decide +kernel
theorem d_Model_walk_178 : decode b_Model_walk 178 = .ok (.invokevirtual 119, 3) := by decide +kernel
theorem d_Model_walk_181 : decode b_Model_walk 181 = .ok (.ifCond .eq 24, 3) := by decide +kernel
theorem d_Model_walk_184 : decode b_Model_walk 184 = .ok (.aload_n 0, 1) := by decide +kernel
theorem d_Model_walk_185 : decode b_Model_walk 185 = .ok (.iload 4, 2) := by decide +kernel
theorem d_Model_walk_187 : decode b_Model_walk 187 = .ok (.iload_n 1, 1) := by decide +kernel
theorem d_Model_walk_188 : decode b_Model_walk 188 = .ok (.iload 6, 2) := by decide +kernel
theorem d_Model_walk_190 : decode b_Model_walk 190 = .ok (.iadd, 1) := by decide +kernel
theorem d_Model_walk_191 : decode b_Model_walk 191 = .ok (.bipush 7, 2) := by decide +kernel
theorem d_Model_walk_193 : decode b_Model_walk 193 = .ok (.iload_n 3, 1) := by decide +kernel
theorem d_Model_walk_194 : decode b_Model_walk 194 = .ok (.invokestatic 122, 3) := by decide +kernel
theorem d_Model_walk_197 : decode b_Model_walk 197 = .ok (.lconst 0, 1) := by decide +kernel
theorem d_Model_walk_198 : decode b_Model_walk 198 = .ok (.lconst 0, 1) := by decide +kernel
theorem d_Model_walk_199 : decode b_Model_walk 199 = .ok (.invokevirtual 152, 3) := by decide +kernel
theorem d_Model_walk_202 : decode b_Model_walk 202 = .ok (.ifCond .ne 9, 3) := by decide +kernel
theorem d_Model_walk_205 : decode b_Model_walk 205 = .ok (.iinc 6 1, 3) := by decide +kernel
theorem d_Model_walk_208 : decode b_Model_walk 208 = .ok (.goto (-34), 3) := by decide +kernel
theorem d_Model_walk_211 : decode b_Model_walk 211 = .ok (.aload_n 0, 1) := by decide +kernel
theorem d_Model_walk_212 : decode b_Model_walk 212 = .ok (.iconst (-1), 1) := by decide +kernel
theorem d_Model_walk_213 : decode b_Model_walk 213 = .ok (.iload_n 1, 1) := by decide +kernel
theorem d_Model_walk_214 : decode b_Model_walk 214 = .ok (.iload 6, 2) := by decide +kernel
theorem d_Model_walk_216 : decode b_Model_walk 216 = .ok (.invokevirtual 156, 3) := by decide +kernel
theorem d_Model_walk_219 : decode b_Model_walk 219 = .ok (.iload_n 1, 1) := by decide +kernel
theorem d_Model_walk_220 : decode b_Model_walk 220 = .ok (.iload 6, 2) := by decide +kernel
theorem d_Model_walk_222 : decode b_Model_walk 222 = .ok (.iadd, 1) := by decide +kernel
theorem d_Model_walk_223 : decode b_Model_walk 223 = .ok (.istore_n 1, 1) := by decide +kernel
theorem d_Model_walk_224 : decode b_Model_walk 224 = .ok (.bipush 7, 2) := by decide +kernel
theorem d_Model_walk_226 : decode b_Model_walk 226 = .ok (.istore_n 2, 1) := by decide +kernel
theorem d_Model_walk_227 : decode b_Model_walk 227 = .ok (.goto (-215), 3) := by decide +kernel
theorem d_Model_walk_230 : decode b_Model_walk 230 = .ok (.iload_n 3, 1) := by decide +kernel
theorem d_Model_walk_231 : decode b_Model_walk 231 = .ok (.ireturn, 1) := by decide +kernel
theorem d_Model_size_0 : decode b_Model_size 0 = .ok (.iconst 0, 1) := by decide +kernel
theorem d_Model_size_1 : decode b_Model_size 1 = .ok (.istore_n 1, 1) := by decide +kernel
theorem d_Model_size_2 : decode b_Model_size 2 = .ok (.iconst 0, 1) := by decide +kernel
theorem d_Model_size_3 : decode b_Model_size 3 = .ok (.istore_n 2, 1) := by decide +kernel
theorem d_Model_size_4 : decode b_Model_size 4 = .ok (.iload_n 2, 1) := by decide +kernel
theorem d_Model_size_5 : decode b_Model_size 5 = .ok (.bipush 6, 2) := by decide +kernel
theorem d_Model_size_7 : decode b_Model_size 7 = .ok (.if_icmp .ge 17, 3) := by decide +kernel
theorem d_Model_size_10 : decode b_Model_size 10 = .ok (.iload_n 1, 1) := by decide +kernel
theorem d_Model_size_11 : decode b_Model_size 11 = .ok (.iload_n 0, 1) := by decide +kernel
theorem d_Model_size_12 : decode b_Model_size 12 = .ok (.iload_n 2, 1) := by decide +kernel
theorem d_Model_size_13 : decode b_Model_size 13 = .ok (.ishr, 1) := by decide +kernel
theorem d_Model_size_14 : decode b_Model_size 14 = .ok (.iconst 1, 1) := by decide +kernel
theorem d_Model_size_15 : decode b_Model_size 15 = .ok (.iand, 1) := by decide +kernel
theorem d_Model_size_16 : decode b_Model_size 16 = .ok (.iadd, 1) := by decide +kernel
theorem d_Model_size_17 : decode b_Model_size 17 = .ok (.istore_n 1, 1) := by decide +kernel
theorem d_Model_size_18 : decode b_Model_size 18 = .ok (.iinc 2 1, 3) := by decide +kernel
theorem d_Model_size_21 : decode b_Model_size 21 = .ok (.goto (-17), 3) := by decide +kernel
theorem d_Model_size_24 : decode b_Model_size 24 = .ok (.iload_n 1, 1) := by decide +kernel
theorem d_Model_size_25 : decode b_Model_size 25 = .ok (.ireturn, 1) := by decide +kernel
theorem d_Model_find_0 : decode b_Model_find 0 = .ok (.iconst 0, 1) := by decide +kernel
theorem d_Model_find_1 : decode b_Model_find 1 = .ok (.istore_n 2, 1) := by decide +kernel
theorem d_Model_find_2 : decode b_Model_find 2 = .ok (.iload_n 2, 1) := by decide +kernel
theorem d_Model_find_3 : decode b_Model_find 3 = .ok (.iconst 1, 1) := by decide +kernel
theorem d_Model_find_4 : decode b_Model_find 4 = .ok (.aload_n 0, 1) := by decide +kernel
theorem d_Model_find_5 : decode b_Model_find 5 = .ok (.getfield 97, 3) := by decide +kernel
theorem d_Model_find_8 : decode b_Model_find 8 = .ok (.ishl, 1) := by decide +kernel
theorem d_Model_find_9 : decode b_Model_find 9 = .ok (.if_icmp .ge 121, 3) := by decide +kernel
theorem d_Model_find_12 : decode b_Model_find 12 = .ok (.aload_n 0, 1) := by decide +kernel
theorem d_Model_find_13 : decode b_Model_find 13 = .ok (.getfield 48, 3) := by decide +kernel
theorem d_Model_find_16 : decode b_Model_find 16 = .ok (.iload_n 2, 1) := by decide +kernel
theorem d_Model_find_17 : decode b_Model_find 17 = .ok (.iconst 1, 1) := by decide +kernel
theorem d_Model_find_18 : decode b_Model_find 18 = .ok (.bastore, 1) := by decide +kernel
theorem d_Model_find_19 : decode b_Model_find 19 = .ok (.iconst 0, 1) := by decide +kernel
theorem d_Model_find_20 : decode b_Model_find 20 = .ok (.istore_n 3, 1) := by decide +kernel
theorem d_Model_find_21 : decode b_Model_find 21 = .ok (.iload_n 3, 1) := by decide +kernel
theorem d_Model_find_22 : decode b_Model_find 22 = .ok (.aload_n 0, 1) := by decide +kernel
theorem d_Model_find_23 : decode b_Model_find 23 = .ok (.getfield 97, 3) := by decide +kernel
theorem d_Model_find_26 : decode b_Model_find 26 = .ok (.if_icmp .ge 47, 3) := by decide +kernel
theorem d_Model_find_29 : decode b_Model_find 29 = .ok (.aload_n 0, 1) := by decide +kernel
theorem d_Model_find_30 : decode b_Model_find 30 = .ok (.getfield 48, 3) := by decide +kernel
theorem d_Model_find_33 : decode b_Model_find 33 = .ok (.iload_n 2, 1) := by decide +kernel
theorem d_Model_find_34 : decode b_Model_find 34 = .ok (.aload_n 0, 1) := by decide +kernel
theorem d_Model_find_35 : decode b_Model_find 35 = .ok (.getfield 48, 3) := by decide +kernel
theorem d_Model_find_38 : decode b_Model_find 38 = .ok (.iload_n 2, 1) := by decide +kernel
theorem d_Model_find_39 : decode b_Model_find 39 = .ok (.baload, 1) := by decide +kernel
theorem d_Model_find_40 : decode b_Model_find 40 = .ok (.ifCond .eq 25, 3) := by decide +kernel
theorem d_Model_find_43 : decode b_Model_find 43 = .ok (.aload_n 0, 1) := by decide +kernel
theorem d_Model_find_44 : decode b_Model_find 44 = .ok (.getfield 30, 3) := by decide +kernel
theorem d_Model_find_47 : decode b_Model_find 47 = .ok (.iload_n 3, 1) := by decide +kernel
theorem d_Model_find_48 : decode b_Model_find 48 = .ok (.baload, 1) := by decide +kernel
theorem d_Model_find_49 : decode b_Model_find 49 = .ok (.ifCond .eq 12, 3) := by decide +kernel
theorem d_Model_find_52 : decode b_Model_find 52 = .ok (.iload_n 2, 1) := by decide +kernel
theorem d_Model_find_53 : decode b_Model_find 53 = .ok (.iload_n 3, 1) := by decide +kernel
theorem d_Model_find_54 : decode b_Model_find 54 = .ok (.ishr, 1) := by decide +kernel
theorem d_Model_find_55 : decode b_Model_find 55 = .ok (.iconst 1, 1) := by decide +kernel
theorem d_Model_find_56 : decode b_Model_find 56 = .ok (.iand, 1) := by decide +kernel
theorem d_Model_find_57 : decode b_Model_find 57 = .ok (.iconst 1, 1) := by decide +kernel
theorem d_Model_find_58 : decode b_Model_find 58 = .ok (.if_icmp .ne 7, 3) := by decide +kernel
theorem d_Model_find_61 : decode b_Model_find 61 = .ok (.iconst 1, 1) := by decide +kernel
theorem d_Model_find_62 : decode b_Model_find 62 = .ok (.goto 4, 3) := by decide +kernel
theorem d_Model_find_65 : decode b_Model_find 65 = .ok (.iconst 0, 1) := by decide +kernel
theorem d_Model_find_66 : decode b_Model_find 66 = .ok (.bastore, 1) := by decide +kernel
theorem d_Model_find_67 : decode b_Model_find 67 = .ok (.iinc 3 1, 3) := by decide +kernel
theorem d_Model_find_70 : decode b_Model_find 70 = .ok (.goto (-49), 3) := by decide +kernel
theorem d_Model_find_73 : decode b_Model_find 73 = .ok (.iconst 0, 1) := by decide +kernel
theorem d_Model_find_74 : decode b_Model_find 74 = .ok (.istore_n 3, 1) := by decide +kernel
theorem d_Model_find_75 : decode b_Model_find 75 = .ok (.iload_n 3, 1) := by decide +kernel
theorem d_Model_find_76 : decode b_Model_find 76 = .ok (.aload_n 0, 1) := by decide +kernel
theorem d_Model_find_77 : decode b_Model_find 77 = .ok (.getfield 159, 3) := by decide +kernel
theorem d_Model_find_80 : decode b_Model_find 80 = .ok (.if_icmp .ge 44, 3) := by decide +kernel
theorem d_Model_find_83 : decode b_Model_find 83 = .ok (.aload_n 0, 1) := by decide +kernel
theorem d_Model_find_84 : decode b_Model_find 84 = .ok (.getfield 48, 3) := by decide +kernel
theorem d_Model_find_87 : decode b_Model_find 87 = .ok (.iload_n 2, 1) := by decide +kernel
theorem d_Model_find_88 : decode b_Model_find 88 = .ok (.aload_n 0, 1) := by decide +kernel
theorem d_Model_find_89 : decode b_Model_find 89 = .ok (.getfield 48, 3) := by decide +kernel
theorem d_Model_find_92 : decode b_Model_find 92 = .ok (.iload_n 2, 1) := by decide +kernel
theorem d_Model_find_93 : decode b_Model_find 93 = .ok (.baload, 1) := by decide +kernel
theorem d_Model_find_94 : decode b_Model_find 94 = .ok (.ifCond .eq 22, 3) := by decide +kernel
theorem d_Model_find_97 : decode b_Model_find 97 = .ok (.iload_n 2, 1) := by decide +kernel
theorem d_Model_find_98 : decode b_Model_find 98 = .ok (.aload_n 0, 1) := by decide +kernel
theorem d_Model_find_99 : decode b_Model_find 99 = .ok (.getfield 57, 3) := by decide +kernel
theorem d_Model_find_102 : decode b_Model_find 102 = .ok (.iload_n 3, 1) := by decide +kernel
theorem d_Model_find_103 : decode b_Model_find 103 = .ok (.iaload, 1) := by decide +kernel
theorem d_Model_find_104 : decode b_Model_find 104 = .ok (.ixor, 1) := by decide +kernel
theorem d_Model_find_105 : decode b_Model_find 105 = .ok (.invokestatic 162, 3) := by decide +kernel
theorem d_Model_find_108 : decode b_Model_find 108 = .ok (.iload_n 1, 1) := by decide +kernel
theorem d_Model_find_109 : decode b_Model_find 109 = .ok (.if_icmp .lt 7, 3) := by decide +kernel
theorem d_Model_find_112 : decode b_Model_find 112 = .ok (.iconst 1, 1) := by decide +kernel
theorem d_Model_find_113 : decode b_Model_find 113 = .ok (.goto 4, 3) := by decide +kernel
theorem d_Model_find_116 : decode b_Model_find 116 = .ok (.iconst 0, 1) := by decide +kernel
theorem d_Model_find_117 : decode b_Model_find 117 = .ok (.bastore, 1) := by decide +kernel
theorem d_Model_find_118 : decode b_Model_find 118 = .ok (.iinc 3 1, 3) := by decide +kernel
theorem d_Model_find_121 : decode b_Model_find 121 = .ok (.goto (-46), 3) := by decide +kernel
theorem d_Model_find_124 : decode b_Model_find 124 = .ok (.iinc 2 1, 3) := by decide +kernel
theorem d_Model_find_127 : decode b_Model_find 127 = .ok (.goto (-125), 3) := by decide +kernel
theorem d_Model_find_130 : decode b_Model_find 130 = .ok (.aload_n 0, 1) := by decide +kernel
theorem d_Model_find_131 : decode b_Model_find 131 = .ok (.invokevirtual 165, 3) := by decide +kernel
theorem d_Model_find_134 : decode b_Model_find 134 = .ok (.iconst 0, 1) := by decide +kernel
theorem d_Model_find_135 : decode b_Model_find 135 = .ok (.bipush 6, 2) := by decide +kernel
theorem d_Model_find_137 : decode b_Model_find 137 = .ok (.iconst 0, 1) := by decide +kernel
theorem d_Model_find_138 : decode b_Model_find 138 = .ok (.invokestatic 122, 3) := by decide +kernel
theorem d_Model_find_141 : decode b_Model_find 141 = .ok (.istore_n 2, 1) := by decide +kernel
theorem d_Model_find_142 : decode b_Model_find 142 = .ok (.aload_n 0, 1) := by decide +kernel
theorem d_Model_find_143 : decode b_Model_find 143 = .ok (.getfield 42, 3) := by decide +kernel
theorem d_Model_find_146 : decode b_Model_find 146 = .ok (.iload_n 2, 1) := by decide +kernel
theorem d_Model_find_147 : decode b_Model_find 147 = .ok (.laload, 1) := by decide +kernel
theorem d_Model_find_148 : decode b_Model_find 148 = .ok (.lconst 0, 1) := by decide +kernel
theorem d_Model_find_149 : decode b_Model_find 149 = .ok (.lcmp, 1) := by decide +kernel
theorem d_Model_find_150 : decode b_Model_find 150 = .ok (.ifCond .ge 5, 3) := by decide +kernel
theorem d_Model_find_153 : decode b_Model_find 153 = .ok (.iconst 0, 1) := by decide +kernel
theorem d_Model_find_154 : decode b_Model_find 154 = .ok (.ireturn, 1) := by decide +kernel
theorem d_Model_find_155 : decode b_Model_find 155 = .ok (.aload_n 0, 1) := by decide +kernel
theorem d_Model_find_156 : decode b_Model_find 156 = .ok (.aload_n 0, 1) := by decide +kernel
theorem d_Model_find_157 : decode b_Model_find 157 = .ok (.getfield 42, 3) := by decide +kernel
theorem d_Model_find_160 : decode b_Model_find 160 = .ok (.iload_n 2, 1) := by decide +kernel
theorem d_Model_find_161 : decode b_Model_find 161 = .ok (.laload, 1) := by decide +kernel
theorem d_Model_find_162 : decode b_Model_find 162 = .ok (.putfield 168, 3) := by decide +kernel
theorem d_Model_find_165 : decode b_Model_find 165 = .ok (.aload_n 0, 1) := by decide +kernel
theorem d_Model_find_166 : decode b_Model_find 166 = .ok (.aload_n 0, 1) := by decide +kernel
theorem d_Model_find_167 : decode b_Model_find 167 = .ok (.getfield 45, 3) := by decide +kernel
theorem d_Model_find_170 : decode b_Model_find 170 = .ok (.iload_n 2, 1) := by decide +kernel
theorem d_Model_find_171 : decode b_Model_find 171 = .ok (.laload, 1) := by decide +kernel
theorem d_Model_find_172 : decode b_Model_find 172 = .ok (.putfield 172, 3) := by decide +kernel
theorem d_Model_find_175 : decode b_Model_find 175 = .ok (.aload_n 0, 1) := by decide +kernel
theorem d_Model_find_176 : decode b_Model_find 176 = .ok (.getfield 57, 3) := by decide +kernel
theorem d_Model_find_179 : decode b_Model_find 179 = .ok (.aload_n 0, 1) := by decide +kernel
theorem d_Model_find_180 : decode b_Model_find 180 = .ok (.getfield 159, 3) := by decide +kernel
theorem d_Model_find_183 : decode b_Model_find 183 = .ok (.aload_n 0, 1) := by decide +kernel
theorem d_Model_find_184 : decode b_Model_find 184 = .ok (.invokevirtual 175, 3) := by decide +kernel
theorem d_Model_find_187 : decode b_Model_find 187 = .ok (.iastore, 1) := by decide +kernel
theorem d_Model_find_188 : decode b_Model_find 188 = .ok (.aload_n 0, 1) := by decide +kernel
theorem d_Model_find_189 : decode b_Model_find 189 = .ok (.dup, 1) := by decide +kernel
theorem d_Model_find_190 : decode b_Model_find 190 = .ok (.getfield 159, 3) := by decide +kernel
theorem d_Model_find_193 : decode b_Model_find 193 = .ok (.iconst 1, 1) := by decide +kernel
theorem d_Model_find_194 : decode b_Model_find 194 = .ok (.iadd, 1) := by decide +kernel
theorem d_Model_find_195 : decode b_Model_find 195 = .ok (.putfield 159, 3) := by decide +kernel
theorem d_Model_find_198 : decode b_Model_find 198 = .ok (.iconst 1, 1) := by decide +kernel
theorem d_Model_find_199 : decode b_Model_find 199 = .ok (.ireturn, 1) := by decide +kernel
theorem d_Model_run_0 : decode b_Model_run 0 = .ok (.aload_n 0, 1) := by decide +kernel
theorem d_Model_run_1 : decode b_Model_run 1 = .ok (.iconst 0, 1) := by decide +kernel
theorem d_Model_run_2 : decode b_Model_run 2 = .ok (.putfield 76, 3) := by decide +kernel
theorem d_Model_run_5 : decode b_Model_run 5 = .ok (.aload_n 0, 1) := by decide +kernel
theorem d_Model_run_6 : decode b_Model_run 6 = .ok (.iconst 0, 1) := by decide +kernel
theorem d_Model_run_7 : decode b_Model_run 7 = .ok (.putfield 159, 3) := by decide +kernel
theorem d_Model_run_10 : decode b_Model_run 10 = .ok (.aload_n 0, 1) := by decide +kernel
theorem d_Model_run_11 : decode b_Model_run 11 = .ok (.aload_n 0, 1) := by decide +kernel
theorem d_Model_run_12 : decode b_Model_run 12 = .ok (.iconst 0, 1) := by decide +kernel
theorem d_Model_run_13 : decode b_Model_run 13 = .ok (.invokevirtual 179, 3) := by decide +kernel
theorem d_Model_run_16 : decode b_Model_run 16 = .ok (.putfield 79, 3) := by decide +kernel
theorem d_Model_run_19 : decode b_Model_run 19 = .ok (.aload_n 0, 1) := by decide +kernel
theorem d_Model_run_20 : decode b_Model_run 20 = .ok (.getfield 79, 3) := by decide +kernel
theorem d_Model_run_23 : decode b_Model_run 23 = .ok (.ifCond .eq 10, 3) := by decide +kernel
theorem d_Model_run_26 : decode b_Model_run 26 = .ok (.aload_n 0, 1) := by decide +kernel
theorem d_Model_run_27 : decode b_Model_run 27 = .ok (.getfield 149, 3) := by decide +kernel
theorem d_Model_run_30 : decode b_Model_run 30 = .ok (.goto 4, 3) := by decide +kernel
theorem d_Model_run_33 : decode b_Model_run 33 = .ok (.iconst (-1), 1) := by decide +kernel
theorem d_Model_run_34 : decode b_Model_run 34 = .ok (.ireturn, 1) := by decide +kernel
theorem d_Model_variant_0 : decode b_Model_variant 0 = .ok (.aload_n 0, 1) := by decide +kernel
theorem d_Model_variant_1 : decode b_Model_variant 1 = .ok (.aload_n 0, 1) := by decide +kernel
theorem d_Model_variant_2 : decode b_Model_variant 2 = .ok (.getfield 79, 3) := by decide +kernel
theorem d_Model_variant_5 : decode b_Model_variant 5 = .ok (.ifCond .eq 12, 3) := by decide +kernel
theorem d_Model_variant_8 : decode b_Model_variant 8 = .ok (.aload_n 0, 1) := by decide +kernel
theorem d_Model_variant_9 : decode b_Model_variant 9 = .ok (.getfield 159, 3) := by decide +kernel
theorem d_Model_variant_12 : decode b_Model_variant 12 = .ok (.bipush 16, 2) := by decide +kernel
theorem d_Model_variant_14 : decode b_Model_variant 14 = .ok (.if_icmp .ne 7, 3) := by decide +kernel
theorem d_Model_variant_17 : decode b_Model_variant 17 = .ok (.iconst 1, 1) := by decide +kernel
theorem d_Model_variant_18 : decode b_Model_variant 18 = .ok (.goto 20, 3) := by decide +kernel
theorem d_Model_variant_21 : decode b_Model_variant 21 = .ok (.iload_n 1, 1) := by decide +kernel
theorem d_Model_variant_22 : decode b_Model_variant 22 = .ok (.i2l, 1) := by decide +kernel
theorem d_Model_variant_23 : decode b_Model_variant 23 = .ok (.lconst 0, 1) := by decide +kernel
theorem d_Model_variant_24 : decode b_Model_variant 24 = .ok (.ldc2_w 182, 3) := by decide +kernel
theorem d_Model_variant_27 : decode b_Model_variant 27 = .ok (.invokestatic 91, 3) := by decide +kernel
theorem d_Model_variant_30 : decode b_Model_variant 30 = .ok (.ifCond .eq 7, 3) := by decide +kernel
theorem d_Model_variant_33 : decode b_Model_variant 33 = .ok (.iconst 0, 1) := by decide +kernel
theorem d_Model_variant_34 : decode b_Model_variant 34 = .ok (.goto 4, 3) := by decide +kernel
theorem d_Model_variant_37 : decode b_Model_variant 37 = .ok (.iconst 2, 1) := by decide +kernel
theorem d_Model_variant_38 : decode b_Model_variant 38 = .ok (.putfield 76, 3) := by decide +kernel
theorem d_Model_variant_41 : decode b_Model_variant 41 = .ok (.aload_n 0, 1) := by decide +kernel
theorem d_Model_variant_42 : decode b_Model_variant 42 = .ok (.getfield 76, 3) := by decide +kernel
theorem d_Model_variant_45 : decode b_Model_variant 45 = .ok (.ifCond .le 5, 3) := by decide +kernel
theorem d_Model_variant_48 : decode b_Model_variant 48 = .ok (.iconst 0, 1) := by decide +kernel
theorem d_Model_variant_49 : decode b_Model_variant 49 = .ok (.ireturn, 1) := by decide +kernel
theorem d_Model_variant_50 : decode b_Model_variant 50 = .ok (.aload_n 0, 1) := by decide +kernel
theorem d_Model_variant_51 : decode b_Model_variant 51 = .ok (.iload_n 1, 1) := by decide +kernel
theorem d_Model_variant_52 : decode b_Model_variant 52 = .ok (.invokevirtual 179, 3) := by decide +kernel
theorem d_Model_variant_55 : decode b_Model_variant 55 = .ok (.ifCond .eq 10, 3) := by decide +kernel
theorem d_Model_variant_58 : decode b_Model_variant 58 = .ok (.aload_n 0, 1) := by decide +kernel
theorem d_Model_variant_59 : decode b_Model_variant 59 = .ok (.getfield 149, 3) := by decide +kernel
theorem d_Model_variant_62 : decode b_Model_variant 62 = .ok (.goto 4, 3) := by decide +kernel
theorem d_Model_variant_65 : decode b_Model_variant 65 = .ok (.iconst (-1), 1) := by decide +kernel
theorem d_Model_variant_66 : decode b_Model_variant 66 = .ok (.ireturn, 1) := by decide +kernel
theorem d_Model_none_0 : decode b_Model_none 0 = .ok (.aload_n 0, 1) := by decide +kernel
theorem d_Model_none_1 : decode b_Model_none 1 = .ok (.aload_n 0, 1) := by decide +kernel
theorem d_Model_none_2 : decode b_Model_none 2 = .ok (.getfield 79, 3) := by decide +kernel
theorem d_Model_none_5 : decode b_Model_none 5 = .ok (.ifCond .eq 7, 3) := by decide +kernel
theorem d_Model_none_8 : decode b_Model_none 8 = .ok (.iconst 0, 1) := by decide +kernel
theorem d_Model_none_9 : decode b_Model_none 9 = .ok (.goto 4, 3) := by decide +kernel
theorem d_Model_none_12 : decode b_Model_none 12 = .ok (.iconst 1, 1) := by decide +kernel
theorem d_Model_none_13 : decode b_Model_none 13 = .ok (.putfield 76, 3) := by decide +kernel
theorem d_Model_none_16 : decode b_Model_none 16 = .ok (.aload_n 0, 1) := by decide +kernel
theorem d_Model_none_17 : decode b_Model_none 17 = .ok (.getfield 76, 3) := by decide +kernel
theorem d_Model_none_20 : decode b_Model_none 20 = .ok (.ifCond .le 7, 3) := by decide +kernel
theorem d_Model_none_23 : decode b_Model_none 23 = .ok (.iconst 1, 1) := by decide +kernel
theorem d_Model_none_24 : decode b_Model_none 24 = .ok (.goto 4, 3) := by decide +kernel
theorem d_Model_none_27 : decode b_Model_none 27 = .ok (.iconst 0, 1) := by decide +kernel
theorem d_Model_none_28 : decode b_Model_none 28 = .ok (.ireturn, 1) := by decide +kernel
theorem d_Model_at_0 : decode b_Model_at 0 = .ok (.aload_n 0, 1) := by decide +kernel
theorem d_Model_at_1 : decode b_Model_at 1 = .ok (.invokevirtual 184, 3) := by decide +kernel
theorem d_Model_at_4 : decode b_Model_at 4 = .ok (.ifCond .eq 5, 3) := by decide +kernel
theorem d_Model_at_7 : decode b_Model_at 7 = .ok (.iconst 0, 1) := by decide +kernel
theorem d_Model_at_8 : decode b_Model_at 8 = .ok (.ireturn, 1) := by decide +kernel
theorem d_Model_at_9 : decode b_Model_at 9 = .ok (.aload_n 0, 1) := by decide +kernel
theorem d_Model_at_10 : decode b_Model_at 10 = .ok (.aload_n 0, 1) := by decide +kernel
theorem d_Model_at_11 : decode b_Model_at 11 = .ok (.iload_n 1, 1) := by decide +kernel
theorem d_Model_at_12 : decode b_Model_at 12 = .ok (.invokevirtual 100, 3) := by decide +kernel
theorem d_Model_at_15 : decode b_Model_at 15 = .ok (.ifCond .eq 7, 3) := by decide +kernel
theorem d_Model_at_18 : decode b_Model_at 18 = .ok (.iconst 0, 1) := by decide +kernel
theorem d_Model_at_19 : decode b_Model_at 19 = .ok (.goto 4, 3) := by decide +kernel
theorem d_Model_at_22 : decode b_Model_at 22 = .ok (.iconst 2, 1) := by decide +kernel
theorem d_Model_at_23 : decode b_Model_at 23 = .ok (.putfield 76, 3) := by decide +kernel
theorem d_Model_at_26 : decode b_Model_at 26 = .ok (.iconst 0, 1) := by decide +kernel
theorem d_Model_at_27 : decode b_Model_at 27 = .ok (.istore_n 2, 1) := by decide +kernel
theorem d_Model_at_28 : decode b_Model_at 28 = .ok (.iload_n 2, 1) := by decide +kernel
theorem d_Model_at_29 : decode b_Model_at 29 = .ok (.aload_n 0, 1) := by decide +kernel
theorem d_Model_at_30 : decode b_Model_at 30 = .ok (.getfield 149, 3) := by decide +kernel
theorem d_Model_at_33 : decode b_Model_at 33 = .ok (.if_icmp .ge 33, 3) := by decide +kernel
theorem d_Model_at_36 : decode b_Model_at 36 = .ok (.aload_n 0, 1) := by decide +kernel
theorem d_Model_at_37 : decode b_Model_at 37 = .ok (.getfield 76, 3) := by decide +kernel
theorem d_Model_at_40 : decode b_Model_at 40 = .ok (.ifCond .ne 26, 3) := by decide +kernel
theorem d_Model_at_43 : decode b_Model_at 43 = .ok (.aload_n 0, 1) := by decide +kernel
theorem d_Model_at_44 : decode b_Model_at 44 = .ok (.getfield 60, 3) := by decide +kernel
theorem d_Model_at_47 : decode b_Model_at 47 = .ok (.iload_n 2, 1) := by decide +kernel
theorem d_Model_at_48 : decode b_Model_at 48 = .ok (.iaload, 1) := by decide +kernel
theorem d_Model_at_49 : decode b_Model_at 49 = .ok (.iload_n 1, 1) := by decide +kernel
theorem d_Model_at_50 : decode b_Model_at 50 = .ok (.if_icmp .ne 10, 3) := by decide +kernel
theorem d_Model_at_53 : decode b_Model_at 53 = .ok (.aload_n 0, 1) := by decide +kernel
theorem d_Model_at_54 : decode b_Model_at 54 = .ok (.getfield 63, 3) := by decide +kernel
theorem d_Model_at_57 : decode b_Model_at 57 = .ok (.iload_n 2, 1) := by decide +kernel
theorem d_Model_at_58 : decode b_Model_at 58 = .ok (.iaload, 1) := by decide +kernel
theorem d_Model_at_59 : decode b_Model_at 59 = .ok (.ireturn, 1) := by decide +kernel
theorem d_Model_at_60 : decode b_Model_at 60 = .ok (.iinc 2 1, 3) := by decide +kernel
theorem d_Model_at_63 : decode b_Model_at 63 = .ok (.goto (-35), 3) := by decide +kernel
theorem d_Model_at_66 : decode b_Model_at 66 = .ok (.aload_n 0, 1) := by decide +kernel
theorem d_Model_at_67 : decode b_Model_at 67 = .ok (.getfield 76, 3) := by decide +kernel
theorem d_Model_at_70 : decode b_Model_at 70 = .ok (.ifCond .le 7, 3) := by decide +kernel
theorem d_Model_at_73 : decode b_Model_at 73 = .ok (.iconst 0, 1) := by decide +kernel
theorem d_Model_at_74 : decode b_Model_at 74 = .ok (.goto 4, 3) := by decide +kernel
theorem d_Model_at_77 : decode b_Model_at 77 = .ok (.iconst (-1), 1) := by decide +kernel
theorem d_Model_at_78 : decode b_Model_at 78 = .ok (.ireturn, 1) := by decide +kernel
theorem d_Model_plan_0 : decode b_Model_plan 0 = .ok (.aload_n 0, 1) := by decide +kernel
theorem d_Model_plan_1 : decode b_Model_plan 1 = .ok (.invokevirtual 184, 3) := by decide +kernel
theorem d_Model_plan_4 : decode b_Model_plan 4 = .ok (.ifCond .eq 5, 3) := by decide +kernel
theorem d_Model_plan_7 : decode b_Model_plan 7 = .ok (.iconst 0, 1) := by decide +kernel
theorem d_Model_plan_8 : decode b_Model_plan 8 = .ok (.ireturn, 1) := by decide +kernel
theorem d_Model_plan_9 : decode b_Model_plan 9 = .ok (.aload_n 0, 1) := by decide +kernel
theorem d_Model_plan_10 : decode b_Model_plan 10 = .ok (.iload_n 1, 1) := by decide +kernel
theorem d_Model_plan_11 : decode b_Model_plan 11 = .ok (.ifCond .lt 11, 3) := by decide +kernel
theorem d_Model_plan_14 : decode b_Model_plan 14 = .ok (.iload_n 1, 1) := by decide +kernel
theorem d_Model_plan_15 : decode b_Model_plan 15 = .ok (.aload_n 0, 1) := by decide +kernel
theorem d_Model_plan_16 : decode b_Model_plan 16 = .ok (.getfield 149, 3) := by decide +kernel
theorem d_Model_plan_19 : decode b_Model_plan 19 = .ok (.if_icmp .lt 7, 3) := by decide +kernel
theorem d_Model_plan_22 : decode b_Model_plan 22 = .ok (.iconst 2, 1) := by decide +kernel
theorem d_Model_plan_23 : decode b_Model_plan 23 = .ok (.goto 20, 3) := by decide +kernel
theorem d_Model_plan_26 : decode b_Model_plan 26 = .ok (.iload_n 2, 1) := by decide +kernel
theorem d_Model_plan_27 : decode b_Model_plan 27 = .ok (.i2l, 1) := by decide +kernel
theorem d_Model_plan_28 : decode b_Model_plan 28 = .ok (.lconst 0, 1) := by decide +kernel
theorem d_Model_plan_29 : decode b_Model_plan 29 = .ok (.ldc2_w 188, 3) := by decide +kernel
theorem d_Model_plan_32 : decode b_Model_plan 32 = .ok (.invokestatic 91, 3) := by decide +kernel
theorem d_Model_plan_35 : decode b_Model_plan 35 = .ok (.ifCond .eq 7, 3) := by decide +kernel
theorem d_Model_plan_38 : decode b_Model_plan 38 = .ok (.iconst 0, 1) := by decide +kernel
theorem d_Model_plan_39 : decode b_Model_plan 39 = .ok (.goto 4, 3) := by decide +kernel
theorem d_Model_plan_42 : decode b_Model_plan 42 = .ok (.iconst 3, 1) := by decide +kernel
theorem d_Model_plan_43 : decode b_Model_plan 43 = .ok (.putfield 76, 3) := by decide +kernel
theorem d_Model_plan_46 : decode b_Model_plan 46 = .ok (.aload_n 0, 1) := by decide +kernel
theorem d_Model_plan_47 : decode b_Model_plan 47 = .ok (.getfield 76, 3) := by decide +kernel
theorem d_Model_plan_50 : decode b_Model_plan 50 = .ok (.ifCond .le 5, 3) := by decide +kernel
theorem d_Model_plan_53 : decode b_Model_plan 53 = .ok (.iconst 0, 1) := by decide +kernel
theorem d_Model_plan_54 : decode b_Model_plan 54 = .ok (.ireturn, 1) := by decide +kernel
theorem d_Model_plan_55 : decode b_Model_plan 55 = .ok (.iload_n 2, 1) := by decide +kernel
theorem d_Model_plan_56 : decode b_Model_plan 56 = .ok (.ifCond .ne 12, 3) := by decide +kernel
theorem d_Model_plan_59 : decode b_Model_plan 59 = .ok (.aload_n 0, 1) := by decide +kernel
theorem d_Model_plan_60 : decode b_Model_plan 60 = .ok (.getfield 60, 3) := by decide +kernel
theorem d_Model_plan_63 : decode b_Model_plan 63 = .ok (.iload_n 1, 1) := by decide +kernel
theorem d_Model_plan_64 : decode b_Model_plan 64 = .ok (.iaload, 1) := by decide +kernel
theorem d_Model_plan_65 : decode b_Model_plan 65 = .ok (.goto 23, 3) := by decide +kernel
theorem d_Model_plan_68 : decode b_Model_plan 68 = .ok (.iload_n 2, 1) := by decide +kernel
theorem d_Model_plan_69 : decode b_Model_plan 69 = .ok (.iconst 1, 1) := by decide +kernel
theorem d_Model_plan_70 : decode b_Model_plan 70 = .ok (.if_icmp .ne 12, 3) := by decide +kernel
theorem d_Model_plan_73 : decode b_Model_plan 73 = .ok (.aload_n 0, 1) := by decide +kernel
theorem d_Model_plan_74 : decode b_Model_plan 74 = .ok (.getfield 63, 3) := by decide +kernel
theorem d_Model_plan_77 : decode b_Model_plan 77 = .ok (.iload_n 1, 1) := by decide +kernel
theorem d_Model_plan_78 : decode b_Model_plan 78 = .ok (.iaload, 1) := by decide +kernel
theorem d_Model_plan_79 : decode b_Model_plan 79 = .ok (.goto 9, 3) := by decide +kernel
theorem d_Model_plan_82 : decode b_Model_plan 82 = .ok (.aload_n 0, 1) := by decide +kernel
theorem d_Model_plan_83 : decode b_Model_plan 83 = .ok (.getfield 66, 3) := by decide +kernel
theorem d_Model_plan_86 : decode b_Model_plan 86 = .ok (.iload_n 1, 1) := by decide +kernel
theorem d_Model_plan_87 : decode b_Model_plan 87 = .ok (.iaload, 1) := by decide +kernel
theorem d_Model_plan_88 : decode b_Model_plan 88 = .ok (.ireturn, 1) := by decide +kernel
theorem d_Model_worth_0 : decode b_Model_worth 0 = .ok (.aload_n 0, 1) := by decide +kernel
theorem d_Model_worth_1 : decode b_Model_worth 1 = .ok (.invokevirtual 184, 3) := by decide +kernel
theorem d_Model_worth_4 : decode b_Model_worth 4 = .ok (.ifCond .eq 5, 3) := by decide +kernel
theorem d_Model_worth_7 : decode b_Model_worth 7 = .ok (.lconst 0, 1) := by decide +kernel
theorem d_Model_worth_8 : decode b_Model_worth 8 = .ok (.lreturn, 1) := by decide +kernel
theorem d_Model_worth_9 : decode b_Model_worth 9 = .ok (.aload_n 0, 1) := by decide +kernel
theorem d_Model_worth_10 : decode b_Model_worth 10 = .ok (.iload_n 1, 1) := by decide +kernel
theorem d_Model_worth_11 : decode b_Model_worth 11 = .ok (.i2l, 1) := by decide +kernel
theorem d_Model_worth_12 : decode b_Model_worth 12 = .ok (.lconst 0, 1) := by decide +kernel
theorem d_Model_worth_13 : decode b_Model_worth 13 = .ok (.lconst 1, 1) := by decide +kernel
theorem d_Model_worth_14 : decode b_Model_worth 14 = .ok (.invokestatic 91, 3) := by decide +kernel
theorem d_Model_worth_17 : decode b_Model_worth 17 = .ok (.ifCond .eq 7, 3) := by decide +kernel
theorem d_Model_worth_20 : decode b_Model_worth 20 = .ok (.iconst 0, 1) := by decide +kernel
theorem d_Model_worth_21 : decode b_Model_worth 21 = .ok (.goto 4, 3) := by decide +kernel
theorem d_Model_worth_24 : decode b_Model_worth 24 = .ok (.iconst 2, 1) := by decide +kernel
theorem d_Model_worth_25 : decode b_Model_worth 25 = .ok (.putfield 76, 3) := by decide +kernel
theorem d_Model_worth_28 : decode b_Model_worth 28 = .ok (.aload_n 0, 1) := by decide +kernel
theorem d_Model_worth_29 : decode b_Model_worth 29 = .ok (.getfield 76, 3) := by decide +kernel
theorem d_Model_worth_32 : decode b_Model_worth 32 = .ok (.ifCond .le 7, 3) := by decide +kernel
theorem d_Model_worth_35 : decode b_Model_worth 35 = .ok (.lconst 0, 1) := by decide +kernel
theorem d_Model_worth_36 : decode b_Model_worth 36 = .ok (.goto 18, 3) := by decide +kernel
theorem d_Model_worth_39 : decode b_Model_worth 39 = .ok (.iload_n 1, 1) := by decide +kernel
theorem d_Model_worth_40 : decode b_Model_worth 40 = .ok (.ifCond .ne 10, 3) := by decide +kernel
theorem d_Model_worth_43 : decode b_Model_worth 43 = .ok (.aload_n 0, 1) := by decide +kernel
theorem d_Model_worth_44 : decode b_Model_worth 44 = .ok (.getfield 168, 3) := by decide +kernel
theorem d_Model_worth_47 : decode b_Model_worth 47 = .ok (.goto 7, 3) := by decide +kernel
theorem d_Model_worth_50 : decode b_Model_worth 50 = .ok (.aload_n 0, 1) := by decide +kernel
theorem d_Model_worth_51 : decode b_Model_worth 51 = .ok (.getfield 172, 3) := by decide +kernel
theorem d_Model_worth_54 : decode b_Model_worth 54 = .ok (.lreturn, 1) := by decide +kernel
theorem d_Model_beginsTop_0 : decode b_Model_beginsTop 0 = .ok (.iload_n 1, 1) := by decide +kernel
theorem d_Model_beginsTop_1 : decode b_Model_beginsTop 1 = .ok (.ifCond .eq 29, 3) := by decide +kernel
theorem d_Model_beginsTop_4 : decode b_Model_beginsTop 4 = .ok (.aload_n 0, 1) := by decide +kernel
theorem d_Model_beginsTop_5 : decode b_Model_beginsTop 5 = .ok (.getfield 63, 3) := by decide +kernel
theorem d_Model_beginsTop_8 : decode b_Model_beginsTop 8 = .ok (.iload_n 1, 1) := by decide +kernel
theorem d_Model_beginsTop_9 : decode b_Model_beginsTop 9 = .ok (.iconst 1, 1) := by decide +kernel
theorem d_Model_beginsTop_10 : decode b_Model_beginsTop 10 = .ok (.isub, 1) := by decide +kernel
theorem d_Model_beginsTop_11 : decode b_Model_beginsTop 11 = .ok (.iaload, 1) := by decide +kernel
theorem d_Model_beginsTop_12 : decode b_Model_beginsTop 12 = .ok (.aload_n 0, 1) := by decide +kernel
theorem d_Model_beginsTop_13 : decode b_Model_beginsTop 13 = .ok (.getfield 66, 3) := by decide +kernel
theorem d_Model_beginsTop_16 : decode b_Model_beginsTop 16 = .ok (.iload_n 1, 1) := by decide +kernel
theorem d_Model_beginsTop_17 : decode b_Model_beginsTop 17 = .ok (.iconst 1, 1) := by decide +kernel
theorem d_Model_beginsTop_18 : decode b_Model_beginsTop 18 = .ok (.isub, 1) := by decide +kernel
theorem d_Model_beginsTop_19 : decode b_Model_beginsTop 19 = .ok (.iaload, 1) := by decide +kernel
theorem d_Model_beginsTop_20 : decode b_Model_beginsTop 20 = .ok (.iadd, 1) := by decide +kernel
theorem d_Model_beginsTop_21 : decode b_Model_beginsTop 21 = .ok (.aload_n 0, 1) := by decide +kernel
theorem d_Model_beginsTop_22 : decode b_Model_beginsTop 22 = .ok (.getfield 63, 3) := by decide +kernel
theorem d_Model_beginsTop_25 : decode b_Model_beginsTop 25 = .ok (.iload_n 1, 1) := by decide +kernel
theorem d_Model_beginsTop_26 : decode b_Model_beginsTop 26 = .ok (.iaload, 1) := by decide +kernel
theorem d_Model_beginsTop_27 : decode b_Model_beginsTop 27 = .ok (.if_icmp .eq 7, 3) := by decide +kernel
theorem d_Model_beginsTop_30 : decode b_Model_beginsTop 30 = .ok (.iconst 1, 1) := by decide +kernel
theorem d_Model_beginsTop_31 : decode b_Model_beginsTop 31 = .ok (.goto 4, 3) := by decide +kernel
theorem d_Model_beginsTop_34 : decode b_Model_beginsTop 34 = .ok (.iconst 0, 1) := by decide +kernel
theorem d_Model_beginsTop_35 : decode b_Model_beginsTop 35 = .ok (.ireturn, 1) := by decide +kernel
theorem d_Model_top_0 : decode b_Model_top 0 = .ok (.aload_n 0, 1) := by decide +kernel
theorem d_Model_top_1 : decode b_Model_top 1 = .ok (.invokevirtual 184, 3) := by decide +kernel
theorem d_Model_top_4 : decode b_Model_top 4 = .ok (.ifCond .eq 5, 3) := by decide +kernel
theorem d_Model_top_7 : decode b_Model_top 7 = .ok (.iconst 0, 1) := by decide +kernel
theorem d_Model_top_8 : decode b_Model_top 8 = .ok (.ireturn, 1) := by decide +kernel
theorem d_Model_top_9 : decode b_Model_top 9 = .ok (.iconst 0, 1) := by decide +kernel
theorem d_Model_top_10 : decode b_Model_top 10 = .ok (.istore_n 3, 1) := by decide +kernel
theorem d_Model_top_11 : decode b_Model_top 11 = .ok (.iconst 0, 1) := by decide +kernel
theorem d_Model_top_12 : decode b_Model_top 12 = .ok (.istore 4, 2) := by decide +kernel
theorem d_Model_top_14 : decode b_Model_top 14 = .ok (.iconst 0, 1) := by decide +kernel
theorem d_Model_top_15 : decode b_Model_top 15 = .ok (.istore 5, 2) := by decide +kernel
theorem d_Model_top_17 : decode b_Model_top 17 = .ok (.iconst 0, 1) := by decide +kernel
theorem d_Model_top_18 : decode b_Model_top 18 = .ok (.istore 6, 2) := by decide +kernel
theorem d_Model_top_20 : decode b_Model_top 20 = .ok (.iload 6, 2) := by decide +kernel
theorem d_Model_top_22 : decode b_Model_top 22 = .ok (.aload_n 0, 1) := by decide +kernel
theorem d_Model_top_23 : decode b_Model_top 23 = .ok (.getfield 149, 3) := by decide +kernel
theorem d_Model_top_26 : decode b_Model_top 26 = .ok (.if_icmp .ge 64, 3) := by decide +kernel
theorem d_Model_top_29 : decode b_Model_top 29 = .ok (.aload_n 0, 1) := by decide +kernel
theorem d_Model_top_30 : decode b_Model_top 30 = .ok (.iload 6, 2) := by decide +kernel
theorem d_Model_top_32 : decode b_Model_top 32 = .ok (.invokevirtual 190, 3) := by decide +kernel
theorem d_Model_top_35 : decode b_Model_top 35 = .ok (.ifCond .eq 25, 3) := by decide +kernel
theorem d_Model_top_38 : decode b_Model_top 38 = .ok (.iload_n 3, 1) := by decide +kernel
theorem d_Model_top_39 : decode b_Model_top 39 = .ok (.iload_n 1, 1) := by decide +kernel
theorem d_Model_top_40 : decode b_Model_top 40 = .ok (.if_icmp .ne 13, 3) := by decide +kernel
theorem d_Model_top_43 : decode b_Model_top 43 = .ok (.aload_n 0, 1) := by decide +kernel
theorem d_Model_top_44 : decode b_Model_top 44 = .ok (.getfield 63, 3) := by decide +kernel
theorem d_Model_top_47 : decode b_Model_top 47 = .ok (.iload 6, 2) := by decide +kernel
theorem d_Model_top_49 : decode b_Model_top 49 = .ok (.iaload, 1) := by decide +kernel
theorem d_Model_top_50 : decode b_Model_top 50 = .ok (.goto 5, 3) := by decide +kernel
theorem d_Model_top_53 : decode b_Model_top 53 = .ok (.iload 4, 2) := by decide +kernel
theorem d_Model_top_55 : decode b_Model_top 55 = .ok (.istore 4, 2) := by decide +kernel
theorem d_Model_top_57 : decode b_Model_top 57 = .ok (.iinc 3 1, 3) := by decide +kernel
theorem d_Model_top_60 : decode b_Model_top 60 = .ok (.iload_n 3, 1) := by decide +kernel
theorem d_Model_top_61 : decode b_Model_top 61 = .ok (.iconst 1, 1) := by decide +kernel
theorem d_Model_top_62 : decode b_Model_top 62 = .ok (.isub, 1) := by decide +kernel
theorem d_Model_top_63 : decode b_Model_top 63 = .ok (.iload_n 1, 1) := by decide +kernel
theorem d_Model_top_64 : decode b_Model_top 64 = .ok (.if_icmp .ne 16, 3) := by decide +kernel
theorem d_Model_top_67 : decode b_Model_top 67 = .ok (.iload 5, 2) := by decide +kernel
theorem d_Model_top_69 : decode b_Model_top 69 = .ok (.aload_n 0, 1) := by decide +kernel
theorem d_Model_top_70 : decode b_Model_top 70 = .ok (.getfield 66, 3) := by decide +kernel
theorem d_Model_top_73 : decode b_Model_top 73 = .ok (.iload 6, 2) := by decide +kernel
theorem d_Model_top_75 : decode b_Model_top 75 = .ok (.iaload, 1) := by decide +kernel
theorem d_Model_top_76 : decode b_Model_top 76 = .ok (.iadd, 1) := by decide +kernel
theorem d_Model_top_77 : decode b_Model_top 77 = .ok (.goto 5, 3) := by decide +kernel
theorem d_Model_top_80 : decode b_Model_top 80 = .ok (.iload 5, 2) := by decide +kernel
theorem d_Model_top_82 : decode b_Model_top 82 = .ok (.istore 5, 2) := by decide +kernel
theorem d_Model_top_84 : decode b_Model_top 84 = .ok (.iinc 6 1, 3) := by decide +kernel
theorem d_Model_top_87 : decode b_Model_top 87 = .ok (.goto (-67), 3) := by decide +kernel
theorem d_Model_top_90 : decode b_Model_top 90 = .ok (.aload_n 0, 1) := by decide +kernel
theorem d_Model_top_91 : decode b_Model_top 91 = .ok (.iload_n 1, 1) := by decide +kernel
theorem d_Model_top_92 : decode b_Model_top 92 = .ok (.iconst (-1), 1) := by decide +kernel
theorem d_Model_top_93 : decode b_Model_top 93 = .ok (.if_icmp .lt 8, 3) := by decide +kernel
theorem d_Model_top_96 : decode b_Model_top 96 = .ok (.iload_n 1, 1) := by decide +kernel
theorem d_Model_top_97 : decode b_Model_top 97 = .ok (.iload_n 3, 1) := by decide +kernel
theorem d_Model_top_98 : decode b_Model_top 98 = .ok (.if_icmp .lt 7, 3) := by decide +kernel
theorem d_Model_top_101 : decode b_Model_top 101 = .ok (.iconst 2, 1) := by decide +kernel
theorem d_Model_top_102 : decode b_Model_top 102 = .ok (.goto 18, 3) := by decide +kernel
theorem d_Model_top_105 : decode b_Model_top 105 = .ok (.iload_n 2, 1) := by decide +kernel
theorem d_Model_top_106 : decode b_Model_top 106 = .ok (.i2l, 1) := by decide +kernel
theorem d_Model_top_107 : decode b_Model_top 107 = .ok (.lconst 0, 1) := by decide +kernel
theorem d_Model_top_108 : decode b_Model_top 108 = .ok (.lconst 1, 1) := by decide +kernel
theorem d_Model_top_109 : decode b_Model_top 109 = .ok (.invokestatic 91, 3) := by decide +kernel
theorem d_Model_top_112 : decode b_Model_top 112 = .ok (.ifCond .eq 7, 3) := by decide +kernel
theorem d_Model_top_115 : decode b_Model_top 115 = .ok (.iconst 0, 1) := by decide +kernel
theorem d_Model_top_116 : decode b_Model_top 116 = .ok (.goto 4, 3) := by decide +kernel
theorem d_Model_top_119 : decode b_Model_top 119 = .ok (.iconst 3, 1) := by decide +kernel
theorem d_Model_top_120 : decode b_Model_top 120 = .ok (.putfield 76, 3) := by decide +kernel
theorem d_Model_top_123 : decode b_Model_top 123 = .ok (.aload_n 0, 1) := by decide +kernel
theorem d_Model_top_124 : decode b_Model_top 124 = .ok (.getfield 76, 3) := by decide +kernel
theorem d_Model_top_127 : decode b_Model_top 127 = .ok (.ifCond .le 5, 3) := by decide +kernel
theorem d_Model_top_130 : decode b_Model_top 130 = .ok (.iconst 0, 1) := by decide +kernel
theorem d_Model_top_131 : decode b_Model_top 131 = .ok (.ireturn, 1) := by decide +kernel
theorem d_Model_top_132 : decode b_Model_top 132 = .ok (.iload_n 1, 1) := by decide +kernel
theorem d_Model_top_133 : decode b_Model_top 133 = .ok (.iconst (-1), 1) := by decide +kernel
theorem d_Model_top_134 : decode b_Model_top 134 = .ok (.if_icmp .ne 7, 3) := by decide +kernel
theorem d_Model_top_137 : decode b_Model_top 137 = .ok (.iload_n 3, 1) := by decide +kernel
theorem d_Model_top_138 : decode b_Model_top 138 = .ok (.goto 14, 3) := by decide +kernel
theorem d_Model_top_141 : decode b_Model_top 141 = .ok (.iload_n 2, 1) := by decide +kernel
theorem d_Model_top_142 : decode b_Model_top 142 = .ok (.ifCond .ne 8, 3) := by decide +kernel
theorem d_Model_top_145 : decode b_Model_top 145 = .ok (.iload 4, 2) := by decide +kernel
theorem d_Model_top_147 : decode b_Model_top 147 = .ok (.goto 5, 3) := by decide +kernel
theorem d_Model_top_150 : decode b_Model_top 150 = .ok (.iload 5, 2) := by decide +kernel
theorem d_Model_top_152 : decode b_Model_top 152 = .ok (.ireturn, 1) := by decide +kernel
theorem d_Model_place_0 : decode b_Model_place 0 = .ok (.aload_n 0, 1) := by decide +kernel
theorem d_Model_place_1 : decode b_Model_place 1 = .ok (.aload_n 0, 1) := by decide +kernel
theorem d_Model_place_2 : decode b_Model_place 2 = .ok (.iload_n 1, 1) := by decide +kernel
theorem d_Model_place_3 : decode b_Model_place 3 = .ok (.invokevirtual 100, 3) := by decide +kernel
theorem d_Model_place_6 : decode b_Model_place 6 = .ok (.ifCond .ne 7, 3) := by decide +kernel
theorem d_Model_place_9 : decode b_Model_place 9 = .ok (.iconst 1, 1) := by decide +kernel
theorem d_Model_place_10 : decode b_Model_place 10 = .ok (.goto 22, 3) := by decide +kernel
theorem d_Model_place_13 : decode b_Model_place 13 = .ok (.iload_n 2, 1) := by decide +kernel
theorem d_Model_place_14 : decode b_Model_place 14 = .ok (.i2l, 1) := by decide +kernel
theorem d_Model_place_15 : decode b_Model_place 15 = .ok (.ldc2_w 193, 3) := by decide +kernel
theorem d_Model_place_18 : decode b_Model_place 18 = .ok (.ldc2_w 195, 3) := by decide +kernel
theorem d_Model_place_21 : decode b_Model_place 21 = .ok (.invokestatic 91, 3) := by decide +kernel
theorem d_Model_place_24 : decode b_Model_place 24 = .ok (.ifCond .eq 7, 3) := by decide +kernel
theorem d_Model_place_27 : decode b_Model_place 27 = .ok (.iconst 0, 1) := by decide +kernel
theorem d_Model_place_28 : decode b_Model_place 28 = .ok (.goto 4, 3) := by decide +kernel
theorem d_Model_place_31 : decode b_Model_place 31 = .ok (.iconst 2, 1) := by decide +kernel
theorem d_Model_place_32 : decode b_Model_place 32 = .ok (.putfield 76, 3) := by decide +kernel
theorem d_Model_place_35 : decode b_Model_place 35 = .ok (.aload_n 0, 1) := by decide +kernel
theorem d_Model_place_36 : decode b_Model_place 36 = .ok (.getfield 76, 3) := by decide +kernel
theorem d_Model_place_39 : decode b_Model_place 39 = .ok (.ifCond .gt 13, 3) := by decide +kernel
theorem d_Model_place_42 : decode b_Model_place 42 = .ok (.aload_n 0, 1) := by decide +kernel
theorem d_Model_place_43 : decode b_Model_place 43 = .ok (.getfield 39, 3) := by decide +kernel
theorem d_Model_place_46 : decode b_Model_place 46 = .ok (.iload_n 1, 1) := by decide +kernel
theorem d_Model_place_47 : decode b_Model_place 47 = .ok (.iaload, 1) := by decide +kernel
theorem d_Model_place_48 : decode b_Model_place 48 = .ok (.iload_n 2, 1) := by decide +kernel
theorem d_Model_place_49 : decode b_Model_place 49 = .ok (.if_icmp .ne 5, 3) := by decide +kernel
theorem d_Model_place_52 : decode b_Model_place 52 = .ok (.iconst 0, 1) := by decide +kernel
theorem d_Model_place_53 : decode b_Model_place 53 = .ok (.ireturn, 1) := by decide +kernel
theorem d_Model_place_54 : decode b_Model_place 54 = .ok (.aload_n 0, 1) := by decide +kernel
theorem d_Model_place_55 : decode b_Model_place 55 = .ok (.getfield 39, 3) := by decide +kernel
theorem d_Model_place_58 : decode b_Model_place 58 = .ok (.iload_n 1, 1) := by decide +kernel
theorem d_Model_place_59 : decode b_Model_place 59 = .ok (.iload_n 2, 1) := by decide +kernel
theorem d_Model_place_60 : decode b_Model_place 60 = .ok (.iastore, 1) := by decide +kernel
theorem d_Model_place_61 : decode b_Model_place 61 = .ok (.iconst 1, 1) := by decide +kernel
theorem d_Model_place_62 : decode b_Model_place 62 = .ok (.ireturn, 1) := by decide +kernel
theorem d_Model_isPut_0 : decode b_Model_isPut 0 = .ok (.aload_n 0, 1) := by decide +kernel
theorem d_Model_isPut_1 : decode b_Model_isPut 1 = .ok (.getfield 39, 3) := by decide +kernel
theorem d_Model_isPut_4 : decode b_Model_isPut 4 = .ok (.iload_n 1, 1) := by decide +kernel
theorem d_Model_isPut_5 : decode b_Model_isPut 5 = .ok (.iaload, 1) := by decide +kernel
theorem d_Model_isPut_6 : decode b_Model_isPut 6 = .ok (.bipush (-101), 2) := by decide +kernel
theorem d_Model_isPut_8 : decode b_Model_isPut 8 = .ok (.if_icmp .eq 7, 3) := by decide +kernel
theorem d_Model_isPut_11 : decode b_Model_isPut 11 = .ok (.iconst 1, 1) := by decide +kernel
theorem d_Model_isPut_12 : decode b_Model_isPut 12 = .ok (.goto 4, 3) := by decide +kernel
theorem d_Model_isPut_15 : decode b_Model_isPut 15 = .ok (.iconst 0, 1) := by decide +kernel
theorem d_Model_isPut_16 : decode b_Model_isPut 16 = .ok (.ireturn, 1) := by decide +kernel
theorem d_Model_touch_0 : decode b_Model_touch 0 = .ok (.aload_n 0, 1) := by decide +kernel
theorem d_Model_touch_1 : decode b_Model_touch 1 = .ok (.iload_n 1, 1) := by decide +kernel
theorem d_Model_touch_2 : decode b_Model_touch 2 = .ok (.invokevirtual 197, 3) := by decide +kernel
theorem d_Model_touch_5 : decode b_Model_touch 5 = .ok (.ifCond .eq 59, 3) := by decide +kernel
theorem d_Model_touch_8 : decode b_Model_touch 8 = .ok (.aload_n 0, 1) := by decide +kernel
theorem d_Model_touch_9 : decode b_Model_touch 9 = .ok (.iload_n 2, 1) := by decide +kernel
theorem d_Model_touch_10 : decode b_Model_touch 10 = .ok (.invokevirtual 197, 3) := by decide +kernel
theorem d_Model_touch_13 : decode b_Model_touch 13 = .ok (.ifCond .eq 51, 3) := by decide +kernel
theorem d_Model_touch_16 : decode b_Model_touch 16 = .ok (.aload_n 0, 1) := by decide +kernel
theorem d_Model_touch_17 : decode b_Model_touch 17 = .ok (.getfield 39, 3) := by decide +kernel
theorem d_Model_touch_20 : decode b_Model_touch 20 = .ok (.iload_n 1, 1) := by decide +kernel
theorem d_Model_touch_21 : decode b_Model_touch 21 = .ok (.iaload, 1) := by decide +kernel
theorem d_Model_touch_22 : decode b_Model_touch 22 = .ok (.aload_n 0, 1) := by decide +kernel
theorem d_Model_touch_23 : decode b_Model_touch 23 = .ok (.getfield 17, 3) := by decide +kernel
theorem d_Model_touch_26 : decode b_Model_touch 26 = .ok (.iload_n 1, 1) := by decide +kernel
theorem d_Model_touch_27 : decode b_Model_touch 27 = .ok (.iaload, 1) := by decide +kernel
theorem d_Model_touch_28 : decode b_Model_touch 28 = .ok (.iadd, 1) := by decide +kernel
theorem d_Model_touch_29 : decode b_Model_touch 29 = .ok (.aload_n 0, 1) := by decide +kernel
theorem d_Model_touch_30 : decode b_Model_touch 30 = .ok (.getfield 39, 3) := by decide +kernel
theorem d_Model_touch_33 : decode b_Model_touch 33 = .ok (.iload_n 2, 1) := by decide +kernel
theorem d_Model_touch_34 : decode b_Model_touch 34 = .ok (.iaload, 1) := by decide +kernel
theorem d_Model_touch_35 : decode b_Model_touch 35 = .ok (.if_icmp .eq 25, 3) := by decide +kernel
theorem d_Model_touch_38 : decode b_Model_touch 38 = .ok (.aload_n 0, 1) := by decide +kernel
theorem d_Model_touch_39 : decode b_Model_touch 39 = .ok (.getfield 39, 3) := by decide +kernel
theorem d_Model_touch_42 : decode b_Model_touch 42 = .ok (.iload_n 2, 1) := by decide +kernel
theorem d_Model_touch_43 : decode b_Model_touch 43 = .ok (.iaload, 1) := by decide +kernel
theorem d_Model_touch_44 : decode b_Model_touch 44 = .ok (.aload_n 0, 1) := by decide +kernel
theorem d_Model_touch_45 : decode b_Model_touch 45 = .ok (.getfield 17, 3) := by decide +kernel
theorem d_Model_touch_48 : decode b_Model_touch 48 = .ok (.iload_n 2, 1) := by decide +kernel
theorem d_Model_touch_49 : decode b_Model_touch 49 = .ok (.iaload, 1) := by decide +kernel
theorem d_Model_touch_50 : decode b_Model_touch 50 = .ok (.iadd, 1) := by decide +kernel
theorem d_Model_touch_51 : decode b_Model_touch 51 = .ok (.aload_n 0, 1) := by decide +kernel
theorem d_Model_touch_52 : decode b_Model_touch 52 = .ok (.getfield 39, 3) := by decide +kernel
theorem d_Model_touch_55 : decode b_Model_touch 55 = .ok (.iload_n 1, 1) := by decide +kernel
theorem d_Model_touch_56 : decode b_Model_touch 56 = .ok (.iaload, 1) := by decide +kernel
theorem d_Model_touch_57 : decode b_Model_touch 57 = .ok (.if_icmp .ne 7, 3) := by decide +kernel
theorem d_Model_touch_60 : decode b_Model_touch 60 = .ok (.iconst 1, 1) := by decide +kernel
theorem d_Model_touch_61 : decode b_Model_touch 61 = .ok (.goto 4, 3) := by decide +kernel
theorem d_Model_touch_64 : decode b_Model_touch 64 = .ok (.iconst 0, 1) := by decide +kernel
theorem d_Model_touch_65 : decode b_Model_touch 65 = .ok (.ireturn, 1) := by decide +kernel
theorem d_Model_covers_0 : decode b_Model_covers 0 = .ok (.aload_n 0, 1) := by decide +kernel
theorem d_Model_covers_1 : decode b_Model_covers 1 = .ok (.iload_n 1, 1) := by decide +kernel
theorem d_Model_covers_2 : decode b_Model_covers 2 = .ok (.invokevirtual 197, 3) := by decide +kernel
theorem d_Model_covers_5 : decode b_Model_covers 5 = .ok (.ifCond .eq 34, 3) := by decide +kernel
theorem d_Model_covers_8 : decode b_Model_covers 8 = .ok (.iload_n 2, 1) := by decide +kernel
theorem d_Model_covers_9 : decode b_Model_covers 9 = .ok (.aload_n 0, 1) := by decide +kernel
theorem d_Model_covers_10 : decode b_Model_covers 10 = .ok (.getfield 39, 3) := by decide +kernel
theorem d_Model_covers_13 : decode b_Model_covers 13 = .ok (.iload_n 1, 1) := by decide +kernel
theorem d_Model_covers_14 : decode b_Model_covers 14 = .ok (.iaload, 1) := by decide +kernel
theorem d_Model_covers_15 : decode b_Model_covers 15 = .ok (.if_icmp .lt 24, 3) := by decide +kernel
theorem d_Model_covers_18 : decode b_Model_covers 18 = .ok (.iload_n 2, 1) := by decide +kernel
theorem d_Model_covers_19 : decode b_Model_covers 19 = .ok (.aload_n 0, 1) := by decide +kernel
theorem d_Model_covers_20 : decode b_Model_covers 20 = .ok (.getfield 39, 3) := by decide +kernel
theorem d_Model_covers_23 : decode b_Model_covers 23 = .ok (.iload_n 1, 1) := by decide +kernel
theorem d_Model_covers_24 : decode b_Model_covers 24 = .ok (.iaload, 1) := by decide +kernel
theorem d_Model_covers_25 : decode b_Model_covers 25 = .ok (.aload_n 0, 1) := by decide +kernel
theorem d_Model_covers_26 : decode b_Model_covers 26 = .ok (.getfield 17, 3) := by decide +kernel
theorem d_Model_covers_29 : decode b_Model_covers 29 = .ok (.iload_n 1, 1) := by decide +kernel
theorem d_Model_covers_30 : decode b_Model_covers 30 = .ok (.iaload, 1) := by decide +kernel
theorem d_Model_covers_31 : decode b_Model_covers 31 = .ok (.iadd, 1) := by decide +kernel
theorem d_Model_covers_32 : decode b_Model_covers 32 = .ok (.if_icmp .ge 7, 3) := by decide +kernel
theorem d_Model_covers_35 : decode b_Model_covers 35 = .ok (.iconst 1, 1) := by decide +kernel
theorem d_Model_covers_36 : decode b_Model_covers 36 = .ok (.goto 4, 3) := by decide +kernel
theorem d_Model_covers_39 : decode b_Model_covers 39 = .ok (.iconst 0, 1) := by decide +kernel
theorem d_Model_covers_40 : decode b_Model_covers 40 = .ok (.ireturn, 1) := by decide +kernel
theorem d_Model_hasGap_0 : decode b_Model_hasGap 0 = .ok (.iconst 0, 1) := by decide +kernel
theorem d_Model_hasGap_1 : decode b_Model_hasGap 1 = .ok (.istore_n 1, 1) := by decide +kernel
theorem d_Model_hasGap_2 : decode b_Model_hasGap 2 = .ok (.iconst 0, 1) := by decide +kernel
theorem d_Model_hasGap_3 : decode b_Model_hasGap 3 = .ok (.istore_n 2, 1) := by decide +kernel
theorem d_Model_hasGap_4 : decode b_Model_hasGap 4 = .ok (.iconst 0, 1) := by decide +kernel
theorem d_Model_hasGap_5 : decode b_Model_hasGap 5 = .ok (.istore_n 3, 1) := by decide +kernel
theorem d_Model_hasGap_6 : decode b_Model_hasGap 6 = .ok (.iload_n 3, 1) := by decide +kernel
theorem d_Model_hasGap_7 : decode b_Model_hasGap 7 = .ok (.aload_n 0, 1) := by decide +kernel
theorem d_Model_hasGap_8 : decode b_Model_hasGap 8 = .ok (.getfield 69, 3) := by decide +kernel
theorem d_Model_hasGap_11 : decode b_Model_hasGap 11 = .ok (.if_icmp .gt 121, 3) := by decide +kernel
theorem d_Model_hasGap_14 : decode b_Model_hasGap 14 = .ok (.iload_n 3, 1) := by decide +kernel
theorem d_Model_hasGap_15 : decode b_Model_hasGap 15 = .ok (.aload_n 0, 1) := by decide +kernel
theorem d_Model_hasGap_16 : decode b_Model_hasGap 16 = .ok (.getfield 69, 3) := by decide +kernel
theorem d_Model_hasGap_19 : decode b_Model_hasGap 19 = .ok (.if_icmp .ge 16, 3) := by decide +kernel
theorem d_Model_hasGap_22 : decode b_Model_hasGap 22 = .ok (.aload_n 0, 1) := by decide +kernel
theorem d_Model_hasGap_23 : decode b_Model_hasGap 23 = .ok (.getfield 7, 3) := by decide +kernel
theorem d_Model_hasGap_26 : decode b_Model_hasGap 26 = .ok (.iload_n 3, 1) := by decide +kernel
theorem d_Model_hasGap_27 : decode b_Model_hasGap 27 = .ok (.baload, 1) := by decide +kernel
theorem d_Model_hasGap_28 : decode b_Model_hasGap 28 = .ok (.ifCond .ne 7, 3) := by decide +kernel
theorem d_Model_hasGap_31 : decode b_Model_hasGap 31 = .ok (.iconst 1, 1) := by decide +kernel
theorem d_Model_hasGap_32 : decode b_Model_hasGap 32 = .ok (.goto 4, 3) := by decide +kernel
theorem d_Model_hasGap_35 : decode b_Model_hasGap 35 = .ok (.iconst 0, 1) := by decide +kernel
theorem d_Model_hasGap_36 : decode b_Model_hasGap 36 = .ok (.istore 4, 2) := by decide +kernel
theorem d_Model_hasGap_38 : decode b_Model_hasGap 38 = .ok (.iconst 0, 1) := by decide +kernel
theorem d_Model_hasGap_39 : decode b_Model_hasGap 39 = .ok (.istore 5, 2) := by decide +kernel
theorem d_Model_hasGap_41 : decode b_Model_hasGap 41 = .ok (.iload 5, 2) := by decide +kernel
theorem d_Model_hasGap_43 : decode b_Model_hasGap 43 = .ok (.aload_n 0, 1) := by decide +kernel
theorem d_Model_hasGap_44 : decode b_Model_hasGap 44 = .ok (.getfield 97, 3) := by decide +kernel
theorem d_Model_hasGap_47 : decode b_Model_hasGap 47 = .ok (.if_icmp .ge 31, 3) := by decide +kernel
theorem d_Model_hasGap_50 : decode b_Model_hasGap 50 = .ok (.iload 4, 2) := by decide +kernel
theorem d_Model_hasGap_52 : decode b_Model_hasGap 52 = .ok (.ifCond .eq 17, 3) := by decide +kernel
theorem d_Model_hasGap_55 : decode b_Model_hasGap 55 = .ok (.aload_n 0, 1) := by decide +kernel
theorem d_Model_hasGap_56 : decode b_Model_hasGap 56 = .ok (.iload 5, 2) := by decide +kernel
theorem d_Model_hasGap_58 : decode b_Model_hasGap 58 = .ok (.iload_n 3, 1) := by decide +kernel
theorem d_Model_hasGap_59 : decode b_Model_hasGap 59 = .ok (.invokevirtual 200, 3) := by decide +kernel
theorem d_Model_hasGap_62 : decode b_Model_hasGap 62 = .ok (.ifCond .ne 7, 3) := by decide +kernel
theorem d_Model_hasGap_65 : decode b_Model_hasGap 65 = .ok (.iconst 1, 1) := by decide +kernel
theorem d_Model_hasGap_66 : decode b_Model_hasGap 66 = .ok (.goto 4, 3) := by decide +kernel
theorem d_Model_hasGap_69 : decode b_Model_hasGap 69 = .ok (.iconst 0, 1) := by decide +kernel
theorem d_Model_hasGap_70 : decode b_Model_hasGap 70 = .ok (.istore 4, 2) := by decide +kernel
theorem d_Model_hasGap_72 : decode b_Model_hasGap 72 = .ok (.iinc 5 1, 3) := by decide +kernel
theorem d_Model_hasGap_75 : decode b_Model_hasGap 75 = .ok (.goto (-34), 3) := by decide +kernel
theorem d_Model_hasGap_78 : decode b_Model_hasGap 78 = .ok (.iload_n 2, 1) := by decide +kernel
theorem d_Model_hasGap_79 : decode b_Model_hasGap 79 = .ok (.ifCond .ne 28, 3) := by decide +kernel
theorem d_Model_hasGap_82 : decode b_Model_hasGap 82 = .ok (.iload 4, 2) := by decide +kernel
theorem d_Model_hasGap_84 : decode b_Model_hasGap 84 = .ok (.ifCond .ne 27, 3) := by decide +kernel
theorem d_Model_hasGap_87 : decode b_Model_hasGap 87 = .ok (.iload_n 1, 1) := by decide +kernel
theorem d_Model_hasGap_88 : decode b_Model_hasGap 88 = .ok (.ifCond .le 23, 3) := by decide +kernel
theorem d_Model_hasGap_91 : decode b_Model_hasGap 91 = .ok (.iload_n 1, 1) := by decide +kernel
theorem d_Model_hasGap_92 : decode b_Model_hasGap 92 = .ok (.aload_n 0, 1) := by decide +kernel
theorem d_Model_hasGap_93 : decode b_Model_hasGap 93 = .ok (.getfield 73, 3) := by decide +kernel
theorem d_Model_hasGap_96 : decode b_Model_hasGap 96 = .ok (.if_icmp .lt 11, 3) := by decide +kernel
theorem d_Model_hasGap_99 : decode b_Model_hasGap 99 = .ok (.iload_n 1, 1) := by decide +kernel
theorem d_Model_hasGap_100 : decode b_Model_hasGap 100 = .ok (.aload_n 0, 1) := by decide +kernel
theorem d_Model_hasGap_101 : decode b_Model_hasGap 101 = .ok (.getfield 112, 3) := by decide +kernel
theorem d_Model_hasGap_104 : decode b_Model_hasGap 104 = .ok (.if_icmp .le 7, 3) := by decide +kernel
theorem d_Model_hasGap_107 : decode b_Model_hasGap 107 = .ok (.iconst 1, 1) := by decide +kernel
theorem d_Model_hasGap_108 : decode b_Model_hasGap 108 = .ok (.goto 4, 3) := by decide +kernel
theorem d_Model_hasGap_111 : decode b_Model_hasGap 111 = .ok (.iconst 0, 1) := by decide +kernel
theorem d_Model_hasGap_112 : decode b_Model_hasGap 112 = .ok (.istore_n 2, 1) := by decide +kernel
theorem d_Model_hasGap_113 : decode b_Model_hasGap 113 = .ok (.iload 4, 2) := by decide +kernel
theorem d_Model_hasGap_115 : decode b_Model_hasGap 115 = .ok (.ifCond .eq 9, 3) := by decide +kernel
theorem d_Model_hasGap_118 : decode b_Model_hasGap 118 = .ok (.iload_n 1, 1) := by decide +kernel
theorem d_Model_hasGap_119 : decode b_Model_hasGap 119 = .ok (.iconst 1, 1) := by decide +kernel
theorem d_Model_hasGap_120 : decode b_Model_hasGap 120 = .ok (.iadd, 1) := by decide +kernel
theorem d_Model_hasGap_121 : decode b_Model_hasGap 121 = .ok (.goto 4, 3) := by decide +kernel
theorem d_Model_hasGap_124 : decode b_Model_hasGap 124 = .ok (.iconst 0, 1) := by decide +kernel
theorem d_Model_hasGap_125 : decode b_Model_hasGap 125 = .ok (.istore_n 1, 1) := by decide +kernel
theorem d_Model_hasGap_126 : decode b_Model_hasGap 126 = .ok (.iinc 3 1, 3) := by decide +kernel
theorem d_Model_hasGap_129 : decode b_Model_hasGap 129 = .ok (.goto (-123), 3) := by decide +kernel
theorem d_Model_hasGap_132 : decode b_Model_hasGap 132 = .ok (.iload_n 2, 1) := by decide +kernel
theorem d_Model_hasGap_133 : decode b_Model_hasGap 133 = .ok (.ireturn, 1) := by decide +kernel
theorem d_Model_check_0 : decode b_Model_check 0 = .ok (.aload_n 0, 1) := by decide +kernel
theorem d_Model_check_1 : decode b_Model_check 1 = .ok (.iconst 0, 1) := by decide +kernel
theorem d_Model_check_2 : decode b_Model_check 2 = .ok (.putfield 76, 3) := by decide +kernel
theorem d_Model_check_5 : decode b_Model_check 5 = .ok (.aload_n 0, 1) := by decide +kernel
theorem d_Model_check_6 : decode b_Model_check 6 = .ok (.invokevirtual 203, 3) := by decide +kernel
theorem d_Model_check_9 : decode b_Model_check 9 = .ok (.ifCond .eq 8, 3) := by decide +kernel
theorem d_Model_check_12 : decode b_Model_check 12 = .ok (.bipush 7, 2) := by decide +kernel
theorem d_Model_check_14 : decode b_Model_check 14 = .ok (.goto 4, 3) := by decide +kernel
theorem d_Model_check_17 : decode b_Model_check 17 = .ok (.iconst 0, 1) := by decide +kernel
theorem d_Model_check_18 : decode b_Model_check 18 = .ok (.istore_n 1, 1) := by decide +kernel
theorem d_Model_check_19 : decode b_Model_check 19 = .ok (.iconst 0, 1) := by decide +kernel
theorem d_Model_check_20 : decode b_Model_check 20 = .ok (.istore_n 2, 1) := by decide +kernel
theorem d_Model_check_21 : decode b_Model_check 21 = .ok (.iload_n 2, 1) := by decide +kernel
theorem d_Model_check_22 : decode b_Model_check 22 = .ok (.aload_n 0, 1) := by decide +kernel
theorem d_Model_check_23 : decode b_Model_check 23 = .ok (.getfield 97, 3) := by decide +kernel
theorem d_Model_check_26 : decode b_Model_check 26 = .ok (.if_icmp .ge 52, 3) := by decide +kernel
theorem d_Model_check_29 : decode b_Model_check 29 = .ok (.iconst 0, 1) := by decide +kernel
theorem d_Model_check_30 : decode b_Model_check 30 = .ok (.istore_n 3, 1) := by decide +kernel
theorem d_Model_check_31 : decode b_Model_check 31 = .ok (.iload_n 3, 1) := by decide +kernel
theorem d_Model_check_32 : decode b_Model_check 32 = .ok (.iload_n 2, 1) := by decide +kernel
theorem d_Model_check_33 : decode b_Model_check 33 = .ok (.if_icmp .ge 39, 3) := by decide +kernel
theorem d_Model_check_36 : decode b_Model_check 36 = .ok (.aload_n 0, 1) := by decide +kernel
theorem d_Model_check_37 : decode b_Model_check 37 = .ok (.iload_n 2, 1) := by decide +kernel
theorem d_Model_check_38 : decode b_Model_check 38 = .ok (.iload_n 3, 1) := by decide +kernel
theorem d_Model_check_39 : decode b_Model_check 39 = .ok (.invokevirtual 206, 3) := by decide +kernel
theorem d_Model_check_42 : decode b_Model_check 42 = .ok (.ifCond .eq 22, 3) := by decide +kernel
theorem d_Model_check_45 : decode b_Model_check 45 = .ok (.aload_n 0, 1) := by decide +kernel
theorem d_Model_check_46 : decode b_Model_check 46 = .ok (.getfield 36, 3) := by decide +kernel
theorem d_Model_check_49 : decode b_Model_check 49 = .ok (.bipush 6, 2) := by decide +kernel
theorem d_Model_check_51 : decode b_Model_check 51 = .ok (.iload_n 2, 1) := by decide +kernel
theorem d_Model_check_52 : decode b_Model_check 52 = .ok (.imul, 1) := by decide +kernel
theorem d_Model_check_53 : decode b_Model_check 53 = .ok (.iload_n 3, 1) := by decide +kernel
theorem d_Model_check_54 : decode b_Model_check 54 = .ok (.iadd, 1) := by decide +kernel
theorem d_Model_check_55 : decode b_Model_check 55 = .ok (.baload, 1) := by decide +kernel
theorem d_Model_check_56 : decode b_Model_check 56 = .ok (.ifCond .eq 8, 3) := by decide +kernel
theorem d_Model_check_59 : decode b_Model_check 59 = .ok (.bipush 6, 2) := by decide +kernel
theorem d_Model_check_61 : decode b_Model_check 61 = .ok (.goto 4, 3) := by decide +kernel
theorem d_Model_check_64 : decode b_Model_check 64 = .ok (.iload_n 1, 1) := by decide +kernel
theorem d_Model_check_65 : decode b_Model_check 65 = .ok (.istore_n 1, 1) := by decide +kernel
theorem d_Model_check_66 : decode b_Model_check 66 = .ok (.iinc 3 1, 3) := by decide +kernel
theorem d_Model_check_69 : decode b_Model_check 69 = .ok (.goto (-38), 3) := by decide +kernel
theorem d_Model_check_72 : decode b_Model_check 72 = .ok (.iinc 2 1, 3) := by decide +kernel
theorem d_Model_check_75 : decode b_Model_check 75 = .ok (.goto (-54), 3) := by decide +kernel
theorem d_Model_check_78 : decode b_Model_check 78 = .ok (.iconst 0, 1) := by decide +kernel
theorem d_Model_check_79 : decode b_Model_check 79 = .ok (.istore_n 2, 1) := by decide +kernel
theorem d_Model_check_80 : decode b_Model_check 80 = .ok (.iload_n 2, 1) := by decide +kernel
theorem d_Model_check_81 : decode b_Model_check 81 = .ok (.aload_n 0, 1) := by decide +kernel
theorem d_Model_check_82 : decode b_Model_check 82 = .ok (.getfield 97, 3) := by decide +kernel
theorem d_Model_check_85 : decode b_Model_check 85 = .ok (.if_icmp .ge 37, 3) := by decide +kernel
theorem d_Model_check_88 : decode b_Model_check 88 = .ok (.aload_n 0, 1) := by decide +kernel
theorem d_Model_check_89 : decode b_Model_check 89 = .ok (.iload_n 2, 1) := by decide +kernel
theorem d_Model_check_90 : decode b_Model_check 90 = .ok (.invokevirtual 197, 3) := by decide +kernel
theorem d_Model_check_93 : decode b_Model_check 93 = .ok (.ifCond .eq 21, 3) := by decide +kernel
theorem d_Model_check_96 : decode b_Model_check 96 = .ok (.aload_n 0, 1) := by decide +kernel
theorem d_Model_check_97 : decode b_Model_check 97 = .ok (.iload_n 2, 1) := by decide +kernel
theorem d_Model_check_98 : decode b_Model_check 98 = .ok (.aload_n 0, 1) := by decide +kernel
theorem d_Model_check_99 : decode b_Model_check 99 = .ok (.getfield 39, 3) := by decide +kernel
theorem d_Model_check_102 : decode b_Model_check 102 = .ok (.iload_n 2, 1) := by decide +kernel
theorem d_Model_check_103 : decode b_Model_check 103 = .ok (.iaload, 1) := by decide +kernel
theorem d_Model_check_104 : decode b_Model_check 104 = .ok (.invokevirtual 115, 3) := by decide +kernel
theorem d_Model_check_107 : decode b_Model_check 107 = .ok (.ifCond .ne 7, 3) := by decide +kernel
theorem d_Model_check_110 : decode b_Model_check 110 = .ok (.iconst 5, 1) := by decide +kernel
theorem d_Model_check_111 : decode b_Model_check 111 = .ok (.goto 4, 3) := by decide +kernel
theorem d_Model_check_114 : decode b_Model_check 114 = .ok (.iload_n 1, 1) := by decide +kernel
theorem d_Model_check_115 : decode b_Model_check 115 = .ok (.istore_n 1, 1) := by decide +kernel
theorem d_Model_check_116 : decode b_Model_check 116 = .ok (.iinc 2 1, 3) := by decide +kernel
theorem d_Model_check_119 : decode b_Model_check 119 = .ok (.goto (-39), 3) := by decide +kernel
theorem d_Model_check_122 : decode b_Model_check 122 = .ok (.iconst 0, 1) := by decide +kernel
theorem d_Model_check_123 : decode b_Model_check 123 = .ok (.istore_n 2, 1) := by decide +kernel
theorem d_Model_check_124 : decode b_Model_check 124 = .ok (.iload_n 2, 1) := by decide +kernel
theorem d_Model_check_125 : decode b_Model_check 125 = .ok (.aload_n 0, 1) := by decide +kernel
theorem d_Model_check_126 : decode b_Model_check 126 = .ok (.getfield 97, 3) := by decide +kernel
theorem d_Model_check_129 : decode b_Model_check 129 = .ok (.if_icmp .ge 32, 3) := by decide +kernel
theorem d_Model_check_132 : decode b_Model_check 132 = .ok (.aload_n 0, 1) := by decide +kernel
theorem d_Model_check_133 : decode b_Model_check 133 = .ok (.getfield 30, 3) := by decide +kernel
theorem d_Model_check_136 : decode b_Model_check 136 = .ok (.iload_n 2, 1) := by decide +kernel
theorem d_Model_check_137 : decode b_Model_check 137 = .ok (.baload, 1) := by decide +kernel
theorem d_Model_check_138 : decode b_Model_check 138 = .ok (.ifCond .eq 15, 3) := by decide +kernel
theorem d_Model_check_141 : decode b_Model_check 141 = .ok (.aload_n 0, 1) := by decide +kernel
theorem d_Model_check_142 : decode b_Model_check 142 = .ok (.iload_n 2, 1) := by decide +kernel
theorem d_Model_check_143 : decode b_Model_check 143 = .ok (.invokevirtual 197, 3) := by decide +kernel
theorem d_Model_check_146 : decode b_Model_check 146 = .ok (.ifCond .ne 7, 3) := by decide +kernel
theorem d_Model_check_149 : decode b_Model_check 149 = .ok (.iconst 4, 1) := by decide +kernel
theorem d_Model_check_150 : decode b_Model_check 150 = .ok (.goto 4, 3) := by decide +kernel
theorem d_Model_check_153 : decode b_Model_check 153 = .ok (.iload_n 1, 1) := by decide +kernel
theorem d_Model_check_154 : decode b_Model_check 154 = .ok (.istore_n 1, 1) := by decide +kernel
theorem d_Model_check_155 : decode b_Model_check 155 = .ok (.iinc 2 1, 3) := by decide +kernel
theorem d_Model_check_158 : decode b_Model_check 158 = .ok (.goto (-34), 3) := by decide +kernel
theorem d_Model_check_161 : decode b_Model_check 161 = .ok (.iconst 0, 1) := by decide +kernel
theorem d_Model_check_162 : decode b_Model_check 162 = .ok (.istore_n 2, 1) := by decide +kernel
theorem d_Model_check_163 : decode b_Model_check 163 = .ok (.iload_n 2, 1) := by decide +kernel
theorem d_Model_check_164 : decode b_Model_check 164 = .ok (.aload_n 0, 1) := by decide +kernel
theorem d_Model_check_165 : decode b_Model_check 165 = .ok (.getfield 69, 3) := by decide +kernel
theorem d_Model_check_168 : decode b_Model_check 168 = .ok (.if_icmp .ge 49, 3) := by decide +kernel
theorem d_Model_check_171 : decode b_Model_check 171 = .ok (.iconst 0, 1) := by decide +kernel
theorem d_Model_check_172 : decode b_Model_check 172 = .ok (.istore_n 3, 1) := by decide +kernel
theorem d_Model_check_173 : decode b_Model_check 173 = .ok (.iload_n 3, 1) := by decide +kernel
theorem d_Model_check_174 : decode b_Model_check 174 = .ok (.aload_n 0, 1) := by decide +kernel
theorem d_Model_check_175 : decode b_Model_check 175 = .ok (.getfield 97, 3) := by decide +kernel
theorem d_Model_check_178 : decode b_Model_check 178 = .ok (.if_icmp .ge 33, 3) := by decide +kernel
theorem d_Model_check_181 : decode b_Model_check 181 = .ok (.aload_n 0, 1) := by decide +kernel
theorem d_Model_check_182 : decode b_Model_check 182 = .ok (.getfield 7, 3) := by decide +kernel
theorem d_Model_check_185 : decode b_Model_check 185 = .ok (.iload_n 2, 1) := by decide +kernel
theorem d_Model_check_186 : decode b_Model_check 186 = .ok (.baload, 1) := by decide +kernel
theorem d_Model_check_187 : decode b_Model_check 187 = .ok (.ifCond .eq 16, 3) := by decide +kernel
theorem d_Model_check_190 : decode b_Model_check 190 = .ok (.aload_n 0, 1) := by decide +kernel
theorem d_Model_check_191 : decode b_Model_check 191 = .ok (.iload_n 3, 1) := by decide +kernel
theorem d_Model_check_192 : decode b_Model_check 192 = .ok (.iload_n 2, 1) := by decide +kernel
theorem d_Model_check_193 : decode b_Model_check 193 = .ok (.invokevirtual 200, 3) := by decide +kernel
theorem d_Model_check_196 : decode b_Model_check 196 = .ok (.ifCond .eq 7, 3) := by decide +kernel
theorem d_Model_check_199 : decode b_Model_check 199 = .ok (.iconst 3, 1) := by decide +kernel
theorem d_Model_check_200 : decode b_Model_check 200 = .ok (.goto 4, 3) := by decide +kernel
theorem d_Model_check_203 : decode b_Model_check 203 = .ok (.iload_n 1, 1) := by decide +kernel
theorem d_Model_check_204 : decode b_Model_check 204 = .ok (.istore_n 1, 1) := by decide +kernel
theorem d_Model_check_205 : decode b_Model_check 205 = .ok (.iinc 3 1, 3) := by decide +kernel
theorem d_Model_check_208 : decode b_Model_check 208 = .ok (.goto (-35), 3) := by decide +kernel
theorem d_Model_check_211 : decode b_Model_check 211 = .ok (.iinc 2 1, 3) := by decide +kernel
theorem d_Model_check_214 : decode b_Model_check 214 = .ok (.goto (-51), 3) := by decide +kernel
theorem d_Model_check_217 : decode b_Model_check 217 = .ok (.iconst 0, 1) := by decide +kernel
theorem d_Model_check_218 : decode b_Model_check 218 = .ok (.istore_n 2, 1) := by decide +kernel
theorem d_Model_check_219 : decode b_Model_check 219 = .ok (.iload_n 2, 1) := by decide +kernel
theorem d_Model_check_220 : decode b_Model_check 220 = .ok (.aload_n 0, 1) := by decide +kernel
theorem d_Model_check_221 : decode b_Model_check 221 = .ok (.getfield 97, 3) := by decide +kernel
theorem d_Model_check_224 : decode b_Model_check 224 = .ok (.if_icmp .ge 88, 3) := by decide +kernel
theorem d_Model_check_227 : decode b_Model_check 227 = .ok (.iconst 0, 1) := by decide +kernel
theorem d_Model_check_228 : decode b_Model_check 228 = .ok (.istore_n 3, 1) := by decide +kernel
theorem d_Model_check_229 : decode b_Model_check 229 = .ok (.iload_n 3, 1) := by decide +kernel
theorem d_Model_check_230 : decode b_Model_check 230 = .ok (.iload_n 2, 1) := by decide +kernel
theorem d_Model_check_231 : decode b_Model_check 231 = .ok (.if_icmp .ge 75, 3) := by decide +kernel
theorem d_Model_check_234 : decode b_Model_check 234 = .ok (.aload_n 0, 1) := by decide +kernel
theorem d_Model_check_235 : decode b_Model_check 235 = .ok (.iload_n 2, 1) := by decide +kernel
theorem d_Model_check_236 : decode b_Model_check 236 = .ok (.invokevirtual 197, 3) := by decide +kernel
theorem d_Model_check_239 : decode b_Model_check 239 = .ok (.ifCond .eq 59, 3) := by decide +kernel
theorem d_Model_check_242 : decode b_Model_check 242 = .ok (.aload_n 0, 1) := by decide +kernel
theorem d_Model_check_243 : decode b_Model_check 243 = .ok (.iload_n 3, 1) := by decide +kernel
theorem d_Model_check_244 : decode b_Model_check 244 = .ok (.invokevirtual 197, 3) := by decide +kernel
theorem d_Model_check_247 : decode b_Model_check 247 = .ok (.ifCond .eq 51, 3) := by decide +kernel
theorem d_Model_check_250 : decode b_Model_check 250 = .ok (.aload_n 0, 1) := by decide +kernel
theorem d_Model_check_251 : decode b_Model_check 251 = .ok (.getfield 39, 3) := by decide +kernel
theorem d_Model_check_254 : decode b_Model_check 254 = .ok (.iload_n 2, 1) := by decide +kernel
theorem d_Model_check_255 : decode b_Model_check 255 = .ok (.iaload, 1) := by decide +kernel
theorem d_Model_check_256 : decode b_Model_check 256 = .ok (.aload_n 0, 1) := by decide +kernel
theorem d_Model_check_257 : decode b_Model_check 257 = .ok (.getfield 39, 3) := by decide +kernel
theorem d_Model_check_260 : decode b_Model_check 260 = .ok (.iload_n 3, 1) := by decide +kernel
theorem d_Model_check_261 : decode b_Model_check 261 = .ok (.iaload, 1) := by decide +kernel
theorem d_Model_check_262 : decode b_Model_check 262 = .ok (.aload_n 0, 1) := by decide +kernel
theorem d_Model_check_263 : decode b_Model_check 263 = .ok (.getfield 17, 3) := by decide +kernel
theorem d_Model_check_266 : decode b_Model_check 266 = .ok (.iload_n 3, 1) := by decide +kernel
theorem d_Model_check_267 : decode b_Model_check 267 = .ok (.iaload, 1) := by decide +kernel
theorem d_Model_check_268 : decode b_Model_check 268 = .ok (.iadd, 1) := by decide +kernel
theorem d_Model_check_269 : decode b_Model_check 269 = .ok (.if_icmp .ge 29, 3) := by decide +kernel
theorem d_Model_check_272 : decode b_Model_check 272 = .ok (.aload_n 0, 1) := by decide +kernel
theorem d_Model_check_273 : decode b_Model_check 273 = .ok (.getfield 39, 3) := by decide +kernel
theorem d_Model_check_276 : decode b_Model_check 276 = .ok (.iload_n 3, 1) := by decide +kernel
theorem d_Model_check_277 : decode b_Model_check 277 = .ok (.iaload, 1) := by decide +kernel
theorem d_Model_check_278 : decode b_Model_check 278 = .ok (.aload_n 0, 1) := by decide +kernel
theorem d_Model_check_279 : decode b_Model_check 279 = .ok (.getfield 39, 3) := by decide +kernel
theorem d_Model_check_282 : decode b_Model_check 282 = .ok (.iload_n 2, 1) := by decide +kernel
theorem d_Model_check_283 : decode b_Model_check 283 = .ok (.iaload, 1) := by decide +kernel
theorem d_Model_check_284 : decode b_Model_check 284 = .ok (.aload_n 0, 1) := by decide +kernel
theorem d_Model_check_285 : decode b_Model_check 285 = .ok (.getfield 17, 3) := by decide +kernel
theorem d_Model_check_288 : decode b_Model_check 288 = .ok (.iload_n 2, 1) := by decide +kernel
theorem d_Model_check_289 : decode b_Model_check 289 = .ok (.iaload, 1) := by decide +kernel
theorem d_Model_check_290 : decode b_Model_check 290 = .ok (.iadd, 1) := by decide +kernel
theorem d_Model_check_291 : decode b_Model_check 291 = .ok (.if_icmp .ge 7, 3) := by decide +kernel
theorem d_Model_check_294 : decode b_Model_check 294 = .ok (.iconst 2, 1) := by decide +kernel
theorem d_Model_check_295 : decode b_Model_check 295 = .ok (.goto 4, 3) := by decide +kernel
theorem d_Model_check_298 : decode b_Model_check 298 = .ok (.iload_n 1, 1) := by decide +kernel
theorem d_Model_check_299 : decode b_Model_check 299 = .ok (.istore_n 1, 1) := by decide +kernel
theorem d_Model_check_300 : decode b_Model_check 300 = .ok (.iinc 3 1, 3) := by decide +kernel
theorem d_Model_check_303 : decode b_Model_check 303 = .ok (.goto (-74), 3) := by decide +kernel
theorem d_Model_check_306 : decode b_Model_check 306 = .ok (.iinc 2 1, 3) := by decide +kernel
theorem d_Model_check_309 : decode b_Model_check 309 = .ok (.goto (-90), 3) := by decide +kernel
theorem d_Model_check_312 : decode b_Model_check 312 = .ok (.iconst 0, 1) := by decide +kernel
theorem d_Model_check_313 : decode b_Model_check 313 = .ok (.istore_n 2, 1) := by decide +kernel
theorem d_Model_check_314 : decode b_Model_check 314 = .ok (.iload_n 2, 1) := by decide +kernel
theorem d_Model_check_315 : decode b_Model_check 315 = .ok (.aload_n 0, 1) := by decide +kernel
theorem d_Model_check_316 : decode b_Model_check 316 = .ok (.getfield 97, 3) := by decide +kernel
theorem d_Model_check_319 : decode b_Model_check 319 = .ok (.if_icmp .ge 52, 3) := by decide +kernel
theorem d_Model_check_322 : decode b_Model_check 322 = .ok (.aload_n 0, 1) := by decide +kernel
theorem d_Model_check_323 : decode b_Model_check 323 = .ok (.iload_n 2, 1) := by decide +kernel
theorem d_Model_check_324 : decode b_Model_check 324 = .ok (.invokevirtual 197, 3) := by decide +kernel
theorem d_Model_check_327 : decode b_Model_check 327 = .ok (.ifCond .eq 36, 3) := by decide +kernel
theorem d_Model_check_330 : decode b_Model_check 330 = .ok (.aload_n 0, 1) := by decide +kernel
theorem d_Model_check_331 : decode b_Model_check 331 = .ok (.getfield 39, 3) := by decide +kernel
theorem d_Model_check_334 : decode b_Model_check 334 = .ok (.iload_n 2, 1) := by decide +kernel
theorem d_Model_check_335 : decode b_Model_check 335 = .ok (.iaload, 1) := by decide +kernel
theorem d_Model_check_336 : decode b_Model_check 336 = .ok (.ifCond .lt 23, 3) := by decide +kernel
theorem d_Model_check_339 : decode b_Model_check 339 = .ok (.aload_n 0, 1) := by decide +kernel
theorem d_Model_check_340 : decode b_Model_check 340 = .ok (.getfield 39, 3) := by decide +kernel
theorem d_Model_check_343 : decode b_Model_check 343 = .ok (.iload_n 2, 1) := by decide +kernel
theorem d_Model_check_344 : decode b_Model_check 344 = .ok (.iaload, 1) := by decide +kernel
theorem d_Model_check_345 : decode b_Model_check 345 = .ok (.aload_n 0, 1) := by decide +kernel
theorem d_Model_check_346 : decode b_Model_check 346 = .ok (.getfield 17, 3) := by decide +kernel
theorem d_Model_check_349 : decode b_Model_check 349 = .ok (.iload_n 2, 1) := by decide +kernel
theorem d_Model_check_350 : decode b_Model_check 350 = .ok (.iaload, 1) := by decide +kernel
theorem d_Model_check_351 : decode b_Model_check 351 = .ok (.iadd, 1) := by decide +kernel
theorem d_Model_check_352 : decode b_Model_check 352 = .ok (.aload_n 0, 1) := by decide +kernel
theorem d_Model_check_353 : decode b_Model_check 353 = .ok (.getfield 69, 3) := by decide +kernel
theorem d_Model_check_356 : decode b_Model_check 356 = .ok (.if_icmp .le 7, 3) := by decide +kernel
theorem d_Model_check_359 : decode b_Model_check 359 = .ok (.iconst 1, 1) := by decide +kernel
theorem d_Model_check_360 : decode b_Model_check 360 = .ok (.goto 4, 3) := by decide +kernel
theorem d_Model_check_363 : decode b_Model_check 363 = .ok (.iload_n 1, 1) := by decide +kernel
theorem d_Model_check_364 : decode b_Model_check 364 = .ok (.istore_n 1, 1) := by decide +kernel
theorem d_Model_check_365 : decode b_Model_check 365 = .ok (.iinc 2 1, 3) := by decide +kernel
theorem d_Model_check_368 : decode b_Model_check 368 = .ok (.goto (-54), 3) := by decide +kernel
theorem d_Model_check_371 : decode b_Model_check 371 = .ok (.iload_n 1, 1) := by decide +kernel
theorem d_Model_check_372 : decode b_Model_check 372 = .ok (.ireturn, 1) := by decide +kernel
theorem d_Model_row_0 : decode b_Model_row 0 = .ok (.aload_n 0, 1) := by decide +kernel
theorem d_Model_row_1 : decode b_Model_row 1 = .ok (.iconst 0, 1) := by decide +kernel
theorem d_Model_row_2 : decode b_Model_row 2 = .ok (.putfield 76, 3) := by decide +kernel
theorem d_Model_row_5 : decode b_Model_row 5 = .ok (.lconst 0, 1) := by decide +kernel
theorem d_Model_row_6 : decode b_Model_row 6 = .ok (.lstore_n 1, 1) := by decide +kernel
theorem d_Model_row_7 : decode b_Model_row 7 = .ok (.iconst 0, 1) := by decide +kernel
theorem d_Model_row_8 : decode b_Model_row 8 = .ok (.istore_n 3, 1) := by decide +kernel
theorem d_Model_row_9 : decode b_Model_row 9 = .ok (.iload_n 3, 1) := by decide +kernel
theorem d_Model_row_10 : decode b_Model_row 10 = .ok (.aload_n 0, 1) := by decide +kernel
theorem d_Model_row_11 : decode b_Model_row 11 = .ok (.getfield 97, 3) := by decide +kernel
theorem d_Model_row_14 : decode b_Model_row 14 = .ok (.if_icmp .ge 74, 3) := by decide +kernel
theorem d_Model_row_17 : decode b_Model_row 17 = .ok (.lload_n 1, 1) := by decide +kernel
theorem d_Model_row_18 : decode b_Model_row 18 = .ok (.aload_n 0, 1) := by decide +kernel
theorem d_Model_row_19 : decode b_Model_row 19 = .ok (.iload_n 3, 1) := by decide +kernel
theorem d_Model_row_20 : decode b_Model_row 20 = .ok (.invokevirtual 197, 3) := by decide +kernel
theorem d_Model_row_23 : decode b_Model_row 23 = .ok (.ifCond .eq 12, 3) := by decide +kernel
theorem d_Model_row_26 : decode b_Model_row 26 = .ok (.aload_n 0, 1) := by decide +kernel
theorem d_Model_row_27 : decode b_Model_row 27 = .ok (.getfield 20, 3) := by decide +kernel
theorem d_Model_row_30 : decode b_Model_row 30 = .ok (.iload_n 3, 1) := by decide +kernel
theorem d_Model_row_31 : decode b_Model_row 31 = .ok (.laload, 1) := by decide +kernel
theorem d_Model_row_32 : decode b_Model_row 32 = .ok (.goto 4, 3) := by decide +kernel
theorem d_Model_row_35 : decode b_Model_row 35 = .ok (.lconst 0, 1) := by decide +kernel
theorem d_Model_row_36 : decode b_Model_row 36 = .ok (.ladd, 1) := by decide +kernel
theorem d_Model_row_37 : decode b_Model_row 37 = .ok (.lstore_n 1, 1) := by decide +kernel
theorem d_Model_row_38 : decode b_Model_row 38 = .ok (.iconst 0, 1) := by decide +kernel
theorem d_Model_row_39 : decode b_Model_row 39 = .ok (.istore 4, 2) := by decide +kernel
theorem d_Model_row_41 : decode b_Model_row 41 = .ok (.iload 4, 2) := by decide +kernel
theorem d_Model_row_43 : decode b_Model_row 43 = .ok (.iload_n 3, 1) := by decide +kernel
theorem d_Model_row_44 : decode b_Model_row 44 = .ok (.if_icmp .ge 38, 3) := by decide +kernel
theorem d_Model_row_47 : decode b_Model_row 47 = .ok (.lload_n 1, 1) := by decide +kernel
theorem d_Model_row_48 : decode b_Model_row 48 = .ok (.aload_n 0, 1) := by decide +kernel
theorem d_Model_row_49 : decode b_Model_row 49 = .ok (.iload_n 3, 1) := by decide +kernel
theorem d_Model_row_50 : decode b_Model_row 50 = .ok (.iload 4, 2) := by decide +kernel
theorem d_Model_row_52 : decode b_Model_row 52 = .ok (.invokevirtual 206, 3) := by decide +kernel
theorem d_Model_row_55 : decode b_Model_row 55 = .ok (.ifCond .eq 18, 3) := by decide +kernel
theorem d_Model_row_58 : decode b_Model_row 58 = .ok (.aload_n 0, 1) := by decide +kernel
theorem d_Model_row_59 : decode b_Model_row 59 = .ok (.getfield 33, 3) := by decide +kernel
theorem d_Model_row_62 : decode b_Model_row 62 = .ok (.bipush 6, 2) := by decide +kernel
theorem d_Model_row_64 : decode b_Model_row 64 = .ok (.iload_n 3, 1) := by decide +kernel
theorem d_Model_row_65 : decode b_Model_row 65 = .ok (.imul, 1) := by decide +kernel
theorem d_Model_row_66 : decode b_Model_row 66 = .ok (.iload 4, 2) := by decide +kernel
theorem d_Model_row_68 : decode b_Model_row 68 = .ok (.iadd, 1) := by decide +kernel
theorem d_Model_row_69 : decode b_Model_row 69 = .ok (.laload, 1) := by decide +kernel
theorem d_Model_row_70 : decode b_Model_row 70 = .ok (.goto 4, 3) := by decide +kernel
theorem d_Model_row_73 : decode b_Model_row 73 = .ok (.lconst 0, 1) := by decide +kernel
theorem d_Model_row_74 : decode b_Model_row 74 = .ok (.ladd, 1) := by decide +kernel
theorem d_Model_row_75 : decode b_Model_row 75 = .ok (.lstore_n 1, 1) := by decide +kernel
theorem d_Model_row_76 : decode b_Model_row 76 = .ok (.iinc 4 1, 3) := by decide +kernel
theorem d_Model_row_79 : decode b_Model_row 79 = .ok (.goto (-38), 3) := by decide +kernel
theorem d_Model_row_82 : decode b_Model_row 82 = .ok (.iinc 3 1, 3) := by decide +kernel
theorem d_Model_row_85 : decode b_Model_row 85 = .ok (.goto (-76), 3) := by decide +kernel
theorem d_Model_row_88 : decode b_Model_row 88 = .ok (.lload_n 1, 1) := by decide +kernel
theorem d_Model_row_89 : decode b_Model_row 89 = .ok (.lreturn, 1) := by decide +kernel
