theorem d_Model_init_0 : decode b_Model_init 0 = .ok (.aload_n 0, 1) := by decide +kernel
theorem d_Model_init_1 : decode b_Model_init 1 = .ok (.invokespecial 1, 3) := by decide +kernel
theorem d_Model_init_4 : decode b_Model_init 4 = .ok (.aload_n 0, 1) := by decide +kernel
theorem d_Model_init_5 : decode b_Model_init 5 = .ok (.bipush 41, 2) := by decide +kernel
theorem d_Model_init_7 : decode b_Model_init 7 = .ok (.newarray .boolean, 2) := by decide +kernel
theorem d_Model_init_9 : decode b_Model_init 9 = .ok (.putfield 7, 3) := by decide +kernel
theorem d_Model_init_12 : decode b_Model_init 12 = .ok (.aload_n 0, 1) := by decide +kernel
theorem d_Model_init_13 : decode b_Model_init 13 = .ok (.bipush 8, 2) := by decide +kernel
theorem d_Model_init_15 : decode b_Model_init 15 = .ok (.newarray .int, 2) := by decide +kernel
theorem d_Model_init_17 : decode b_Model_init 17 = .ok (.putfield 13, 3) := by decide +kernel
theorem d_Model_init_20 : decode b_Model_init 20 = .ok (.aload_n 0, 1) := by decide +kernel
theorem d_Model_init_21 : decode b_Model_init 21 = .ok (.bipush 6, 2) := by decide +kernel
theorem d_Model_init_23 : decode b_Model_init 23 = .ok (.newarray .int, 2) := by decide +kernel
theorem d_Model_init_25 : decode b_Model_init 25 = .ok (.putfield 17, 3) := by decide +kernel
theorem d_Model_init_28 : decode b_Model_init 28 = .ok (.aload_n 0, 1) := by decide +kernel
theorem d_Model_init_29 : decode b_Model_init 29 = .ok (.bipush 6, 2) := by decide +kernel
theorem d_Model_init_31 : decode b_Model_init 31 = .ok (.newarray .long, 2) := by decide +kernel
theorem d_Model_init_33 : decode b_Model_init 33 = .ok (.putfield 20, 3) := by decide +kernel
theorem d_Model_init_36 : decode b_Model_init 36 = .ok (.aload_n 0, 1) := by decide +kernel
theorem d_Model_init_37 : decode b_Model_init 37 = .ok (.bipush 6, 2) := by decide +kernel
theorem d_Model_init_39 : decode b_Model_init 39 = .ok (.newarray .long, 2) := by decide +kernel
theorem d_Model_init_41 : decode b_Model_init 41 = .ok (.putfield 24, 3) := by decide +kernel
theorem d_Model_init_44 : decode b_Model_init 44 = .ok (.aload_n 0, 1) := by decide +kernel
theorem d_Model_init_45 : decode b_Model_init 45 = .ok (.bipush 6, 2) := by decide +kernel
theorem d_Model_init_47 : decode b_Model_init 47 = .ok (.newarray .int, 2) := by decide +kernel
theorem d_Model_init_49 : decode b_Model_init 49 = .ok (.putfield 27, 3) := by decide +kernel
theorem d_Model_init_52 : decode b_Model_init 52 = .ok (.aload_n 0, 1) := by decide +kernel
theorem d_Model_init_53 : decode b_Model_init 53 = .ok (.bipush 6, 2) := by decide +kernel
theorem d_Model_init_55 : decode b_Model_init 55 = .ok (.newarray .boolean, 2) := by decide +kernel
theorem d_Model_init_57 : decode b_Model_init 57 = .ok (.putfield 30, 3) := by decide +kernel
theorem d_Model_init_60 : decode b_Model_init 60 = .ok (.aload_n 0, 1) := by decide +kernel
theorem d_Model_init_61 : decode b_Model_init 61 = .ok (.bipush 36, 2) := by decide +kernel
theorem d_Model_init_63 : decode b_Model_init 63 = .ok (.newarray .long, 2) := by decide +kernel
theorem d_Model_init_65 : decode b_Model_init 65 = .ok (.putfield 33, 3) := by decide +kernel
theorem d_Model_init_68 : decode b_Model_init 68 = .ok (.aload_n 0, 1) := by decide +kernel
theorem d_Model_init_69 : decode b_Model_init 69 = .ok (.bipush 36, 2) := by decide +kernel
theorem d_Model_init_71 : decode b_Model_init 71 = .ok (.newarray .boolean, 2) := by decide +kernel
theorem d_Model_init_73 : decode b_Model_init 73 = .ok (.putfield 36, 3) := by decide +kernel
theorem d_Model_init_76 : decode b_Model_init 76 = .ok (.aload_n 0, 1) := by decide +kernel
theorem d_Model_init_77 : decode b_Model_init 77 = .ok (.bipush 6, 2) := by decide +kernel
theorem d_Model_init_79 : decode b_Model_init 79 = .ok (.newarray .int, 2) := by decide +kernel
theorem d_Model_init_81 : decode b_Model_init 81 = .ok (.putfield 39, 3) := by decide +kernel
theorem d_Model_init_84 : decode b_Model_init 84 = .ok (.aload_n 0, 1) := by decide +kernel
theorem d_Model_init_85 : decode b_Model_init 85 = .ok (.sipush 20992, 3) := by decide +kernel
theorem d_Model_init_88 : decode b_Model_init 88 = .ok (.newarray .long, 2) := by decide +kernel
theorem d_Model_init_90 : decode b_Model_init 90 = .ok (.putfield 42, 3) := by decide +kernel
theorem d_Model_init_93 : decode b_Model_init 93 = .ok (.aload_n 0, 1) := by decide +kernel
theorem d_Model_init_94 : decode b_Model_init 94 = .ok (.sipush 20992, 3) := by decide +kernel
theorem d_Model_init_97 : decode b_Model_init 97 = .ok (.newarray .long, 2) := by decide +kernel
theorem d_Model_init_99 : decode b_Model_init 99 = .ok (.putfield 45, 3) := by decide +kernel
theorem d_Model_init_102 : decode b_Model_init 102 = .ok (.aload_n 0, 1) := by decide +kernel
theorem d_Model_init_103 : decode b_Model_init 103 = .ok (.bipush 64, 2) := by decide +kernel
theorem d_Model_init_105 : decode b_Model_init 105 = .ok (.newarray .boolean, 2) := by decide +kernel
theorem d_Model_init_107 : decode b_Model_init 107 = .ok (.putfield 48, 3) := by decide +kernel
theorem d_Model_init_110 : decode b_Model_init 110 = .ok (.aload_n 0, 1) := by decide +kernel
theorem d_Model_init_111 : decode b_Model_init 111 = .ok (.bipush 42, 2) := by decide +kernel
theorem d_Model_init_113 : decode b_Model_init 113 = .ok (.newarray .int, 2) := by decide +kernel
theorem d_Model_init_115 : decode b_Model_init 115 = .ok (.putfield 51, 3) := by decide +kernel
theorem d_Model_init_118 : decode b_Model_init 118 = .ok (.aload_n 0, 1) := by decide +kernel
theorem d_Model_init_119 : decode b_Model_init 119 = .ok (.sipush 246, 3) := by decide +kernel
theorem d_Model_init_122 : decode b_Model_init 122 = .ok (.newarray .boolean, 2) := by decide +kernel
theorem d_Model_init_124 : decode b_Model_init 124 = .ok (.putfield 54, 3) := by decide +kernel
theorem d_Model_init_127 : decode b_Model_init 127 = .ok (.aload_n 0, 1) := by decide +kernel
theorem d_Model_init_128 : decode b_Model_init 128 = .ok (.bipush 16, 2) := by decide +kernel
theorem d_Model_init_130 : decode b_Model_init 130 = .ok (.newarray .int, 2) := by decide +kernel
theorem d_Model_init_132 : decode b_Model_init 132 = .ok (.putfield 57, 3) := by decide +kernel
theorem d_Model_init_135 : decode b_Model_init 135 = .ok (.aload_n 0, 1) := by decide +kernel
theorem d_Model_init_136 : decode b_Model_init 136 = .ok (.bipush 41, 2) := by decide +kernel
theorem d_Model_init_138 : decode b_Model_init 138 = .ok (.newarray .int, 2) := by decide +kernel
theorem d_Model_init_140 : decode b_Model_init 140 = .ok (.putfield 60, 3) := by decide +kernel
theorem d_Model_init_143 : decode b_Model_init 143 = .ok (.aload_n 0, 1) := by decide +kernel
theorem d_Model_init_144 : decode b_Model_init 144 = .ok (.bipush 41, 2) := by decide +kernel
theorem d_Model_init_146 : decode b_Model_init 146 = .ok (.newarray .int, 2) := by decide +kernel
theorem d_Model_init_148 : decode b_Model_init 148 = .ok (.putfield 63, 3) := by decide +kernel
theorem d_Model_init_151 : decode b_Model_init 151 = .ok (.aload_n 0, 1) := by decide +kernel
theorem d_Model_init_152 : decode b_Model_init 152 = .ok (.bipush 41, 2) := by decide +kernel
theorem d_Model_init_154 : decode b_Model_init 154 = .ok (.newarray .int, 2) := by decide +kernel
theorem d_Model_init_156 : decode b_Model_init 156 = .ok (.putfield 66, 3) := by decide +kernel
theorem d_Model_init_159 : decode b_Model_init 159 = .ok (.aload_n 0, 1) := by decide +kernel
theorem d_Model_init_160 : decode b_Model_init 160 = .ok (.iload_n 1, 1) := by decide +kernel
theorem d_Model_init_161 : decode b_Model_init 161 = .ok (.iconst 1, 1) := by decide +kernel
theorem d_Model_init_162 : decode b_Model_init 162 = .ok (.if_icmp .ge 7, 3) := by decide +kernel
theorem d_Model_init_165 : decode b_Model_init 165 = .ok (.iconst 1, 1) := by decide +kernel
theorem d_Model_init_166 : decode b_Model_init 166 = .ok (.goto 15, 3) := by decide +kernel
theorem d_Model_init_169 : decode b_Model_init 169 = .ok (.iload_n 1, 1) := by decide +kernel
theorem d_Model_init_170 : decode b_Model_init 170 = .ok (.bipush 40, 2) := by decide +kernel
theorem d_Model_init_172 : decode b_Model_init 172 = .ok (.if_icmp .le 8, 3) := by decide +kernel
theorem d_Model_init_175 : decode b_Model_init 175 = .ok (.bipush 40, 2) := by decide +kernel
theorem d_Model_init_177 : decode b_Model_init 177 = .ok (.goto 4, 3) := by decide +kernel
theorem d_Model_init_180 : decode b_Model_init 180 = .ok (.iload_n 1, 1) := by decide +kernel
theorem d_Model_init_181 : decode b_Model_init 181 = .ok (.putfield 69, 3) := by decide +kernel
theorem d_Model_init_184 : decode b_Model_init 184 = .ok (.iconst 0, 1) := by decide +kernel
theorem d_Model_init_185 : decode b_Model_init 185 = .ok (.istore_n 2, 1) := by decide +kernel
theorem d_Model_init_186 : decode b_Model_init 186 = .ok (.iload_n 2, 1) := by decide +kernel
theorem d_Model_init_187 : decode b_Model_init 187 = .ok (.bipush 6, 2) := by decide +kernel
theorem d_Model_init_189 : decode b_Model_init 189 = .ok (.if_icmp .ge 24, 3) := by decide +kernel
theorem d_Model_init_192 : decode b_Model_init 192 = .ok (.aload_n 0, 1) := by decide +kernel
theorem d_Model_init_193 : decode b_Model_init 193 = .ok (.getfield 27, 3) := by decide +kernel
theorem d_Model_init_196 : decode b_Model_init 196 = .ok (.iload_n 2, 1) := by decide +kernel
theorem d_Model_init_197 : decode b_Model_init 197 = .ok (.iconst (-1), 1) := by decide +kernel
theorem d_Model_init_198 : decode b_Model_init 198 = .ok (.iastore, 1) := by decide +kernel
theorem d_Model_init_199 : decode b_Model_init 199 = .ok (.aload_n 0, 1) := by decide +kernel
theorem d_Model_init_200 : decode b_Model_init 200 = .ok (.getfield 39, 3) := by decide +kernel
theorem d_Model_init_203 : decode b_Model_init 203 = .ok (.iload_n 2, 1) := by decide +kernel
theorem d_Model_init_204 : decode b_Model_init 204 = .ok (.bipush (-101), 2) := by decide +kernel
theorem d_Model_init_206 : decode b_Model_init 206 = .ok (.iastore, 1) := by decide +kernel
theorem d_Model_init_207 : decode b_Model_init 207 = .ok (.iinc 2 1, 3) := by decide +kernel
theorem d_Model_init_210 : decode b_Model_init 210 = .ok (.goto (-24), 3) := by decide +kernel
theorem d_Model_init_213 : decode b_Model_init 213 = .ok (.aload_n 0, 1) := by decide +kernel
theorem d_Model_init_214 : decode b_Model_init 214 = .ok (.iconst 1, 1) := by decide +kernel
theorem d_Model_init_215 : decode b_Model_init 215 = .ok (.putfield 73, 3) := by decide +kernel
theorem d_Model_init_218 : decode b_Model_init 218 = .ok (.return_, 1) := by decide +kernel
theorem d_Model_thrown_0 : decode b_Model_thrown 0 = .ok (.aload_n 0, 1) := by decide +kernel
theorem d_Model_thrown_1 : decode b_Model_thrown 1 = .ok (.getfield 76, 3) := by decide +kernel
theorem d_Model_thrown_4 : decode b_Model_thrown 4 = .ok (.ireturn, 1) := by decide +kernel
theorem d_Model_isIn_0 : decode b_Model_isIn 0 = .ok (.lload_n 0, 1) := by decide +kernel
theorem d_Model_isIn_1 : decode b_Model_isIn 1 = .ok (.lload_n 2, 1) := by decide +kernel
theorem d_Model_isIn_2 : decode b_Model_isIn 2 = .ok (.lcmp, 1) := by decide +kernel
theorem d_Model_isIn_3 : decode b_Model_isIn 3 = .ok (.ifCond .lt 14, 3) := by decide +kernel
theorem d_Model_isIn_6 : decode b_Model_isIn 6 = .ok (.lload_n 0, 1) := by decide +kernel
theorem d_Model_isIn_7 : decode b_Model_isIn 7 = .ok (.lload 4, 2) := by decide +kernel
theorem d_Model_isIn_9 : decode b_Model_isIn 9 = .ok (.lcmp, 1) := by decide +kernel
theorem d_Model_isIn_10 : decode b_Model_isIn 10 = .ok (.ifCond .gt 7, 3) := by decide +kernel
theorem d_Model_isIn_13 : decode b_Model_isIn 13 = .ok (.iconst 1, 1) := by decide +kernel
theorem d_Model_isIn_14 : decode b_Model_isIn 14 = .ok (.goto 4, 3) := by decide +kernel
theorem d_Model_isIn_17 : decode b_Model_isIn 17 = .ok (.iconst 0, 1) := by decide +kernel
theorem d_Model_isIn_18 : decode b_Model_isIn 18 = .ok (.ireturn, 1) := by decide +kernel
theorem d_Model_change_0 : decode b_Model_change 0 = .ok (.aload_n 0, 1) := by decide +kernel
theorem d_Model_change_1 : decode b_Model_change 1 = .ok (.iconst 0, 1) := by decide +kernel
theorem d_Model_change_2 : decode b_Model_change 2 = .ok (.putfield 79, 3) := by decide +kernel
theorem d_Model_change_5 : decode b_Model_change 5 = .ok (.return_, 1) := by decide +kernel
theorem d_Model_door_0 : decode b_Model_door 0 = .ok (.aload_n 0, 1) := by decide +kernel
theorem d_Model_door_1 : decode b_Model_door 1 = .ok (.iload_n 1, 1) := by decide +kernel
theorem d_Model_door_2 : decode b_Model_door 2 = .ok (.ifCond .lt 24, 3) := by decide +kernel
theorem d_Model_door_5 : decode b_Model_door 5 = .ok (.iload_n 1, 1) := by decide +kernel
theorem d_Model_door_6 : decode b_Model_door 6 = .ok (.aload_n 0, 1) := by decide +kernel
theorem d_Model_door_7 : decode b_Model_door 7 = .ok (.getfield 69, 3) := by decide +kernel
theorem d_Model_door_10 : decode b_Model_door 10 = .ok (.if_icmp .ge 16, 3) := by decide +kernel
theorem d_Model_door_13 : decode b_Model_door 13 = .ok (.iload_n 2, 1) := by decide +kernel
theorem d_Model_door_14 : decode b_Model_door 14 = .ok (.iload_n 1, 1) := by decide +kernel
theorem d_Model_door_15 : decode b_Model_door 15 = .ok (.if_icmp .le 11, 3) := by decide +kernel
theorem d_Model_door_18 : decode b_Model_door 18 = .ok (.iload_n 2, 1) := by decide +kernel
theorem d_Model_door_19 : decode b_Model_door 19 = .ok (.aload_n 0, 1) := by decide +kernel
theorem d_Model_door_20 : decode b_Model_door 20 = .ok (.getfield 69, 3) := by decide +kernel
theorem d_Model_door_23 : decode b_Model_door 23 = .ok (.if_icmp .le 7, 3) := by decide +kernel
theorem d_Model_door_26 : decode b_Model_door 26 = .ok (.iconst 1, 1) := by decide +kernel
theorem d_Model_door_27 : decode b_Model_door 27 = .ok (.goto 4, 3) := by decide +kernel
theorem d_Model_door_30 : decode b_Model_door 30 = .ok (.iconst 0, 1) := by decide +kernel
theorem d_Model_door_31 : decode b_Model_door 31 = .ok (.putfield 76, 3) := by decide +kernel
theorem d_Model_door_34 : decode b_Model_door 34 = .ok (.iconst 0, 1) := by decide +kernel
theorem d_Model_door_35 : decode b_Model_door 35 = .ok (.istore_n 3, 1) := by decide +kernel
theorem d_Model_door_36 : decode b_Model_door 36 = .ok (.iload_n 1, 1) := by decide +kernel
theorem d_Model_door_37 : decode b_Model_door 37 = .ok (.istore 4, 2) := by decide +kernel
theorem d_Model_door_39 : decode b_Model_door 39 = .ok (.iload 4, 2) := by decide +kernel
theorem d_Model_door_41 : decode b_Model_door 41 = .ok (.iload_n 2, 1) := by decide +kernel
theorem d_Model_door_42 : decode b_Model_door 42 = .ok (.if_icmp .ge 44, 3) := by decide +kernel
theorem d_Model_door_45 : decode b_Model_door 45 = .ok (.aload_n 0, 1) := by decide +kernel
theorem d_Model_door_46 : decode b_Model_door 46 = .ok (.getfield 76, 3) := by decide +kernel
theorem d_Model_door_49 : decode b_Model_door 49 = .ok (.ifCond .ne 37, 3) := by decide +kernel
theorem d_Model_door_52 : decode b_Model_door 52 = .ok (.iload_n 3, 1) := by decide +kernel
theorem d_Model_door_53 : decode b_Model_door 53 = .ok (.ifCond .ne 13, 3) := by decide +kernel
theorem d_Model_door_56 : decode b_Model_door 56 = .ok (.aload_n 0, 1) := by decide +kernel
theorem d_Model_door_57 : decode b_Model_door 57 = .ok (.getfield 7, 3) := by decide +kernel
theorem d_Model_door_60 : decode b_Model_door 60 = .ok (.iload 4, 2) := by decide +kernel
theorem d_Model_door_62 : decode b_Model_door 62 = .ok (.baload, 1) := by decide +kernel
theorem d_Model_door_63 : decode b_Model_door 63 = .ok (.ifCond .ne 7, 3) := by decide +kernel
theorem d_Model_door_66 : decode b_Model_door 66 = .ok (.iconst 1, 1) := by decide +kernel
theorem d_Model_door_67 : decode b_Model_door 67 = .ok (.goto 4, 3) := by decide +kernel
theorem d_Model_door_70 : decode b_Model_door 70 = .ok (.iconst 0, 1) := by decide +kernel
theorem d_Model_door_71 : decode b_Model_door 71 = .ok (.istore_n 3, 1) := by decide +kernel
theorem d_Model_door_72 : decode b_Model_door 72 = .ok (.aload_n 0, 1) := by decide +kernel
theorem d_Model_door_73 : decode b_Model_door 73 = .ok (.getfield 7, 3) := by decide +kernel
theorem d_Model_door_76 : decode b_Model_door 76 = .ok (.iload 4, 2) := by decide +kernel
theorem d_Model_door_78 : decode b_Model_door 78 = .ok (.iconst 1, 1) := by decide +kernel
theorem d_Model_door_79 : decode b_Model_door 79 = .ok (.bastore, 1) := by decide +kernel
theorem d_Model_door_80 : decode b_Model_door 80 = .ok (.iinc 4 1, 3) := by decide +kernel
theorem d_Model_door_83 : decode b_Model_door 83 = .ok (.goto (-44), 3) := by decide +kernel
theorem d_Model_door_86 : decode b_Model_door 86 = .ok (.iload_n 3, 1) := by decide +kernel
theorem d_Model_door_87 : decode b_Model_door 87 = .ok (.ifCond .eq 7, 3) := by decide +kernel
theorem d_Model_door_90 : decode b_Model_door 90 = .ok (.aload_n 0, 1) := by decide +kernel
theorem d_Model_door_91 : decode b_Model_door 91 = .ok (.invokevirtual 83, 3) := by decide +kernel
theorem d_Model_door_94 : decode b_Model_door 94 = .ok (.iload_n 3, 1) := by decide +kernel
theorem d_Model_door_95 : decode b_Model_door 95 = .ok (.ireturn, 1) := by decide +kernel
theorem d_Model_pipe_0 : decode b_Model_pipe 0 = .ok (.aload_n 0, 1) := by decide +kernel
theorem d_Model_pipe_1 : decode b_Model_pipe 1 = .ok (.iload_n 1, 1) := by decide +kernel
theorem d_Model_pipe_2 : decode b_Model_pipe 2 = .ok (.ifCond .lt 11, 3) := by decide +kernel
theorem d_Model_pipe_5 : decode b_Model_pipe 5 = .ok (.iload_n 1, 1) := by decide +kernel
theorem d_Model_pipe_6 : decode b_Model_pipe 6 = .ok (.aload_n 0, 1) := by decide +kernel
theorem d_Model_pipe_7 : decode b_Model_pipe 7 = .ok (.getfield 69, 3) := by decide +kernel
theorem d_Model_pipe_10 : decode b_Model_pipe 10 = .ok (.if_icmp .lt 7, 3) := by decide +kernel
theorem d_Model_pipe_13 : decode b_Model_pipe 13 = .ok (.iconst 1, 1) := by decide +kernel
theorem d_Model_pipe_14 : decode b_Model_pipe 14 = .ok (.goto 4, 3) := by decide +kernel
theorem d_Model_pipe_17 : decode b_Model_pipe 17 = .ok (.iconst 0, 1) := by decide +kernel
theorem d_Model_pipe_18 : decode b_Model_pipe 18 = .ok (.putfield 76, 3) := by decide +kernel
theorem d_Model_pipe_21 : decode b_Model_pipe 21 = .ok (.aload_n 0, 1) := by decide +kernel
theorem d_Model_pipe_22 : decode b_Model_pipe 22 = .ok (.getfield 76, 3) := by decide +kernel
theorem d_Model_pipe_25 : decode b_Model_pipe 25 = .ok (.ifCond .gt 12, 3) := by decide +kernel
theorem d_Model_pipe_28 : decode b_Model_pipe 28 = .ok (.aload_n 0, 1) := by decide +kernel
theorem d_Model_pipe_29 : decode b_Model_pipe 29 = .ok (.getfield 86, 3) := by decide +kernel
theorem d_Model_pipe_32 : decode b_Model_pipe 32 = .ok (.bipush 8, 2) := by decide +kernel
theorem d_Model_pipe_34 : decode b_Model_pipe 34 = .ok (.if_icmp .ne 7, 3) := by decide +kernel
theorem d_Model_pipe_37 : decode b_Model_pipe 37 = .ok (.iconst 1, 1) := by decide +kernel
theorem d_Model_pipe_38 : decode b_Model_pipe 38 = .ok (.goto 4, 3) := by decide +kernel
theorem d_Model_pipe_41 : decode b_Model_pipe 41 = .ok (.iconst 0, 1) := by decide +kernel
theorem d_Model_pipe_42 : decode b_Model_pipe 42 = .ok (.istore_n 2, 1) := by decide +kernel
theorem d_Model_pipe_43 : decode b_Model_pipe 43 = .ok (.iconst 0, 1) := by decide +kernel
theorem d_Model_pipe_44 : decode b_Model_pipe 44 = .ok (.istore_n 3, 1) := by decide +kernel
theorem d_Model_pipe_45 : decode b_Model_pipe 45 = .ok (.iload_n 3, 1) := by decide +kernel
theorem d_Model_pipe_46 : decode b_Model_pipe 46 = .ok (.aload_n 0, 1) := by decide +kernel
theorem d_Model_pipe_47 : decode b_Model_pipe 47 = .ok (.getfield 86, 3) := by decide +kernel
theorem d_Model_pipe_50 : decode b_Model_pipe 50 = .ok (.if_icmp .ge 29, 3) := by decide +kernel
theorem d_Model_pipe_53 : decode b_Model_pipe 53 = .ok (.iload_n 2, 1) := by decide +kernel
theorem d_Model_pipe_54 : decode b_Model_pipe 54 = .ok (.ifCond .ne 13, 3) := by decide +kernel
theorem d_Model_pipe_57 : decode b_Model_pipe 57 = .ok (.aload_n 0, 1) := by decide +kernel
theorem d_Model_pipe_58 : decode b_Model_pipe 58 = .ok (.getfield 13, 3) := by decide +kernel
theorem d_Model_pipe_61 : decode b_Model_pipe 61 = .ok (.iload_n 3, 1) := by decide +kernel
theorem d_Model_pipe_62 : decode b_Model_pipe 62 = .ok (.iaload, 1) := by decide +kernel
theorem d_Model_pipe_63 : decode b_Model_pipe 63 = .ok (.iload_n 1, 1) := by decide +kernel
theorem d_Model_pipe_64 : decode b_Model_pipe 64 = .ok (.if_icmp .ne 7, 3) := by decide +kernel
theorem d_Model_pipe_67 : decode b_Model_pipe 67 = .ok (.iconst 1, 1) := by decide +kernel
theorem d_Model_pipe_68 : decode b_Model_pipe 68 = .ok (.goto 4, 3) := by decide +kernel
theorem d_Model_pipe_71 : decode b_Model_pipe 71 = .ok (.iconst 0, 1) := by decide +kernel
theorem d_Model_pipe_72 : decode b_Model_pipe 72 = .ok (.istore_n 2, 1) := by decide +kernel
theorem d_Model_pipe_73 : decode b_Model_pipe 73 = .ok (.iinc 3 1, 3) := by decide +kernel
theorem d_Model_pipe_76 : decode b_Model_pipe 76 = .ok (.goto (-31), 3) := by decide +kernel
theorem d_Model_pipe_79 : decode b_Model_pipe 79 = .ok (.iload_n 2, 1) := by decide +kernel
theorem d_Model_pipe_80 : decode b_Model_pipe 80 = .ok (.ifCond .eq 5, 3) := by decide +kernel
theorem d_Model_pipe_83 : decode b_Model_pipe 83 = .ok (.iconst 0, 1) := by decide +kernel
theorem d_Model_pipe_84 : decode b_Model_pipe 84 = .ok (.ireturn, 1) := by decide +kernel
theorem d_Model_pipe_85 : decode b_Model_pipe 85 = .ok (.aload_n 0, 1) := by decide +kernel
theorem d_Model_pipe_86 : decode b_Model_pipe 86 = .ok (.getfield 13, 3) := by decide +kernel
theorem d_Model_pipe_89 : decode b_Model_pipe 89 = .ok (.aload_n 0, 1) := by decide +kernel
theorem d_Model_pipe_90 : decode b_Model_pipe 90 = .ok (.getfield 86, 3) := by decide +kernel
theorem d_Model_pipe_93 : decode b_Model_pipe 93 = .ok (.iload_n 1, 1) := by decide +kernel
theorem d_Model_pipe_94 : decode b_Model_pipe 94 = .ok (.iastore, 1) := by decide +kernel
theorem d_Model_pipe_95 : decode b_Model_pipe 95 = .ok (.aload_n 0, 1) := by decide +kernel
theorem d_Model_pipe_96 : decode b_Model_pipe 96 = .ok (.dup, 1) := by decide +kernel
theorem d_Model_pipe_97 : decode b_Model_pipe 97 = .ok (.getfield 86, 3) := by decide +kernel
theorem d_Model_pipe_100 : decode b_Model_pipe 100 = .ok (.iconst 1, 1) := by decide +kernel
theorem d_Model_pipe_101 : decode b_Model_pipe 101 = .ok (.iadd, 1) := by decide +kernel
theorem d_Model_pipe_102 : decode b_Model_pipe 102 = .ok (.putfield 86, 3) := by decide +kernel
theorem d_Model_pipe_105 : decode b_Model_pipe 105 = .ok (.aload_n 0, 1) := by decide +kernel
theorem d_Model_pipe_106 : decode b_Model_pipe 106 = .ok (.invokevirtual 83, 3) := by decide +kernel
theorem d_Model_pipe_109 : decode b_Model_pipe 109 = .ok (.iconst 1, 1) := by decide +kernel
theorem d_Model_pipe_110 : decode b_Model_pipe 110 = .ok (.ireturn, 1) := by decide +kernel
theorem d_Model_item_0 : decode b_Model_item 0 = .ok (.iload_n 1, 1) := by decide +kernel
theorem d_Model_item_1 : decode b_Model_item 1 = .ok (.i2l, 1) := by decide +kernel
theorem d_Model_item_2 : decode b_Model_item 2 = .ok (.lconst 1, 1) := by decide +kernel
theorem d_Model_item_3 : decode b_Model_item 3 = .ok (.ldc2_w 89, 3) := by decide +kernel
theorem d_Model_item_6 : decode b_Model_item 6 = .ok (.invokestatic 91, 3) := by decide +kernel
theorem d_Model_item_9 : decode b_Model_item 9 = .ok (.ifCond .eq 30, 3) := by decide +kernel
theorem d_Model_item_12 : decode b_Model_item 12 = .ok (.lload_n 2, 1) := by decide +kernel
theorem d_Model_item_13 : decode b_Model_item 13 = .ok (.lconst 0, 1) := by decide +kernel
theorem d_Model_item_14 : decode b_Model_item 14 = .ok (.ldc2_w 95, 3) := by decide +kernel
theorem d_Model_item_17 : decode b_Model_item 17 = .ok (.invokestatic 91, 3) := by decide +kernel
theorem d_Model_item_20 : decode b_Model_item 20 = .ok (.ifCond .eq 19, 3) := by decide +kernel
theorem d_Model_item_23 : decode b_Model_item 23 = .ok (.lload 4, 2) := by decide +kernel
theorem d_Model_item_25 : decode b_Model_item 25 = .ok (.lconst 0, 1) := by decide +kernel
theorem d_Model_item_26 : decode b_Model_item 26 = .ok (.ldc2_w 95, 3) := by decide +kernel
theorem d_Model_item_29 : decode b_Model_item 29 = .ok (.invokestatic 91, 3) := by decide +kernel
theorem d_Model_item_32 : decode b_Model_item 32 = .ok (.ifCond .eq 7, 3) := by decide +kernel
theorem d_Model_item_35 : decode b_Model_item 35 = .ok (.iconst 1, 1) := by decide +kernel
theorem d_Model_item_36 : decode b_Model_item 36 = .ok (.goto 4, 3) := by decide +kernel
theorem d_Model_item_39 : decode b_Model_item 39 = .ok (.iconst 0, 1) := by decide +kernel
theorem d_Model_item_40 : decode b_Model_item 40 = .ok (.istore 6, 2) := by decide +kernel
theorem d_Model_item_42 : decode b_Model_item 42 = .ok (.aload_n 0, 1) := by decide +kernel
theorem d_Model_item_43 : decode b_Model_item 43 = .ok (.aload_n 0, 1) := by decide +kernel
theorem d_Model_item_44 : decode b_Model_item 44 = .ok (.getfield 97, 3) := by decide +kernel
theorem d_Model_item_47 : decode b_Model_item 47 = .ok (.bipush 6, 2) := by decide +kernel
theorem d_Model_item_49 : decode b_Model_item 49 = .ok (.if_icmp .ne 7, 3) := by decide +kernel
theorem d_Model_item_52 : decode b_Model_item 52 = .ok (.iconst 1, 1) := by decide +kernel
theorem d_Model_item_53 : decode b_Model_item 53 = .ok (.goto 13, 3) := by decide +kernel
theorem d_Model_item_56 : decode b_Model_item 56 = .ok (.iload 6, 2) := by decide +kernel
theorem d_Model_item_58 : decode b_Model_item 58 = .ok (.ifCond .eq 7, 3) := by decide +kernel
theorem d_Model_item_61 : decode b_Model_item 61 = .ok (.iconst 0, 1) := by decide +kernel
theorem d_Model_item_62 : decode b_Model_item 62 = .ok (.goto 4, 3) := by decide +kernel
theorem d_Model_item_65 : decode b_Model_item 65 = .ok (.iconst 2, 1) := by decide +kernel
theorem d_Model_item_66 : decode b_Model_item 66 = .ok (.putfield 76, 3) := by decide +kernel
theorem d_Model_item_69 : decode b_Model_item 69 = .ok (.aload_n 0, 1) := by decide +kernel
theorem d_Model_item_70 : decode b_Model_item 70 = .ok (.getfield 76, 3) := by decide +kernel
theorem d_Model_item_73 : decode b_Model_item 73 = .ok (.ifCond .le 5, 3) := by decide +kernel
theorem d_Model_item_76 : decode b_Model_item 76 = .ok (.iconst 0, 1) := by decide +kernel
theorem d_Model_item_77 : decode b_Model_item 77 = .ok (.ireturn, 1) := by decide +kernel
theorem d_Model_item_78 : decode b_Model_item 78 = .ok (.aload_n 0, 1) := by decide +kernel
theorem d_Model_item_79 : decode b_Model_item 79 = .ok (.getfield 17, 3) := by decide +kernel
theorem d_Model_item_82 : decode b_Model_item 82 = .ok (.aload_n 0, 1) := by decide +kernel
theorem d_Model_item_83 : decode b_Model_item 83 = .ok (.getfield 97, 3) := by decide +kernel
theorem d_Model_item_86 : decode b_Model_item 86 = .ok (.iload_n 1, 1) := by decide +kernel
theorem d_Model_item_87 : decode b_Model_item 87 = .ok (.iastore, 1) := by decide +kernel
theorem d_Model_item_88 : decode b_Model_item 88 = .ok (.aload_n 0, 1) := by decide +kernel
theorem d_Model_item_89 : decode b_Model_item 89 = .ok (.getfield 20, 3) := by decide +kernel
theorem d_Model_item_92 : decode b_Model_item 92 = .ok (.aload_n 0, 1) := by decide +kernel
theorem d_Model_item_93 : decode b_Model_item 93 = .ok (.getfield 97, 3) := by decide +kernel
theorem d_Model_item_96 : decode b_Model_item 96 = .ok (.lload_n 2, 1) := by decide +kernel
theorem d_Model_item_97 : decode b_Model_item 97 = .ok (.lastore, 1) := by decide +kernel
theorem d_Model_item_98 : decode b_Model_item 98 = .ok (.aload_n 0, 1) := by decide +kernel
theorem d_Model_item_99 : decode b_Model_item 99 = .ok (.getfield 24, 3) := by decide +kernel
theorem d_Model_item_102 : decode b_Model_item 102 = .ok (.aload_n 0, 1) := by decide +kernel
theorem d_Model_item_103 : decode b_Model_item 103 = .ok (.getfield 97, 3) := by decide +kernel
theorem d_Model_item_106 : decode b_Model_item 106 = .ok (.lload 4, 2) := by decide +kernel
theorem d_Model_item_108 : decode b_Model_item 108 = .ok (.lastore, 1) := by decide +kernel
theorem d_Model_item_109 : decode b_Model_item 109 = .ok (.aload_n 0, 1) := by decide +kernel
theorem d_Model_item_110 : decode b_Model_item 110 = .ok (.dup, 1) := by decide +kernel
theorem d_Model_item_111 : decode b_Model_item 111 = .ok (.getfield 97, 3) := by decide +kernel
theorem d_Model_item_114 : decode b_Model_item 114 = .ok (.iconst 1, 1) := by decide +kernel
theorem d_Model_item_115 : decode b_Model_item 115 = .ok (.iadd, 1) := by decide +kernel
theorem d_Model_item_116 : decode b_Model_item 116 = .ok (.putfield 97, 3) := by decide +kernel
theorem d_Model_item_119 : decode b_Model_item 119 = .ok (.aload_n 0, 1) := by decide +kernel
theorem d_Model_item_120 : decode b_Model_item 120 = .ok (.invokevirtual 83, 3) := by decide +kernel
theorem d_Model_item_123 : decode b_Model_item 123 = .ok (.aload_n 0, 1) := by decide +kernel
theorem d_Model_item_124 : decode b_Model_item 124 = .ok (.getfield 97, 3) := by decide +kernel
theorem d_Model_item_127 : decode b_Model_item 127 = .ok (.iconst 1, 1) := by decide +kernel
theorem d_Model_item_128 : decode b_Model_item 128 = .ok (.isub, 1) := by decide +kernel
theorem d_Model_item_129 : decode b_Model_item 129 = .ok (.ireturn, 1) := by decide +kernel
theorem d_Model_isItem_0 : decode b_Model_isItem 0 = .ok (.iload_n 1, 1) := by decide +kernel
theorem d_Model_isItem_1 : decode b_Model_isItem 1 = .ok (.ifCond .lt 15, 3) := by decide +kernel
theorem d_Model_isItem_4 : decode b_Model_isItem 4 = .ok (.iload_n 1, 1) := by decide +kernel
theorem d_Model_isItem_5 : decode b_Model_isItem 5 = .ok (.aload_n 0, 1) := by decide +kernel
theorem d_Model_isItem_6 : decode b_Model_isItem 6 = .ok (.getfield 97, 3) := by decide +kernel
theorem d_Model_isItem_9 : decode b_Model_isItem 9 = .ok (.if_icmp .ge 7, 3) := by decide +kernel
theorem d_Model_isItem_12 : decode b_Model_isItem 12 = .ok (.iconst 1, 1) := by decide +kernel
theorem d_Model_isItem_13 : decode b_Model_isItem 13 = .ok (.goto 4, 3) := by decide +kernel
theorem d_Model_isItem_16 : decode b_Model_isItem 16 = .ok (.iconst 0, 1) := by decide +kernel
theorem d_Model_isItem_17 : decode b_Model_isItem 17 = .ok (.ireturn, 1) := by decide +kernel
theorem d_Model_need_0 : decode b_Model_need 0 = .ok (.aload_n 0, 1) := by decide +kernel
theorem d_Model_need_1 : decode b_Model_need 1 = .ok (.aload_n 0, 1) := by decide +kernel
theorem d_Model_need_2 : decode b_Model_need 2 = .ok (.iload_n 1, 1) := by decide +kernel
theorem d_Model_need_3 : decode b_Model_need 3 = .ok (.invokevirtual 100, 3) := by decide +kernel
theorem d_Model_need_6 : decode b_Model_need 6 = .ok (.ifCond .ne 7, 3) := by decide +kernel
theorem d_Model_need_9 : decode b_Model_need 9 = .ok (.iconst 1, 1) := by decide +kernel
theorem d_Model_need_10 : decode b_Model_need 10 = .ok (.goto 22, 3) := by decide +kernel
theorem d_Model_need_13 : decode b_Model_need 13 = .ok (.iload_n 2, 1) := by decide +kernel
theorem d_Model_need_14 : decode b_Model_need 14 = .ok (.i2l, 1) := by decide +kernel
theorem d_Model_need_15 : decode b_Model_need 15 = .ok (.ldc2_w 104, 3) := by decide +kernel
theorem d_Model_need_18 : decode b_Model_need 18 = .ok (.ldc2_w 106, 3) := by decide +kernel
theorem d_Model_need_21 : decode b_Model_need 21 = .ok (.invokestatic 91, 3) := by decide +kernel
theorem d_Model_need_24 : decode b_Model_need 24 = .ok (.ifCond .eq 7, 3) := by decide +kernel
theorem d_Model_need_27 : decode b_Model_need 27 = .ok (.iconst 0, 1) := by decide +kernel
theorem d_Model_need_28 : decode b_Model_need 28 = .ok (.goto 4, 3) := by decide +kernel
theorem d_Model_need_31 : decode b_Model_need 31 = .ok (.iconst 2, 1) := by decide +kernel
theorem d_Model_need_32 : decode b_Model_need 32 = .ok (.putfield 76, 3) := by decide +kernel
theorem d_Model_need_35 : decode b_Model_need 35 = .ok (.aload_n 0, 1) := by decide +kernel
theorem d_Model_need_36 : decode b_Model_need 36 = .ok (.getfield 76, 3) := by decide +kernel
theorem d_Model_need_39 : decode b_Model_need 39 = .ok (.ifCond .gt 13, 3) := by decide +kernel
theorem d_Model_need_42 : decode b_Model_need 42 = .ok (.aload_n 0, 1) := by decide +kernel
theorem d_Model_need_43 : decode b_Model_need 43 = .ok (.getfield 27, 3) := by decide +kernel
theorem d_Model_need_46 : decode b_Model_need 46 = .ok (.iload_n 1, 1) := by decide +kernel
theorem d_Model_need_47 : decode b_Model_need 47 = .ok (.iaload, 1) := by decide +kernel
theorem d_Model_need_48 : decode b_Model_need 48 = .ok (.iload_n 2, 1) := by decide +kernel
theorem d_Model_need_49 : decode b_Model_need 49 = .ok (.if_icmp .ne 5, 3) := by decide +kernel
theorem d_Model_need_52 : decode b_Model_need 52 = .ok (.iconst 0, 1) := by decide +kernel
theorem d_Model_need_53 : decode b_Model_need 53 = .ok (.ireturn, 1) := by decide +kernel
theorem d_Model_need_54 : decode b_Model_need 54 = .ok (.aload_n 0, 1) := by decide +kernel
theorem d_Model_need_55 : decode b_Model_need 55 = .ok (.getfield 27, 3) := by decide +kernel
theorem d_Model_need_58 : decode b_Model_need 58 = .ok (.iload_n 1, 1) := by decide +kernel
theorem d_Model_need_59 : decode b_Model_need 59 = .ok (.iload_n 2, 1) := by decide +kernel
theorem d_Model_need_60 : decode b_Model_need 60 = .ok (.iastore, 1) := by decide +kernel
theorem d_Model_need_61 : decode b_Model_need 61 = .ok (.aload_n 0, 1) := by decide +kernel
theorem d_Model_need_62 : decode b_Model_need 62 = .ok (.invokevirtual 83, 3) := by decide +kernel
theorem d_Model_need_65 : decode b_Model_need 65 = .ok (.iconst 1, 1) := by decide +kernel
theorem d_Model_need_66 : decode b_Model_need 66 = .ok (.ireturn, 1) := by decide +kernel
