theorem d_Model_top_0 : decode b_Model_top 0 = .ok (.aload_n 0, 1) := by decide +kernel
theorem d_Model_top_1 : decode b_Model_top 1 = .ok (.invokevirtual 184, 3) := by decide +kernel
theorem d_Model_top_4 : decode b_Model_top 4 = .ok (.ifCond .eq 5, 3) := by decide +kernel
theorem d_Model_top_7 : decode b_Model_top 7 = .ok (.iconst 0, 1) := by decide +kernel
theorem d_Model_top_8 : decode b_Model_top 8 = .ok (.ireturn, 1) := by decide +kernel
theorem d_Model_top_9 : decode b_Model_top 9 = .ok (.iconst 0, 1) := by decide +kernel
theorem d_Model_top_10 : decode b_Model_top 10 = .ok (.istore_n 3, 1) := by decide +kernel
theorem d_Model_top_11 : decode b_Model_top 11 = .ok (.iconst 0, 1) := by decide +kernel
theorem d_Model_top_12 : decode b_Model_top 12 = .ok (.istore 4, 2) := by decide +kernel
theorem d_Model_top_14 : decode b_Model_top 14 = .ok (.iconst 0, 1) := by decide +kernel
theorem d_Model_top_15 : decode b_Model_top 15 = .ok (.istore 5, 2) := by decide +kernel
theorem d_Model_top_17 : decode b_Model_top 17 = .ok (.iconst 0, 1) := by decide +kernel
theorem d_Model_top_18 : decode b_Model_top 18 = .ok (.istore 6, 2) := by decide +kernel
theorem d_Model_top_20 : decode b_Model_top 20 = .ok (.iload 6, 2) := by decide +kernel
theorem d_Model_top_22 : decode b_Model_top 22 = .ok (.aload_n 0, 1) := by decide +kernel
theorem d_Model_top_23 : decode b_Model_top 23 = .ok (.getfield 149, 3) := by decide +kernel
theorem d_Model_top_26 : decode b_Model_top 26 = .ok (.if_icmp .ge 64, 3) := by decide +kernel
theorem d_Model_top_29 : decode b_Model_top 29 = .ok (.aload_n 0, 1) := by decide +kernel
theorem d_Model_top_30 : decode b_Model_top 30 = .ok (.iload 6, 2) := by decide +kernel
theorem d_Model_top_32 : decode b_Model_top 32 = .ok (.invokevirtual 190, 3) := by decide +kernel
theorem d_Model_top_35 : decode b_Model_top 35 = .ok (.ifCond .eq 25, 3) := by decide +kernel
theorem d_Model_top_38 : decode b_Model_top 38 = .ok (.iload_n 3, 1) := by decide +kernel
theorem d_Model_top_39 : decode b_Model_top 39 = .ok (.iload_n 1, 1) := by decide +kernel
theorem d_Model_top_40 : decode b_Model_top 40 = .ok (.if_icmp .ne 13, 3) := by decide +kernel
theorem d_Model_top_43 : decode b_Model_top 43 = .ok (.aload_n 0, 1) := by decide +kernel
theorem d_Model_top_44 : decode b_Model_top 44 = .ok (.getfield 63, 3) := by decide +kernel
theorem d_Model_top_47 : decode b_Model_top 47 = .ok (.iload 6, 2) := by decide +kernel
theorem d_Model_top_49 : decode b_Model_top 49 = .ok (.iaload, 1) := by decide +kernel
theorem d_Model_top_50 : decode b_Model_top 50 = .ok (.goto 5, 3) := by decide +kernel
theorem d_Model_top_53 : decode b_Model_top 53 = .ok (.iload 4, 2) := by decide +kernel
theorem d_Model_top_55 : decode b_Model_top 55 = .ok (.istore 4, 2) := by decide +kernel
theorem d_Model_top_57 : decode b_Model_top 57 = .ok (.iinc 3 1, 3) := by decide +kernel
theorem d_Model_top_60 : decode b_Model_top 60 = .ok (.iload_n 3, 1) := by decide +kernel
theorem d_Model_top_61 : decode b_Model_top 61 = .ok (.iconst 1, 1) := by decide +kernel
theorem d_Model_top_62 : decode b_Model_top 62 = .ok (.isub, 1) := by decide +kernel
theorem d_Model_top_63 : decode b_Model_top 63 = .ok (.iload_n 1, 1) := by decide +kernel
theorem d_Model_top_64 : decode b_Model_top 64 = .ok (.if_icmp .ne 16, 3) := by decide +kernel
theorem d_Model_top_67 : decode b_Model_top 67 = .ok (.iload 5, 2) := by decide +kernel
theorem d_Model_top_69 : decode b_Model_top 69 = .ok (.aload_n 0, 1) := by decide +kernel
theorem d_Model_top_70 : decode b_Model_top 70 = .ok (.getfield 66, 3) := by decide +kernel
theorem d_Model_top_73 : decode b_Model_top 73 = .ok (.iload 6, 2) := by decide +kernel
theorem d_Model_top_75 : decode b_Model_top 75 = .ok (.iaload, 1) := by decide +kernel
theorem d_Model_top_76 : decode b_Model_top 76 = .ok (.iadd, 1) := by decide +kernel
theorem d_Model_top_77 : decode b_Model_top 77 = .ok (.goto 5, 3) := by decide +kernel
theorem d_Model_top_80 : decode b_Model_top 80 = .ok (.iload 5, 2) := by decide +kernel
theorem d_Model_top_82 : decode b_Model_top 82 = .ok (.istore 5, 2) := by decide +kernel
theorem d_Model_top_84 : decode b_Model_top 84 = .ok (.iinc 6 1, 3) := by decide +kernel
theorem d_Model_top_87 : decode b_Model_top 87 = .ok (.goto (-67), 3) := by decide +kernel
theorem d_Model_top_90 : decode b_Model_top 90 = .ok (.aload_n 0, 1) := by decide +kernel
theorem d_Model_top_91 : decode b_Model_top 91 = .ok (.iload_n 1, 1) := by decide +kernel
theorem d_Model_top_92 : decode b_Model_top 92 = .ok (.iconst (-1), 1) := by decide +kernel
theorem d_Model_top_93 : decode b_Model_top 93 = .ok (.if_icmp .lt 8, 3) := by decide +kernel
theorem d_Model_top_96 : decode b_Model_top 96 = .ok (.iload_n 1, 1) := by decide +kernel
theorem d_Model_top_97 : decode b_Model_top 97 = .ok (.iload_n 3, 1) := by decide +kernel
theorem d_Model_top_98 : decode b_Model_top 98 = .ok (.if_icmp .lt 7, 3) := by decide +kernel
theorem d_Model_top_101 : decode b_Model_top 101 = .ok (.iconst 2, 1) := by decide +kernel
theorem d_Model_top_102 : decode b_Model_top 102 = .ok (.goto 18, 3) := by decide +kernel
theorem d_Model_top_105 : decode b_Model_top 105 = .ok (.iload_n 2, 1) := by decide +kernel
theorem d_Model_top_106 : decode b_Model_top 106 = .ok (.i2l, 1) := by decide +kernel
theorem d_Model_top_107 : decode b_Model_top 107 = .ok (.lconst 0, 1) := by decide +kernel
theorem d_Model_top_108 : decode b_Model_top 108 = .ok (.lconst 1, 1) := by decide +kernel
theorem d_Model_top_109 : decode b_Model_top 109 = .ok (.invokestatic 91, 3) := by decide +kernel
theorem d_Model_top_112 : decode b_Model_top 112 = .ok (.ifCond .eq 7, 3) := by decide +kernel
theorem d_Model_top_115 : decode b_Model_top 115 = .ok (.iconst 0, 1) := by decide +kernel
theorem d_Model_top_116 : decode b_Model_top 116 = .ok (.goto 4, 3) := by decide +kernel
theorem d_Model_top_119 : decode b_Model_top 119 = .ok (.iconst 3, 1) := by decide +kernel
theorem d_Model_top_120 : decode b_Model_top 120 = .ok (.putfield 76, 3) := by decide +kernel
theorem d_Model_top_123 : decode b_Model_top 123 = .ok (.aload_n 0, 1) := by decide +kernel
theorem d_Model_top_124 : decode b_Model_top 124 = .ok (.getfield 76, 3) := by decide +kernel
theorem d_Model_top_127 : decode b_Model_top 127 = .ok (.ifCond .le 5, 3) := by decide +kernel
theorem d_Model_top_130 : decode b_Model_top 130 = .ok (.iconst 0, 1) := by decide +kernel
theorem d_Model_top_131 : decode b_Model_top 131 = .ok (.ireturn, 1) := by decide +kernel
theorem d_Model_top_132 : decode b_Model_top 132 = .ok (.iload_n 1, 1) := by decide +kernel
theorem d_Model_top_133 : decode b_Model_top 133 = .ok (.iconst (-1), 1) := by decide +kernel
theorem d_Model_top_134 : decode b_Model_top 134 = .ok (.if_icmp .ne 7, 3) := by decide +kernel
theorem d_Model_top_137 : decode b_Model_top 137 = .ok (.iload_n 3, 1) := by decide +kernel
theorem d_Model_top_138 : decode b_Model_top 138 = .ok (.goto 14, 3) := by decide +kernel
theorem d_Model_top_141 : decode b_Model_top 141 = .ok (.iload_n 2, 1) := by decide +kernel
theorem d_Model_top_142 : decode b_Model_top 142 = .ok (.ifCond .ne 8, 3) := by decide +kernel
theorem d_Model_top_145 : decode b_Model_top 145 = .ok (.iload 4, 2) := by decide +kernel
theorem d_Model_top_147 : decode b_Model_top 147 = .ok (.goto 5, 3) := by decide +kernel
theorem d_Model_top_150 : decode b_Model_top 150 = .ok (.iload 5, 2) := by decide +kernel
theorem d_Model_top_152 : decode b_Model_top 152 = .ok (.ireturn, 1) := by decide +kernel
theorem d_Model_place_0 : decode b_Model_place 0 = .ok (.aload_n 0, 1) := by decide +kernel
theorem d_Model_place_1 : decode b_Model_place 1 = .ok (.aload_n 0, 1) := by decide +kernel
theorem d_Model_place_2 : decode b_Model_place 2 = .ok (.iload_n 1, 1) := by decide +kernel
theorem d_Model_place_3 : decode b_Model_place 3 = .ok (.invokevirtual 100, 3) := by decide +kernel
theorem d_Model_place_6 : decode b_Model_place 6 = .ok (.ifCond .ne 7, 3) := by decide +kernel
theorem d_Model_place_9 : decode b_Model_place 9 = .ok (.iconst 1, 1) := by decide +kernel
theorem d_Model_place_10 : decode b_Model_place 10 = .ok (.goto 22, 3) := by decide +kernel
theorem d_Model_place_13 : decode b_Model_place 13 = .ok (.iload_n 2, 1) := by decide +kernel
theorem d_Model_place_14 : decode b_Model_place 14 = .ok (.i2l, 1) := by decide +kernel
theorem d_Model_place_15 : decode b_Model_place 15 = .ok (.ldc2_w 193, 3) := by decide +kernel
theorem d_Model_place_18 : decode b_Model_place 18 = .ok (.ldc2_w 195, 3) := by decide +kernel
theorem d_Model_place_21 : decode b_Model_place 21 = .ok (.invokestatic 91, 3) := by decide +kernel
theorem d_Model_place_24 : decode b_Model_place 24 = .ok (.ifCond .eq 7, 3) := by decide +kernel
theorem d_Model_place_27 : decode b_Model_place 27 = .ok (.iconst 0, 1) := by decide +kernel
theorem d_Model_place_28 : decode b_Model_place 28 = .ok (.goto 4, 3) := by decide +kernel
theorem d_Model_place_31 : decode b_Model_place 31 = .ok (.iconst 2, 1) := by decide +kernel
theorem d_Model_place_32 : decode b_Model_place 32 = .ok (.putfield 76, 3) := by decide +kernel
theorem d_Model_place_35 : decode b_Model_place 35 = .ok (.aload_n 0, 1) := by decide +kernel
theorem d_Model_place_36 : decode b_Model_place 36 = .ok (.getfield 76, 3) := by decide +kernel
theorem d_Model_place_39 : decode b_Model_place 39 = .ok (.ifCond .gt 13, 3) := by decide +kernel
theorem d_Model_place_42 : decode b_Model_place 42 = .ok (.aload_n 0, 1) := by decide +kernel
theorem d_Model_place_43 : decode b_Model_place 43 = .ok (.getfield 39, 3) := by decide +kernel
theorem d_Model_place_46 : decode b_Model_place 46 = .ok (.iload_n 1, 1) := by decide +kernel
theorem d_Model_place_47 : decode b_Model_place 47 = .ok (.iaload, 1) := by decide +kernel
theorem d_Model_place_48 : decode b_Model_place 48 = .ok (.iload_n 2, 1) := by decide +kernel
theorem d_Model_place_49 : decode b_Model_place 49 = .ok (.if_icmp .ne 5, 3) := by decide +kernel
theorem d_Model_place_52 : decode b_Model_place 52 = .ok (.iconst 0, 1) := by decide +kernel
theorem d_Model_place_53 : decode b_Model_place 53 = .ok (.ireturn, 1) := by decide +kernel
theorem d_Model_place_54 : decode b_Model_place 54 = .ok (.aload_n 0, 1) := by decide +kernel
theorem d_Model_place_55 : decode b_Model_place 55 = .ok (.getfield 39, 3) := by decide +kernel
theorem d_Model_place_58 : decode b_Model_place 58 = .ok (.iload_n 1, 1) := by decide +kernel
theorem d_Model_place_59 : decode b_Model_place 59 = .ok (.iload_n 2, 1) := by decide +kernel
theorem d_Model_place_60 : decode b_Model_place 60 = .ok (.iastore, 1) := by decide +kernel
theorem d_Model_place_61 : decode b_Model_place 61 = .ok (.iconst 1, 1) := by decide +kernel
theorem d_Model_place_62 : decode b_Model_place 62 = .ok (.ireturn, 1) := by decide +kernel
theorem d_Model_isPut_0 : decode b_Model_isPut 0 = .ok (.aload_n 0, 1) := by decide +kernel
theorem d_Model_isPut_1 : decode b_Model_isPut 1 = .ok (.getfield 39, 3) := by decide +kernel
theorem d_Model_isPut_4 : decode b_Model_isPut 4 = .ok (.iload_n 1, 1) := by decide +kernel
theorem d_Model_isPut_5 : decode b_Model_isPut 5 = .ok (.iaload, 1) := by decide +kernel
theorem d_Model_isPut_6 : decode b_Model_isPut 6 = .ok (.bipush (-101), 2) := by decide +kernel
theorem d_Model_isPut_8 : decode b_Model_isPut 8 = .ok (.if_icmp .eq 7, 3) := by decide +kernel
theorem d_Model_isPut_11 : decode b_Model_isPut 11 = .ok (.iconst 1, 1) := by decide +kernel
theorem d_Model_isPut_12 : decode b_Model_isPut 12 = .ok (.goto 4, 3) := by decide +kernel
theorem d_Model_isPut_15 : decode b_Model_isPut 15 = .ok (.iconst 0, 1) := by decide +kernel
theorem d_Model_isPut_16 : decode b_Model_isPut 16 = .ok (.ireturn, 1) := by decide +kernel
theorem d_Model_touch_0 : decode b_Model_touch 0 = .ok (.aload_n 0, 1) := by decide +kernel
theorem d_Model_touch_1 : decode b_Model_touch 1 = .ok (.iload_n 1, 1) := by decide +kernel
theorem d_Model_touch_2 : decode b_Model_touch 2 = .ok (.invokevirtual 197, 3) := by decide +kernel
theorem d_Model_touch_5 : decode b_Model_touch 5 = .ok (.ifCond .eq 59, 3) := by decide +kernel
theorem d_Model_touch_8 : decode b_Model_touch 8 = .ok (.aload_n 0, 1) := by decide +kernel
theorem d_Model_touch_9 : decode b_Model_touch 9 = .ok (.iload_n 2, 1) := by decide +kernel
theorem d_Model_touch_10 : decode b_Model_touch 10 = .ok (.invokevirtual 197, 3) := by decide +kernel
theorem d_Model_touch_13 : decode b_Model_touch 13 = .ok (.ifCond .eq 51, 3) := by decide +kernel
theorem d_Model_touch_16 : decode b_Model_touch 16 = .ok (.aload_n 0, 1) := by decide +kernel
theorem d_Model_touch_17 : decode b_Model_touch 17 = .ok (.getfield 39, 3) := by decide +kernel
theorem d_Model_touch_20 : decode b_Model_touch 20 = .ok (.iload_n 1, 1) := by decide +kernel
theorem d_Model_touch_21 : decode b_Model_touch 21 = .ok (.iaload, 1) := by decide +kernel
theorem d_Model_touch_22 : decode b_Model_touch 22 = .ok (.aload_n 0, 1) := by decide +kernel
theorem d_Model_touch_23 : decode b_Model_touch 23 = .ok (.getfield 17, 3) := by decide +kernel
theorem d_Model_touch_26 : decode b_Model_touch 26 = .ok (.iload_n 1, 1) := by decide +kernel
theorem d_Model_touch_27 : decode b_Model_touch 27 = .ok (.iaload, 1) := by decide +kernel
theorem d_Model_touch_28 : decode b_Model_touch 28 = .ok (.iadd, 1) := by decide +kernel
theorem d_Model_touch_29 : decode b_Model_touch 29 = .ok (.aload_n 0, 1) := by decide +kernel
theorem d_Model_touch_30 : decode b_Model_touch 30 = .ok (.getfield 39, 3) := by decide +kernel
theorem d_Model_touch_33 : decode b_Model_touch 33 = .ok (.iload_n 2, 1) := by decide +kernel
theorem d_Model_touch_34 : decode b_Model_touch 34 = .ok (.iaload, 1) := by decide +kernel
theorem d_Model_touch_35 : decode b_Model_touch 35 = .ok (.if_icmp .eq 25, 3) := by decide +kernel
theorem d_Model_touch_38 : decode b_Model_touch 38 = .ok (.aload_n 0, 1) := by decide +kernel
theorem d_Model_touch_39 : decode b_Model_touch 39 = .ok (.getfield 39, 3) := by decide +kernel
theorem d_Model_touch_42 : decode b_Model_touch 42 = .ok (.iload_n 2, 1) := by decide +kernel
theorem d_Model_touch_43 : decode b_Model_touch 43 = .ok (.iaload, 1) := by decide +kernel
theorem d_Model_touch_44 : decode b_Model_touch 44 = .ok (.aload_n 0, 1) := by decide +kernel
theorem d_Model_touch_45 : decode b_Model_touch 45 = .ok (.getfield 17, 3) := by decide +kernel
theorem d_Model_touch_48 : decode b_Model_touch 48 = .ok (.iload_n 2, 1) := by decide +kernel
theorem d_Model_touch_49 : decode b_Model_touch 49 = .ok (.iaload, 1) := by decide +kernel
theorem d_Model_touch_50 : decode b_Model_touch 50 = .ok (.iadd, 1) := by decide +kernel
theorem d_Model_touch_51 : decode b_Model_touch 51 = .ok (.aload_n 0, 1) := by decide +kernel
theorem d_Model_touch_52 : decode b_Model_touch 52 = .ok (.getfield 39, 3) := by decide +kernel
theorem d_Model_touch_55 : decode b_Model_touch 55 = .ok (.iload_n 1, 1) := by decide +kernel
theorem d_Model_touch_56 : decode b_Model_touch 56 = .ok (.iaload, 1) := by decide +kernel
theorem d_Model_touch_57 : decode b_Model_touch 57 = .ok (.if_icmp .ne 7, 3) := by decide +kernel
theorem d_Model_touch_60 : decode b_Model_touch 60 = .ok (.iconst 1, 1) := by decide +kernel
theorem d_Model_touch_61 : decode b_Model_touch 61 = .ok (.goto 4, 3) := by decide +kernel
theorem d_Model_touch_64 : decode b_Model_touch 64 = .ok (.iconst 0, 1) := by decide +kernel
theorem d_Model_touch_65 : decode b_Model_touch 65 = .ok (.ireturn, 1) := by decide +kernel
theorem d_Model_covers_0 : decode b_Model_covers 0 = .ok (.aload_n 0, 1) := by decide +kernel
theorem d_Model_covers_1 : decode b_Model_covers 1 = .ok (.iload_n 1, 1) := by decide +kernel
theorem d_Model_covers_2 : decode b_Model_covers 2 = .ok (.invokevirtual 197, 3) := by decide +kernel
theorem d_Model_covers_5 : decode b_Model_covers 5 = .ok (.ifCond .eq 34, 3) := by decide +kernel
theorem d_Model_covers_8 : decode b_Model_covers 8 = .ok (.iload_n 2, 1) := by decide +kernel
theorem d_Model_covers_9 : decode b_Model_covers 9 = .ok (.aload_n 0, 1) := by decide +kernel
theorem d_Model_covers_10 : decode b_Model_covers 10 = .ok (.getfield 39, 3) := by decide +kernel
theorem d_Model_covers_13 : decode b_Model_covers 13 = .ok (.iload_n 1, 1) := by decide +kernel
theorem d_Model_covers_14 : decode b_Model_covers 14 = .ok (.iaload, 1) := by decide +kernel
theorem d_Model_covers_15 : decode b_Model_covers 15 = .ok (.if_icmp .lt 24, 3) := by decide +kernel
theorem d_Model_covers_18 : decode b_Model_covers 18 = .ok (.iload_n 2, 1) := by decide +kernel
theorem d_Model_covers_19 : decode b_Model_covers 19 = .ok (.aload_n 0, 1) := by decide +kernel
theorem d_Model_covers_20 : decode b_Model_covers 20 = .ok (.getfield 39, 3) := by decide +kernel
theorem d_Model_covers_23 : decode b_Model_covers 23 = .ok (.iload_n 1, 1) := by decide +kernel
theorem d_Model_covers_24 : decode b_Model_covers 24 = .ok (.iaload, 1) := by decide +kernel
theorem d_Model_covers_25 : decode b_Model_covers 25 = .ok (.aload_n 0, 1) := by decide +kernel
theorem d_Model_covers_26 : decode b_Model_covers 26 = .ok (.getfield 17, 3) := by decide +kernel
theorem d_Model_covers_29 : decode b_Model_covers 29 = .ok (.iload_n 1, 1) := by decide +kernel
theorem d_Model_covers_30 : decode b_Model_covers 30 = .ok (.iaload, 1) := by decide +kernel
theorem d_Model_covers_31 : decode b_Model_covers 31 = .ok (.iadd, 1) := by decide +kernel
theorem d_Model_covers_32 : decode b_Model_covers 32 = .ok (.if_icmp .ge 7, 3) := by decide +kernel
theorem d_Model_covers_35 : decode b_Model_covers 35 = .ok (.iconst 1, 1) := by decide +kernel
theorem d_Model_covers_36 : decode b_Model_covers 36 = .ok (.goto 4, 3) := by decide +kernel
theorem d_Model_covers_39 : decode b_Model_covers 39 = .ok (.iconst 0, 1) := by decide +kernel
theorem d_Model_covers_40 : decode b_Model_covers 40 = .ok (.ireturn, 1) := by decide +kernel
theorem d_Model_hasGap_0 : decode b_Model_hasGap 0 = .ok (.iconst 0, 1) := by decide +kernel
theorem d_Model_hasGap_1 : decode b_Model_hasGap 1 = .ok (.istore_n 1, 1) := by decide +kernel
theorem d_Model_hasGap_2 : decode b_Model_hasGap 2 = .ok (.iconst 0, 1) := by decide +kernel
theorem d_Model_hasGap_3 : decode b_Model_hasGap 3 = .ok (.istore_n 2, 1) := by decide +kernel
theorem d_Model_hasGap_4 : decode b_Model_hasGap 4 = .ok (.iconst 0, 1) := by decide +kernel
theorem d_Model_hasGap_5 : decode b_Model_hasGap 5 = .ok (.istore_n 3, 1) := by decide +kernel
theorem d_Model_hasGap_6 : decode b_Model_hasGap 6 = .ok (.iload_n 3, 1) := by decide +kernel
theorem d_Model_hasGap_7 : decode b_Model_hasGap 7 = .ok (.aload_n 0, 1) := by decide +kernel
theorem d_Model_hasGap_8 : decode b_Model_hasGap 8 = .ok (.getfield 69, 3) := by decide +kernel
theorem d_Model_hasGap_11 : decode b_Model_hasGap 11 = .ok (.if_icmp .gt 121, 3) := by decide +kernel
theorem d_Model_hasGap_14 : decode b_Model_hasGap 14 = .ok (.iload_n 3, 1) := by decide +kernel
theorem d_Model_hasGap_15 : decode b_Model_hasGap 15 = .ok (.aload_n 0, 1) := by decide +kernel
theorem d_Model_hasGap_16 : decode b_Model_hasGap 16 = .ok (.getfield 69, 3) := by decide +kernel
theorem d_Model_hasGap_19 : decode b_Model_hasGap 19 = .ok (.if_icmp .ge 16, 3) := by decide +kernel
theorem d_Model_hasGap_22 : decode b_Model_hasGap 22 = .ok (.aload_n 0, 1) := by decide +kernel
theorem d_Model_hasGap_23 : decode b_Model_hasGap 23 = .ok (.getfield 7, 3) := by decide +kernel
theorem d_Model_hasGap_26 : decode b_Model_hasGap 26 = .ok (.iload_n 3, 1) := by decide +kernel
theorem d_Model_hasGap_27 : decode b_Model_hasGap 27 = .ok (.baload, 1) := by decide +kernel
theorem d_Model_hasGap_28 : decode b_Model_hasGap 28 = .ok (.ifCond .ne 7, 3) := by decide +kernel
theorem d_Model_hasGap_31 : decode b_Model_hasGap 31 = .ok (.iconst 1, 1) := by decide +kernel
theorem d_Model_hasGap_32 : decode b_Model_hasGap 32 = .ok (.goto 4, 3) := by decide +kernel
theorem d_Model_hasGap_35 : decode b_Model_hasGap 35 = .ok (.iconst 0, 1) := by decide +kernel
theorem d_Model_hasGap_36 : decode b_Model_hasGap 36 = .ok (.istore 4, 2) := by decide +kernel
theorem d_Model_hasGap_38 : decode b_Model_hasGap 38 = .ok (.iconst 0, 1) := by decide +kernel
theorem d_Model_hasGap_39 : decode b_Model_hasGap 39 = .ok (.istore 5, 2) := by decide +kernel
theorem d_Model_hasGap_41 : decode b_Model_hasGap 41 = .ok (.iload 5, 2) := by decide +kernel
theorem d_Model_hasGap_43 : decode b_Model_hasGap 43 = .ok (.aload_n 0, 1) := by decide +kernel
theorem d_Model_hasGap_44 : decode b_Model_hasGap 44 = .ok (.getfield 97, 3) := by decide +kernel
theorem d_Model_hasGap_47 : decode b_Model_hasGap 47 = .ok (.if_icmp .ge 31, 3) := by decide +kernel
theorem d_Model_hasGap_50 : decode b_Model_hasGap 50 = .ok (.iload 4, 2) := by decide +kernel
theorem d_Model_hasGap_52 : decode b_Model_hasGap 52 = .ok (.ifCond .eq 17, 3) := by decide +kernel
theorem d_Model_hasGap_55 : decode b_Model_hasGap 55 = .ok (.aload_n 0, 1) := by decide +kernel
theorem d_Model_hasGap_56 : decode b_Model_hasGap 56 = .ok (.iload 5, 2) := by decide +kernel
theorem d_Model_hasGap_58 : decode b_Model_hasGap 58 = .ok (.iload_n 3, 1) := by decide +kernel
theorem d_Model_hasGap_59 : decode b_Model_hasGap 59 = .ok (.invokevirtual 200, 3) := by decide +kernel
theorem d_Model_hasGap_62 : decode b_Model_hasGap 62 = .ok (.ifCond .ne 7, 3) := by decide +kernel
theorem d_Model_hasGap_65 : decode b_Model_hasGap 65 = .ok (.iconst 1, 1) := by decide +kernel
theorem d_Model_hasGap_66 : decode b_Model_hasGap 66 = .ok (.goto 4, 3) := by decide +kernel
theorem d_Model_hasGap_69 : decode b_Model_hasGap 69 = .ok (.iconst 0, 1) := by decide +kernel
theorem d_Model_hasGap_70 : decode b_Model_hasGap 70 = .ok (.istore 4, 2) := by decide +kernel
theorem d_Model_hasGap_72 : decode b_Model_hasGap 72 = .ok (.iinc 5 1, 3) := by decide +kernel
theorem d_Model_hasGap_75 : decode b_Model_hasGap 75 = .ok (.goto (-34), 3) := by decide +kernel
theorem d_Model_hasGap_78 : decode b_Model_hasGap 78 = .ok (.iload_n 2, 1) := by decide +kernel
theorem d_Model_hasGap_79 : decode b_Model_hasGap 79 = .ok (.ifCond .ne 28, 3) := by decide +kernel
theorem d_Model_hasGap_82 : decode b_Model_hasGap 82 = .ok (.iload 4, 2) := by decide +kernel
theorem d_Model_hasGap_84 : decode b_Model_hasGap 84 = .ok (.ifCond .ne 27, 3) := by decide +kernel
theorem d_Model_hasGap_87 : decode b_Model_hasGap 87 = .ok (.iload_n 1, 1) := by decide +kernel
theorem d_Model_hasGap_88 : decode b_Model_hasGap 88 = .ok (.ifCond .le 23, 3) := by decide +kernel
theorem d_Model_hasGap_91 : decode b_Model_hasGap 91 = .ok (.iload_n 1, 1) := by decide +kernel
theorem d_Model_hasGap_92 : decode b_Model_hasGap 92 = .ok (.aload_n 0, 1) := by decide +kernel
theorem d_Model_hasGap_93 : decode b_Model_hasGap 93 = .ok (.getfield 73, 3) := by decide +kernel
theorem d_Model_hasGap_96 : decode b_Model_hasGap 96 = .ok (.if_icmp .lt 11, 3) := by decide +kernel
theorem d_Model_hasGap_99 : decode b_Model_hasGap 99 = .ok (.iload_n 1, 1) := by decide +kernel
theorem d_Model_hasGap_100 : decode b_Model_hasGap 100 = .ok (.aload_n 0, 1) := by decide +kernel
theorem d_Model_hasGap_101 : decode b_Model_hasGap 101 = .ok (.getfield 112, 3) := by decide +kernel
theorem d_Model_hasGap_104 : decode b_Model_hasGap 104 = .ok (.if_icmp .le 7, 3) := by decide +kernel
theorem d_Model_hasGap_107 : decode b_Model_hasGap 107 = .ok (.iconst 1, 1) := by decide +kernel
theorem d_Model_hasGap_108 : decode b_Model_hasGap 108 = .ok (.goto 4, 3) := by decide +kernel
theorem d_Model_hasGap_111 : decode b_Model_hasGap 111 = .ok (.iconst 0, 1) := by decide +kernel
theorem d_Model_hasGap_112 : decode b_Model_hasGap 112 = .ok (.istore_n 2, 1) := by decide +kernel
theorem d_Model_hasGap_113 : decode b_Model_hasGap 113 = .ok (.iload 4, 2) := by decide +kernel
theorem d_Model_hasGap_115 : decode b_Model_hasGap 115 = .ok (.ifCond .eq 9, 3) := by decide +kernel
theorem d_Model_hasGap_118 : decode b_Model_hasGap 118 = .ok (.iload_n 1, 1) := by decide +kernel
theorem d_Model_hasGap_119 : decode b_Model_hasGap 119 = .ok (.iconst 1, 1) := by decide +kernel
theorem d_Model_hasGap_120 : decode b_Model_hasGap 120 = .ok (.iadd, 1) := by decide +kernel
theorem d_Model_hasGap_121 : decode b_Model_hasGap 121 = .ok (.goto 4, 3) := by decide +kernel
theorem d_Model_hasGap_124 : decode b_Model_hasGap 124 = .ok (.iconst 0, 1) := by decide +kernel
theorem d_Model_hasGap_125 : decode b_Model_hasGap 125 = .ok (.istore_n 1, 1) := by decide +kernel
theorem d_Model_hasGap_126 : decode b_Model_hasGap 126 = .ok (.iinc 3 1, 3) := by decide +kernel
theorem d_Model_hasGap_129 : decode b_Model_hasGap 129 = .ok (.goto (-123), 3) := by decide +kernel
theorem d_Model_hasGap_132 : decode b_Model_hasGap 132 = .ok (.iload_n 2, 1) := by decide +kernel
theorem d_Model_hasGap_133 : decode b_Model_hasGap 133 = .ok (.ireturn, 1) := by decide +kernel
theorem d_Model_check_0 : decode b_Model_check 0 = .ok (.aload_n 0, 1) := by decide +kernel
theorem d_Model_check_1 : decode b_Model_check 1 = .ok (.iconst 0, 1) := by decide +kernel
theorem d_Model_check_2 : decode b_Model_check 2 = .ok (.putfield 76, 3) := by decide +kernel
theorem d_Model_check_5 : decode b_Model_check 5 = .ok (.aload_n 0, 1) := by decide +kernel
theorem d_Model_check_6 : decode b_Model_check 6 = .ok (.invokevirtual 203, 3) := by decide +kernel
theorem d_Model_check_9 : decode b_Model_check 9 = .ok (.ifCond .eq 8, 3) := by decide +kernel
theorem d_Model_check_12 : decode b_Model_check 12 = .ok (.bipush 7, 2) := by decide +kernel
theorem d_Model_check_14 : decode b_Model_check 14 = .ok (.goto 4, 3) := by decide +kernel
theorem d_Model_check_17 : decode b_Model_check 17 = .ok (.iconst 0, 1) := by decide +kernel
theorem d_Model_check_18 : decode b_Model_check 18 = .ok (.istore_n 1, 1) := by decide +kernel
theorem d_Model_check_19 : decode b_Model_check 19 = .ok (.iconst 0, 1) := by decide +kernel
theorem d_Model_check_20 : decode b_Model_check 20 = .ok (.istore_n 2, 1) := by decide +kernel
theorem d_Model_check_21 : decode b_Model_check 21 = .ok (.iload_n 2, 1) := by decide +kernel
theorem d_Model_check_22 : decode b_Model_check 22 = .ok (.aload_n 0, 1) := by decide +kernel
theorem d_Model_check_23 : decode b_Model_check 23 = .ok (.getfield 97, 3) := by decide +kernel
theorem d_Model_check_26 : decode b_Model_check 26 = .ok (.if_icmp .ge 52, 3) := by decide +kernel
theorem d_Model_check_29 : decode b_Model_check 29 = .ok (.iconst 0, 1) := by decide +kernel
theorem d_Model_check_30 : decode b_Model_check 30 = .ok (.istore_n 3, 1) := by decide +kernel
theorem d_Model_check_31 : decode b_Model_check 31 = .ok (.iload_n 3, 1) := by decide +kernel
theorem d_Model_check_32 : decode b_Model_check 32 = .ok (.iload_n 2, 1) := by decide +kernel
theorem d_Model_check_33 : decode b_Model_check 33 = .ok (.if_icmp .ge 39, 3) := by decide +kernel
theorem d_Model_check_36 : decode b_Model_check 36 = .ok (.aload_n 0, 1) := by decide +kernel
theorem d_Model_check_37 : decode b_Model_check 37 = .ok (.iload_n 2, 1) := by decide +kernel
theorem d_Model_check_38 : decode b_Model_check 38 = .ok (.iload_n 3, 1) := by decide +kernel
theorem d_Model_check_39 : decode b_Model_check 39 = .ok (.invokevirtual 206, 3) := by decide +kernel
theorem d_Model_check_42 : decode b_Model_check 42 = .ok (.ifCond .eq 22, 3) := by decide +kernel
theorem d_Model_check_45 : decode b_Model_check 45 = .ok (.aload_n 0, 1) := by decide +kernel
theorem d_Model_check_46 : decode b_Model_check 46 = .ok (.getfield 36, 3) := by decide +kernel
theorem d_Model_check_49 : decode b_Model_check 49 = .ok (.bipush 6, 2) := by decide +kernel
theorem d_Model_check_51 : decode b_Model_check 51 = .ok (.iload_n 2, 1) := by decide +kernel
theorem d_Model_check_52 : decode b_Model_check 52 = .ok (.imul, 1) := by decide +kernel
theorem d_Model_check_53 : decode b_Model_check 53 = .ok (.iload_n 3, 1) := by decide +kernel
theorem d_Model_check_54 : decode b_Model_check 54 = .ok (.iadd, 1) := by decide +kernel
theorem d_Model_check_55 : decode b_Model_check 55 = .ok (.baload, 1) := by decide +kernel
theorem d_Model_check_56 : decode b_Model_check 56 = .ok (.ifCond .eq 8, 3) := by decide +kernel
theorem d_Model_check_59 : decode b_Model_check 59 = .ok (.bipush 6, 2) := by decide +kernel
theorem d_Model_check_61 : decode b_Model_check 61 = .ok (.goto 4, 3) := by decide +kernel
theorem d_Model_check_64 : decode b_Model_check 64 = .ok (.iload_n 1, 1) := by decide +kernel
theorem d_Model_check_65 : decode b_Model_check 65 = .ok (.istore_n 1, 1) := by decide +kernel
theorem d_Model_check_66 : decode b_Model_check 66 = .ok (.iinc 3 1, 3) := by decide +kernel
theorem d_Model_check_69 : decode b_Model_check 69 = .ok (.goto (-38), 3) := by decide +kernel
theorem d_Model_check_72 : decode b_Model_check 72 = .ok (.iinc 2 1, 3) := by decide +kernel
theorem d_Model_check_75 : decode b_Model_check 75 = .ok (.goto (-54), 3) := by decide +kernel
theorem d_Model_check_78 : decode b_Model_check 78 = .ok (.iconst 0, 1) := by decide +kernel
theorem d_Model_check_79 : decode b_Model_check 79 = .ok (.istore_n 2, 1) := by decide +kernel
theorem d_Model_check_80 : decode b_Model_check 80 = .ok (.iload_n 2, 1) := by decide +kernel
theorem d_Model_check_81 : decode b_Model_check 81 = .ok (.aload_n 0, 1) := by decide +kernel
theorem d_Model_check_82 : decode b_Model_check 82 = .ok (.getfield 97, 3) := by decide +kernel
theorem d_Model_check_85 : decode b_Model_check 85 = .ok (.if_icmp .ge 37, 3) := by decide +kernel
theorem d_Model_check_88 : decode b_Model_check 88 = .ok (.aload_n 0, 1) := by decide +kernel
theorem d_Model_check_89 : decode b_Model_check 89 = .ok (.iload_n 2, 1) := by decide +kernel
theorem d_Model_check_90 : decode b_Model_check 90 = .ok (.invokevirtual 197, 3) := by decide +kernel
theorem d_Model_check_93 : decode b_Model_check 93 = .ok (.ifCond .eq 21, 3) := by decide +kernel
theorem d_Model_check_96 : decode b_Model_check 96 = .ok (.aload_n 0, 1) := by decide +kernel
theorem d_Model_check_97 : decode b_Model_check 97 = .ok (.iload_n 2, 1) := by decide +kernel
theorem d_Model_check_98 : decode b_Model_check 98 = .ok (.aload_n 0, 1) := by decide +kernel
theorem d_Model_check_99 : decode b_Model_check 99 = .ok (.getfield 39, 3) := by decide +kernel
theorem d_Model_check_102 : decode b_Model_check 102 = .ok (.iload_n 2, 1) := by decide +kernel
theorem d_Model_check_103 : decode b_Model_check 103 = .ok (.iaload, 1) := by decide +kernel
theorem d_Model_check_104 : decode b_Model_check 104 = .ok (.invokevirtual 115, 3) := by decide +kernel
theorem d_Model_check_107 : decode b_Model_check 107 = .ok (.ifCond .ne 7, 3) := by decide +kernel
theorem d_Model_check_110 : decode b_Model_check 110 = .ok (.iconst 5, 1) := by decide +kernel
theorem d_Model_check_111 : decode b_Model_check 111 = .ok (.goto 4, 3) := by decide +kernel
theorem d_Model_check_114 : decode b_Model_check 114 = .ok (.iload_n 1, 1) := by decide +kernel
theorem d_Model_check_115 : decode b_Model_check 115 = .ok (.istore_n 1, 1) := by decide +kernel
theorem d_Model_check_116 : decode b_Model_check 116 = .ok (.iinc 2 1, 3) := by decide +kernel
theorem d_Model_check_119 : decode b_Model_check 119 = .ok (.goto (-39), 3) := by decide +kernel
theorem d_Model_check_122 : decode b_Model_check 122 = .ok (.iconst 0, 1) := by decide +kernel
theorem d_Model_check_123 : decode b_Model_check 123 = .ok (.istore_n 2, 1) := by decide +kernel
theorem d_Model_check_124 : decode b_Model_check 124 = .ok (.iload_n 2, 1) := by decide +kernel
theorem d_Model_check_125 : decode b_Model_check 125 = .ok (.aload_n 0, 1) := by decide +kernel
theorem d_Model_check_126 : decode b_Model_check 126 = .ok (.getfield 97, 3) := by decide +kernel
theorem d_Model_check_129 : decode b_Model_check 129 = .ok (.if_icmp .ge 32, 3) := by decide +kernel
theorem d_Model_check_132 : decode b_Model_check 132 = .ok (.aload_n 0, 1) := by decide +kernel
theorem d_Model_check_133 : decode b_Model_check 133 = .ok (.getfield 30, 3) := by decide +kernel
theorem d_Model_check_136 : decode b_Model_check 136 = .ok (.iload_n 2, 1) := by decide +kernel
theorem d_Model_check_137 : decode b_Model_check 137 = .ok (.baload, 1) := by decide +kernel
theorem d_Model_check_138 : decode b_Model_check 138 = .ok (.ifCond .eq 15, 3) := by decide +kernel
theorem d_Model_check_141 : decode b_Model_check 141 = .ok (.aload_n 0, 1) := by decide +kernel
theorem d_Model_check_142 : decode b_Model_check 142 = .ok (.iload_n 2, 1) := by decide +kernel
theorem d_Model_check_143 : decode b_Model_check 143 = .ok (.invokevirtual 197, 3) := by decide +kernel
theorem d_Model_check_146 : decode b_Model_check 146 = .ok (.ifCond .ne 7, 3) := by decide +kernel
theorem d_Model_check_149 : decode b_Model_check 149 = .ok (.iconst 4, 1) := by decide +kernel
theorem d_Model_check_150 : decode b_Model_check 150 = .ok (.goto 4, 3) := by decide +kernel
theorem d_Model_check_153 : decode b_Model_check 153 = .ok (.iload_n 1, 1) := by decide +kernel
theorem d_Model_check_154 : decode b_Model_check 154 = .ok (.istore_n 1, 1) := by decide +kernel
theorem d_Model_check_155 : decode b_Model_check 155 = .ok (.iinc 2 1, 3) := by decide +kernel
theorem d_Model_check_158 : decode b_Model_check 158 = .ok (.goto (-34), 3) := by decide +kernel
theorem d_Model_check_161 : decode b_Model_check 161 = .ok (.iconst 0, 1) := by decide +kernel
theorem d_Model_check_162 : decode b_Model_check 162 = .ok (.istore_n 2, 1) := by decide +kernel
theorem d_Model_check_163 : decode b_Model_check 163 = .ok (.iload_n 2, 1) := by decide +kernel
theorem d_Model_check_164 : decode b_Model_check 164 = .ok (.aload_n 0, 1) := by decide +kernel
theorem d_Model_check_165 : decode b_Model_check 165 = .ok (.getfield 69, 3) := by decide +kernel
theorem d_Model_check_168 : decode b_Model_check 168 = .ok (.if_icmp .ge 49, 3) := by decide +kernel
theorem d_Model_check_171 : decode b_Model_check 171 = .ok (.iconst 0, 1) := by decide +kernel
theorem d_Model_check_172 : decode b_Model_check 172 = .ok (.istore_n 3, 1) := by decide +kernel
theorem d_Model_check_173 : decode b_Model_check 173 = .ok (.iload_n 3, 1) := by decide +kernel
theorem d_Model_check_174 : decode b_Model_check 174 = .ok (.aload_n 0, 1) := by decide +kernel
theorem d_Model_check_175 : decode b_Model_check 175 = .ok (.getfield 97, 3) := by decide +kernel
theorem d_Model_check_178 : decode b_Model_check 178 = .ok (.if_icmp .ge 33, 3) := by decide +kernel
theorem d_Model_check_181 : decode b_Model_check 181 = .ok (.aload_n 0, 1) := by decide +kernel
theorem d_Model_check_182 : decode b_Model_check 182 = .ok (.getfield 7, 3) := by decide +kernel
theorem d_Model_check_185 : decode b_Model_check 185 = .ok (.iload_n 2, 1) := by decide +kernel
theorem d_Model_check_186 : decode b_Model_check 186 = .ok (.baload, 1) := by decide +kernel
theorem d_Model_check_187 : decode b_Model_check 187 = .ok (.ifCond .eq 16, 3) := by decide +kernel
theorem d_Model_check_190 : decode b_Model_check 190 = .ok (.aload_n 0, 1) := by decide +kernel
theorem d_Model_check_191 : decode b_Model_check 191 = .ok (.iload_n 3, 1) := by decide +kernel
theorem d_Model_check_192 : decode b_Model_check 192 = .ok (.iload_n 2, 1) := by decide +kernel
theorem d_Model_check_193 : decode b_Model_check 193 = .ok (.invokevirtual 200, 3) := by decide +kernel
theorem d_Model_check_196 : decode b_Model_check 196 = .ok (.ifCond .eq 7, 3) := by decide +kernel
theorem d_Model_check_199 : decode b_Model_check 199 = .ok (.iconst 3, 1) := by decide +kernel
theorem d_Model_check_200 : decode b_Model_check 200 = .ok (.goto 4, 3) := by decide +kernel
theorem d_Model_check_203 : decode b_Model_check 203 = .ok (.iload_n 1, 1) := by decide +kernel
theorem d_Model_check_204 : decode b_Model_check 204 = .ok (.istore_n 1, 1) := by decide +kernel
theorem d_Model_check_205 : decode b_Model_check 205 = .ok (.iinc 3 1, 3) := by decide +kernel
theorem d_Model_check_208 : decode b_Model_check 208 = .ok (.goto (-35), 3) := by decide +kernel
theorem d_Model_check_211 : decode b_Model_check 211 = .ok (.iinc 2 1, 3) := by decide +kernel
theorem d_Model_check_214 : decode b_Model_check 214 = .ok (.goto (-51), 3) := by decide +kernel
theorem d_Model_check_217 : decode b_Model_check 217 = .ok (.iconst 0, 1) := by decide +kernel
theorem d_Model_check_218 : decode b_Model_check 218 = .ok (.istore_n 2, 1) := by decide +kernel
theorem d_Model_check_219 : decode b_Model_check 219 = .ok (.iload_n 2, 1) := by decide +kernel
theorem d_Model_check_220 : decode b_Model_check 220 = .ok (.aload_n 0, 1) := by decide +kernel
theorem d_Model_check_221 : decode b_Model_check 221 = .ok (.getfield 97, 3) := by decide +kernel
theorem d_Model_check_224 : decode b_Model_check 224 = .ok (.if_icmp .ge 88, 3) := by decide +kernel
theorem d_Model_check_227 : decode b_Model_check 227 = .ok (.iconst 0, 1) := by decide +kernel
theorem d_Model_check_228 : decode b_Model_check 228 = .ok (.istore_n 3, 1) := by decide +kernel
theorem d_Model_check_229 : decode b_Model_check 229 = .ok (.iload_n 3, 1) := by decide +kernel
theorem d_Model_check_230 : decode b_Model_check 230 = .ok (.iload_n 2, 1) := by decide +kernel
theorem d_Model_check_231 : decode b_Model_check 231 = .ok (.if_icmp .ge 75, 3) := by decide +kernel
theorem d_Model_check_234 : decode b_Model_check 234 = .ok (.aload_n 0, 1) := by decide +kernel
theorem d_Model_check_235 : decode b_Model_check 235 = .ok (.iload_n 2, 1) := by decide +kernel
theorem d_Model_check_236 : decode b_Model_check 236 = .ok (.invokevirtual 197, 3) := by decide +kernel
theorem d_Model_check_239 : decode b_Model_check 239 = .ok (.ifCond .eq 59, 3) := by decide +kernel
theorem d_Model_check_242 : decode b_Model_check 242 = .ok (.aload_n 0, 1) := by decide +kernel
theorem d_Model_check_243 : decode b_Model_check 243 = .ok (.iload_n 3, 1) := by decide +kernel
theorem d_Model_check_244 : decode b_Model_check 244 = .ok (.invokevirtual 197, 3) := by decide +kernel
theorem d_Model_check_247 : decode b_Model_check 247 = .ok (.ifCond .eq 51, 3) := by decide +kernel
theorem d_Model_check_250 : decode b_Model_check 250 = .ok (.aload_n 0, 1) := by decide +kernel
theorem d_Model_check_251 : decode b_Model_check 251 = .ok (.getfield 39, 3) := by decide +kernel
theorem d_Model_check_254 : decode b_Model_check 254 = .ok (.iload_n 2, 1) := by decide +kernel
theorem d_Model_check_255 : decode b_Model_check 255 = .ok (.iaload, 1) := by decide +kernel
theorem d_Model_check_256 : decode b_Model_check 256 = .ok (.aload_n 0, 1) := by decide +kernel
theorem d_Model_check_257 : decode b_Model_check 257 = .ok (.getfield 39, 3) := by decide +kernel
theorem d_Model_check_260 : decode b_Model_check 260 = .ok (.iload_n 3, 1) := by decide +kernel
theorem d_Model_check_261 : decode b_Model_check 261 = .ok (.iaload, 1) := by decide +kernel
theorem d_Model_check_262 : decode b_Model_check 262 = .ok (.aload_n 0, 1) := by decide +kernel
theorem d_Model_check_263 : decode b_Model_check 263 = .ok (.getfield 17, 3) := by decide +kernel
theorem d_Model_check_266 : decode b_Model_check 266 = .ok (.iload_n 3, 1) := by decide +kernel
theorem d_Model_check_267 : decode b_Model_check 267 = .ok (.iaload, 1) := by decide +kernel
theorem d_Model_check_268 : decode b_Model_check 268 = .ok (.iadd, 1) := by decide +kernel
theorem d_Model_check_269 : decode b_Model_check 269 = .ok (.if_icmp .ge 29, 3) := by decide +kernel
theorem d_Model_check_272 : decode b_Model_check 272 = .ok (.aload_n 0, 1) := by decide +kernel
theorem d_Model_check_273 : decode b_Model_check 273 = .ok (.getfield 39, 3) := by decide +kernel
theorem d_Model_check_276 : decode b_Model_check 276 = .ok (.iload_n 3, 1) := by decide +kernel
theorem d_Model_check_277 : decode b_Model_check 277 = .ok (.iaload, 1) := by decide +kernel
theorem d_Model_check_278 : decode b_Model_check 278 = .ok (.aload_n 0, 1) := by decide +kernel
theorem d_Model_check_279 : decode b_Model_check 279 = .ok (.getfield 39, 3) := by decide +kernel
theorem d_Model_check_282 : decode b_Model_check 282 = .ok (.iload_n 2, 1) := by decide +kernel
theorem d_Model_check_283 : decode b_Model_check 283 = .ok (.iaload, 1) := by decide +kernel
theorem d_Model_check_284 : decode b_Model_check 284 = .ok (.aload_n 0, 1) := by decide +kernel
theorem d_Model_check_285 : decode b_Model_check 285 = .ok (.getfield 17, 3) := by decide +kernel
theorem d_Model_check_288 : decode b_Model_check 288 = .ok (.iload_n 2, 1) := by decide +kernel
theorem d_Model_check_289 : decode b_Model_check 289 = .ok (.iaload, 1) := by decide +kernel
theorem d_Model_check_290 : decode b_Model_check 290 = .ok (.iadd, 1) := by decide +kernel
theorem d_Model_check_291 : decode b_Model_check 291 = .ok (.if_icmp .ge 7, 3) := by decide +kernel
theorem d_Model_check_294 : decode b_Model_check 294 = .ok (.iconst 2, 1) := by decide +kernel
theorem d_Model_check_295 : decode b_Model_check 295 = .ok (.goto 4, 3) := by decide +kernel
theorem d_Model_check_298 : decode b_Model_check 298 = .ok (.iload_n 1, 1) := by decide +kernel
theorem d_Model_check_299 : decode b_Model_check 299 = .ok (.istore_n 1, 1) := by decide +kernel
theorem d_Model_check_300 : decode b_Model_check 300 = .ok (.iinc 3 1, 3) := by decide +kernel
theorem d_Model_check_303 : decode b_Model_check 303 = .ok (.goto (-74), 3) := by decide +kernel
theorem d_Model_check_306 : decode b_Model_check 306 = .ok (.iinc 2 1, 3) := by decide +kernel
theorem d_Model_check_309 : decode b_Model_check 309 = .ok (.goto (-90), 3) := by decide +kernel
theorem d_Model_check_312 : decode b_Model_check 312 = .ok (.iconst 0, 1) := by decide +kernel
theorem d_Model_check_313 : decode b_Model_check 313 = .ok (.istore_n 2, 1) := by decide +kernel
theorem d_Model_check_314 : decode b_Model_check 314 = .ok (.iload_n 2, 1) := by decide +kernel
theorem d_Model_check_315 : decode b_Model_check 315 = .ok (.aload_n 0, 1) := by decide +kernel
theorem d_Model_check_316 : decode b_Model_check 316 = .ok (.getfield 97, 3) := by decide +kernel
theorem d_Model_check_319 : decode b_Model_check 319 = .ok (.if_icmp .ge 52, 3) := by decide +kernel
theorem d_Model_check_322 : decode b_Model_check 322 = .ok (.aload_n 0, 1) := by decide +kernel
theorem d_Model_check_323 : decode b_Model_check 323 = .ok (.iload_n 2, 1) := by decide +kernel
theorem d_Model_check_324 : decode b_Model_check 324 = .ok (.invokevirtual 197, 3) := by decide +kernel
theorem d_Model_check_327 : decode b_Model_check 327 = .ok (.ifCond .eq 36, 3) := by decide +kernel
theorem d_Model_check_330 : decode b_Model_check 330 = .ok (.aload_n 0, 1) := by decide +kernel
theorem d_Model_check_331 : decode b_Model_check 331 = .ok (.getfield 39, 3) := by decide +kernel
theorem d_Model_check_334 : decode b_Model_check 334 = .ok (.iload_n 2, 1) := by decide +kernel
theorem d_Model_check_335 : decode b_Model_check 335 = .ok (.iaload, 1) := by decide +kernel
theorem d_Model_check_336 : decode b_Model_check 336 = .ok (.ifCond .lt 23, 3) := by decide +kernel
theorem d_Model_check_339 : decode b_Model_check 339 = .ok (.aload_n 0, 1) := by decide +kernel
theorem d_Model_check_340 : decode b_Model_check 340 = .ok (.getfield 39, 3) := by decide +kernel
theorem d_Model_check_343 : decode b_Model_check 343 = .ok (.iload_n 2, 1) := by decide +kernel
theorem d_Model_check_344 : decode b_Model_check 344 = .ok (.iaload, 1) := by decide +kernel
theorem d_Model_check_345 : decode b_Model_check 345 = .ok (.aload_n 0, 1) := by decide +kernel
theorem d_Model_check_346 : decode b_Model_check 346 = .ok (.getfield 17, 3) := by decide +kernel
theorem d_Model_check_349 : decode b_Model_check 349 = .ok (.iload_n 2, 1) := by decide +kernel
theorem d_Model_check_350 : decode b_Model_check 350 = .ok (.iaload, 1) := by decide +kernel
theorem d_Model_check_351 : decode b_Model_check 351 = .ok (.iadd, 1) := by decide +kernel
theorem d_Model_check_352 : decode b_Model_check 352 = .ok (.aload_n 0, 1) := by decide +kernel
theorem d_Model_check_353 : decode b_Model_check 353 = .ok (.getfield 69, 3) := by decide +kernel
theorem d_Model_check_356 : decode b_Model_check 356 = .ok (.if_icmp .le 7, 3) := by decide +kernel
theorem d_Model_check_359 : decode b_Model_check 359 = .ok (.iconst 1, 1) := by decide +kernel
theorem d_Model_check_360 : decode b_Model_check 360 = .ok (.goto 4, 3) := by decide +kernel
theorem d_Model_check_363 : decode b_Model_check 363 = .ok (.iload_n 1, 1) := by decide +kernel
theorem d_Model_check_364 : decode b_Model_check 364 = .ok (.istore_n 1, 1) := by decide +kernel
theorem d_Model_check_365 : decode b_Model_check 365 = .ok (.iinc 2 1, 3) := by decide +kernel
theorem d_Model_check_368 : decode b_Model_check 368 = .ok (.goto (-54), 3) := by decide +kernel
theorem d_Model_check_371 : decode b_Model_check 371 = .ok (.iload_n 1, 1) := by decide +kernel
theorem d_Model_check_372 : decode b_Model_check 372 = .ok (.ireturn, 1) := by decide +kernel
theorem d_Model_row_0 : decode b_Model_row 0 = .ok (.aload_n 0, 1) := by decide +kernel
theorem d_Model_row_1 : decode b_Model_row 1 = .ok (.iconst 0, 1) := by decide +kernel
theorem d_Model_row_2 : decode b_Model_row 2 = .ok (.putfield 76, 3) := by decide +kernel
theorem d_Model_row_5 : decode b_Model_row 5 = .ok (.lconst 0, 1) := by decide +kernel
theorem d_Model_row_6 : decode b_Model_row 6 = .ok (.lstore_n 1, 1) := by decide +kernel
theorem d_Model_row_7 : decode b_Model_row 7 = .ok (.iconst 0, 1) := by decide +kernel
theorem d_Model_row_8 : decode b_Model_row 8 = .ok (.istore_n 3, 1) := by decide +kernel
theorem d_Model_row_9 : decode b_Model_row 9 = .ok (.iload_n 3, 1) := by decide +kernel
theorem d_Model_row_10 : decode b_Model_row 10 = .ok (.aload_n 0, 1) := by decide +kernel
theorem d_Model_row_11 : decode b_Model_row 11 = .ok (.getfield 97, 3) := by decide +kernel
theorem d_Model_row_14 : decode b_Model_row 14 = .ok (.if_icmp .ge 74, 3) := by decide +kernel
theorem d_Model_row_17 : decode b_Model_row 17 = .ok (.lload_n 1, 1) := by decide +kernel
theorem d_Model_row_18 : decode b_Model_row 18 = .ok (.aload_n 0, 1) := by decide +kernel
theorem d_Model_row_19 : decode b_Model_row 19 = .ok (.iload_n 3, 1) := by decide +kernel
theorem d_Model_row_20 : decode b_Model_row 20 = .ok (.invokevirtual 197, 3) := by decide +kernel
theorem d_Model_row_23 : decode b_Model_row 23 = .ok (.ifCond .eq 12, 3) := by decide +kernel
theorem d_Model_row_26 : decode b_Model_row 26 = .ok (.aload_n 0, 1) := by decide +kernel
theorem d_Model_row_27 : decode b_Model_row 27 = .ok (.getfield 20, 3) := by decide +kernel
theorem d_Model_row_30 : decode b_Model_row 30 = .ok (.iload_n 3, 1) := by decide +kernel
theorem d_Model_row_31 : decode b_Model_row 31 = .ok (.laload, 1) := by decide +kernel
theorem d_Model_row_32 : decode b_Model_row 32 = .ok (.goto 4, 3) := by decide +kernel
theorem d_Model_row_35 : decode b_Model_row 35 = .ok (.lconst 0, 1) := by decide +kernel
theorem d_Model_row_36 : decode b_Model_row 36 = .ok (.ladd, 1) := by decide +kernel
theorem d_Model_row_37 : decode b_Model_row 37 = .ok (.lstore_n 1, 1) := by decide +kernel
theorem d_Model_row_38 : decode b_Model_row 38 = .ok (.iconst 0, 1) := by decide +kernel
theorem d_Model_row_39 : decode b_Model_row 39 = .ok (.istore 4, 2) := by decide +kernel
theorem d_Model_row_41 : decode b_Model_row 41 = .ok (.iload 4, 2) := by decide +kernel
theorem d_Model_row_43 : decode b_Model_row 43 = .ok (.iload_n 3, 1) := by decide +kernel
theorem d_Model_row_44 : decode b_Model_row 44 = .ok (.if_icmp .ge 38, 3) := by decide +kernel
theorem d_Model_row_47 : decode b_Model_row 47 = .ok (.lload_n 1, 1) := by decide +kernel
theorem d_Model_row_48 : decode b_Model_row 48 = .ok (.aload_n 0, 1) := by decide +kernel
theorem d_Model_row_49 : decode b_Model_row 49 = .ok (.iload_n 3, 1) := by decide +kernel
theorem d_Model_row_50 : decode b_Model_row 50 = .ok (.iload 4, 2) := by decide +kernel
theorem d_Model_row_52 : decode b_Model_row 52 = .ok (.invokevirtual 206, 3) := by decide +kernel
theorem d_Model_row_55 : decode b_Model_row 55 = .ok (.ifCond .eq 18, 3) := by decide +kernel
theorem d_Model_row_58 : decode b_Model_row 58 = .ok (.aload_n 0, 1) := by decide +kernel
theorem d_Model_row_59 : decode b_Model_row 59 = .ok (.getfield 33, 3) := by decide +kernel
theorem d_Model_row_62 : decode b_Model_row 62 = .ok (.bipush 6, 2) := by decide +kernel
theorem d_Model_row_64 : decode b_Model_row 64 = .ok (.iload_n 3, 1) := by decide +kernel
theorem d_Model_row_65 : decode b_Model_row 65 = .ok (.imul, 1) := by decide +kernel
theorem d_Model_row_66 : decode b_Model_row 66 = .ok (.iload 4, 2) := by decide +kernel
theorem d_Model_row_68 : decode b_Model_row 68 = .ok (.iadd, 1) := by decide +kernel
theorem d_Model_row_69 : decode b_Model_row 69 = .ok (.laload, 1) := by decide +kernel
theorem d_Model_row_70 : decode b_Model_row 70 = .ok (.goto 4, 3) := by decide +kernel
theorem d_Model_row_73 : decode b_Model_row 73 = .ok (.lconst 0, 1) := by decide +kernel
theorem d_Model_row_74 : decode b_Model_row 74 = .ok (.ladd, 1) := by decide +kernel
theorem d_Model_row_75 : decode b_Model_row 75 = .ok (.lstore_n 1, 1) := by decide +kernel
theorem d_Model_row_76 : decode b_Model_row 76 = .ok (.iinc 4 1, 3) := by decide +kernel
theorem d_Model_row_79 : decode b_Model_row 79 = .ok (.goto (-38), 3) := by decide +kernel
theorem d_Model_row_82 : decode b_Model_row 82 = .ok (.iinc 3 1, 3) := by decide +kernel
theorem d_Model_row_85 : decode b_Model_row 85 = .ok (.goto (-76), 3) := by decide +kernel
theorem d_Model_row_88 : decode b_Model_row 88 = .ok (.lload_n 1, 1) := by decide +kernel
theorem d_Model_row_89 : decode b_Model_row 89 = .ok (.lreturn, 1) := by decide +kernel
