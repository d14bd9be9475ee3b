theorem d_Table_init_0 : decode b_Table_init 0 = .ok (.aload_n 0, 1) := by decide +kernel
theorem d_Table_init_1 : decode b_Table_init 1 = .ok (.invokespecial 3, 3) := by decide +kernel
theorem d_Table_init_4 : decode b_Table_init 4 = .ok (.aload_n 0, 1) := by decide +kernel
theorem d_Table_init_5 : decode b_Table_init 5 = .ok (.aload_n 1, 1) := by decide +kernel
theorem d_Table_init_6 : decode b_Table_init 6 = .ok (.putfield 9, 3) := by decide +kernel
theorem d_Table_init_9 : decode b_Table_init 9 = .ok (.aload_n 0, 1) := by decide +kernel
theorem d_Table_init_10 : decode b_Table_init 10 = .ok (.aload_n 2, 1) := by decide +kernel
theorem d_Table_init_11 : decode b_Table_init 11 = .ok (.putfield 15, 3) := by decide +kernel
theorem d_Table_init_14 : decode b_Table_init 14 = .ok (.aload_n 0, 1) := by decide +kernel
theorem d_Table_init_15 : decode b_Table_init 15 = .ok (.aload_n 3, 1) := by decide +kernel
theorem d_Table_init_16 : decode b_Table_init 16 = .ok (.putfield 19, 3) := by decide +kernel
theorem d_Table_init_19 : decode b_Table_init 19 = .ok (.aload_n 0, 1) := by decide +kernel
theorem d_Table_init_20 : decode b_Table_init 20 = .ok (.aload_n 1, 1) := by decide +kernel
theorem d_Table_init_21 : decode b_Table_init 21 = .ok (.getfield 23, 3) := by decide +kernel
theorem d_Table_init_24 : decode b_Table_init 24 = .ok (.iconst 1, 1) := by decide +kernel
theorem d_Table_init_25 : decode b_Table_init 25 = .ok (.iadd, 1) := by decide +kernel
theorem d_Table_init_26 : decode b_Table_init 26 = .ok (.bipush 64, 2) := by decide +kernel
theorem d_Table_init_28 : decode b_Table_init 28 = .ok (.imul, 1) := by decide +kernel
theorem d_Table_init_29 : decode b_Table_init 29 = .ok (.bipush 8, 2) := by decide +kernel
theorem d_Table_init_31 : decode b_Table_init 31 = .ok (.imul, 1) := by decide +kernel
theorem d_Table_init_32 : decode b_Table_init 32 = .ok (.newarray .long, 2) := by decide +kernel
theorem d_Table_init_34 : decode b_Table_init 34 = .ok (.putfield 29, 3) := by decide +kernel
theorem d_Table_init_37 : decode b_Table_init 37 = .ok (.aload_n 0, 1) := by decide +kernel
theorem d_Table_init_38 : decode b_Table_init 38 = .ok (.aload_n 1, 1) := by decide +kernel
theorem d_Table_init_39 : decode b_Table_init 39 = .ok (.getfield 23, 3) := by decide +kernel
theorem d_Table_init_42 : decode b_Table_init 42 = .ok (.newarray .int, 2) := by decide +kernel
theorem d_Table_init_44 : decode b_Table_init 44 = .ok (.putfield 33, 3) := by decide +kernel
theorem d_Table_init_47 : decode b_Table_init 47 = .ok (.aload_n 0, 1) := by decide +kernel
theorem d_Table_init_48 : decode b_Table_init 48 = .ok (.aload_n 1, 1) := by decide +kernel
theorem d_Table_init_49 : decode b_Table_init 49 = .ok (.getfield 23, 3) := by decide +kernel
theorem d_Table_init_52 : decode b_Table_init 52 = .ok (.newarray .int, 2) := by decide +kernel
theorem d_Table_init_54 : decode b_Table_init 54 = .ok (.putfield 37, 3) := by decide +kernel
theorem d_Table_init_57 : decode b_Table_init 57 = .ok (.return_, 1) := by decide +kernel
theorem d_Table_fill_0 : decode b_Table_fill 0 = .ok (.aload_n 0, 1) := by decide +kernel
theorem d_Table_fill_1 : decode b_Table_fill 1 = .ok (.getfield 29, 3) := by decide +kernel
theorem d_Table_fill_4 : decode b_Table_fill 4 = .ok (.ldc2_w 40, 3) := by decide +kernel
theorem d_Table_fill_7 : decode b_Table_fill 7 = .ok (.invokestatic 42, 3) := by decide +kernel
theorem d_Table_fill_10 : decode b_Table_fill 10 = .ok (.iconst 0, 1) := by decide +kernel
theorem d_Table_fill_11 : decode b_Table_fill 11 = .ok (.istore_n 1, 1) := by decide +kernel
theorem d_Table_fill_12 : decode b_Table_fill 12 = .ok (.iload_n 1, 1) := by decide +kernel
theorem d_Table_fill_13 : decode b_Table_fill 13 = .ok (.bipush 8, 2) := by decide +kernel
theorem d_Table_fill_15 : decode b_Table_fill 15 = .ok (.if_icmp .ge 28, 3) := by decide +kernel
theorem d_Table_fill_18 : decode b_Table_fill 18 = .ok (.aload_n 0, 1) := by decide +kernel
theorem d_Table_fill_19 : decode b_Table_fill 19 = .ok (.getfield 29, 3) := by decide +kernel
theorem d_Table_fill_22 : decode b_Table_fill 22 = .ok (.aload_n 0, 1) := by decide +kernel
theorem d_Table_fill_23 : decode b_Table_fill 23 = .ok (.getfield 9, 3) := by decide +kernel
theorem d_Table_fill_26 : decode b_Table_fill 26 = .ok (.getfield 23, 3) := by decide +kernel
theorem d_Table_fill_29 : decode b_Table_fill 29 = .ok (.iconst 0, 1) := by decide +kernel
theorem d_Table_fill_30 : decode b_Table_fill 30 = .ok (.invokestatic 48, 3) := by decide +kernel
theorem d_Table_fill_33 : decode b_Table_fill 33 = .ok (.iload_n 1, 1) := by decide +kernel
theorem d_Table_fill_34 : decode b_Table_fill 34 = .ok (.iadd, 1) := by decide +kernel
theorem d_Table_fill_35 : decode b_Table_fill 35 = .ok (.lconst 0, 1) := by decide +kernel
theorem d_Table_fill_36 : decode b_Table_fill 36 = .ok (.lastore, 1) := by decide +kernel
theorem d_Table_fill_37 : decode b_Table_fill 37 = .ok (.iinc 1 1, 3) := by decide +kernel
theorem d_Table_fill_40 : decode b_Table_fill 40 = .ok (.goto (-28), 3) := by decide +kernel
theorem d_Table_fill_43 : decode b_Table_fill 43 = .ok (.iconst 0, 1) := by decide +kernel
theorem d_Table_fill_44 : decode b_Table_fill 44 = .ok (.istore_n 1, 1) := by decide +kernel
theorem d_Table_fill_45 : decode b_Table_fill 45 = .ok (.aload_n 0, 1) := by decide +kernel
theorem d_Table_fill_46 : decode b_Table_fill 46 = .ok (.getfield 9, 3) := by decide +kernel
theorem d_Table_fill_49 : decode b_Table_fill 49 = .ok (.getfield 23, 3) := by decide +kernel
theorem d_Table_fill_52 : decode b_Table_fill 52 = .ok (.iconst 1, 1) := by decide +kernel
theorem d_Table_fill_53 : decode b_Table_fill 53 = .ok (.isub, 1) := by decide +kernel
theorem d_Table_fill_54 : decode b_Table_fill 54 = .ok (.istore_n 2, 1) := by decide +kernel
theorem d_Table_fill_55 : decode b_Table_fill 55 = .ok (.iload_n 2, 1) := by decide +kernel
theorem d_Table_fill_56 : decode b_Table_fill 56 = .ok (.ifCond .lt 38, 3) := by decide +kernel
theorem d_Table_fill_59 : decode b_Table_fill 59 = .ok (.aload_n 0, 1) := by decide +kernel
theorem d_Table_fill_60 : decode b_Table_fill 60 = .ok (.getfield 9, 3) := by decide +kernel
theorem d_Table_fill_63 : decode b_Table_fill 63 = .ok (.getfield 52, 3) := by decide +kernel
theorem d_Table_fill_66 : decode b_Table_fill 66 = .ok (.iload_n 2, 1) := by decide +kernel
theorem d_Table_fill_67 : decode b_Table_fill 67 = .ok (.baload, 1) := by decide +kernel
theorem d_Table_fill_68 : decode b_Table_fill 68 = .ok (.ifCond .eq 11, 3) := by decide +kernel
theorem d_Table_fill_71 : decode b_Table_fill 71 = .ok (.aload_n 0, 1) := by decide +kernel
theorem d_Table_fill_72 : decode b_Table_fill 72 = .ok (.iload_n 2, 1) := by decide +kernel
theorem d_Table_fill_73 : decode b_Table_fill 73 = .ok (.invokevirtual 56, 3) := by decide +kernel
theorem d_Table_fill_76 : decode b_Table_fill 76 = .ok (.goto 12, 3) := by decide +kernel
theorem d_Table_fill_79 : decode b_Table_fill 79 = .ok (.iinc 1 1, 3) := by decide +kernel
theorem d_Table_fill_82 : decode b_Table_fill 82 = .ok (.aload_n 0, 1) := by decide +kernel
theorem d_Table_fill_83 : decode b_Table_fill 83 = .ok (.iload_n 2, 1) := by decide +kernel
theorem d_Table_fill_84 : decode b_Table_fill 84 = .ok (.iload_n 1, 1) := by decide +kernel
theorem d_Table_fill_85 : decode b_Table_fill 85 = .ok (.invokevirtual 60, 3) := by decide +kernel
theorem d_Table_fill_88 : decode b_Table_fill 88 = .ok (.iinc 2 (-1), 3) := by decide +kernel
theorem d_Table_fill_91 : decode b_Table_fill 91 = .ok (.goto (-36), 3) := by decide +kernel
theorem d_Table_fill_94 : decode b_Table_fill 94 = .ok (.return_, 1) := by decide +kernel
theorem d_Table_passOver_0 : decode b_Table_passOver 0 = .ok (.iconst 0, 1) := by decide +kernel
theorem d_Table_passOver_1 : decode b_Table_passOver 1 = .ok (.istore_n 2, 1) := by decide +kernel
theorem d_Table_passOver_2 : decode b_Table_passOver 2 = .ok (.iload_n 2, 1) := by decide +kernel
theorem d_Table_passOver_3 : decode b_Table_passOver 3 = .ok (.iconst 1, 1) := by decide +kernel
theorem d_Table_passOver_4 : decode b_Table_passOver 4 = .ok (.aload_n 0, 1) := by decide +kernel
theorem d_Table_passOver_5 : decode b_Table_passOver 5 = .ok (.getfield 15, 3) := by decide +kernel
theorem d_Table_passOver_8 : decode b_Table_passOver 8 = .ok (.getfield 64, 3) := by decide +kernel
theorem d_Table_passOver_11 : decode b_Table_passOver 11 = .ok (.ishl, 1) := by decide +kernel
theorem d_Table_passOver_12 : decode b_Table_passOver 12 = .ok (.if_icmp .ge 50, 3) := by decide +kernel
theorem d_Table_passOver_15 : decode b_Table_passOver 15 = .ok (.aload_n 0, 1) := by decide +kernel
theorem d_Table_passOver_16 : decode b_Table_passOver 16 = .ok (.iload_n 1, 1) := by decide +kernel
theorem d_Table_passOver_17 : decode b_Table_passOver 17 = .ok (.iconst 1, 1) := by decide +kernel
theorem d_Table_passOver_18 : decode b_Table_passOver 18 = .ok (.iadd, 1) := by decide +kernel
theorem d_Table_passOver_19 : decode b_Table_passOver 19 = .ok (.iload_n 2, 1) := by decide +kernel
theorem d_Table_passOver_20 : decode b_Table_passOver 20 = .ok (.bipush 7, 2) := by decide +kernel
theorem d_Table_passOver_22 : decode b_Table_passOver 22 = .ok (.invokevirtual 69, 3) := by decide +kernel
theorem d_Table_passOver_25 : decode b_Table_passOver 25 = .ok (.lstore_n 3, 1) := by decide +kernel
theorem d_Table_passOver_26 : decode b_Table_passOver 26 = .ok (.iconst 0, 1) := by decide +kernel
theorem d_Table_passOver_27 : decode b_Table_passOver 27 = .ok (.istore 5, 2) := by decide +kernel
theorem d_Table_passOver_29 : decode b_Table_passOver 29 = .ok (.iload 5, 2) := by decide +kernel
theorem d_Table_passOver_31 : decode b_Table_passOver 31 = .ok (.bipush 8, 2) := by decide +kernel
theorem d_Table_passOver_33 : decode b_Table_passOver 33 = .ok (.if_icmp .ge 23, 3) := by decide +kernel
theorem d_Table_passOver_36 : decode b_Table_passOver 36 = .ok (.aload_n 0, 1) := by decide +kernel
theorem d_Table_passOver_37 : decode b_Table_passOver 37 = .ok (.getfield 29, 3) := by decide +kernel
theorem d_Table_passOver_40 : decode b_Table_passOver 40 = .ok (.iload_n 1, 1) := by decide +kernel
theorem d_Table_passOver_41 : decode b_Table_passOver 41 = .ok (.iload_n 2, 1) := by decide +kernel
theorem d_Table_passOver_42 : decode b_Table_passOver 42 = .ok (.invokestatic 48, 3) := by decide +kernel
theorem d_Table_passOver_45 : decode b_Table_passOver 45 = .ok (.iload 5, 2) := by decide +kernel
theorem d_Table_passOver_47 : decode b_Table_passOver 47 = .ok (.iadd, 1) := by decide +kernel
theorem d_Table_passOver_48 : decode b_Table_passOver 48 = .ok (.lload_n 3, 1) := by decide +kernel
theorem d_Table_passOver_49 : decode b_Table_passOver 49 = .ok (.lastore, 1) := by decide +kernel
theorem d_Table_passOver_50 : decode b_Table_passOver 50 = .ok (.iinc 5 1, 3) := by decide +kernel
theorem d_Table_passOver_53 : decode b_Table_passOver 53 = .ok (.goto (-24), 3) := by decide +kernel
theorem d_Table_passOver_56 : decode b_Table_passOver 56 = .ok (.iinc 2 1, 3) := by decide +kernel
theorem d_Table_passOver_59 : decode b_Table_passOver 59 = .ok (.goto (-57), 3) := by decide +kernel
theorem d_Table_passOver_62 : decode b_Table_passOver 62 = .ok (.return_, 1) := by decide +kernel
theorem d_Table_fillStep_0 : decode b_Table_fillStep 0 = .ok (.aload_n 0, 1) := by decide +kernel
theorem d_Table_fillStep_1 : decode b_Table_fillStep 1 = .ok (.getfield 9, 3) := by decide +kernel
theorem d_Table_fillStep_4 : decode b_Table_fillStep 4 = .ok (.iload_n 1, 1) := by decide +kernel
theorem d_Table_fillStep_5 : decode b_Table_fillStep 5 = .ok (.invokevirtual 73, 3) := by decide +kernel
theorem d_Table_fillStep_8 : decode b_Table_fillStep 8 = .ok (.istore_n 3, 1) := by decide +kernel
theorem d_Table_fillStep_9 : decode b_Table_fillStep 9 = .ok (.aload_n 0, 1) := by decide +kernel
theorem d_Table_fillStep_10 : decode b_Table_fillStep 10 = .ok (.getfield 33, 3) := by decide +kernel
theorem d_Table_fillStep_13 : decode b_Table_fillStep 13 = .ok (.iload_n 1, 1) := by decide +kernel
theorem d_Table_fillStep_14 : decode b_Table_fillStep 14 = .ok (.aload_n 0, 1) := by decide +kernel
theorem d_Table_fillStep_15 : decode b_Table_fillStep 15 = .ok (.iload_n 1, 1) := by decide +kernel
theorem d_Table_fillStep_16 : decode b_Table_fillStep 16 = .ok (.iload_n 3, 1) := by decide +kernel
theorem d_Table_fillStep_17 : decode b_Table_fillStep 17 = .ok (.invokevirtual 77, 3) := by decide +kernel
theorem d_Table_fillStep_20 : decode b_Table_fillStep 20 = .ok (.iastore, 1) := by decide +kernel
theorem d_Table_fillStep_21 : decode b_Table_fillStep 21 = .ok (.aload_n 0, 1) := by decide +kernel
theorem d_Table_fillStep_22 : decode b_Table_fillStep 22 = .ok (.getfield 37, 3) := by decide +kernel
theorem d_Table_fillStep_25 : decode b_Table_fillStep 25 = .ok (.iload_n 1, 1) := by decide +kernel
theorem d_Table_fillStep_26 : decode b_Table_fillStep 26 = .ok (.aload_n 0, 1) := by decide +kernel
theorem d_Table_fillStep_27 : decode b_Table_fillStep 27 = .ok (.getfield 19, 3) := by decide +kernel
theorem d_Table_fillStep_30 : decode b_Table_fillStep 30 = .ok (.getfield 80, 3) := by decide +kernel
theorem d_Table_fillStep_33 : decode b_Table_fillStep 33 = .ok (.iload_n 3, 1) := by decide +kernel
theorem d_Table_fillStep_34 : decode b_Table_fillStep 34 = .ok (.invokestatic 85, 3) := by decide +kernel
theorem d_Table_fillStep_37 : decode b_Table_fillStep 37 = .ok (.iastore, 1) := by decide +kernel
theorem d_Table_fillStep_38 : decode b_Table_fillStep 38 = .ok (.iconst 0, 1) := by decide +kernel
theorem d_Table_fillStep_39 : decode b_Table_fillStep 39 = .ok (.istore 4, 2) := by decide +kernel
theorem d_Table_fillStep_41 : decode b_Table_fillStep 41 = .ok (.iload 4, 2) := by decide +kernel
theorem d_Table_fillStep_43 : decode b_Table_fillStep 43 = .ok (.iconst 1, 1) := by decide +kernel
theorem d_Table_fillStep_44 : decode b_Table_fillStep 44 = .ok (.aload_n 0, 1) := by decide +kernel
theorem d_Table_fillStep_45 : decode b_Table_fillStep 45 = .ok (.getfield 15, 3) := by decide +kernel
theorem d_Table_fillStep_48 : decode b_Table_fillStep 48 = .ok (.getfield 64, 3) := by decide +kernel
theorem d_Table_fillStep_51 : decode b_Table_fillStep 51 = .ok (.ishl, 1) := by decide +kernel
theorem d_Table_fillStep_52 : decode b_Table_fillStep 52 = .ok (.if_icmp .ge 30, 3) := by decide +kernel
theorem d_Table_fillStep_55 : decode b_Table_fillStep 55 = .ok (.aload_n 0, 1) := by decide +kernel
theorem d_Table_fillStep_56 : decode b_Table_fillStep 56 = .ok (.getfield 15, 3) := by decide +kernel
theorem d_Table_fillStep_59 : decode b_Table_fillStep 59 = .ok (.getfield 90, 3) := by decide +kernel
theorem d_Table_fillStep_62 : decode b_Table_fillStep 62 = .ok (.iload 4, 2) := by decide +kernel
theorem d_Table_fillStep_64 : decode b_Table_fillStep 64 = .ok (.iaload, 1) := by decide +kernel
theorem d_Table_fillStep_65 : decode b_Table_fillStep 65 = .ok (.iload_n 2, 1) := by decide +kernel
theorem d_Table_fillStep_66 : decode b_Table_fillStep 66 = .ok (.if_icmp .gt 10, 3) := by decide +kernel
theorem d_Table_fillStep_69 : decode b_Table_fillStep 69 = .ok (.aload_n 0, 1) := by decide +kernel
theorem d_Table_fillStep_70 : decode b_Table_fillStep 70 = .ok (.iload_n 1, 1) := by decide +kernel
theorem d_Table_fillStep_71 : decode b_Table_fillStep 71 = .ok (.iload 4, 2) := by decide +kernel
theorem d_Table_fillStep_73 : decode b_Table_fillStep 73 = .ok (.invokevirtual 93, 3) := by decide +kernel
theorem d_Table_fillStep_76 : decode b_Table_fillStep 76 = .ok (.iinc 4 1, 3) := by decide +kernel
theorem d_Table_fillStep_79 : decode b_Table_fillStep 79 = .ok (.goto (-38), 3) := by decide +kernel
theorem d_Table_fillStep_82 : decode b_Table_fillStep 82 = .ok (.return_, 1) := by decide +kernel
theorem d_Table_itemsThatFit_0 : decode b_Table_itemsThatFit 0 = .ok (.iconst 0, 1) := by decide +kernel
theorem d_Table_itemsThatFit_1 : decode b_Table_itemsThatFit 1 = .ok (.istore_n 3, 1) := by decide +kernel
theorem d_Table_itemsThatFit_2 : decode b_Table_itemsThatFit 2 = .ok (.iconst 0, 1) := by decide +kernel
theorem d_Table_itemsThatFit_3 : decode b_Table_itemsThatFit 3 = .ok (.istore 4, 2) := by decide +kernel
theorem d_Table_itemsThatFit_5 : decode b_Table_itemsThatFit 5 = .ok (.iload 4, 2) := by decide +kernel
theorem d_Table_itemsThatFit_7 : decode b_Table_itemsThatFit 7 = .ok (.aload_n 0, 1) := by decide +kernel
theorem d_Table_itemsThatFit_8 : decode b_Table_itemsThatFit 8 = .ok (.getfield 15, 3) := by decide +kernel
theorem d_Table_itemsThatFit_11 : decode b_Table_itemsThatFit 11 = .ok (.getfield 64, 3) := by decide +kernel
theorem d_Table_itemsThatFit_14 : decode b_Table_itemsThatFit 14 = .ok (.if_icmp .ge 47, 3) := by decide +kernel
theorem d_Table_itemsThatFit_17 : decode b_Table_itemsThatFit 17 = .ok (.aload_n 0, 1) := by decide +kernel
theorem d_Table_itemsThatFit_18 : decode b_Table_itemsThatFit 18 = .ok (.getfield 15, 3) := by decide +kernel
theorem d_Table_itemsThatFit_21 : decode b_Table_itemsThatFit 21 = .ok (.getfield 96, 3) := by decide +kernel
theorem d_Table_itemsThatFit_24 : decode b_Table_itemsThatFit 24 = .ok (.iload 4, 2) := by decide +kernel
theorem d_Table_itemsThatFit_26 : decode b_Table_itemsThatFit 26 = .ok (.iaload, 1) := by decide +kernel
theorem d_Table_itemsThatFit_27 : decode b_Table_itemsThatFit 27 = .ok (.iload_n 2, 1) := by decide +kernel
theorem d_Table_itemsThatFit_28 : decode b_Table_itemsThatFit 28 = .ok (.if_icmp .gt 27, 3) := by decide +kernel
theorem d_Table_itemsThatFit_31 : decode b_Table_itemsThatFit 31 = .ok (.aload_n 0, 1) := by decide +kernel
theorem d_Table_itemsThatFit_32 : decode b_Table_itemsThatFit 32 = .ok (.getfield 15, 3) := by decide +kernel
theorem d_Table_itemsThatFit_35 : decode b_Table_itemsThatFit 35 = .ok (.iload 4, 2) := by decide +kernel
theorem d_Table_itemsThatFit_37 : decode b_Table_itemsThatFit 37 = .ok (.iload_n 1, 1) := by decide +kernel
theorem d_Table_itemsThatFit_38 : decode b_Table_itemsThatFit 38 = .ok (.aload_n 0, 1) := by decide +kernel
theorem d_Table_itemsThatFit_39 : decode b_Table_itemsThatFit 39 = .ok (.getfield 9, 3) := by decide +kernel
theorem d_Table_itemsThatFit_42 : decode b_Table_itemsThatFit 42 = .ok (.invokevirtual 99, 3) := by decide +kernel
theorem d_Table_itemsThatFit_45 : decode b_Table_itemsThatFit 45 = .ok (.ifCond .eq 10, 3) := by decide +kernel
theorem d_Table_itemsThatFit_48 : decode b_Table_itemsThatFit 48 = .ok (.iload_n 3, 1) := by decide +kernel
theorem d_Table_itemsThatFit_49 : decode b_Table_itemsThatFit 49 = .ok (.iconst 1, 1) := by decide +kernel
theorem d_Table_itemsThatFit_50 : decode b_Table_itemsThatFit 50 = .ok (.iload 4, 2) := by decide +kernel
theorem d_Table_itemsThatFit_52 : decode b_Table_itemsThatFit 52 = .ok (.ishl, 1) := by decide +kernel
theorem d_Table_itemsThatFit_53 : decode b_Table_itemsThatFit 53 = .ok (.ior, 1) := by decide +kernel
theorem d_Table_itemsThatFit_54 : decode b_Table_itemsThatFit 54 = .ok (.istore_n 3, 1) := by decide +kernel
theorem d_Table_itemsThatFit_55 : decode b_Table_itemsThatFit 55 = .ok (.iinc 4 1, 3) := by decide +kernel
theorem d_Table_itemsThatFit_58 : decode b_Table_itemsThatFit 58 = .ok (.goto (-53), 3) := by decide +kernel
theorem d_Table_itemsThatFit_61 : decode b_Table_itemsThatFit 61 = .ok (.iload_n 3, 1) := by decide +kernel
theorem d_Table_itemsThatFit_62 : decode b_Table_itemsThatFit 62 = .ok (.ireturn, 1) := by decide +kernel
theorem d_Table_fillCell_0 : decode b_Table_fillCell 0 = .ok (.iload_n 1, 1) := by decide +kernel
theorem d_Table_fillCell_1 : decode b_Table_fillCell 1 = .ok (.iload_n 2, 1) := by decide +kernel
theorem d_Table_fillCell_2 : decode b_Table_fillCell 2 = .ok (.invokestatic 48, 3) := by decide +kernel
theorem d_Table_fillCell_5 : decode b_Table_fillCell 5 = .ok (.istore_n 3, 1) := by decide +kernel
theorem d_Table_fillCell_6 : decode b_Table_fillCell 6 = .ok (.aload_n 0, 1) := by decide +kernel
theorem d_Table_fillCell_7 : decode b_Table_fillCell 7 = .ok (.iload_n 1, 1) := by decide +kernel
theorem d_Table_fillCell_8 : decode b_Table_fillCell 8 = .ok (.iload_n 2, 1) := by decide +kernel
theorem d_Table_fillCell_9 : decode b_Table_fillCell 9 = .ok (.invokevirtual 103, 3) := by decide +kernel
theorem d_Table_fillCell_12 : decode b_Table_fillCell 12 = .ok (.lstore 4, 2) := by decide +kernel
theorem d_Table_fillCell_14 : decode b_Table_fillCell 14 = .ok (.iconst 0, 1) := by decide +kernel
theorem d_Table_fillCell_15 : decode b_Table_fillCell 15 = .ok (.istore 6, 2) := by decide +kernel
theorem d_Table_fillCell_17 : decode b_Table_fillCell 17 = .ok (.iload 6, 2) := by decide +kernel
theorem d_Table_fillCell_19 : decode b_Table_fillCell 19 = .ok (.bipush 8, 2) := by decide +kernel
theorem d_Table_fillCell_21 : decode b_Table_fillCell 21 = .ok (.if_icmp .ge 33, 3) := by decide +kernel
theorem d_Table_fillCell_24 : decode b_Table_fillCell 24 = .ok (.aload_n 0, 1) := by decide +kernel
theorem d_Table_fillCell_25 : decode b_Table_fillCell 25 = .ok (.getfield 29, 3) := by decide +kernel
theorem d_Table_fillCell_28 : decode b_Table_fillCell 28 = .ok (.iload_n 3, 1) := by decide +kernel
theorem d_Table_fillCell_29 : decode b_Table_fillCell 29 = .ok (.iload 6, 2) := by decide +kernel
theorem d_Table_fillCell_31 : decode b_Table_fillCell 31 = .ok (.iadd, 1) := by decide +kernel
theorem d_Table_fillCell_32 : decode b_Table_fillCell 32 = .ok (.iload 6, 2) := by decide +kernel
theorem d_Table_fillCell_34 : decode b_Table_fillCell 34 = .ok (.bipush 6, 2) := by decide +kernel
theorem d_Table_fillCell_36 : decode b_Table_fillCell 36 = .ok (.if_icmp .ne 9, 3) := by decide +kernel
theorem d_Table_fillCell_39 : decode b_Table_fillCell 39 = .ok (.ldc2_w 40, 3) := by decide +kernel
theorem d_Table_fillCell_42 : decode b_Table_fillCell 42 = .ok (.goto 5, 3) := by decide +kernel
theorem d_Table_fillCell_45 : decode b_Table_fillCell 45 = .ok (.lload 4, 2) := by decide +kernel
theorem d_Table_fillCell_47 : decode b_Table_fillCell 47 = .ok (.lastore, 1) := by decide +kernel
theorem d_Table_fillCell_48 : decode b_Table_fillCell 48 = .ok (.iinc 6 1, 3) := by decide +kernel
theorem d_Table_fillCell_51 : decode b_Table_fillCell 51 = .ok (.goto (-34), 3) := by decide +kernel
theorem d_Table_fillCell_54 : decode b_Table_fillCell 54 = .ok (.iload_n 2, 1) := by decide +kernel
theorem d_Table_fillCell_55 : decode b_Table_fillCell 55 = .ok (.aload_n 0, 1) := by decide +kernel
theorem d_Table_fillCell_56 : decode b_Table_fillCell 56 = .ok (.getfield 33, 3) := by decide +kernel
theorem d_Table_fillCell_59 : decode b_Table_fillCell 59 = .ok (.iload_n 1, 1) := by decide +kernel
theorem d_Table_fillCell_60 : decode b_Table_fillCell 60 = .ok (.iaload, 1) := by decide +kernel
theorem d_Table_fillCell_61 : decode b_Table_fillCell 61 = .ok (.iand, 1) := by decide +kernel
theorem d_Table_fillCell_62 : decode b_Table_fillCell 62 = .ok (.istore 6, 2) := by decide +kernel
theorem d_Table_fillCell_64 : decode b_Table_fillCell 64 = .ok (.iconst 0, 1) := by decide +kernel
theorem d_Table_fillCell_65 : decode b_Table_fillCell 65 = .ok (.istore 7, 2) := by decide +kernel
theorem d_Table_fillCell_67 : decode b_Table_fillCell 67 = .ok (.iload 7, 2) := by decide +kernel
theorem d_Table_fillCell_69 : decode b_Table_fillCell 69 = .ok (.aload_n 0, 1) := by decide +kernel
theorem d_Table_fillCell_70 : decode b_Table_fillCell 70 = .ok (.getfield 15, 3) := by decide +kernel
theorem d_Table_fillCell_73 : decode b_Table_fillCell 73 = .ok (.getfield 64, 3) := by decide +kernel
theorem d_Table_fillCell_76 : decode b_Table_fillCell 76 = .ok (.if_icmp .ge 52, 3) := by decide +kernel
theorem d_Table_fillCell_79 : decode b_Table_fillCell 79 = .ok (.iload 6, 2) := by decide +kernel
theorem d_Table_fillCell_81 : decode b_Table_fillCell 81 = .ok (.iload 7, 2) := by decide +kernel
theorem d_Table_fillCell_83 : decode b_Table_fillCell 83 = .ok (.invokestatic 107, 3) := by decide +kernel
theorem d_Table_fillCell_86 : decode b_Table_fillCell 86 = .ok (.ifCond .eq 36, 3) := by decide +kernel
theorem d_Table_fillCell_89 : decode b_Table_fillCell 89 = .ok (.aload_n 0, 1) := by decide +kernel
theorem d_Table_fillCell_90 : decode b_Table_fillCell 90 = .ok (.iload_n 3, 1) := by decide +kernel
theorem d_Table_fillCell_91 : decode b_Table_fillCell 91 = .ok (.iload 7, 2) := by decide +kernel
theorem d_Table_fillCell_93 : decode b_Table_fillCell 93 = .ok (.aload_n 0, 1) := by decide +kernel
theorem d_Table_fillCell_94 : decode b_Table_fillCell 94 = .ok (.iload_n 1, 1) := by decide +kernel
theorem d_Table_fillCell_95 : decode b_Table_fillCell 95 = .ok (.aload_n 0, 1) := by decide +kernel
theorem d_Table_fillCell_96 : decode b_Table_fillCell 96 = .ok (.getfield 15, 3) := by decide +kernel
theorem d_Table_fillCell_99 : decode b_Table_fillCell 99 = .ok (.getfield 96, 3) := by decide +kernel
theorem d_Table_fillCell_102 : decode b_Table_fillCell 102 = .ok (.iload 7, 2) := by decide +kernel
theorem d_Table_fillCell_104 : decode b_Table_fillCell 104 = .ok (.iaload, 1) := by decide +kernel
theorem d_Table_fillCell_105 : decode b_Table_fillCell 105 = .ok (.iadd, 1) := by decide +kernel
theorem d_Table_fillCell_106 : decode b_Table_fillCell 106 = .ok (.iload_n 2, 1) := by decide +kernel
theorem d_Table_fillCell_107 : decode b_Table_fillCell 107 = .ok (.iconst 1, 1) := by decide +kernel
theorem d_Table_fillCell_108 : decode b_Table_fillCell 108 = .ok (.iload 7, 2) := by decide +kernel
theorem d_Table_fillCell_110 : decode b_Table_fillCell 110 = .ok (.ishl, 1) := by decide +kernel
theorem d_Table_fillCell_111 : decode b_Table_fillCell 111 = .ok (.iconst (-1), 1) := by decide +kernel
theorem d_Table_fillCell_112 : decode b_Table_fillCell 112 = .ok (.ixor, 1) := by decide +kernel
theorem d_Table_fillCell_113 : decode b_Table_fillCell 113 = .ok (.iand, 1) := by decide +kernel
theorem d_Table_fillCell_114 : decode b_Table_fillCell 114 = .ok (.iload 7, 2) := by decide +kernel
theorem d_Table_fillCell_116 : decode b_Table_fillCell 116 = .ok (.invokevirtual 69, 3) := by decide +kernel
theorem d_Table_fillCell_119 : decode b_Table_fillCell 119 = .ok (.invokevirtual 111, 3) := by decide +kernel
theorem d_Table_fillCell_122 : decode b_Table_fillCell 122 = .ok (.iinc 7 1, 3) := by decide +kernel
theorem d_Table_fillCell_125 : decode b_Table_fillCell 125 = .ok (.goto (-58), 3) := by decide +kernel
theorem d_Table_fillCell_128 : decode b_Table_fillCell 128 = .ok (.return_, 1) := by decide +kernel
theorem d_Table_bestWithFiller_0 : decode b_Table_bestWithFiller 0 = .ok (.ldc2_w 40, 3) := by decide +kernel
theorem d_Table_bestWithFiller_3 : decode b_Table_bestWithFiller 3 = .ok (.lstore_n 3, 1) := by decide +kernel
theorem d_Table_bestWithFiller_4 : decode b_Table_bestWithFiller 4 = .ok (.aload_n 0, 1) := by decide +kernel
theorem d_Table_bestWithFiller_5 : decode b_Table_bestWithFiller 5 = .ok (.getfield 37, 3) := by decide +kernel
theorem d_Table_bestWithFiller_8 : decode b_Table_bestWithFiller 8 = .ok (.iload_n 1, 1) := by decide +kernel
theorem d_Table_bestWithFiller_9 : decode b_Table_bestWithFiller 9 = .ok (.iaload, 1) := by decide +kernel
theorem d_Table_bestWithFiller_10 : decode b_Table_bestWithFiller 10 = .ok (.istore 5, 2) := by decide +kernel
theorem d_Table_bestWithFiller_12 : decode b_Table_bestWithFiller 12 = .ok (.iload_n 1, 1) := by decide +kernel
theorem d_Table_bestWithFiller_13 : decode b_Table_bestWithFiller 13 = .ok (.aload_n 0, 1) := by decide +kernel
theorem d_Table_bestWithFiller_14 : decode b_Table_bestWithFiller 14 = .ok (.getfield 19, 3) := by decide +kernel
theorem d_Table_bestWithFiller_17 : decode b_Table_bestWithFiller 17 = .ok (.getfield 115, 3) := by decide +kernel
theorem d_Table_bestWithFiller_20 : decode b_Table_bestWithFiller 20 = .ok (.iadd, 1) := by decide +kernel
theorem d_Table_bestWithFiller_21 : decode b_Table_bestWithFiller 21 = .ok (.iload_n 2, 1) := by decide +kernel
theorem d_Table_bestWithFiller_22 : decode b_Table_bestWithFiller 22 = .ok (.invokestatic 48, 3) := by decide +kernel
theorem d_Table_bestWithFiller_25 : decode b_Table_bestWithFiller 25 = .ok (.bipush 6, 2) := by decide +kernel
theorem d_Table_bestWithFiller_27 : decode b_Table_bestWithFiller 27 = .ok (.iadd, 1) := by decide +kernel
theorem d_Table_bestWithFiller_28 : decode b_Table_bestWithFiller 28 = .ok (.istore 6, 2) := by decide +kernel
theorem d_Table_bestWithFiller_30 : decode b_Table_bestWithFiller 30 = .ok (.aload_n 0, 1) := by decide +kernel
theorem d_Table_bestWithFiller_31 : decode b_Table_bestWithFiller 31 = .ok (.getfield 19, 3) := by decide +kernel
theorem d_Table_bestWithFiller_34 : decode b_Table_bestWithFiller 34 = .ok (.getfield 115, 3) := by decide +kernel
theorem d_Table_bestWithFiller_37 : decode b_Table_bestWithFiller 37 = .ok (.istore 7, 2) := by decide +kernel
theorem d_Table_bestWithFiller_39 : decode b_Table_bestWithFiller 39 = .ok (.iload 7, 2) := by decide +kernel
theorem d_Table_bestWithFiller_41 : decode b_Table_bestWithFiller 41 = .ok (.iload 5, 2) := by decide +kernel
theorem d_Table_bestWithFiller_43 : decode b_Table_bestWithFiller 43 = .ok (.if_icmp .gt 35, 3) := by decide +kernel
theorem d_Table_bestWithFiller_46 : decode b_Table_bestWithFiller 46 = .ok (.aload_n 0, 1) := by decide +kernel
theorem d_Table_bestWithFiller_47 : decode b_Table_bestWithFiller 47 = .ok (.getfield 29, 3) := by decide +kernel
theorem d_Table_bestWithFiller_50 : decode b_Table_bestWithFiller 50 = .ok (.iload 6, 2) := by decide +kernel
theorem d_Table_bestWithFiller_52 : decode b_Table_bestWithFiller 52 = .ok (.laload, 1) := by decide +kernel
theorem d_Table_bestWithFiller_53 : decode b_Table_bestWithFiller 53 = .ok (.lload_n 3, 1) := by decide +kernel
theorem d_Table_bestWithFiller_54 : decode b_Table_bestWithFiller 54 = .ok (.lcmp, 1) := by decide +kernel
theorem d_Table_bestWithFiller_55 : decode b_Table_bestWithFiller 55 = .ok (.ifCond .le 11, 3) := by decide +kernel
theorem d_Table_bestWithFiller_58 : decode b_Table_bestWithFiller 58 = .ok (.aload_n 0, 1) := by decide +kernel
theorem d_Table_bestWithFiller_59 : decode b_Table_bestWithFiller 59 = .ok (.getfield 29, 3) := by decide +kernel
theorem d_Table_bestWithFiller_62 : decode b_Table_bestWithFiller 62 = .ok (.iload 6, 2) := by decide +kernel
theorem d_Table_bestWithFiller_64 : decode b_Table_bestWithFiller 64 = .ok (.laload, 1) := by decide +kernel
theorem d_Table_bestWithFiller_65 : decode b_Table_bestWithFiller 65 = .ok (.lstore_n 3, 1) := by decide +kernel
theorem d_Table_bestWithFiller_66 : decode b_Table_bestWithFiller 66 = .ok (.iinc 6 512, 6) := by decide +kernel
theorem d_Table_bestWithFiller_72 : decode b_Table_bestWithFiller 72 = .ok (.iinc 7 1, 3) := by decide +kernel
theorem d_Table_bestWithFiller_75 : decode b_Table_bestWithFiller 75 = .ok (.goto (-36), 3) := by decide +kernel
theorem d_Table_bestWithFiller_78 : decode b_Table_bestWithFiller 78 = .ok (.lload_n 3, 1) := by decide +kernel
theorem d_Table_bestWithFiller_79 : decode b_Table_bestWithFiller 79 = .ok (.lreturn, 1) := by decide +kernel
theorem d_Table_offerItem_0 : decode b_Table_offerItem 0 = .ok (.lload_n 3, 1) := by decide +kernel
theorem d_Table_offerItem_1 : decode b_Table_offerItem 1 = .ok (.ldc2_w 40, 3) := by decide +kernel
theorem d_Table_offerItem_4 : decode b_Table_offerItem 4 = .ok (.lcmp, 1) := by decide +kernel
theorem d_Table_offerItem_5 : decode b_Table_offerItem 5 = .ok (.ifCond .ne 4, 3) := by decide +kernel
theorem d_Table_offerItem_8 : decode b_Table_offerItem 8 = .ok (.return_, 1) := by decide +kernel
theorem d_Table_offerItem_9 : decode b_Table_offerItem 9 = .ok (.aload_n 0, 1) := by decide +kernel
theorem d_Table_offerItem_10 : decode b_Table_offerItem 10 = .ok (.getfield 15, 3) := by decide +kernel
theorem d_Table_offerItem_13 : decode b_Table_offerItem 13 = .ok (.getfield 118, 3) := by decide +kernel
theorem d_Table_offerItem_16 : decode b_Table_offerItem 16 = .ok (.iload_n 2, 1) := by decide +kernel
theorem d_Table_offerItem_17 : decode b_Table_offerItem 17 = .ok (.iaload, 1) := by decide +kernel
theorem d_Table_offerItem_18 : decode b_Table_offerItem 18 = .ok (.istore 5, 2) := by decide +kernel
theorem d_Table_offerItem_20 : decode b_Table_offerItem 20 = .ok (.iconst 0, 1) := by decide +kernel
theorem d_Table_offerItem_21 : decode b_Table_offerItem 21 = .ok (.istore 6, 2) := by decide +kernel
theorem d_Table_offerItem_23 : decode b_Table_offerItem 23 = .ok (.iload 6, 2) := by decide +kernel
theorem d_Table_offerItem_25 : decode b_Table_offerItem 25 = .ok (.bipush 8, 2) := by decide +kernel
theorem d_Table_offerItem_27 : decode b_Table_offerItem 27 = .ok (.if_icmp .ge 64, 3) := by decide +kernel
theorem d_Table_offerItem_30 : decode b_Table_offerItem 30 = .ok (.lload_n 3, 1) := by decide +kernel
theorem d_Table_offerItem_31 : decode b_Table_offerItem 31 = .ok (.aload_n 0, 1) := by decide +kernel
theorem d_Table_offerItem_32 : decode b_Table_offerItem 32 = .ok (.getfield 15, 3) := by decide +kernel
theorem d_Table_offerItem_35 : decode b_Table_offerItem 35 = .ok (.getfield 121, 3) := by decide +kernel
theorem d_Table_offerItem_38 : decode b_Table_offerItem 38 = .ok (.iload_n 2, 1) := by decide +kernel
theorem d_Table_offerItem_39 : decode b_Table_offerItem 39 = .ok (.bipush 8, 2) := by decide +kernel
theorem d_Table_offerItem_41 : decode b_Table_offerItem 41 = .ok (.imul, 1) := by decide +kernel
theorem d_Table_offerItem_42 : decode b_Table_offerItem 42 = .ok (.iload 6, 2) := by decide +kernel
theorem d_Table_offerItem_44 : decode b_Table_offerItem 44 = .ok (.iadd, 1) := by decide +kernel
theorem d_Table_offerItem_45 : decode b_Table_offerItem 45 = .ok (.laload, 1) := by decide +kernel
theorem d_Table_offerItem_46 : decode b_Table_offerItem 46 = .ok (.ladd, 1) := by decide +kernel
theorem d_Table_offerItem_47 : decode b_Table_offerItem 47 = .ok (.lstore 7, 2) := by decide +kernel
theorem d_Table_offerItem_49 : decode b_Table_offerItem 49 = .ok (.lload 7, 2) := by decide +kernel
theorem d_Table_offerItem_51 : decode b_Table_offerItem 51 = .ok (.aload_n 0, 1) := by decide +kernel
theorem d_Table_offerItem_52 : decode b_Table_offerItem 52 = .ok (.getfield 29, 3) := by decide +kernel
theorem d_Table_offerItem_55 : decode b_Table_offerItem 55 = .ok (.iload_n 1, 1) := by decide +kernel
theorem d_Table_offerItem_56 : decode b_Table_offerItem 56 = .ok (.iload 6, 2) := by decide +kernel
theorem d_Table_offerItem_58 : decode b_Table_offerItem 58 = .ok (.iadd, 1) := by decide +kernel
theorem d_Table_offerItem_59 : decode b_Table_offerItem 59 = .ok (.laload, 1) := by decide +kernel
theorem d_Table_offerItem_60 : decode b_Table_offerItem 60 = .ok (.lcmp, 1) := by decide +kernel
theorem d_Table_offerItem_61 : decode b_Table_offerItem 61 = .ok (.ifCond .le 24, 3) := by decide +kernel
theorem d_Table_offerItem_64 : decode b_Table_offerItem 64 = .ok (.iload 5, 2) := by decide +kernel
theorem d_Table_offerItem_66 : decode b_Table_offerItem 66 = .ok (.iload 6, 2) := by decide +kernel
theorem d_Table_offerItem_68 : decode b_Table_offerItem 68 = .ok (.invokestatic 107, 3) := by decide +kernel
theorem d_Table_offerItem_71 : decode b_Table_offerItem 71 = .ok (.ifCond .ne 14, 3) := by decide +kernel
theorem d_Table_offerItem_74 : decode b_Table_offerItem 74 = .ok (.aload_n 0, 1) := by decide +kernel
theorem d_Table_offerItem_75 : decode b_Table_offerItem 75 = .ok (.getfield 29, 3) := by decide +kernel
theorem d_Table_offerItem_78 : decode b_Table_offerItem 78 = .ok (.iload_n 1, 1) := by decide +kernel
theorem d_Table_offerItem_79 : decode b_Table_offerItem 79 = .ok (.iload 6, 2) := by decide +kernel
theorem d_Table_offerItem_81 : decode b_Table_offerItem 81 = .ok (.iadd, 1) := by decide +kernel
theorem d_Table_offerItem_82 : decode b_Table_offerItem 82 = .ok (.lload 7, 2) := by decide +kernel
theorem d_Table_offerItem_84 : decode b_Table_offerItem 84 = .ok (.lastore, 1) := by decide +kernel
theorem d_Table_offerItem_85 : decode b_Table_offerItem 85 = .ok (.iinc 6 1, 3) := by decide +kernel
theorem d_Table_offerItem_88 : decode b_Table_offerItem 88 = .ok (.goto (-65), 3) := by decide +kernel
theorem d_Table_offerItem_91 : decode b_Table_offerItem 91 = .ok (.return_, 1) := by decide +kernel
theorem d_Table_isItemBest_0 : decode b_Table_isItemBest 0 = .ok (.iload_n 2, 1) := by decide +kernel
theorem d_Table_isItemBest_1 : decode b_Table_isItemBest 1 = .ok (.aload_n 0, 1) := by decide +kernel
theorem d_Table_isItemBest_2 : decode b_Table_isItemBest 2 = .ok (.getfield 33, 3) := by decide +kernel
theorem d_Table_isItemBest_5 : decode b_Table_isItemBest 5 = .ok (.iload_n 1, 1) := by decide +kernel
theorem d_Table_isItemBest_6 : decode b_Table_isItemBest 6 = .ok (.iaload, 1) := by decide +kernel
theorem d_Table_isItemBest_7 : decode b_Table_isItemBest 7 = .ok (.iand, 1) := by decide +kernel
theorem d_Table_isItemBest_8 : decode b_Table_isItemBest 8 = .ok (.iload 4, 2) := by decide +kernel
theorem d_Table_isItemBest_10 : decode b_Table_isItemBest 10 = .ok (.invokestatic 107, 3) := by decide +kernel
theorem d_Table_isItemBest_13 : decode b_Table_isItemBest 13 = .ok (.ifCond .eq 16, 3) := by decide +kernel
theorem d_Table_isItemBest_16 : decode b_Table_isItemBest 16 = .ok (.aload_n 0, 1) := by decide +kernel
theorem d_Table_isItemBest_17 : decode b_Table_isItemBest 17 = .ok (.getfield 15, 3) := by decide +kernel
theorem d_Table_isItemBest_20 : decode b_Table_isItemBest 20 = .ok (.iload_n 3, 1) := by decide +kernel
theorem d_Table_isItemBest_21 : decode b_Table_isItemBest 21 = .ok (.iload 4, 2) := by decide +kernel
theorem d_Table_isItemBest_23 : decode b_Table_isItemBest 23 = .ok (.invokevirtual 124, 3) := by decide +kernel
theorem d_Table_isItemBest_26 : decode b_Table_isItemBest 26 = .ok (.ifCond .eq 5, 3) := by decide +kernel
theorem d_Table_isItemBest_29 : decode b_Table_isItemBest 29 = .ok (.iconst 0, 1) := by decide +kernel
theorem d_Table_isItemBest_30 : decode b_Table_isItemBest 30 = .ok (.ireturn, 1) := by decide +kernel
theorem d_Table_isItemBest_31 : decode b_Table_isItemBest 31 = .ok (.aload_n 0, 1) := by decide +kernel
theorem d_Table_isItemBest_32 : decode b_Table_isItemBest 32 = .ok (.iload_n 1, 1) := by decide +kernel
theorem d_Table_isItemBest_33 : decode b_Table_isItemBest 33 = .ok (.aload_n 0, 1) := by decide +kernel
theorem d_Table_isItemBest_34 : decode b_Table_isItemBest 34 = .ok (.getfield 15, 3) := by decide +kernel
theorem d_Table_isItemBest_37 : decode b_Table_isItemBest 37 = .ok (.getfield 96, 3) := by decide +kernel
theorem d_Table_isItemBest_40 : decode b_Table_isItemBest 40 = .ok (.iload 4, 2) := by decide +kernel
theorem d_Table_isItemBest_42 : decode b_Table_isItemBest 42 = .ok (.iaload, 1) := by decide +kernel
theorem d_Table_isItemBest_43 : decode b_Table_isItemBest 43 = .ok (.iadd, 1) := by decide +kernel
theorem d_Table_isItemBest_44 : decode b_Table_isItemBest 44 = .ok (.iload_n 2, 1) := by decide +kernel
theorem d_Table_isItemBest_45 : decode b_Table_isItemBest 45 = .ok (.iconst 1, 1) := by decide +kernel
theorem d_Table_isItemBest_46 : decode b_Table_isItemBest 46 = .ok (.iload 4, 2) := by decide +kernel
theorem d_Table_isItemBest_48 : decode b_Table_isItemBest 48 = .ok (.ishl, 1) := by decide +kernel
theorem d_Table_isItemBest_49 : decode b_Table_isItemBest 49 = .ok (.iconst (-1), 1) := by decide +kernel
theorem d_Table_isItemBest_50 : decode b_Table_isItemBest 50 = .ok (.ixor, 1) := by decide +kernel
theorem d_Table_isItemBest_51 : decode b_Table_isItemBest 51 = .ok (.iand, 1) := by decide +kernel
theorem d_Table_isItemBest_52 : decode b_Table_isItemBest 52 = .ok (.iload 4, 2) := by decide +kernel
theorem d_Table_isItemBest_54 : decode b_Table_isItemBest 54 = .ok (.invokevirtual 69, 3) := by decide +kernel
theorem d_Table_isItemBest_57 : decode b_Table_isItemBest 57 = .ok (.lstore 5, 2) := by decide +kernel
theorem d_Table_isItemBest_59 : decode b_Table_isItemBest 59 = .ok (.lload 5, 2) := by decide +kernel
theorem d_Table_isItemBest_61 : decode b_Table_isItemBest 61 = .ok (.ldc2_w 40, 3) := by decide +kernel
theorem d_Table_isItemBest_64 : decode b_Table_isItemBest 64 = .ok (.lcmp, 1) := by decide +kernel
theorem d_Table_isItemBest_65 : decode b_Table_isItemBest 65 = .ok (.ifCond .eq 31, 3) := by decide +kernel
theorem d_Table_isItemBest_68 : decode b_Table_isItemBest 68 = .ok (.lload 5, 2) := by decide +kernel
theorem d_Table_isItemBest_70 : decode b_Table_isItemBest 70 = .ok (.aload_n 0, 1) := by decide +kernel
theorem d_Table_isItemBest_71 : decode b_Table_isItemBest 71 = .ok (.getfield 15, 3) := by decide +kernel
theorem d_Table_isItemBest_74 : decode b_Table_isItemBest 74 = .ok (.iload_n 3, 1) := by decide +kernel
theorem d_Table_isItemBest_75 : decode b_Table_isItemBest 75 = .ok (.iload 4, 2) := by decide +kernel
theorem d_Table_isItemBest_77 : decode b_Table_isItemBest 77 = .ok (.invokevirtual 127, 3) := by decide +kernel
theorem d_Table_isItemBest_80 : decode b_Table_isItemBest 80 = .ok (.ladd, 1) := by decide +kernel
theorem d_Table_isItemBest_81 : decode b_Table_isItemBest 81 = .ok (.aload_n 0, 1) := by decide +kernel
theorem d_Table_isItemBest_82 : decode b_Table_isItemBest 82 = .ok (.iload_n 1, 1) := by decide +kernel
theorem d_Table_isItemBest_83 : decode b_Table_isItemBest 83 = .ok (.iload_n 2, 1) := by decide +kernel
theorem d_Table_isItemBest_84 : decode b_Table_isItemBest 84 = .ok (.iload_n 3, 1) := by decide +kernel
theorem d_Table_isItemBest_85 : decode b_Table_isItemBest 85 = .ok (.invokevirtual 69, 3) := by decide +kernel
theorem d_Table_isItemBest_88 : decode b_Table_isItemBest 88 = .ok (.lcmp, 1) := by decide +kernel
theorem d_Table_isItemBest_89 : decode b_Table_isItemBest 89 = .ok (.ifCond .ne 7, 3) := by decide +kernel
theorem d_Table_isItemBest_92 : decode b_Table_isItemBest 92 = .ok (.iconst 1, 1) := by decide +kernel
theorem d_Table_isItemBest_93 : decode b_Table_isItemBest 93 = .ok (.goto 4, 3) := by decide +kernel
theorem d_Table_isItemBest_96 : decode b_Table_isItemBest 96 = .ok (.iconst 0, 1) := by decide +kernel
theorem d_Table_isItemBest_97 : decode b_Table_isItemBest 97 = .ok (.ireturn, 1) := by decide +kernel
theorem d_Table_isFillerBest_0 : decode b_Table_isFillerBest 0 = .ok (.aload_n 0, 1) := by decide +kernel
theorem d_Table_isFillerBest_1 : decode b_Table_isFillerBest 1 = .ok (.iload_n 1, 1) := by decide +kernel
theorem d_Table_isFillerBest_2 : decode b_Table_isFillerBest 2 = .ok (.iload 4, 2) := by decide +kernel
theorem d_Table_isFillerBest_4 : decode b_Table_isFillerBest 4 = .ok (.iadd, 1) := by decide +kernel
theorem d_Table_isFillerBest_5 : decode b_Table_isFillerBest 5 = .ok (.iload_n 2, 1) := by decide +kernel
theorem d_Table_isFillerBest_6 : decode b_Table_isFillerBest 6 = .ok (.bipush 6, 2) := by decide +kernel
theorem d_Table_isFillerBest_8 : decode b_Table_isFillerBest 8 = .ok (.invokevirtual 69, 3) := by decide +kernel
theorem d_Table_isFillerBest_11 : decode b_Table_isFillerBest 11 = .ok (.lstore 5, 2) := by decide +kernel
theorem d_Table_isFillerBest_13 : decode b_Table_isFillerBest 13 = .ok (.iload_n 3, 1) := by decide +kernel
theorem d_Table_isFillerBest_14 : decode b_Table_isFillerBest 14 = .ok (.bipush 6, 2) := by decide +kernel
theorem d_Table_isFillerBest_16 : decode b_Table_isFillerBest 16 = .ok (.if_icmp .eq 29, 3) := by decide +kernel
theorem d_Table_isFillerBest_19 : decode b_Table_isFillerBest 19 = .ok (.lload 5, 2) := by decide +kernel
theorem d_Table_isFillerBest_21 : decode b_Table_isFillerBest 21 = .ok (.ldc2_w 40, 3) := by decide +kernel
theorem d_Table_isFillerBest_24 : decode b_Table_isFillerBest 24 = .ok (.lcmp, 1) := by decide +kernel
theorem d_Table_isFillerBest_25 : decode b_Table_isFillerBest 25 = .ok (.ifCond .eq 20, 3) := by decide +kernel
theorem d_Table_isFillerBest_28 : decode b_Table_isFillerBest 28 = .ok (.lload 5, 2) := by decide +kernel
theorem d_Table_isFillerBest_30 : decode b_Table_isFillerBest 30 = .ok (.aload_n 0, 1) := by decide +kernel
theorem d_Table_isFillerBest_31 : decode b_Table_isFillerBest 31 = .ok (.iload_n 1, 1) := by decide +kernel
theorem d_Table_isFillerBest_32 : decode b_Table_isFillerBest 32 = .ok (.iload_n 2, 1) := by decide +kernel
theorem d_Table_isFillerBest_33 : decode b_Table_isFillerBest 33 = .ok (.iload_n 3, 1) := by decide +kernel
theorem d_Table_isFillerBest_34 : decode b_Table_isFillerBest 34 = .ok (.invokevirtual 69, 3) := by decide +kernel
theorem d_Table_isFillerBest_37 : decode b_Table_isFillerBest 37 = .ok (.lcmp, 1) := by decide +kernel
theorem d_Table_isFillerBest_38 : decode b_Table_isFillerBest 38 = .ok (.ifCond .ne 7, 3) := by decide +kernel
theorem d_Table_isFillerBest_41 : decode b_Table_isFillerBest 41 = .ok (.iconst 1, 1) := by decide +kernel
theorem d_Table_isFillerBest_42 : decode b_Table_isFillerBest 42 = .ok (.goto 4, 3) := by decide +kernel
theorem d_Table_isFillerBest_45 : decode b_Table_isFillerBest 45 = .ok (.iconst 0, 1) := by decide +kernel
theorem d_Table_isFillerBest_46 : decode b_Table_isFillerBest 46 = .ok (.ireturn, 1) := by decide +kernel
theorem d_Table_valueOf_0 : decode b_Table_valueOf 0 = .ok (.aload_n 0, 1) := by decide +kernel
theorem d_Table_valueOf_1 : decode b_Table_valueOf 1 = .ok (.getfield 29, 3) := by decide +kernel
theorem d_Table_valueOf_4 : decode b_Table_valueOf 4 = .ok (.iload_n 1, 1) := by decide +kernel
theorem d_Table_valueOf_5 : decode b_Table_valueOf 5 = .ok (.bipush 64, 2) := by decide +kernel
theorem d_Table_valueOf_7 : decode b_Table_valueOf 7 = .ok (.imul, 1) := by decide +kernel
theorem d_Table_valueOf_8 : decode b_Table_valueOf 8 = .ok (.iload_n 2, 1) := by decide +kernel
theorem d_Table_valueOf_9 : decode b_Table_valueOf 9 = .ok (.iadd, 1) := by decide +kernel
theorem d_Table_valueOf_10 : decode b_Table_valueOf 10 = .ok (.bipush 8, 2) := by decide +kernel
theorem d_Table_valueOf_12 : decode b_Table_valueOf 12 = .ok (.imul, 1) := by decide +kernel
theorem d_Table_valueOf_13 : decode b_Table_valueOf 13 = .ok (.iload_n 3, 1) := by decide +kernel
theorem d_Table_valueOf_14 : decode b_Table_valueOf 14 = .ok (.iadd, 1) := by decide +kernel
theorem d_Table_valueOf_15 : decode b_Table_valueOf 15 = .ok (.laload, 1) := by decide +kernel
theorem d_Table_valueOf_16 : decode b_Table_valueOf 16 = .ok (.lreturn, 1) := by decide +kernel
theorem d_Table_cell_0 : decode b_Table_cell 0 = .ok (.iload_n 0, 1) := by decide +kernel
theorem d_Table_cell_1 : decode b_Table_cell 1 = .ok (.bipush 64, 2) := by decide +kernel
theorem d_Table_cell_3 : decode b_Table_cell 3 = .ok (.imul, 1) := by decide +kernel
theorem d_Table_cell_4 : decode b_Table_cell 4 = .ok (.iload_n 1, 1) := by decide +kernel
theorem d_Table_cell_5 : decode b_Table_cell 5 = .ok (.iadd, 1) := by decide +kernel
theorem d_Table_cell_6 : decode b_Table_cell 6 = .ok (.bipush 8, 2) := by decide +kernel
theorem d_Table_cell_8 : decode b_Table_cell 8 = .ok (.imul, 1) := by decide +kernel
theorem d_Table_cell_9 : decode b_Table_cell 9 = .ok (.ireturn, 1) := by decide +kernel
