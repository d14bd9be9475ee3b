theorem d_Plan_init_0 : decode b_Plan_init 0 = .ok (.aload_n 0, 1) := by decide +kernel
theorem d_Plan_init_1 : decode b_Plan_init 1 = .ok (.invokespecial 3, 3) := by decide +kernel
theorem d_Plan_init_4 : decode b_Plan_init 4 = .ok (.aload_n 0, 1) := by decide +kernel
theorem d_Plan_init_5 : decode b_Plan_init 5 = .ok (.bipush 40, 2) := by decide +kernel
theorem d_Plan_init_7 : decode b_Plan_init 7 = .ok (.newarray .int, 2) := by decide +kernel
theorem d_Plan_init_9 : decode b_Plan_init 9 = .ok (.putfield 9, 3) := by decide +kernel
theorem d_Plan_init_12 : decode b_Plan_init 12 = .ok (.aload_n 0, 1) := by decide +kernel
theorem d_Plan_init_13 : decode b_Plan_init 13 = .ok (.bipush 40, 2) := by decide +kernel
theorem d_Plan_init_15 : decode b_Plan_init 15 = .ok (.newarray .int, 2) := by decide +kernel
theorem d_Plan_init_17 : decode b_Plan_init 17 = .ok (.putfield 15, 3) := by decide +kernel
theorem d_Plan_init_20 : decode b_Plan_init 20 = .ok (.aload_n 0, 1) := by decide +kernel
theorem d_Plan_init_21 : decode b_Plan_init 21 = .ok (.bipush 40, 2) := by decide +kernel
theorem d_Plan_init_23 : decode b_Plan_init 23 = .ok (.newarray .int, 2) := by decide +kernel
theorem d_Plan_init_25 : decode b_Plan_init 25 = .ok (.putfield 18, 3) := by decide +kernel
theorem d_Plan_init_28 : decode b_Plan_init 28 = .ok (.aload_n 0, 1) := by decide +kernel
theorem d_Plan_init_29 : decode b_Plan_init 29 = .ok (.bipush 40, 2) := by decide +kernel
theorem d_Plan_init_31 : decode b_Plan_init 31 = .ok (.newarray .int, 2) := by decide +kernel
theorem d_Plan_init_33 : decode b_Plan_init 33 = .ok (.putfield 21, 3) := by decide +kernel
theorem d_Plan_init_36 : decode b_Plan_init 36 = .ok (.aload_n 0, 1) := by decide +kernel
theorem d_Plan_init_37 : decode b_Plan_init 37 = .ok (.bipush 40, 2) := by decide +kernel
theorem d_Plan_init_39 : decode b_Plan_init 39 = .ok (.newarray .int, 2) := by decide +kernel
theorem d_Plan_init_41 : decode b_Plan_init 41 = .ok (.putfield 24, 3) := by decide +kernel
theorem d_Plan_init_44 : decode b_Plan_init 44 = .ok (.aload_n 0, 1) := by decide +kernel
theorem d_Plan_init_45 : decode b_Plan_init 45 = .ok (.bipush 6, 2) := by decide +kernel
theorem d_Plan_init_47 : decode b_Plan_init 47 = .ok (.newarray .int, 2) := by decide +kernel
theorem d_Plan_init_49 : decode b_Plan_init 49 = .ok (.putfield 27, 3) := by decide +kernel
theorem d_Plan_init_52 : decode b_Plan_init 52 = .ok (.return_, 1) := by decide +kernel
theorem d_Plan_clear_0 : decode b_Plan_clear 0 = .ok (.aload_n 0, 1) := by decide +kernel
theorem d_Plan_clear_1 : decode b_Plan_clear 1 = .ok (.getfield 27, 3) := by decide +kernel
theorem d_Plan_clear_4 : decode b_Plan_clear 4 = .ok (.iconst (-1), 1) := by decide +kernel
theorem d_Plan_clear_5 : decode b_Plan_clear 5 = .ok (.invokestatic 30, 3) := by decide +kernel
theorem d_Plan_clear_8 : decode b_Plan_clear 8 = .ok (.aload_n 0, 1) := by decide +kernel
theorem d_Plan_clear_9 : decode b_Plan_clear 9 = .ok (.iconst 0, 1) := by decide +kernel
theorem d_Plan_clear_10 : decode b_Plan_clear 10 = .ok (.putfield 36, 3) := by decide +kernel
theorem d_Plan_clear_13 : decode b_Plan_clear 13 = .ok (.aload_n 0, 1) := by decide +kernel
theorem d_Plan_clear_14 : decode b_Plan_clear 14 = .ok (.iconst 0, 1) := by decide +kernel
theorem d_Plan_clear_15 : decode b_Plan_clear 15 = .ok (.putfield 40, 3) := by decide +kernel
theorem d_Plan_clear_18 : decode b_Plan_clear 18 = .ok (.aload_n 0, 1) := by decide +kernel
theorem d_Plan_clear_19 : decode b_Plan_clear 19 = .ok (.iconst 0, 1) := by decide +kernel
theorem d_Plan_clear_20 : decode b_Plan_clear 20 = .ok (.putfield 43, 3) := by decide +kernel
theorem d_Plan_clear_23 : decode b_Plan_clear 23 = .ok (.aload_n 0, 1) := by decide +kernel
theorem d_Plan_clear_24 : decode b_Plan_clear 24 = .ok (.lload_n 1, 1) := by decide +kernel
theorem d_Plan_clear_25 : decode b_Plan_clear 25 = .ok (.putfield 46, 3) := by decide +kernel
theorem d_Plan_clear_28 : decode b_Plan_clear 28 = .ok (.aload_n 0, 1) := by decide +kernel
theorem d_Plan_clear_29 : decode b_Plan_clear 29 = .ok (.lload_n 3, 1) := by decide +kernel
theorem d_Plan_clear_30 : decode b_Plan_clear 30 = .ok (.putfield 50, 3) := by decide +kernel
theorem d_Plan_clear_33 : decode b_Plan_clear 33 = .ok (.return_, 1) := by decide +kernel
theorem d_Plan_add_0 : decode b_Plan_add 0 = .ok (.aload_n 0, 1) := by decide +kernel
theorem d_Plan_add_1 : decode b_Plan_add 1 = .ok (.getfield 36, 3) := by decide +kernel
theorem d_Plan_add_4 : decode b_Plan_add 4 = .ok (.bipush 40, 2) := by decide +kernel
theorem d_Plan_add_6 : decode b_Plan_add 6 = .ok (.if_icmp .lt 4, 3) := by decide +kernel
theorem d_Plan_add_9 : decode b_Plan_add 9 = .ok (.return_, 1) := by decide +kernel
theorem d_Plan_add_10 : decode b_Plan_add 10 = .ok (.aload_n 0, 1) := by decide +kernel
theorem d_Plan_add_11 : decode b_Plan_add 11 = .ok (.getfield 9, 3) := by decide +kernel
theorem d_Plan_add_14 : decode b_Plan_add 14 = .ok (.aload_n 0, 1) := by decide +kernel
theorem d_Plan_add_15 : decode b_Plan_add 15 = .ok (.getfield 36, 3) := by decide +kernel
theorem d_Plan_add_18 : decode b_Plan_add 18 = .ok (.iload_n 1, 1) := by decide +kernel
theorem d_Plan_add_19 : decode b_Plan_add 19 = .ok (.iastore, 1) := by decide +kernel
theorem d_Plan_add_20 : decode b_Plan_add 20 = .ok (.aload_n 0, 1) := by decide +kernel
theorem d_Plan_add_21 : decode b_Plan_add 21 = .ok (.getfield 15, 3) := by decide +kernel
theorem d_Plan_add_24 : decode b_Plan_add 24 = .ok (.aload_n 0, 1) := by decide +kernel
theorem d_Plan_add_25 : decode b_Plan_add 25 = .ok (.getfield 36, 3) := by decide +kernel
theorem d_Plan_add_28 : decode b_Plan_add 28 = .ok (.iload_n 2, 1) := by decide +kernel
theorem d_Plan_add_29 : decode b_Plan_add 29 = .ok (.iastore, 1) := by decide +kernel
theorem d_Plan_add_30 : decode b_Plan_add 30 = .ok (.aload_n 0, 1) := by decide +kernel
theorem d_Plan_add_31 : decode b_Plan_add 31 = .ok (.getfield 18, 3) := by decide +kernel
theorem d_Plan_add_34 : decode b_Plan_add 34 = .ok (.aload_n 0, 1) := by decide +kernel
theorem d_Plan_add_35 : decode b_Plan_add 35 = .ok (.getfield 36, 3) := by decide +kernel
theorem d_Plan_add_38 : decode b_Plan_add 38 = .ok (.iload_n 3, 1) := by decide +kernel
theorem d_Plan_add_39 : decode b_Plan_add 39 = .ok (.iastore, 1) := by decide +kernel
theorem d_Plan_add_40 : decode b_Plan_add 40 = .ok (.aload_n 0, 1) := by decide +kernel
theorem d_Plan_add_41 : decode b_Plan_add 41 = .ok (.dup, 1) := by decide +kernel
theorem d_Plan_add_42 : decode b_Plan_add 42 = .ok (.getfield 36, 3) := by decide +kernel
theorem d_Plan_add_45 : decode b_Plan_add 45 = .ok (.iconst 1, 1) := by decide +kernel
theorem d_Plan_add_46 : decode b_Plan_add 46 = .ok (.iadd, 1) := by decide +kernel
theorem d_Plan_add_47 : decode b_Plan_add 47 = .ok (.putfield 36, 3) := by decide +kernel
theorem d_Plan_add_50 : decode b_Plan_add 50 = .ok (.iload_n 1, 1) := by decide +kernel
theorem d_Plan_add_51 : decode b_Plan_add 51 = .ok (.iconst (-1), 1) := by decide +kernel
theorem d_Plan_add_52 : decode b_Plan_add 52 = .ok (.if_icmp .eq 22, 3) := by decide +kernel
theorem d_Plan_add_55 : decode b_Plan_add 55 = .ok (.aload_n 0, 1) := by decide +kernel
theorem d_Plan_add_56 : decode b_Plan_add 56 = .ok (.getfield 27, 3) := by decide +kernel
theorem d_Plan_add_59 : decode b_Plan_add 59 = .ok (.iload_n 1, 1) := by decide +kernel
theorem d_Plan_add_60 : decode b_Plan_add 60 = .ok (.iload_n 2, 1) := by decide +kernel
theorem d_Plan_add_61 : decode b_Plan_add 61 = .ok (.iastore, 1) := by decide +kernel
theorem d_Plan_add_62 : decode b_Plan_add 62 = .ok (.aload_n 0, 1) := by decide +kernel
theorem d_Plan_add_63 : decode b_Plan_add 63 = .ok (.dup, 1) := by decide +kernel
theorem d_Plan_add_64 : decode b_Plan_add 64 = .ok (.getfield 43, 3) := by decide +kernel
theorem d_Plan_add_67 : decode b_Plan_add 67 = .ok (.iconst 1, 1) := by decide +kernel
theorem d_Plan_add_68 : decode b_Plan_add 68 = .ok (.iload_n 1, 1) := by decide +kernel
theorem d_Plan_add_69 : decode b_Plan_add 69 = .ok (.ishl, 1) := by decide +kernel
theorem d_Plan_add_70 : decode b_Plan_add 70 = .ok (.ior, 1) := by decide +kernel
theorem d_Plan_add_71 : decode b_Plan_add 71 = .ok (.putfield 43, 3) := by decide +kernel
theorem d_Plan_add_74 : decode b_Plan_add 74 = .ok (.aload_n 0, 1) := by decide +kernel
theorem d_Plan_add_75 : decode b_Plan_add 75 = .ok (.iload_n 2, 1) := by decide +kernel
theorem d_Plan_add_76 : decode b_Plan_add 76 = .ok (.iload_n 3, 1) := by decide +kernel
theorem d_Plan_add_77 : decode b_Plan_add 77 = .ok (.invokevirtual 53, 3) := by decide +kernel
theorem d_Plan_add_80 : decode b_Plan_add 80 = .ok (.return_, 1) := by decide +kernel
theorem d_Plan_addToTops_0 : decode b_Plan_addToTops 0 = .ok (.aload_n 0, 1) := by decide +kernel
theorem d_Plan_addToTops_1 : decode b_Plan_addToTops 1 = .ok (.getfield 40, 3) := by decide +kernel
theorem d_Plan_addToTops_4 : decode b_Plan_addToTops 4 = .ok (.iconst 1, 1) := by decide +kernel
theorem d_Plan_addToTops_5 : decode b_Plan_addToTops 5 = .ok (.isub, 1) := by decide +kernel
theorem d_Plan_addToTops_6 : decode b_Plan_addToTops 6 = .ok (.istore_n 3, 1) := by decide +kernel
theorem d_Plan_addToTops_7 : decode b_Plan_addToTops 7 = .ok (.iload_n 3, 1) := by decide +kernel
theorem d_Plan_addToTops_8 : decode b_Plan_addToTops 8 = .ok (.ifCond .lt 31, 3) := by decide +kernel
theorem d_Plan_addToTops_11 : decode b_Plan_addToTops 11 = .ok (.aload_n 0, 1) := by decide +kernel
theorem d_Plan_addToTops_12 : decode b_Plan_addToTops 12 = .ok (.getfield 21, 3) := by decide +kernel
theorem d_Plan_addToTops_15 : decode b_Plan_addToTops 15 = .ok (.iload_n 3, 1) := by decide +kernel
theorem d_Plan_addToTops_16 : decode b_Plan_addToTops 16 = .ok (.iaload, 1) := by decide +kernel
theorem d_Plan_addToTops_17 : decode b_Plan_addToTops 17 = .ok (.aload_n 0, 1) := by decide +kernel
theorem d_Plan_addToTops_18 : decode b_Plan_addToTops 18 = .ok (.getfield 24, 3) := by decide +kernel
theorem d_Plan_addToTops_21 : decode b_Plan_addToTops 21 = .ok (.iload_n 3, 1) := by decide +kernel
theorem d_Plan_addToTops_22 : decode b_Plan_addToTops 22 = .ok (.iaload, 1) := by decide +kernel
theorem d_Plan_addToTops_23 : decode b_Plan_addToTops 23 = .ok (.iadd, 1) := by decide +kernel
theorem d_Plan_addToTops_24 : decode b_Plan_addToTops 24 = .ok (.iload_n 1, 1) := by decide +kernel
theorem d_Plan_addToTops_25 : decode b_Plan_addToTops 25 = .ok (.if_icmp .ne 14, 3) := by decide +kernel
theorem d_Plan_addToTops_28 : decode b_Plan_addToTops 28 = .ok (.aload_n 0, 1) := by decide +kernel
theorem d_Plan_addToTops_29 : decode b_Plan_addToTops 29 = .ok (.getfield 24, 3) := by decide +kernel
theorem d_Plan_addToTops_32 : decode b_Plan_addToTops 32 = .ok (.iload_n 3, 1) := by decide +kernel
theorem d_Plan_addToTops_33 : decode b_Plan_addToTops 33 = .ok (.dup2, 1) := by decide +kernel
theorem d_Plan_addToTops_34 : decode b_Plan_addToTops 34 = .ok (.iaload, 1) := by decide +kernel
theorem d_Plan_addToTops_35 : decode b_Plan_addToTops 35 = .ok (.iload_n 2, 1) := by decide +kernel
theorem d_Plan_addToTops_36 : decode b_Plan_addToTops 36 = .ok (.iadd, 1) := by decide +kernel
theorem d_Plan_addToTops_37 : decode b_Plan_addToTops 37 = .ok (.iastore, 1) := by decide +kernel
theorem d_Plan_addToTops_38 : decode b_Plan_addToTops 38 = .ok (.return_, 1) := by decide +kernel
theorem d_Plan_addToTops_39 : decode b_Plan_addToTops 39 = .ok (.aload_n 0, 1) := by decide +kernel
theorem d_Plan_addToTops_40 : decode b_Plan_addToTops 40 = .ok (.getfield 21, 3) := by decide +kernel
theorem d_Plan_addToTops_43 : decode b_Plan_addToTops 43 = .ok (.aload_n 0, 1) := by decide +kernel
theorem d_Plan_addToTops_44 : decode b_Plan_addToTops 44 = .ok (.getfield 40, 3) := by decide +kernel
theorem d_Plan_addToTops_47 : decode b_Plan_addToTops 47 = .ok (.iload_n 1, 1) := by decide +kernel
theorem d_Plan_addToTops_48 : decode b_Plan_addToTops 48 = .ok (.iastore, 1) := by decide +kernel
theorem d_Plan_addToTops_49 : decode b_Plan_addToTops 49 = .ok (.aload_n 0, 1) := by decide +kernel
theorem d_Plan_addToTops_50 : decode b_Plan_addToTops 50 = .ok (.getfield 24, 3) := by decide +kernel
theorem d_Plan_addToTops_53 : decode b_Plan_addToTops 53 = .ok (.aload_n 0, 1) := by decide +kernel
theorem d_Plan_addToTops_54 : decode b_Plan_addToTops 54 = .ok (.getfield 40, 3) := by decide +kernel
theorem d_Plan_addToTops_57 : decode b_Plan_addToTops 57 = .ok (.iload_n 2, 1) := by decide +kernel
theorem d_Plan_addToTops_58 : decode b_Plan_addToTops 58 = .ok (.iastore, 1) := by decide +kernel
theorem d_Plan_addToTops_59 : decode b_Plan_addToTops 59 = .ok (.aload_n 0, 1) := by decide +kernel
theorem d_Plan_addToTops_60 : decode b_Plan_addToTops 60 = .ok (.dup, 1) := by decide +kernel
theorem d_Plan_addToTops_61 : decode b_Plan_addToTops 61 = .ok (.getfield 40, 3) := by decide +kernel
theorem d_Plan_addToTops_64 : decode b_Plan_addToTops 64 = .ok (.iconst 1, 1) := by decide +kernel
theorem d_Plan_addToTops_65 : decode b_Plan_addToTops 65 = .ok (.iadd, 1) := by decide +kernel
theorem d_Plan_addToTops_66 : decode b_Plan_addToTops 66 = .ok (.putfield 40, 3) := by decide +kernel
theorem d_Plan_addToTops_69 : decode b_Plan_addToTops 69 = .ok (.return_, 1) := by decide +kernel
