theorem d_RoomFills_init_0 : decode b_RoomFills_init 0 = .ok (.aload_n 0, 1) := by decide +kernel
theorem d_RoomFills_init_1 : decode b_RoomFills_init 1 = .ok (.invokespecial 3, 3) := by decide +kernel
theorem d_RoomFills_init_4 : decode b_RoomFills_init 4 = .ok (.aload_n 0, 1) := by decide +kernel
theorem d_RoomFills_init_5 : decode b_RoomFills_init 5 = .ok (.new 9, 3) := by decide +kernel
theorem d_RoomFills_init_8 : decode b_RoomFills_init 8 = .ok (.dup, 1) := by decide +kernel
theorem d_RoomFills_init_9 : decode b_RoomFills_init 9 = .ok (.iconst 1, 1) := by decide +kernel
theorem d_RoomFills_init_10 : decode b_RoomFills_init 10 = .ok (.bipush 40, 2) := by decide +kernel
theorem d_RoomFills_init_12 : decode b_RoomFills_init 12 = .ok (.iload_n 1, 1) := by decide +kernel
theorem d_RoomFills_init_13 : decode b_RoomFills_init 13 = .ok (.invokestatic 11, 3) := by decide +kernel
theorem d_RoomFills_init_16 : decode b_RoomFills_init 16 = .ok (.invokestatic 17, 3) := by decide +kernel
theorem d_RoomFills_init_19 : decode b_RoomFills_init 19 = .ok (.invokespecial 20, 3) := by decide +kernel
theorem d_RoomFills_init_22 : decode b_RoomFills_init 22 = .ok (.putfield 23, 3) := by decide +kernel
theorem d_RoomFills_init_25 : decode b_RoomFills_init 25 = .ok (.aload_n 0, 1) := by decide +kernel
theorem d_RoomFills_init_26 : decode b_RoomFills_init 26 = .ok (.new 27, 3) := by decide +kernel
theorem d_RoomFills_init_29 : decode b_RoomFills_init 29 = .ok (.dup, 1) := by decide +kernel
theorem d_RoomFills_init_30 : decode b_RoomFills_init 30 = .ok (.invokespecial 29, 3) := by decide +kernel
theorem d_RoomFills_init_33 : decode b_RoomFills_init 33 = .ok (.putfield 30, 3) := by decide +kernel
theorem d_RoomFills_init_36 : decode b_RoomFills_init 36 = .ok (.aload_n 0, 1) := by decide +kernel
theorem d_RoomFills_init_37 : decode b_RoomFills_init 37 = .ok (.new 34, 3) := by decide +kernel
theorem d_RoomFills_init_40 : decode b_RoomFills_init 40 = .ok (.dup, 1) := by decide +kernel
theorem d_RoomFills_init_41 : decode b_RoomFills_init 41 = .ok (.invokespecial 36, 3) := by decide +kernel
theorem d_RoomFills_init_44 : decode b_RoomFills_init 44 = .ok (.putfield 37, 3) := by decide +kernel
theorem d_RoomFills_init_47 : decode b_RoomFills_init 47 = .ok (.aload_n 0, 1) := by decide +kernel
theorem d_RoomFills_init_48 : decode b_RoomFills_init 48 = .ok (.new 41, 3) := by decide +kernel
theorem d_RoomFills_init_51 : decode b_RoomFills_init 51 = .ok (.dup, 1) := by decide +kernel
theorem d_RoomFills_init_52 : decode b_RoomFills_init 52 = .ok (.aload_n 0, 1) := by decide +kernel
theorem d_RoomFills_init_53 : decode b_RoomFills_init 53 = .ok (.getfield 23, 3) := by decide +kernel
theorem d_RoomFills_init_56 : decode b_RoomFills_init 56 = .ok (.aload_n 0, 1) := by decide +kernel
theorem d_RoomFills_init_57 : decode b_RoomFills_init 57 = .ok (.getfield 30, 3) := by decide +kernel
theorem d_RoomFills_init_60 : decode b_RoomFills_init 60 = .ok (.aload_n 0, 1) := by decide +kernel
theorem d_RoomFills_init_61 : decode b_RoomFills_init 61 = .ok (.getfield 37, 3) := by decide +kernel
theorem d_RoomFills_init_64 : decode b_RoomFills_init 64 = .ok (.invokespecial 43, 3) := by decide +kernel
theorem d_RoomFills_init_67 : decode b_RoomFills_init 67 = .ok (.putfield 46, 3) := by decide +kernel
theorem d_RoomFills_init_70 : decode b_RoomFills_init 70 = .ok (.aload_n 0, 1) := by decide +kernel
theorem d_RoomFills_init_71 : decode b_RoomFills_init 71 = .ok (.new 50, 3) := by decide +kernel
theorem d_RoomFills_init_74 : decode b_RoomFills_init 74 = .ok (.dup, 1) := by decide +kernel
theorem d_RoomFills_init_75 : decode b_RoomFills_init 75 = .ok (.aload_n 0, 1) := by decide +kernel
theorem d_RoomFills_init_76 : decode b_RoomFills_init 76 = .ok (.getfield 23, 3) := by decide +kernel
theorem d_RoomFills_init_79 : decode b_RoomFills_init 79 = .ok (.aload_n 0, 1) := by decide +kernel
theorem d_RoomFills_init_80 : decode b_RoomFills_init 80 = .ok (.getfield 30, 3) := by decide +kernel
theorem d_RoomFills_init_83 : decode b_RoomFills_init 83 = .ok (.aload_n 0, 1) := by decide +kernel
theorem d_RoomFills_init_84 : decode b_RoomFills_init 84 = .ok (.getfield 37, 3) := by decide +kernel
theorem d_RoomFills_init_87 : decode b_RoomFills_init 87 = .ok (.invokespecial 52, 3) := by decide +kernel
theorem d_RoomFills_init_90 : decode b_RoomFills_init 90 = .ok (.putfield 53, 3) := by decide +kernel
theorem d_RoomFills_init_93 : decode b_RoomFills_init 93 = .ok (.aload_n 0, 1) := by decide +kernel
theorem d_RoomFills_init_94 : decode b_RoomFills_init 94 = .ok (.bipush 16, 2) := by decide +kernel
theorem d_RoomFills_init_96 : decode b_RoomFills_init 96 = .ok (.newarray .int, 2) := by decide +kernel
theorem d_RoomFills_init_98 : decode b_RoomFills_init 98 = .ok (.putfield 57, 3) := by decide +kernel
theorem d_RoomFills_init_101 : decode b_RoomFills_init 101 = .ok (.aload_n 0, 1) := by decide +kernel
theorem d_RoomFills_init_102 : decode b_RoomFills_init 102 = .ok (.iconst 0, 1) := by decide +kernel
theorem d_RoomFills_init_103 : decode b_RoomFills_init 103 = .ok (.putfield 61, 3) := by decide +kernel
theorem d_RoomFills_init_106 : decode b_RoomFills_init 106 = .ok (.return_, 1) := by decide +kernel
theorem d_RoomFills_door_0 : decode b_RoomFills_door 0 = .ok (.aload_n 0, 1) := by decide +kernel
theorem d_RoomFills_door_1 : decode b_RoomFills_door 1 = .ok (.getfield 23, 3) := by decide +kernel
theorem d_RoomFills_door_4 : decode b_RoomFills_door 4 = .ok (.iload_n 1, 1) := by decide +kernel
theorem d_RoomFills_door_5 : decode b_RoomFills_door 5 = .ok (.invokevirtual 65, 3) := by decide +kernel
theorem d_RoomFills_door_8 : decode b_RoomFills_door 8 = .ok (.ifCond .eq 19, 3) := by decide +kernel
theorem d_RoomFills_door_11 : decode b_RoomFills_door 11 = .ok (.iload_n 2, 1) := by decide +kernel
theorem d_RoomFills_door_12 : decode b_RoomFills_door 12 = .ok (.iload_n 1, 1) := by decide +kernel
theorem d_RoomFills_door_13 : decode b_RoomFills_door 13 = .ok (.if_icmp .le 14, 3) := by decide +kernel
theorem d_RoomFills_door_16 : decode b_RoomFills_door 16 = .ok (.iload_n 2, 1) := by decide +kernel
theorem d_RoomFills_door_17 : decode b_RoomFills_door 17 = .ok (.aload_n 0, 1) := by decide +kernel
theorem d_RoomFills_door_18 : decode b_RoomFills_door 18 = .ok (.getfield 23, 3) := by decide +kernel
theorem d_RoomFills_door_21 : decode b_RoomFills_door 21 = .ok (.getfield 69, 3) := by decide +kernel
theorem d_RoomFills_door_24 : decode b_RoomFills_door 24 = .ok (.if_icmp .le 13, 3) := by decide +kernel
theorem d_RoomFills_door_27 : decode b_RoomFills_door 27 = .ok (.new 72, 3) := by decide +kernel
theorem d_RoomFills_door_30 : decode b_RoomFills_door 30 = .ok (.dup, 1) := by decide +kernel
theorem d_RoomFills_door_31 : decode b_RoomFills_door 31 = .ok (.ldc 74, 2) := by decide +kernel
theorem d_RoomFills_door_33 : decode b_RoomFills_door 33 = .ok (.invokespecial 76, 3) := by decide +kernel
theorem d_RoomFills_door_36 : decode b_RoomFills_door 36 = .ok (.athrow, 1) := by decide +kernel
theorem d_RoomFills_door_37 : decode b_RoomFills_door 37 = .ok (.aload_n 0, 1) := by decide +kernel
theorem d_RoomFills_door_38 : decode b_RoomFills_door 38 = .ok (.aload_n 0, 1) := by decide +kernel
theorem d_RoomFills_door_39 : decode b_RoomFills_door 39 = .ok (.getfield 23, 3) := by decide +kernel
theorem d_RoomFills_door_42 : decode b_RoomFills_door 42 = .ok (.iload_n 1, 1) := by decide +kernel
theorem d_RoomFills_door_43 : decode b_RoomFills_door 43 = .ok (.iload_n 2, 1) := by decide +kernel
theorem d_RoomFills_door_44 : decode b_RoomFills_door 44 = .ok (.invokevirtual 79, 3) := by decide +kernel
theorem d_RoomFills_door_47 : decode b_RoomFills_door 47 = .ok (.invokevirtual 83, 3) := by decide +kernel
theorem d_RoomFills_door_50 : decode b_RoomFills_door 50 = .ok (.ireturn, 1) := by decide +kernel
theorem d_RoomFills_pipe_0 : decode b_RoomFills_pipe 0 = .ok (.aload_n 0, 1) := by decide +kernel
theorem d_RoomFills_pipe_1 : decode b_RoomFills_pipe 1 = .ok (.getfield 23, 3) := by decide +kernel
theorem d_RoomFills_pipe_4 : decode b_RoomFills_pipe 4 = .ok (.iload_n 1, 1) := by decide +kernel
theorem d_RoomFills_pipe_5 : decode b_RoomFills_pipe 5 = .ok (.invokevirtual 65, 3) := by decide +kernel
theorem d_RoomFills_pipe_8 : decode b_RoomFills_pipe 8 = .ok (.ifCond .ne 13, 3) := by decide +kernel
theorem d_RoomFills_pipe_11 : decode b_RoomFills_pipe 11 = .ok (.new 72, 3) := by decide +kernel
theorem d_RoomFills_pipe_14 : decode b_RoomFills_pipe 14 = .ok (.dup, 1) := by decide +kernel
theorem d_RoomFills_pipe_15 : decode b_RoomFills_pipe 15 = .ok (.ldc 87, 2) := by decide +kernel
theorem d_RoomFills_pipe_17 : decode b_RoomFills_pipe 17 = .ok (.invokespecial 76, 3) := by decide +kernel
theorem d_RoomFills_pipe_20 : decode b_RoomFills_pipe 20 = .ok (.athrow, 1) := by decide +kernel
theorem d_RoomFills_pipe_21 : decode b_RoomFills_pipe 21 = .ok (.aload_n 0, 1) := by decide +kernel
theorem d_RoomFills_pipe_22 : decode b_RoomFills_pipe 22 = .ok (.aload_n 0, 1) := by decide +kernel
theorem d_RoomFills_pipe_23 : decode b_RoomFills_pipe 23 = .ok (.getfield 23, 3) := by decide +kernel
theorem d_RoomFills_pipe_26 : decode b_RoomFills_pipe 26 = .ok (.iload_n 1, 1) := by decide +kernel
theorem d_RoomFills_pipe_27 : decode b_RoomFills_pipe 27 = .ok (.invokevirtual 89, 3) := by decide +kernel
theorem d_RoomFills_pipe_30 : decode b_RoomFills_pipe 30 = .ok (.invokevirtual 83, 3) := by decide +kernel
theorem d_RoomFills_pipe_33 : decode b_RoomFills_pipe 33 = .ok (.ireturn, 1) := by decide +kernel
theorem d_RoomFills_item_0 : decode b_RoomFills_item 0 = .ok (.aload_n 0, 1) := by decide +kernel
theorem d_RoomFills_item_1 : decode b_RoomFills_item 1 = .ok (.getfield 30, 3) := by decide +kernel
theorem d_RoomFills_item_4 : decode b_RoomFills_item 4 = .ok (.getfield 92, 3) := by decide +kernel
theorem d_RoomFills_item_7 : decode b_RoomFills_item 7 = .ok (.bipush 6, 2) := by decide +kernel
theorem d_RoomFills_item_9 : decode b_RoomFills_item 9 = .ok (.if_icmp .lt 13, 3) := by decide +kernel
theorem d_RoomFills_item_12 : decode b_RoomFills_item 12 = .ok (.new 95, 3) := by decide +kernel
theorem d_RoomFills_item_15 : decode b_RoomFills_item 15 = .ok (.dup, 1) := by decide +kernel
theorem d_RoomFills_item_16 : decode b_RoomFills_item 16 = .ok (.ldc 97, 2) := by decide +kernel
theorem d_RoomFills_item_18 : decode b_RoomFills_item 18 = .ok (.invokespecial 99, 3) := by decide +kernel
theorem d_RoomFills_item_21 : decode b_RoomFills_item 21 = .ok (.athrow, 1) := by decide +kernel
theorem d_RoomFills_item_22 : decode b_RoomFills_item 22 = .ok (.iload_n 1, 1) := by decide +kernel
theorem d_RoomFills_item_23 : decode b_RoomFills_item 23 = .ok (.iconst 1, 1) := by decide +kernel
theorem d_RoomFills_item_24 : decode b_RoomFills_item 24 = .ok (.if_icmp .lt 24, 3) := by decide +kernel
theorem d_RoomFills_item_27 : decode b_RoomFills_item 27 = .ok (.iload_n 1, 1) := by decide +kernel
theorem d_RoomFills_item_28 : decode b_RoomFills_item 28 = .ok (.bipush 20, 2) := by decide +kernel
theorem d_RoomFills_item_30 : decode b_RoomFills_item 30 = .ok (.if_icmp .gt 18, 3) := by decide +kernel
theorem d_RoomFills_item_33 : decode b_RoomFills_item 33 = .ok (.lload_n 2, 1) := by decide +kernel
theorem d_RoomFills_item_34 : decode b_RoomFills_item 34 = .ok (.invokestatic 100, 3) := by decide +kernel
theorem d_RoomFills_item_37 : decode b_RoomFills_item 37 = .ok (.ifCond .eq 11, 3) := by decide +kernel
theorem d_RoomFills_item_40 : decode b_RoomFills_item 40 = .ok (.lload 4, 2) := by decide +kernel
theorem d_RoomFills_item_42 : decode b_RoomFills_item 42 = .ok (.invokestatic 100, 3) := by decide +kernel
theorem d_RoomFills_item_45 : decode b_RoomFills_item 45 = .ok (.ifCond .ne 13, 3) := by decide +kernel
theorem d_RoomFills_item_48 : decode b_RoomFills_item 48 = .ok (.new 72, 3) := by decide +kernel
theorem d_RoomFills_item_51 : decode b_RoomFills_item 51 = .ok (.dup, 1) := by decide +kernel
theorem d_RoomFills_item_52 : decode b_RoomFills_item 52 = .ok (.ldc 104, 2) := by decide +kernel
theorem d_RoomFills_item_54 : decode b_RoomFills_item 54 = .ok (.invokespecial 76, 3) := by decide +kernel
theorem d_RoomFills_item_57 : decode b_RoomFills_item 57 = .ok (.athrow, 1) := by decide +kernel
theorem d_RoomFills_item_58 : decode b_RoomFills_item 58 = .ok (.aload_n 0, 1) := by decide +kernel
theorem d_RoomFills_item_59 : decode b_RoomFills_item 59 = .ok (.iconst 1, 1) := by decide +kernel
theorem d_RoomFills_item_60 : decode b_RoomFills_item 60 = .ok (.invokevirtual 83, 3) := by decide +kernel
theorem d_RoomFills_item_63 : decode b_RoomFills_item 63 = .ok (.pop, 1) := by decide +kernel
theorem d_RoomFills_item_64 : decode b_RoomFills_item 64 = .ok (.aload_n 0, 1) := by decide +kernel
theorem d_RoomFills_item_65 : decode b_RoomFills_item 65 = .ok (.getfield 30, 3) := by decide +kernel
theorem d_RoomFills_item_68 : decode b_RoomFills_item 68 = .ok (.iload_n 1, 1) := by decide +kernel
theorem d_RoomFills_item_69 : decode b_RoomFills_item 69 = .ok (.lload_n 2, 1) := by decide +kernel
theorem d_RoomFills_item_70 : decode b_RoomFills_item 70 = .ok (.lload 4, 2) := by decide +kernel
theorem d_RoomFills_item_72 : decode b_RoomFills_item 72 = .ok (.invokevirtual 106, 3) := by decide +kernel
theorem d_RoomFills_item_75 : decode b_RoomFills_item 75 = .ok (.ireturn, 1) := by decide +kernel
theorem d_RoomFills_need_0 : decode b_RoomFills_need 0 = .ok (.aload_n 0, 1) := by decide +kernel
theorem d_RoomFills_need_1 : decode b_RoomFills_need 1 = .ok (.iload_n 1, 1) := by decide +kernel
theorem d_RoomFills_need_2 : decode b_RoomFills_need 2 = .ok (.invokevirtual 110, 3) := by decide +kernel
theorem d_RoomFills_need_5 : decode b_RoomFills_need 5 = .ok (.iload_n 2, 1) := by decide +kernel
theorem d_RoomFills_need_6 : decode b_RoomFills_need 6 = .ok (.iconst (-1), 1) := by decide +kernel
theorem d_RoomFills_need_7 : decode b_RoomFills_need 7 = .ok (.if_icmp .lt 9, 3) := by decide +kernel
theorem d_RoomFills_need_10 : decode b_RoomFills_need 10 = .ok (.iload_n 2, 1) := by decide +kernel
theorem d_RoomFills_need_11 : decode b_RoomFills_need 11 = .ok (.bipush 40, 2) := by decide +kernel
theorem d_RoomFills_need_13 : decode b_RoomFills_need 13 = .ok (.if_icmp .le 13, 3) := by decide +kernel
theorem d_RoomFills_need_16 : decode b_RoomFills_need 16 = .ok (.new 72, 3) := by decide +kernel
theorem d_RoomFills_need_19 : decode b_RoomFills_need 19 = .ok (.dup, 1) := by decide +kernel
theorem d_RoomFills_need_20 : decode b_RoomFills_need 20 = .ok (.ldc 113, 2) := by decide +kernel
theorem d_RoomFills_need_22 : decode b_RoomFills_need 22 = .ok (.invokespecial 76, 3) := by decide +kernel
theorem d_RoomFills_need_25 : decode b_RoomFills_need 25 = .ok (.athrow, 1) := by decide +kernel
theorem d_RoomFills_need_26 : decode b_RoomFills_need 26 = .ok (.aload_n 0, 1) := by decide +kernel
theorem d_RoomFills_need_27 : decode b_RoomFills_need 27 = .ok (.aload_n 0, 1) := by decide +kernel
theorem d_RoomFills_need_28 : decode b_RoomFills_need 28 = .ok (.getfield 30, 3) := by decide +kernel
theorem d_RoomFills_need_31 : decode b_RoomFills_need 31 = .ok (.iload_n 1, 1) := by decide +kernel
theorem d_RoomFills_need_32 : decode b_RoomFills_need 32 = .ok (.iload_n 2, 1) := by decide +kernel
theorem d_RoomFills_need_33 : decode b_RoomFills_need 33 = .ok (.invokevirtual 115, 3) := by decide +kernel
theorem d_RoomFills_need_36 : decode b_RoomFills_need 36 = .ok (.invokevirtual 83, 3) := by decide +kernel
theorem d_RoomFills_need_39 : decode b_RoomFills_need 39 = .ok (.ireturn, 1) := by decide +kernel
theorem d_RoomFills_near_0 : decode b_RoomFills_near 0 = .ok (.aload_n 0, 1) := by decide +kernel
theorem d_RoomFills_near_1 : decode b_RoomFills_near 1 = .ok (.iload_n 1, 1) := by decide +kernel
theorem d_RoomFills_near_2 : decode b_RoomFills_near 2 = .ok (.iload_n 2, 1) := by decide +kernel
theorem d_RoomFills_near_3 : decode b_RoomFills_near 3 = .ok (.invokevirtual 118, 3) := by decide +kernel
theorem d_RoomFills_near_6 : decode b_RoomFills_near 6 = .ok (.lload_n 3, 1) := by decide +kernel
theorem d_RoomFills_near_7 : decode b_RoomFills_near 7 = .ok (.invokestatic 100, 3) := by decide +kernel
theorem d_RoomFills_near_10 : decode b_RoomFills_near 10 = .ok (.ifCond .ne 13, 3) := by decide +kernel
theorem d_RoomFills_near_13 : decode b_RoomFills_near 13 = .ok (.new 72, 3) := by decide +kernel
theorem d_RoomFills_near_16 : decode b_RoomFills_near 16 = .ok (.dup, 1) := by decide +kernel
theorem d_RoomFills_near_17 : decode b_RoomFills_near 17 = .ok (.ldc 122, 2) := by decide +kernel
theorem d_RoomFills_near_19 : decode b_RoomFills_near 19 = .ok (.invokespecial 76, 3) := by decide +kernel
theorem d_RoomFills_near_22 : decode b_RoomFills_near 22 = .ok (.athrow, 1) := by decide +kernel
theorem d_RoomFills_near_23 : decode b_RoomFills_near 23 = .ok (.aload_n 0, 1) := by decide +kernel
theorem d_RoomFills_near_24 : decode b_RoomFills_near 24 = .ok (.aload_n 0, 1) := by decide +kernel
theorem d_RoomFills_near_25 : decode b_RoomFills_near 25 = .ok (.getfield 30, 3) := by decide +kernel
theorem d_RoomFills_near_28 : decode b_RoomFills_near 28 = .ok (.iload_n 1, 1) := by decide +kernel
theorem d_RoomFills_near_29 : decode b_RoomFills_near 29 = .ok (.iload_n 2, 1) := by decide +kernel
theorem d_RoomFills_near_30 : decode b_RoomFills_near 30 = .ok (.lload_n 3, 1) := by decide +kernel
theorem d_RoomFills_near_31 : decode b_RoomFills_near 31 = .ok (.invokevirtual 124, 3) := by decide +kernel
theorem d_RoomFills_near_34 : decode b_RoomFills_near 34 = .ok (.invokevirtual 83, 3) := by decide +kernel
theorem d_RoomFills_near_37 : decode b_RoomFills_near 37 = .ok (.ireturn, 1) := by decide +kernel
theorem d_RoomFills_bar_0 : decode b_RoomFills_bar 0 = .ok (.aload_n 0, 1) := by decide +kernel
theorem d_RoomFills_bar_1 : decode b_RoomFills_bar 1 = .ok (.iload_n 1, 1) := by decide +kernel
theorem d_RoomFills_bar_2 : decode b_RoomFills_bar 2 = .ok (.iload_n 2, 1) := by decide +kernel
theorem d_RoomFills_bar_3 : decode b_RoomFills_bar 3 = .ok (.invokevirtual 118, 3) := by decide +kernel
theorem d_RoomFills_bar_6 : decode b_RoomFills_bar 6 = .ok (.aload_n 0, 1) := by decide +kernel
theorem d_RoomFills_bar_7 : decode b_RoomFills_bar 7 = .ok (.aload_n 0, 1) := by decide +kernel
theorem d_RoomFills_bar_8 : decode b_RoomFills_bar 8 = .ok (.getfield 30, 3) := by decide +kernel
theorem d_RoomFills_bar_11 : decode b_RoomFills_bar 11 = .ok (.iload_n 1, 1) := by decide +kernel
theorem d_RoomFills_bar_12 : decode b_RoomFills_bar 12 = .ok (.iload_n 2, 1) := by decide +kernel
theorem d_RoomFills_bar_13 : decode b_RoomFills_bar 13 = .ok (.invokevirtual 128, 3) := by decide +kernel
theorem d_RoomFills_bar_16 : decode b_RoomFills_bar 16 = .ok (.invokevirtual 83, 3) := by decide +kernel
theorem d_RoomFills_bar_19 : decode b_RoomFills_bar 19 = .ok (.ireturn, 1) := by decide +kernel
theorem d_RoomFills_must_0 : decode b_RoomFills_must 0 = .ok (.aload_n 0, 1) := by decide +kernel
theorem d_RoomFills_must_1 : decode b_RoomFills_must 1 = .ok (.iload_n 1, 1) := by decide +kernel
theorem d_RoomFills_must_2 : decode b_RoomFills_must 2 = .ok (.invokevirtual 110, 3) := by decide +kernel
theorem d_RoomFills_must_5 : decode b_RoomFills_must 5 = .ok (.aload_n 0, 1) := by decide +kernel
theorem d_RoomFills_must_6 : decode b_RoomFills_must 6 = .ok (.aload_n 0, 1) := by decide +kernel
theorem d_RoomFills_must_7 : decode b_RoomFills_must 7 = .ok (.getfield 30, 3) := by decide +kernel
theorem d_RoomFills_must_10 : decode b_RoomFills_must 10 = .ok (.iload_n 1, 1) := by decide +kernel
theorem d_RoomFills_must_11 : decode b_RoomFills_must 11 = .ok (.iload_n 2, 1) := by decide +kernel
theorem d_RoomFills_must_12 : decode b_RoomFills_must 12 = .ok (.invokevirtual 131, 3) := by decide +kernel
theorem d_RoomFills_must_15 : decode b_RoomFills_must 15 = .ok (.invokevirtual 83, 3) := by decide +kernel
theorem d_RoomFills_must_18 : decode b_RoomFills_must 18 = .ok (.ireturn, 1) := by decide +kernel
theorem d_RoomFills_filler_0 : decode b_RoomFills_filler 0 = .ok (.iload_n 1, 1) := by decide +kernel
theorem d_RoomFills_filler_1 : decode b_RoomFills_filler 1 = .ok (.iconst 1, 1) := by decide +kernel
theorem d_RoomFills_filler_2 : decode b_RoomFills_filler 2 = .ok (.if_icmp .lt 20, 3) := by decide +kernel
theorem d_RoomFills_filler_5 : decode b_RoomFills_filler 5 = .ok (.iload_n 1, 1) := by decide +kernel
theorem d_RoomFills_filler_6 : decode b_RoomFills_filler 6 = .ok (.bipush 40, 2) := by decide +kernel
theorem d_RoomFills_filler_8 : decode b_RoomFills_filler 8 = .ok (.if_icmp .gt 14, 3) := by decide +kernel
theorem d_RoomFills_filler_11 : decode b_RoomFills_filler 11 = .ok (.iload_n 2, 1) := by decide +kernel
theorem d_RoomFills_filler_12 : decode b_RoomFills_filler 12 = .ok (.iload_n 1, 1) := by decide +kernel
theorem d_RoomFills_filler_13 : decode b_RoomFills_filler 13 = .ok (.if_icmp .lt 9, 3) := by decide +kernel
theorem d_RoomFills_filler_16 : decode b_RoomFills_filler 16 = .ok (.iload_n 2, 1) := by decide +kernel
theorem d_RoomFills_filler_17 : decode b_RoomFills_filler 17 = .ok (.bipush 40, 2) := by decide +kernel
theorem d_RoomFills_filler_19 : decode b_RoomFills_filler 19 = .ok (.if_icmp .le 13, 3) := by decide +kernel
theorem d_RoomFills_filler_22 : decode b_RoomFills_filler 22 = .ok (.new 72, 3) := by decide +kernel
theorem d_RoomFills_filler_25 : decode b_RoomFills_filler 25 = .ok (.dup, 1) := by decide +kernel
theorem d_RoomFills_filler_26 : decode b_RoomFills_filler 26 = .ok (.ldc 135, 2) := by decide +kernel
theorem d_RoomFills_filler_28 : decode b_RoomFills_filler 28 = .ok (.invokespecial 76, 3) := by decide +kernel
theorem d_RoomFills_filler_31 : decode b_RoomFills_filler 31 = .ok (.athrow, 1) := by decide +kernel
theorem d_RoomFills_filler_32 : decode b_RoomFills_filler 32 = .ok (.aload_n 0, 1) := by decide +kernel
theorem d_RoomFills_filler_33 : decode b_RoomFills_filler 33 = .ok (.aload_n 0, 1) := by decide +kernel
theorem d_RoomFills_filler_34 : decode b_RoomFills_filler 34 = .ok (.getfield 37, 3) := by decide +kernel
theorem d_RoomFills_filler_37 : decode b_RoomFills_filler 37 = .ok (.iload_n 1, 1) := by decide +kernel
theorem d_RoomFills_filler_38 : decode b_RoomFills_filler 38 = .ok (.iload_n 2, 1) := by decide +kernel
theorem d_RoomFills_filler_39 : decode b_RoomFills_filler 39 = .ok (.invokevirtual 137, 3) := by decide +kernel
theorem d_RoomFills_filler_42 : decode b_RoomFills_filler 42 = .ok (.invokevirtual 83, 3) := by decide +kernel
theorem d_RoomFills_filler_45 : decode b_RoomFills_filler 45 = .ok (.ireturn, 1) := by decide +kernel
theorem d_RoomFills_run_0 : decode b_RoomFills_run 0 = .ok (.aload_n 0, 1) := by decide +kernel
theorem d_RoomFills_run_1 : decode b_RoomFills_run 1 = .ok (.iconst 0, 1) := by decide +kernel
theorem d_RoomFills_run_2 : decode b_RoomFills_run 2 = .ok (.putfield 61, 3) := by decide +kernel
theorem d_RoomFills_run_5 : decode b_RoomFills_run 5 = .ok (.aload_n 0, 1) := by decide +kernel
theorem d_RoomFills_run_6 : decode b_RoomFills_run 6 = .ok (.getfield 46, 3) := by decide +kernel
theorem d_RoomFills_run_9 : decode b_RoomFills_run 9 = .ok (.getfield 140, 3) := by decide +kernel
theorem d_RoomFills_run_12 : decode b_RoomFills_run 12 = .ok (.invokevirtual 144, 3) := by decide +kernel
theorem d_RoomFills_run_15 : decode b_RoomFills_run 15 = .ok (.aload_n 0, 1) := by decide +kernel
theorem d_RoomFills_run_16 : decode b_RoomFills_run 16 = .ok (.iconst 0, 1) := by decide +kernel
theorem d_RoomFills_run_17 : decode b_RoomFills_run 17 = .ok (.invokevirtual 149, 3) := by decide +kernel
theorem d_RoomFills_run_20 : decode b_RoomFills_run 20 = .ok (.ireturn, 1) := by decide +kernel
theorem d_RoomFills_variant_0 : decode b_RoomFills_variant 0 = .ok (.aload_n 0, 1) := by decide +kernel
theorem d_RoomFills_variant_1 : decode b_RoomFills_variant 1 = .ok (.invokevirtual 153, 3) := by decide +kernel
theorem d_RoomFills_variant_4 : decode b_RoomFills_variant 4 = .ok (.aload_n 0, 1) := by decide +kernel
theorem d_RoomFills_variant_5 : decode b_RoomFills_variant 5 = .ok (.getfield 61, 3) := by decide +kernel
theorem d_RoomFills_variant_8 : decode b_RoomFills_variant 8 = .ok (.bipush 16, 2) := by decide +kernel
theorem d_RoomFills_variant_10 : decode b_RoomFills_variant 10 = .ok (.if_icmp .lt 13, 3) := by decide +kernel
theorem d_RoomFills_variant_13 : decode b_RoomFills_variant 13 = .ok (.new 95, 3) := by decide +kernel
theorem d_RoomFills_variant_16 : decode b_RoomFills_variant 16 = .ok (.dup, 1) := by decide +kernel
theorem d_RoomFills_variant_17 : decode b_RoomFills_variant 17 = .ok (.ldc 156, 2) := by decide +kernel
theorem d_RoomFills_variant_19 : decode b_RoomFills_variant 19 = .ok (.invokespecial 99, 3) := by decide +kernel
theorem d_RoomFills_variant_22 : decode b_RoomFills_variant 22 = .ok (.athrow, 1) := by decide +kernel
theorem d_RoomFills_variant_23 : decode b_RoomFills_variant 23 = .ok (.iload_n 1, 1) := by decide +kernel
theorem d_RoomFills_variant_24 : decode b_RoomFills_variant 24 = .ok (.ifCond .lt 9, 3) := by decide +kernel
theorem d_RoomFills_variant_27 : decode b_RoomFills_variant 27 = .ok (.iload_n 1, 1) := by decide +kernel
theorem d_RoomFills_variant_28 : decode b_RoomFills_variant 28 = .ok (.bipush 6, 2) := by decide +kernel
theorem d_RoomFills_variant_30 : decode b_RoomFills_variant 30 = .ok (.if_icmp .le 13, 3) := by decide +kernel
theorem d_RoomFills_variant_33 : decode b_RoomFills_variant 33 = .ok (.new 72, 3) := by decide +kernel
theorem d_RoomFills_variant_36 : decode b_RoomFills_variant 36 = .ok (.dup, 1) := by decide +kernel
theorem d_RoomFills_variant_37 : decode b_RoomFills_variant 37 = .ok (.ldc 158, 2) := by decide +kernel
theorem d_RoomFills_variant_39 : decode b_RoomFills_variant 39 = .ok (.invokespecial 76, 3) := by decide +kernel
theorem d_RoomFills_variant_42 : decode b_RoomFills_variant 42 = .ok (.athrow, 1) := by decide +kernel
theorem d_RoomFills_variant_43 : decode b_RoomFills_variant 43 = .ok (.aload_n 0, 1) := by decide +kernel
theorem d_RoomFills_variant_44 : decode b_RoomFills_variant 44 = .ok (.iload_n 1, 1) := by decide +kernel
theorem d_RoomFills_variant_45 : decode b_RoomFills_variant 45 = .ok (.invokevirtual 149, 3) := by decide +kernel
theorem d_RoomFills_variant_48 : decode b_RoomFills_variant 48 = .ok (.ireturn, 1) := by decide +kernel
theorem d_RoomFills_at_0 : decode b_RoomFills_at 0 = .ok (.aload_n 0, 1) := by decide +kernel
theorem d_RoomFills_at_1 : decode b_RoomFills_at 1 = .ok (.invokevirtual 153, 3) := by decide +kernel
theorem d_RoomFills_at_4 : decode b_RoomFills_at 4 = .ok (.aload_n 0, 1) := by decide +kernel
theorem d_RoomFills_at_5 : decode b_RoomFills_at 5 = .ok (.iload_n 1, 1) := by decide +kernel
theorem d_RoomFills_at_6 : decode b_RoomFills_at 6 = .ok (.invokevirtual 110, 3) := by decide +kernel
theorem d_RoomFills_at_9 : decode b_RoomFills_at 9 = .ok (.aload_n 0, 1) := by decide +kernel
theorem d_RoomFills_at_10 : decode b_RoomFills_at 10 = .ok (.getfield 46, 3) := by decide +kernel
theorem d_RoomFills_at_13 : decode b_RoomFills_at 13 = .ok (.getfield 160, 3) := by decide +kernel
theorem d_RoomFills_at_16 : decode b_RoomFills_at 16 = .ok (.getfield 164, 3) := by decide +kernel
theorem d_RoomFills_at_19 : decode b_RoomFills_at 19 = .ok (.iload_n 1, 1) := by decide +kernel
theorem d_RoomFills_at_20 : decode b_RoomFills_at 20 = .ok (.iaload, 1) := by decide +kernel
theorem d_RoomFills_at_21 : decode b_RoomFills_at 21 = .ok (.ireturn, 1) := by decide +kernel
theorem d_RoomFills_plan_0 : decode b_RoomFills_plan 0 = .ok (.aload_n 0, 1) := by decide +kernel
theorem d_RoomFills_plan_1 : decode b_RoomFills_plan 1 = .ok (.invokevirtual 153, 3) := by decide +kernel
theorem d_RoomFills_plan_4 : decode b_RoomFills_plan 4 = .ok (.aload_n 0, 1) := by decide +kernel
theorem d_RoomFills_plan_5 : decode b_RoomFills_plan 5 = .ok (.getfield 46, 3) := by decide +kernel
theorem d_RoomFills_plan_8 : decode b_RoomFills_plan 8 = .ok (.getfield 160, 3) := by decide +kernel
theorem d_RoomFills_plan_11 : decode b_RoomFills_plan 11 = .ok (.astore_n 3, 1) := by decide +kernel
theorem d_RoomFills_plan_12 : decode b_RoomFills_plan 12 = .ok (.iload_n 1, 1) := by decide +kernel
theorem d_RoomFills_plan_13 : decode b_RoomFills_plan 13 = .ok (.ifCond .lt 11, 3) := by decide +kernel
theorem d_RoomFills_plan_16 : decode b_RoomFills_plan 16 = .ok (.iload_n 1, 1) := by decide +kernel
theorem d_RoomFills_plan_17 : decode b_RoomFills_plan 17 = .ok (.aload_n 3, 1) := by decide +kernel
theorem d_RoomFills_plan_18 : decode b_RoomFills_plan 18 = .ok (.getfield 169, 3) := by decide +kernel
theorem d_RoomFills_plan_21 : decode b_RoomFills_plan 21 = .ok (.if_icmp .lt 13, 3) := by decide +kernel
theorem d_RoomFills_plan_24 : decode b_RoomFills_plan 24 = .ok (.new 170, 3) := by decide +kernel
theorem d_RoomFills_plan_27 : decode b_RoomFills_plan 27 = .ok (.dup, 1) := by decide +kernel
theorem d_RoomFills_plan_28 : decode b_RoomFills_plan 28 = .ok (.ldc 172, 2) := by decide +kernel
theorem d_RoomFills_plan_30 : decode b_RoomFills_plan 30 = .ok (.invokespecial 174, 3) := by decide +kernel
theorem d_RoomFills_plan_33 : decode b_RoomFills_plan 33 = .ok (.athrow, 1) := by decide +kernel
theorem d_RoomFills_plan_34 : decode b_RoomFills_plan 34 = .ok (.iload_n 2, 1) := by decide +kernel
theorem d_RoomFills_plan_35 : decode b_RoomFills_plan 35 = .ok (.ifCond .lt 8, 3) := by decide +kernel
theorem d_RoomFills_plan_38 : decode b_RoomFills_plan 38 = .ok (.iload_n 2, 1) := by decide +kernel
theorem d_RoomFills_plan_39 : decode b_RoomFills_plan 39 = .ok (.iconst 2, 1) := by decide +kernel
theorem d_RoomFills_plan_40 : decode b_RoomFills_plan 40 = .ok (.if_icmp .le 13, 3) := by decide +kernel
theorem d_RoomFills_plan_43 : decode b_RoomFills_plan 43 = .ok (.new 72, 3) := by decide +kernel
theorem d_RoomFills_plan_46 : decode b_RoomFills_plan 46 = .ok (.dup, 1) := by decide +kernel
theorem d_RoomFills_plan_47 : decode b_RoomFills_plan 47 = .ok (.ldc 175, 2) := by decide +kernel
theorem d_RoomFills_plan_49 : decode b_RoomFills_plan 49 = .ok (.invokespecial 76, 3) := by decide +kernel
theorem d_RoomFills_plan_52 : decode b_RoomFills_plan 52 = .ok (.athrow, 1) := by decide +kernel
theorem d_RoomFills_plan_53 : decode b_RoomFills_plan 53 = .ok (.iload_n 2, 1) := by decide +kernel
theorem d_RoomFills_plan_54 : decode b_RoomFills_plan 54 = .ok (.ifCond .ne 10, 3) := by decide +kernel
theorem d_RoomFills_plan_57 : decode b_RoomFills_plan 57 = .ok (.aload_n 3, 1) := by decide +kernel
theorem d_RoomFills_plan_58 : decode b_RoomFills_plan 58 = .ok (.getfield 177, 3) := by decide +kernel
theorem d_RoomFills_plan_61 : decode b_RoomFills_plan 61 = .ok (.iload_n 1, 1) := by decide +kernel
theorem d_RoomFills_plan_62 : decode b_RoomFills_plan 62 = .ok (.iaload, 1) := by decide +kernel
theorem d_RoomFills_plan_63 : decode b_RoomFills_plan 63 = .ok (.ireturn, 1) := by decide +kernel
theorem d_RoomFills_plan_64 : decode b_RoomFills_plan 64 = .ok (.iload_n 2, 1) := by decide +kernel
theorem d_RoomFills_plan_65 : decode b_RoomFills_plan 65 = .ok (.iconst 1, 1) := by decide +kernel
theorem d_RoomFills_plan_66 : decode b_RoomFills_plan 66 = .ok (.if_icmp .ne 12, 3) := by decide +kernel
theorem d_RoomFills_plan_69 : decode b_RoomFills_plan 69 = .ok (.aload_n 3, 1) := by decide +kernel
theorem d_RoomFills_plan_70 : decode b_RoomFills_plan 70 = .ok (.getfield 180, 3) := by decide +kernel
theorem d_RoomFills_plan_73 : decode b_RoomFills_plan 73 = .ok (.iload_n 1, 1) := by decide +kernel
theorem d_RoomFills_plan_74 : decode b_RoomFills_plan 74 = .ok (.iaload, 1) := by decide +kernel
theorem d_RoomFills_plan_75 : decode b_RoomFills_plan 75 = .ok (.goto 9, 3) := by decide +kernel
theorem d_RoomFills_plan_78 : decode b_RoomFills_plan 78 = .ok (.aload_n 3, 1) := by decide +kernel
theorem d_RoomFills_plan_79 : decode b_RoomFills_plan 79 = .ok (.getfield 183, 3) := by decide +kernel
theorem d_RoomFills_plan_82 : decode b_RoomFills_plan 82 = .ok (.iload_n 1, 1) := by decide +kernel
theorem d_RoomFills_plan_83 : decode b_RoomFills_plan 83 = .ok (.iaload, 1) := by decide +kernel
theorem d_RoomFills_plan_84 : decode b_RoomFills_plan 84 = .ok (.ireturn, 1) := by decide +kernel
theorem d_RoomFills_worth_0 : decode b_RoomFills_worth 0 = .ok (.aload_n 0, 1) := by decide +kernel
theorem d_RoomFills_worth_1 : decode b_RoomFills_worth 1 = .ok (.invokevirtual 153, 3) := by decide +kernel
theorem d_RoomFills_worth_4 : decode b_RoomFills_worth 4 = .ok (.iload_n 1, 1) := by decide +kernel
theorem d_RoomFills_worth_5 : decode b_RoomFills_worth 5 = .ok (.ifCond .lt 8, 3) := by decide +kernel
theorem d_RoomFills_worth_8 : decode b_RoomFills_worth 8 = .ok (.iload_n 1, 1) := by decide +kernel
theorem d_RoomFills_worth_9 : decode b_RoomFills_worth 9 = .ok (.iconst 1, 1) := by decide +kernel
theorem d_RoomFills_worth_10 : decode b_RoomFills_worth 10 = .ok (.if_icmp .le 13, 3) := by decide +kernel
theorem d_RoomFills_worth_13 : decode b_RoomFills_worth 13 = .ok (.new 170, 3) := by decide +kernel
theorem d_RoomFills_worth_16 : decode b_RoomFills_worth 16 = .ok (.dup, 1) := by decide +kernel
theorem d_RoomFills_worth_17 : decode b_RoomFills_worth 17 = .ok (.ldc 186, 2) := by decide +kernel
theorem d_RoomFills_worth_19 : decode b_RoomFills_worth 19 = .ok (.invokespecial 174, 3) := by decide +kernel
theorem d_RoomFills_worth_22 : decode b_RoomFills_worth 22 = .ok (.athrow, 1) := by decide +kernel
theorem d_RoomFills_worth_23 : decode b_RoomFills_worth 23 = .ok (.iload_n 1, 1) := by decide +kernel
theorem d_RoomFills_worth_24 : decode b_RoomFills_worth 24 = .ok (.ifCond .ne 16, 3) := by decide +kernel
theorem d_RoomFills_worth_27 : decode b_RoomFills_worth 27 = .ok (.aload_n 0, 1) := by decide +kernel
theorem d_RoomFills_worth_28 : decode b_RoomFills_worth 28 = .ok (.getfield 46, 3) := by decide +kernel
theorem d_RoomFills_worth_31 : decode b_RoomFills_worth 31 = .ok (.getfield 160, 3) := by decide +kernel
theorem d_RoomFills_worth_34 : decode b_RoomFills_worth 34 = .ok (.getfield 188, 3) := by decide +kernel
theorem d_RoomFills_worth_37 : decode b_RoomFills_worth 37 = .ok (.goto 13, 3) := by decide +kernel
theorem d_RoomFills_worth_40 : decode b_RoomFills_worth 40 = .ok (.aload_n 0, 1) := by decide +kernel
theorem d_RoomFills_worth_41 : decode b_RoomFills_worth 41 = .ok (.getfield 46, 3) := by decide +kernel
theorem d_RoomFills_worth_44 : decode b_RoomFills_worth 44 = .ok (.getfield 160, 3) := by decide +kernel
theorem d_RoomFills_worth_47 : decode b_RoomFills_worth 47 = .ok (.getfield 192, 3) := by decide +kernel
theorem d_RoomFills_worth_50 : decode b_RoomFills_worth 50 = .ok (.lreturn, 1) := by decide +kernel
theorem d_RoomFills_top_0 : decode b_RoomFills_top 0 = .ok (.aload_n 0, 1) := by decide +kernel
theorem d_RoomFills_top_1 : decode b_RoomFills_top 1 = .ok (.invokevirtual 153, 3) := by decide +kernel
theorem d_RoomFills_top_4 : decode b_RoomFills_top 4 = .ok (.aload_n 0, 1) := by decide +kernel
theorem d_RoomFills_top_5 : decode b_RoomFills_top 5 = .ok (.getfield 46, 3) := by decide +kernel
theorem d_RoomFills_top_8 : decode b_RoomFills_top 8 = .ok (.getfield 160, 3) := by decide +kernel
theorem d_RoomFills_top_11 : decode b_RoomFills_top 11 = .ok (.astore_n 3, 1) := by decide +kernel
theorem d_RoomFills_top_12 : decode b_RoomFills_top 12 = .ok (.iload_n 1, 1) := by decide +kernel
theorem d_RoomFills_top_13 : decode b_RoomFills_top 13 = .ok (.iconst (-1), 1) := by decide +kernel
theorem d_RoomFills_top_14 : decode b_RoomFills_top 14 = .ok (.if_icmp .lt 11, 3) := by decide +kernel
theorem d_RoomFills_top_17 : decode b_RoomFills_top 17 = .ok (.iload_n 1, 1) := by decide +kernel
theorem d_RoomFills_top_18 : decode b_RoomFills_top 18 = .ok (.aload_n 3, 1) := by decide +kernel
theorem d_RoomFills_top_19 : decode b_RoomFills_top 19 = .ok (.getfield 195, 3) := by decide +kernel
theorem d_RoomFills_top_22 : decode b_RoomFills_top 22 = .ok (.if_icmp .lt 13, 3) := by decide +kernel
theorem d_RoomFills_top_25 : decode b_RoomFills_top 25 = .ok (.new 170, 3) := by decide +kernel
theorem d_RoomFills_top_28 : decode b_RoomFills_top 28 = .ok (.dup, 1) := by decide +kernel
theorem d_RoomFills_top_29 : decode b_RoomFills_top 29 = .ok (.ldc 198, 2) := by decide +kernel
theorem d_RoomFills_top_31 : decode b_RoomFills_top 31 = .ok (.invokespecial 174, 3) := by decide +kernel
theorem d_RoomFills_top_34 : decode b_RoomFills_top 34 = .ok (.athrow, 1) := by decide +kernel
theorem d_RoomFills_top_35 : decode b_RoomFills_top 35 = .ok (.iload_n 2, 1) := by decide +kernel
theorem d_RoomFills_top_36 : decode b_RoomFills_top 36 = .ok (.ifCond .lt 8, 3) := by decide +kernel
theorem d_RoomFills_top_39 : decode b_RoomFills_top 39 = .ok (.iload_n 2, 1) := by decide +kernel
theorem d_RoomFills_top_40 : decode b_RoomFills_top 40 = .ok (.iconst 1, 1) := by decide +kernel
theorem d_RoomFills_top_41 : decode b_RoomFills_top 41 = .ok (.if_icmp .le 13, 3) := by decide +kernel
theorem d_RoomFills_top_44 : decode b_RoomFills_top 44 = .ok (.new 72, 3) := by decide +kernel
theorem d_RoomFills_top_47 : decode b_RoomFills_top 47 = .ok (.dup, 1) := by decide +kernel
theorem d_RoomFills_top_48 : decode b_RoomFills_top 48 = .ok (.ldc 186, 2) := by decide +kernel
theorem d_RoomFills_top_50 : decode b_RoomFills_top 50 = .ok (.invokespecial 76, 3) := by decide +kernel
theorem d_RoomFills_top_53 : decode b_RoomFills_top 53 = .ok (.athrow, 1) := by decide +kernel
theorem d_RoomFills_top_54 : decode b_RoomFills_top 54 = .ok (.iload_n 1, 1) := by decide +kernel
theorem d_RoomFills_top_55 : decode b_RoomFills_top 55 = .ok (.iconst (-1), 1) := by decide +kernel
theorem d_RoomFills_top_56 : decode b_RoomFills_top 56 = .ok (.if_icmp .ne 8, 3) := by decide +kernel
theorem d_RoomFills_top_59 : decode b_RoomFills_top 59 = .ok (.aload_n 3, 1) := by decide +kernel
theorem d_RoomFills_top_60 : decode b_RoomFills_top 60 = .ok (.getfield 195, 3) := by decide +kernel
theorem d_RoomFills_top_63 : decode b_RoomFills_top 63 = .ok (.ireturn, 1) := by decide +kernel
theorem d_RoomFills_top_64 : decode b_RoomFills_top 64 = .ok (.iload_n 2, 1) := by decide +kernel
theorem d_RoomFills_top_65 : decode b_RoomFills_top 65 = .ok (.ifCond .ne 12, 3) := by decide +kernel
theorem d_RoomFills_top_68 : decode b_RoomFills_top 68 = .ok (.aload_n 3, 1) := by decide +kernel
theorem d_RoomFills_top_69 : decode b_RoomFills_top 69 = .ok (.getfield 200, 3) := by decide +kernel
theorem d_RoomFills_top_72 : decode b_RoomFills_top 72 = .ok (.iload_n 1, 1) := by decide +kernel
theorem d_RoomFills_top_73 : decode b_RoomFills_top 73 = .ok (.iaload, 1) := by decide +kernel
theorem d_RoomFills_top_74 : decode b_RoomFills_top 74 = .ok (.goto 9, 3) := by decide +kernel
theorem d_RoomFills_top_77 : decode b_RoomFills_top 77 = .ok (.aload_n 3, 1) := by decide +kernel
theorem d_RoomFills_top_78 : decode b_RoomFills_top 78 = .ok (.getfield 203, 3) := by decide +kernel
theorem d_RoomFills_top_81 : decode b_RoomFills_top 81 = .ok (.iload_n 1, 1) := by decide +kernel
theorem d_RoomFills_top_82 : decode b_RoomFills_top 82 = .ok (.iaload, 1) := by decide +kernel
theorem d_RoomFills_top_83 : decode b_RoomFills_top 83 = .ok (.ireturn, 1) := by decide +kernel
theorem d_RoomFills_place_0 : decode b_RoomFills_place 0 = .ok (.aload_n 0, 1) := by decide +kernel
theorem d_RoomFills_place_1 : decode b_RoomFills_place 1 = .ok (.iload_n 1, 1) := by decide +kernel
theorem d_RoomFills_place_2 : decode b_RoomFills_place 2 = .ok (.invokevirtual 110, 3) := by decide +kernel
theorem d_RoomFills_place_5 : decode b_RoomFills_place 5 = .ok (.iload_n 2, 1) := by decide +kernel
theorem d_RoomFills_place_6 : decode b_RoomFills_place 6 = .ok (.bipush (-101), 2) := by decide +kernel
theorem d_RoomFills_place_8 : decode b_RoomFills_place 8 = .ok (.if_icmp .lt 9, 3) := by decide +kernel
theorem d_RoomFills_place_11 : decode b_RoomFills_place 11 = .ok (.iload_n 2, 1) := by decide +kernel
theorem d_RoomFills_place_12 : decode b_RoomFills_place 12 = .ok (.bipush 100, 2) := by decide +kernel
theorem d_RoomFills_place_14 : decode b_RoomFills_place 14 = .ok (.if_icmp .le 13, 3) := by decide +kernel
theorem d_RoomFills_place_17 : decode b_RoomFills_place 17 = .ok (.new 72, 3) := by decide +kernel
theorem d_RoomFills_place_20 : decode b_RoomFills_place 20 = .ok (.dup, 1) := by decide +kernel
theorem d_RoomFills_place_21 : decode b_RoomFills_place 21 = .ok (.ldc 206, 2) := by decide +kernel
theorem d_RoomFills_place_23 : decode b_RoomFills_place 23 = .ok (.invokespecial 76, 3) := by decide +kernel
theorem d_RoomFills_place_26 : decode b_RoomFills_place 26 = .ok (.athrow, 1) := by decide +kernel
theorem d_RoomFills_place_27 : decode b_RoomFills_place 27 = .ok (.aload_n 0, 1) := by decide +kernel
theorem d_RoomFills_place_28 : decode b_RoomFills_place 28 = .ok (.getfield 53, 3) := by decide +kernel
theorem d_RoomFills_place_31 : decode b_RoomFills_place 31 = .ok (.iload_n 1, 1) := by decide +kernel
theorem d_RoomFills_place_32 : decode b_RoomFills_place 32 = .ok (.iload_n 2, 1) := by decide +kernel
theorem d_RoomFills_place_33 : decode b_RoomFills_place 33 = .ok (.invokevirtual 208, 3) := by decide +kernel
theorem d_RoomFills_place_36 : decode b_RoomFills_place 36 = .ok (.ireturn, 1) := by decide +kernel
theorem d_RoomFills_check_0 : decode b_RoomFills_check 0 = .ok (.aload_n 0, 1) := by decide +kernel
theorem d_RoomFills_check_1 : decode b_RoomFills_check 1 = .ok (.getfield 53, 3) := by decide +kernel
theorem d_RoomFills_check_4 : decode b_RoomFills_check 4 = .ok (.invokevirtual 211, 3) := by decide +kernel
theorem d_RoomFills_check_7 : decode b_RoomFills_check 7 = .ok (.ireturn, 1) := by decide +kernel
theorem d_RoomFills_row_0 : decode b_RoomFills_row 0 = .ok (.aload_n 0, 1) := by decide +kernel
theorem d_RoomFills_row_1 : decode b_RoomFills_row 1 = .ok (.getfield 53, 3) := by decide +kernel
theorem d_RoomFills_row_4 : decode b_RoomFills_row 4 = .ok (.invokevirtual 215, 3) := by decide +kernel
theorem d_RoomFills_row_7 : decode b_RoomFills_row 7 = .ok (.lreturn, 1) := by decide +kernel
theorem d_RoomFills_news_0 : decode b_RoomFills_news 0 = .ok (.iload_n 1, 1) := by decide +kernel
theorem d_RoomFills_news_1 : decode b_RoomFills_news 1 = .ok (.ifCond .eq 8, 3) := by decide +kernel
theorem d_RoomFills_news_4 : decode b_RoomFills_news 4 = .ok (.aload_n 0, 1) := by decide +kernel
theorem d_RoomFills_news_5 : decode b_RoomFills_news 5 = .ok (.iconst 0, 1) := by decide +kernel
theorem d_RoomFills_news_6 : decode b_RoomFills_news 6 = .ok (.putfield 61, 3) := by decide +kernel
theorem d_RoomFills_news_9 : decode b_RoomFills_news 9 = .ok (.iload_n 1, 1) := by decide +kernel
theorem d_RoomFills_news_10 : decode b_RoomFills_news 10 = .ok (.ireturn, 1) := by decide +kernel
theorem d_RoomFills_tellPlan_0 : decode b_RoomFills_tellPlan 0 = .ok (.aload_n 0, 1) := by decide +kernel
theorem d_RoomFills_tellPlan_1 : decode b_RoomFills_tellPlan 1 = .ok (.getfield 46, 3) := by decide +kernel
theorem d_RoomFills_tellPlan_4 : decode b_RoomFills_tellPlan 4 = .ok (.aload_n 0, 1) := by decide +kernel
theorem d_RoomFills_tellPlan_5 : decode b_RoomFills_tellPlan 5 = .ok (.getfield 57, 3) := by decide +kernel
theorem d_RoomFills_tellPlan_8 : decode b_RoomFills_tellPlan 8 = .ok (.aload_n 0, 1) := by decide +kernel
theorem d_RoomFills_tellPlan_9 : decode b_RoomFills_tellPlan 9 = .ok (.getfield 61, 3) := by decide +kernel
theorem d_RoomFills_tellPlan_12 : decode b_RoomFills_tellPlan 12 = .ok (.iload_n 1, 1) := by decide +kernel
theorem d_RoomFills_tellPlan_13 : decode b_RoomFills_tellPlan 13 = .ok (.invokevirtual 218, 3) := by decide +kernel
theorem d_RoomFills_tellPlan_16 : decode b_RoomFills_tellPlan 16 = .ok (.ifCond .ne 5, 3) := by decide +kernel
theorem d_RoomFills_tellPlan_19 : decode b_RoomFills_tellPlan 19 = .ok (.iconst (-1), 1) := by decide +kernel
theorem d_RoomFills_tellPlan_20 : decode b_RoomFills_tellPlan 20 = .ok (.ireturn, 1) := by decide +kernel
theorem d_RoomFills_tellPlan_21 : decode b_RoomFills_tellPlan 21 = .ok (.aload_n 0, 1) := by decide +kernel
theorem d_RoomFills_tellPlan_22 : decode b_RoomFills_tellPlan 22 = .ok (.getfield 46, 3) := by decide +kernel
theorem d_RoomFills_tellPlan_25 : decode b_RoomFills_tellPlan 25 = .ok (.invokevirtual 222, 3) := by decide +kernel
theorem d_RoomFills_tellPlan_28 : decode b_RoomFills_tellPlan 28 = .ok (.aload_n 0, 1) := by decide +kernel
theorem d_RoomFills_tellPlan_29 : decode b_RoomFills_tellPlan 29 = .ok (.getfield 61, 3) := by decide +kernel
theorem d_RoomFills_tellPlan_32 : decode b_RoomFills_tellPlan 32 = .ok (.bipush 16, 2) := by decide +kernel
theorem d_RoomFills_tellPlan_34 : decode b_RoomFills_tellPlan 34 = .ok (.if_icmp .ge 32, 3) := by decide +kernel
theorem d_RoomFills_tellPlan_37 : decode b_RoomFills_tellPlan 37 = .ok (.aload_n 0, 1) := by decide +kernel
theorem d_RoomFills_tellPlan_38 : decode b_RoomFills_tellPlan 38 = .ok (.getfield 57, 3) := by decide +kernel
theorem d_RoomFills_tellPlan_41 : decode b_RoomFills_tellPlan 41 = .ok (.aload_n 0, 1) := by decide +kernel
theorem d_RoomFills_tellPlan_42 : decode b_RoomFills_tellPlan 42 = .ok (.getfield 61, 3) := by decide +kernel
theorem d_RoomFills_tellPlan_45 : decode b_RoomFills_tellPlan 45 = .ok (.aload_n 0, 1) := by decide +kernel
theorem d_RoomFills_tellPlan_46 : decode b_RoomFills_tellPlan 46 = .ok (.getfield 46, 3) := by decide +kernel
theorem d_RoomFills_tellPlan_49 : decode b_RoomFills_tellPlan 49 = .ok (.getfield 160, 3) := by decide +kernel
theorem d_RoomFills_tellPlan_52 : decode b_RoomFills_tellPlan 52 = .ok (.getfield 225, 3) := by decide +kernel
theorem d_RoomFills_tellPlan_55 : decode b_RoomFills_tellPlan 55 = .ok (.iastore, 1) := by decide +kernel
theorem d_RoomFills_tellPlan_56 : decode b_RoomFills_tellPlan 56 = .ok (.aload_n 0, 1) := by decide +kernel
theorem d_RoomFills_tellPlan_57 : decode b_RoomFills_tellPlan 57 = .ok (.dup, 1) := by decide +kernel
theorem d_RoomFills_tellPlan_58 : decode b_RoomFills_tellPlan 58 = .ok (.getfield 61, 3) := by decide +kernel
theorem d_RoomFills_tellPlan_61 : decode b_RoomFills_tellPlan 61 = .ok (.iconst 1, 1) := by decide +kernel
theorem d_RoomFills_tellPlan_62 : decode b_RoomFills_tellPlan 62 = .ok (.iadd, 1) := by decide +kernel
theorem d_RoomFills_tellPlan_63 : decode b_RoomFills_tellPlan 63 = .ok (.putfield 61, 3) := by decide +kernel
theorem d_RoomFills_tellPlan_66 : decode b_RoomFills_tellPlan 66 = .ok (.aload_n 0, 1) := by decide +kernel
theorem d_RoomFills_tellPlan_67 : decode b_RoomFills_tellPlan 67 = .ok (.getfield 46, 3) := by decide +kernel
theorem d_RoomFills_tellPlan_70 : decode b_RoomFills_tellPlan 70 = .ok (.getfield 160, 3) := by decide +kernel
theorem d_RoomFills_tellPlan_73 : decode b_RoomFills_tellPlan 73 = .ok (.getfield 169, 3) := by decide +kernel
theorem d_RoomFills_tellPlan_76 : decode b_RoomFills_tellPlan 76 = .ok (.ireturn, 1) := by decide +kernel
theorem d_RoomFills_demandPlan_0 : decode b_RoomFills_demandPlan 0 = .ok (.aload_n 0, 1) := by decide +kernel
theorem d_RoomFills_demandPlan_1 : decode b_RoomFills_demandPlan 1 = .ok (.getfield 61, 3) := by decide +kernel
theorem d_RoomFills_demandPlan_4 : decode b_RoomFills_demandPlan 4 = .ok (.ifCond .ne 13, 3) := by decide +kernel
theorem d_RoomFills_demandPlan_7 : decode b_RoomFills_demandPlan 7 = .ok (.new 95, 3) := by decide +kernel
theorem d_RoomFills_demandPlan_10 : decode b_RoomFills_demandPlan 10 = .ok (.dup, 1) := by decide +kernel
theorem d_RoomFills_demandPlan_11 : decode b_RoomFills_demandPlan 11 = .ok (.ldc 228, 2) := by decide +kernel
theorem d_RoomFills_demandPlan_13 : decode b_RoomFills_demandPlan 13 = .ok (.invokespecial 99, 3) := by decide +kernel
theorem d_RoomFills_demandPlan_16 : decode b_RoomFills_demandPlan 16 = .ok (.athrow, 1) := by decide +kernel
theorem d_RoomFills_demandPlan_17 : decode b_RoomFills_demandPlan 17 = .ok (.return_, 1) := by decide +kernel
theorem d_RoomFills_demandItem_0 : decode b_RoomFills_demandItem 0 = .ok (.iload_n 1, 1) := by decide +kernel
theorem d_RoomFills_demandItem_1 : decode b_RoomFills_demandItem 1 = .ok (.ifCond .lt 14, 3) := by decide +kernel
theorem d_RoomFills_demandItem_4 : decode b_RoomFills_demandItem 4 = .ok (.iload_n 1, 1) := by decide +kernel
theorem d_RoomFills_demandItem_5 : decode b_RoomFills_demandItem 5 = .ok (.aload_n 0, 1) := by decide +kernel
theorem d_RoomFills_demandItem_6 : decode b_RoomFills_demandItem 6 = .ok (.getfield 30, 3) := by decide +kernel
theorem d_RoomFills_demandItem_9 : decode b_RoomFills_demandItem 9 = .ok (.getfield 92, 3) := by decide +kernel
theorem d_RoomFills_demandItem_12 : decode b_RoomFills_demandItem 12 = .ok (.if_icmp .lt 13, 3) := by decide +kernel
theorem d_RoomFills_demandItem_15 : decode b_RoomFills_demandItem 15 = .ok (.new 170, 3) := by decide +kernel
theorem d_RoomFills_demandItem_18 : decode b_RoomFills_demandItem 18 = .ok (.dup, 1) := by decide +kernel
theorem d_RoomFills_demandItem_19 : decode b_RoomFills_demandItem 19 = .ok (.ldc 230, 2) := by decide +kernel
theorem d_RoomFills_demandItem_21 : decode b_RoomFills_demandItem 21 = .ok (.invokespecial 174, 3) := by decide +kernel
theorem d_RoomFills_demandItem_24 : decode b_RoomFills_demandItem 24 = .ok (.athrow, 1) := by decide +kernel
theorem d_RoomFills_demandItem_25 : decode b_RoomFills_demandItem 25 = .ok (.return_, 1) := by decide +kernel
theorem d_RoomFills_demandPair_0 : decode b_RoomFills_demandPair 0 = .ok (.aload_n 0, 1) := by decide +kernel
theorem d_RoomFills_demandPair_1 : decode b_RoomFills_demandPair 1 = .ok (.iload_n 1, 1) := by decide +kernel
theorem d_RoomFills_demandPair_2 : decode b_RoomFills_demandPair 2 = .ok (.invokevirtual 110, 3) := by decide +kernel
theorem d_RoomFills_demandPair_5 : decode b_RoomFills_demandPair 5 = .ok (.aload_n 0, 1) := by decide +kernel
theorem d_RoomFills_demandPair_6 : decode b_RoomFills_demandPair 6 = .ok (.iload_n 2, 1) := by decide +kernel
theorem d_RoomFills_demandPair_7 : decode b_RoomFills_demandPair 7 = .ok (.invokevirtual 110, 3) := by decide +kernel
theorem d_RoomFills_demandPair_10 : decode b_RoomFills_demandPair 10 = .ok (.iload_n 1, 1) := by decide +kernel
theorem d_RoomFills_demandPair_11 : decode b_RoomFills_demandPair 11 = .ok (.iload_n 2, 1) := by decide +kernel
theorem d_RoomFills_demandPair_12 : decode b_RoomFills_demandPair 12 = .ok (.if_icmp .ne 13, 3) := by decide +kernel
theorem d_RoomFills_demandPair_15 : decode b_RoomFills_demandPair 15 = .ok (.new 72, 3) := by decide +kernel
theorem d_RoomFills_demandPair_18 : decode b_RoomFills_demandPair 18 = .ok (.dup, 1) := by decide +kernel
theorem d_RoomFills_demandPair_19 : decode b_RoomFills_demandPair 19 = .ok (.ldc 232, 2) := by decide +kernel
theorem d_RoomFills_demandPair_21 : decode b_RoomFills_demandPair 21 = .ok (.invokespecial 76, 3) := by decide +kernel
theorem d_RoomFills_demandPair_24 : decode b_RoomFills_demandPair 24 = .ok (.athrow, 1) := by decide +kernel
theorem d_RoomFills_demandPair_25 : decode b_RoomFills_demandPair 25 = .ok (.return_, 1) := by decide +kernel
theorem d_RoomFills_isMoney_0 : decode b_RoomFills_isMoney 0 = .ok (.lload_n 0, 1) := by decide +kernel
theorem d_RoomFills_isMoney_1 : decode b_RoomFills_isMoney 1 = .ok (.lconst 0, 1) := by decide +kernel
theorem d_RoomFills_isMoney_2 : decode b_RoomFills_isMoney 2 = .ok (.lcmp, 1) := by decide +kernel
theorem d_RoomFills_isMoney_3 : decode b_RoomFills_isMoney 3 = .ok (.ifCond .lt 15, 3) := by decide +kernel
theorem d_RoomFills_isMoney_6 : decode b_RoomFills_isMoney 6 = .ok (.lload_n 0, 1) := by decide +kernel
theorem d_RoomFills_isMoney_7 : decode b_RoomFills_isMoney 7 = .ok (.ldc2_w 234, 3) := by decide +kernel
theorem d_RoomFills_isMoney_10 : decode b_RoomFills_isMoney 10 = .ok (.lcmp, 1) := by decide +kernel
theorem d_RoomFills_isMoney_11 : decode b_RoomFills_isMoney 11 = .ok (.ifCond .gt 7, 3) := by decide +kernel
theorem d_RoomFills_isMoney_14 : decode b_RoomFills_isMoney 14 = .ok (.iconst 1, 1) := by decide +kernel
theorem d_RoomFills_isMoney_15 : decode b_RoomFills_isMoney 15 = .ok (.goto 4, 3) := by decide +kernel
theorem d_RoomFills_isMoney_18 : decode b_RoomFills_isMoney 18 = .ok (.iconst 0, 1) := by decide +kernel
theorem d_RoomFills_isMoney_19 : decode b_RoomFills_isMoney 19 = .ok (.ireturn, 1) := by decide +kernel
theorem d_RoomFills_hasItem_0 : decode b_RoomFills_hasItem 0 = .ok (.iload_n 0, 1) := by decide +kernel
theorem d_RoomFills_hasItem_1 : decode b_RoomFills_hasItem 1 = .ok (.iconst 1, 1) := by decide +kernel
theorem d_RoomFills_hasItem_2 : decode b_RoomFills_hasItem 2 = .ok (.iload_n 1, 1) := by decide +kernel
theorem d_RoomFills_hasItem_3 : decode b_RoomFills_hasItem 3 = .ok (.ishl, 1) := by decide +kernel
theorem d_RoomFills_hasItem_4 : decode b_RoomFills_hasItem 4 = .ok (.iand, 1) := by decide +kernel
theorem d_RoomFills_hasItem_5 : decode b_RoomFills_hasItem 5 = .ok (.ifCond .eq 7, 3) := by decide +kernel
theorem d_RoomFills_hasItem_8 : decode b_RoomFills_hasItem 8 = .ok (.iconst 1, 1) := by decide +kernel
theorem d_RoomFills_hasItem_9 : decode b_RoomFills_hasItem 9 = .ok (.goto 4, 3) := by decide +kernel
theorem d_RoomFills_hasItem_12 : decode b_RoomFills_hasItem 12 = .ok (.iconst 0, 1) := by decide +kernel
theorem d_RoomFills_hasItem_13 : decode b_RoomFills_hasItem 13 = .ok (.ireturn, 1) := by decide +kernel
