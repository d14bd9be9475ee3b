theorem d_Law_cell_0 : decode b_Law_cell 0 = .ok (.iload_n 1, 1) := by decide +kernel
theorem d_Law_cell_1 : decode b_Law_cell 1 = .ok (.aload_n 0, 1) := by decide +kernel
theorem d_Law_cell_2 : decode b_Law_cell 2 = .ok (.arraylength, 1) := by decide +kernel
theorem d_Law_cell_3 : decode b_Law_cell 3 = .ok (.if_icmp .ge 9, 3) := by decide +kernel
theorem d_Law_cell_6 : decode b_Law_cell 6 = .ok (.aload_n 0, 1) := by decide +kernel
theorem d_Law_cell_7 : decode b_Law_cell 7 = .ok (.iload_n 1, 1) := by decide +kernel
theorem d_Law_cell_8 : decode b_Law_cell 8 = .ok (.iaload, 1) := by decide +kernel
theorem d_Law_cell_9 : decode b_Law_cell 9 = .ok (.goto 4, 3) := by decide +kernel
theorem d_Law_cell_12 : decode b_Law_cell 12 = .ok (.iconst 0, 1) := by decide +kernel
theorem d_Law_cell_13 : decode b_Law_cell 13 = .ok (.ireturn, 1) := by decide +kernel
theorem d_Law_door_0 : decode b_Law_door 0 = .ok (.aload_n 3, 1) := by decide +kernel
theorem d_Law_door_1 : decode b_Law_door 1 = .ok (.iconst 0, 1) := by decide +kernel
theorem d_Law_door_2 : decode b_Law_door 2 = .ok (.aload_n 0, 1) := by decide +kernel
theorem d_Law_door_3 : decode b_Law_door 3 = .ok (.iload_n 1, 1) := by decide +kernel
theorem d_Law_door_4 : decode b_Law_door 4 = .ok (.iload_n 2, 1) := by decide +kernel
theorem d_Law_door_5 : decode b_Law_door 5 = .ok (.invokevirtual 7, 3) := by decide +kernel
theorem d_Law_door_8 : decode b_Law_door 8 = .ok (.ifCond .eq 7, 3) := by decide +kernel
theorem d_Law_door_11 : decode b_Law_door 11 = .ok (.lconst 1, 1) := by decide +kernel
theorem d_Law_door_12 : decode b_Law_door 12 = .ok (.goto 4, 3) := by decide +kernel
theorem d_Law_door_15 : decode b_Law_door 15 = .ok (.lconst 0, 1) := by decide +kernel
theorem d_Law_door_16 : decode b_Law_door 16 = .ok (.lastore, 1) := by decide +kernel
theorem d_Law_door_17 : decode b_Law_door 17 = .ok (.goto 7, 3) := by decide +kernel
theorem d_Law_door_20 : decode b_Law_door 20 = .ok (.astore 4, 2) := by decide +kernel
theorem d_Law_door_22 : decode b_Law_door 22 = .ok (.iconst 1, 1) := by decide +kernel
theorem d_Law_door_23 : decode b_Law_door 23 = .ok (.ireturn, 1) := by decide +kernel
theorem d_Law_door_24 : decode b_Law_door 24 = .ok (.iconst 0, 1) := by decide +kernel
theorem d_Law_door_25 : decode b_Law_door 25 = .ok (.ireturn, 1) := by decide +kernel
theorem d_Law_pipe_0 : decode b_Law_pipe 0 = .ok (.aload_n 2, 1) := by decide +kernel
theorem d_Law_pipe_1 : decode b_Law_pipe 1 = .ok (.iconst 0, 1) := by decide +kernel
theorem d_Law_pipe_2 : decode b_Law_pipe 2 = .ok (.aload_n 0, 1) := by decide +kernel
theorem d_Law_pipe_3 : decode b_Law_pipe 3 = .ok (.iload_n 1, 1) := by decide +kernel
theorem d_Law_pipe_4 : decode b_Law_pipe 4 = .ok (.invokevirtual 15, 3) := by decide +kernel
theorem d_Law_pipe_7 : decode b_Law_pipe 7 = .ok (.ifCond .eq 7, 3) := by decide +kernel
theorem d_Law_pipe_10 : decode b_Law_pipe 10 = .ok (.lconst 1, 1) := by decide +kernel
theorem d_Law_pipe_11 : decode b_Law_pipe 11 = .ok (.goto 4, 3) := by decide +kernel
theorem d_Law_pipe_14 : decode b_Law_pipe 14 = .ok (.lconst 0, 1) := by decide +kernel
theorem d_Law_pipe_15 : decode b_Law_pipe 15 = .ok (.lastore, 1) := by decide +kernel
theorem d_Law_pipe_16 : decode b_Law_pipe 16 = .ok (.goto 6, 3) := by decide +kernel
theorem d_Law_pipe_19 : decode b_Law_pipe 19 = .ok (.astore_n 3, 1) := by decide +kernel
theorem d_Law_pipe_20 : decode b_Law_pipe 20 = .ok (.iconst 1, 1) := by decide +kernel
theorem d_Law_pipe_21 : decode b_Law_pipe 21 = .ok (.ireturn, 1) := by decide +kernel
theorem d_Law_pipe_22 : decode b_Law_pipe 22 = .ok (.iconst 0, 1) := by decide +kernel
theorem d_Law_pipe_23 : decode b_Law_pipe 23 = .ok (.ireturn, 1) := by decide +kernel
theorem d_Law_item_0 : decode b_Law_item 0 = .ok (.aload 6, 2) := by decide +kernel
theorem d_Law_item_2 : decode b_Law_item 2 = .ok (.iconst 0, 1) := by decide +kernel
theorem d_Law_item_3 : decode b_Law_item 3 = .ok (.aload_n 0, 1) := by decide +kernel
theorem d_Law_item_4 : decode b_Law_item 4 = .ok (.iload_n 1, 1) := by decide +kernel
theorem d_Law_item_5 : decode b_Law_item 5 = .ok (.lload_n 2, 1) := by decide +kernel
theorem d_Law_item_6 : decode b_Law_item 6 = .ok (.lload 4, 2) := by decide +kernel
theorem d_Law_item_8 : decode b_Law_item 8 = .ok (.invokevirtual 19, 3) := by decide +kernel
theorem d_Law_item_11 : decode b_Law_item 11 = .ok (.i2l, 1) := by decide +kernel
theorem d_Law_item_12 : decode b_Law_item 12 = .ok (.lastore, 1) := by decide +kernel
theorem d_Law_item_13 : decode b_Law_item 13 = .ok (.goto 11, 3) := by decide +kernel
theorem d_Law_item_16 : decode b_Law_item 16 = .ok (.astore 7, 2) := by decide +kernel
theorem d_Law_item_18 : decode b_Law_item 18 = .ok (.iconst 1, 1) := by decide +kernel
theorem d_Law_item_19 : decode b_Law_item 19 = .ok (.ireturn, 1) := by decide +kernel
theorem d_Law_item_20 : decode b_Law_item 20 = .ok (.astore 7, 2) := by decide +kernel
theorem d_Law_item_22 : decode b_Law_item 22 = .ok (.iconst 2, 1) := by decide +kernel
theorem d_Law_item_23 : decode b_Law_item 23 = .ok (.ireturn, 1) := by decide +kernel
theorem d_Law_item_24 : decode b_Law_item 24 = .ok (.iconst 0, 1) := by decide +kernel
theorem d_Law_item_25 : decode b_Law_item 25 = .ok (.ireturn, 1) := by decide +kernel
theorem d_Law_need_0 : decode b_Law_need 0 = .ok (.aload_n 3, 1) := by decide +kernel
theorem d_Law_need_1 : decode b_Law_need 1 = .ok (.iconst 0, 1) := by decide +kernel
theorem d_Law_need_2 : decode b_Law_need 2 = .ok (.aload_n 0, 1) := by decide +kernel
theorem d_Law_need_3 : decode b_Law_need 3 = .ok (.iload_n 1, 1) := by decide +kernel
theorem d_Law_need_4 : decode b_Law_need 4 = .ok (.iload_n 2, 1) := by decide +kernel
theorem d_Law_need_5 : decode b_Law_need 5 = .ok (.invokevirtual 25, 3) := by decide +kernel
theorem d_Law_need_8 : decode b_Law_need 8 = .ok (.ifCond .eq 7, 3) := by decide +kernel
theorem d_Law_need_11 : decode b_Law_need 11 = .ok (.lconst 1, 1) := by decide +kernel
theorem d_Law_need_12 : decode b_Law_need 12 = .ok (.goto 4, 3) := by decide +kernel
theorem d_Law_need_15 : decode b_Law_need 15 = .ok (.lconst 0, 1) := by decide +kernel
theorem d_Law_need_16 : decode b_Law_need 16 = .ok (.lastore, 1) := by decide +kernel
theorem d_Law_need_17 : decode b_Law_need 17 = .ok (.goto 11, 3) := by decide +kernel
theorem d_Law_need_20 : decode b_Law_need 20 = .ok (.astore 4, 2) := by decide +kernel
theorem d_Law_need_22 : decode b_Law_need 22 = .ok (.iconst 1, 1) := by decide +kernel
theorem d_Law_need_23 : decode b_Law_need 23 = .ok (.ireturn, 1) := by decide +kernel
theorem d_Law_need_24 : decode b_Law_need 24 = .ok (.astore 4, 2) := by decide +kernel
theorem d_Law_need_26 : decode b_Law_need 26 = .ok (.iconst 2, 1) := by decide +kernel
theorem d_Law_need_27 : decode b_Law_need 27 = .ok (.ireturn, 1) := by decide +kernel
theorem d_Law_need_28 : decode b_Law_need 28 = .ok (.iconst 0, 1) := by decide +kernel
theorem d_Law_need_29 : decode b_Law_need 29 = .ok (.ireturn, 1) := by decide +kernel
theorem d_Law_near_0 : decode b_Law_near 0 = .ok (.aload 5, 2) := by decide +kernel
theorem d_Law_near_2 : decode b_Law_near 2 = .ok (.iconst 0, 1) := by decide +kernel
theorem d_Law_near_3 : decode b_Law_near 3 = .ok (.aload_n 0, 1) := by decide +kernel
theorem d_Law_near_4 : decode b_Law_near 4 = .ok (.iload_n 1, 1) := by decide +kernel
theorem d_Law_near_5 : decode b_Law_near 5 = .ok (.iload_n 2, 1) := by decide +kernel
theorem d_Law_near_6 : decode b_Law_near 6 = .ok (.lload_n 3, 1) := by decide +kernel
theorem d_Law_near_7 : decode b_Law_near 7 = .ok (.invokevirtual 30, 3) := by decide +kernel
theorem d_Law_near_10 : decode b_Law_near 10 = .ok (.ifCond .eq 7, 3) := by decide +kernel
theorem d_Law_near_13 : decode b_Law_near 13 = .ok (.lconst 1, 1) := by decide +kernel
theorem d_Law_near_14 : decode b_Law_near 14 = .ok (.goto 4, 3) := by decide +kernel
theorem d_Law_near_17 : decode b_Law_near 17 = .ok (.lconst 0, 1) := by decide +kernel
theorem d_Law_near_18 : decode b_Law_near 18 = .ok (.lastore, 1) := by decide +kernel
theorem d_Law_near_19 : decode b_Law_near 19 = .ok (.goto 11, 3) := by decide +kernel
theorem d_Law_near_22 : decode b_Law_near 22 = .ok (.astore 6, 2) := by decide +kernel
theorem d_Law_near_24 : decode b_Law_near 24 = .ok (.iconst 1, 1) := by decide +kernel
theorem d_Law_near_25 : decode b_Law_near 25 = .ok (.ireturn, 1) := by decide +kernel
theorem d_Law_near_26 : decode b_Law_near 26 = .ok (.astore 6, 2) := by decide +kernel
theorem d_Law_near_28 : decode b_Law_near 28 = .ok (.iconst 2, 1) := by decide +kernel
theorem d_Law_near_29 : decode b_Law_near 29 = .ok (.ireturn, 1) := by decide +kernel
theorem d_Law_near_30 : decode b_Law_near 30 = .ok (.iconst 0, 1) := by decide +kernel
theorem d_Law_near_31 : decode b_Law_near 31 = .ok (.ireturn, 1) := by decide +kernel
theorem d_Law_bar_0 : decode b_Law_bar 0 = .ok (.aload_n 3, 1) := by decide +kernel
theorem d_Law_bar_1 : decode b_Law_bar 1 = .ok (.iconst 0, 1) := by decide +kernel
theorem d_Law_bar_2 : decode b_Law_bar 2 = .ok (.aload_n 0, 1) := by decide +kernel
theorem d_Law_bar_3 : decode b_Law_bar 3 = .ok (.iload_n 1, 1) := by decide +kernel
theorem d_Law_bar_4 : decode b_Law_bar 4 = .ok (.iload_n 2, 1) := by decide +kernel
theorem d_Law_bar_5 : decode b_Law_bar 5 = .ok (.invokevirtual 34, 3) := by decide +kernel
theorem d_Law_bar_8 : decode b_Law_bar 8 = .ok (.ifCond .eq 7, 3) := by decide +kernel
theorem d_Law_bar_11 : decode b_Law_bar 11 = .ok (.lconst 1, 1) := by decide +kernel
theorem d_Law_bar_12 : decode b_Law_bar 12 = .ok (.goto 4, 3) := by decide +kernel
theorem d_Law_bar_15 : decode b_Law_bar 15 = .ok (.lconst 0, 1) := by decide +kernel
theorem d_Law_bar_16 : decode b_Law_bar 16 = .ok (.lastore, 1) := by decide +kernel
theorem d_Law_bar_17 : decode b_Law_bar 17 = .ok (.goto 11, 3) := by decide +kernel
theorem d_Law_bar_20 : decode b_Law_bar 20 = .ok (.astore 4, 2) := by decide +kernel
theorem d_Law_bar_22 : decode b_Law_bar 22 = .ok (.iconst 1, 1) := by decide +kernel
theorem d_Law_bar_23 : decode b_Law_bar 23 = .ok (.ireturn, 1) := by decide +kernel
theorem d_Law_bar_24 : decode b_Law_bar 24 = .ok (.astore 4, 2) := by decide +kernel
theorem d_Law_bar_26 : decode b_Law_bar 26 = .ok (.iconst 2, 1) := by decide +kernel
theorem d_Law_bar_27 : decode b_Law_bar 27 = .ok (.ireturn, 1) := by decide +kernel
theorem d_Law_bar_28 : decode b_Law_bar 28 = .ok (.iconst 0, 1) := by decide +kernel
theorem d_Law_bar_29 : decode b_Law_bar 29 = .ok (.ireturn, 1) := by decide +kernel
theorem d_Law_must_0 : decode b_Law_must 0 = .ok (.aload_n 3, 1) := by decide +kernel
theorem d_Law_must_1 : decode b_Law_must 1 = .ok (.iconst 0, 1) := by decide +kernel
theorem d_Law_must_2 : decode b_Law_must 2 = .ok (.aload_n 0, 1) := by decide +kernel
theorem d_Law_must_3 : decode b_Law_must 3 = .ok (.iload_n 1, 1) := by decide +kernel
theorem d_Law_must_4 : decode b_Law_must 4 = .ok (.iload_n 2, 1) := by decide +kernel
theorem d_Law_must_5 : decode b_Law_must 5 = .ok (.invokevirtual 37, 3) := by decide +kernel
theorem d_Law_must_8 : decode b_Law_must 8 = .ok (.ifCond .eq 7, 3) := by decide +kernel
theorem d_Law_must_11 : decode b_Law_must 11 = .ok (.lconst 1, 1) := by decide +kernel
theorem d_Law_must_12 : decode b_Law_must 12 = .ok (.goto 4, 3) := by decide +kernel
theorem d_Law_must_15 : decode b_Law_must 15 = .ok (.lconst 0, 1) := by decide +kernel
theorem d_Law_must_16 : decode b_Law_must 16 = .ok (.lastore, 1) := by decide +kernel
theorem d_Law_must_17 : decode b_Law_must 17 = .ok (.goto 7, 3) := by decide +kernel
theorem d_Law_must_20 : decode b_Law_must 20 = .ok (.astore 4, 2) := by decide +kernel
theorem d_Law_must_22 : decode b_Law_must 22 = .ok (.iconst 1, 1) := by decide +kernel
theorem d_Law_must_23 : decode b_Law_must 23 = .ok (.ireturn, 1) := by decide +kernel
theorem d_Law_must_24 : decode b_Law_must 24 = .ok (.iconst 0, 1) := by decide +kernel
theorem d_Law_must_25 : decode b_Law_must 25 = .ok (.ireturn, 1) := by decide +kernel
theorem d_Law_filler_0 : decode b_Law_filler 0 = .ok (.aload_n 3, 1) := by decide +kernel
theorem d_Law_filler_1 : decode b_Law_filler 1 = .ok (.iconst 0, 1) := by decide +kernel
theorem d_Law_filler_2 : decode b_Law_filler 2 = .ok (.aload_n 0, 1) := by decide +kernel
theorem d_Law_filler_3 : decode b_Law_filler 3 = .ok (.iload_n 1, 1) := by decide +kernel
theorem d_Law_filler_4 : decode b_Law_filler 4 = .ok (.iload_n 2, 1) := by decide +kernel
theorem d_Law_filler_5 : decode b_Law_filler 5 = .ok (.invokevirtual 41, 3) := by decide +kernel
theorem d_Law_filler_8 : decode b_Law_filler 8 = .ok (.ifCond .eq 7, 3) := by decide +kernel
theorem d_Law_filler_11 : decode b_Law_filler 11 = .ok (.lconst 1, 1) := by decide +kernel
theorem d_Law_filler_12 : decode b_Law_filler 12 = .ok (.goto 4, 3) := by decide +kernel
theorem d_Law_filler_15 : decode b_Law_filler 15 = .ok (.lconst 0, 1) := by decide +kernel
theorem d_Law_filler_16 : decode b_Law_filler 16 = .ok (.lastore, 1) := by decide +kernel
theorem d_Law_filler_17 : decode b_Law_filler 17 = .ok (.goto 7, 3) := by decide +kernel
theorem d_Law_filler_20 : decode b_Law_filler 20 = .ok (.astore 4, 2) := by decide +kernel
theorem d_Law_filler_22 : decode b_Law_filler 22 = .ok (.iconst 1, 1) := by decide +kernel
theorem d_Law_filler_23 : decode b_Law_filler 23 = .ok (.ireturn, 1) := by decide +kernel
theorem d_Law_filler_24 : decode b_Law_filler 24 = .ok (.iconst 0, 1) := by decide +kernel
theorem d_Law_filler_25 : decode b_Law_filler 25 = .ok (.ireturn, 1) := by decide +kernel
theorem d_Law_variant_0 : decode b_Law_variant 0 = .ok (.aload_n 2, 1) := by decide +kernel
theorem d_Law_variant_1 : decode b_Law_variant 1 = .ok (.iconst 0, 1) := by decide +kernel
theorem d_Law_variant_2 : decode b_Law_variant 2 = .ok (.aload_n 0, 1) := by decide +kernel
theorem d_Law_variant_3 : decode b_Law_variant 3 = .ok (.iload_n 1, 1) := by decide +kernel
theorem d_Law_variant_4 : decode b_Law_variant 4 = .ok (.invokevirtual 44, 3) := by decide +kernel
theorem d_Law_variant_7 : decode b_Law_variant 7 = .ok (.i2l, 1) := by decide +kernel
theorem d_Law_variant_8 : decode b_Law_variant 8 = .ok (.lastore, 1) := by decide +kernel
theorem d_Law_variant_9 : decode b_Law_variant 9 = .ok (.goto 9, 3) := by decide +kernel
theorem d_Law_variant_12 : decode b_Law_variant 12 = .ok (.astore_n 3, 1) := by decide +kernel
theorem d_Law_variant_13 : decode b_Law_variant 13 = .ok (.iconst 1, 1) := by decide +kernel
theorem d_Law_variant_14 : decode b_Law_variant 14 = .ok (.ireturn, 1) := by decide +kernel
theorem d_Law_variant_15 : decode b_Law_variant 15 = .ok (.astore_n 3, 1) := by decide +kernel
theorem d_Law_variant_16 : decode b_Law_variant 16 = .ok (.iconst 2, 1) := by decide +kernel
theorem d_Law_variant_17 : decode b_Law_variant 17 = .ok (.ireturn, 1) := by decide +kernel
theorem d_Law_variant_18 : decode b_Law_variant 18 = .ok (.iconst 0, 1) := by decide +kernel
theorem d_Law_variant_19 : decode b_Law_variant 19 = .ok (.ireturn, 1) := by decide +kernel
theorem d_Law_at_0 : decode b_Law_at 0 = .ok (.aload_n 2, 1) := by decide +kernel
theorem d_Law_at_1 : decode b_Law_at 1 = .ok (.iconst 0, 1) := by decide +kernel
theorem d_Law_at_2 : decode b_Law_at 2 = .ok (.aload_n 0, 1) := by decide +kernel
theorem d_Law_at_3 : decode b_Law_at 3 = .ok (.iload_n 1, 1) := by decide +kernel
theorem d_Law_at_4 : decode b_Law_at 4 = .ok (.invokevirtual 48, 3) := by decide +kernel
theorem d_Law_at_7 : decode b_Law_at 7 = .ok (.i2l, 1) := by decide +kernel
theorem d_Law_at_8 : decode b_Law_at 8 = .ok (.lastore, 1) := by decide +kernel
theorem d_Law_at_9 : decode b_Law_at 9 = .ok (.goto 9, 3) := by decide +kernel
theorem d_Law_at_12 : decode b_Law_at 12 = .ok (.astore_n 3, 1) := by decide +kernel
theorem d_Law_at_13 : decode b_Law_at 13 = .ok (.iconst 1, 1) := by decide +kernel
theorem d_Law_at_14 : decode b_Law_at 14 = .ok (.ireturn, 1) := by decide +kernel
theorem d_Law_at_15 : decode b_Law_at 15 = .ok (.astore_n 3, 1) := by decide +kernel
theorem d_Law_at_16 : decode b_Law_at 16 = .ok (.iconst 2, 1) := by decide +kernel
theorem d_Law_at_17 : decode b_Law_at 17 = .ok (.ireturn, 1) := by decide +kernel
theorem d_Law_at_18 : decode b_Law_at 18 = .ok (.iconst 0, 1) := by decide +kernel
theorem d_Law_at_19 : decode b_Law_at 19 = .ok (.ireturn, 1) := by decide +kernel
theorem d_Law_plan_0 : decode b_Law_plan 0 = .ok (.aload_n 3, 1) := by decide +kernel
theorem d_Law_plan_1 : decode b_Law_plan 1 = .ok (.iconst 0, 1) := by decide +kernel
theorem d_Law_plan_2 : decode b_Law_plan 2 = .ok (.aload_n 0, 1) := by decide +kernel
theorem d_Law_plan_3 : decode b_Law_plan 3 = .ok (.iload_n 1, 1) := by decide +kernel
theorem d_Law_plan_4 : decode b_Law_plan 4 = .ok (.iload_n 2, 1) := by decide +kernel
theorem d_Law_plan_5 : decode b_Law_plan 5 = .ok (.invokevirtual 51, 3) := by decide +kernel
theorem d_Law_plan_8 : decode b_Law_plan 8 = .ok (.i2l, 1) := by decide +kernel
theorem d_Law_plan_9 : decode b_Law_plan 9 = .ok (.lastore, 1) := by decide +kernel
theorem d_Law_plan_10 : decode b_Law_plan 10 = .ok (.goto 15, 3) := by decide +kernel
theorem d_Law_plan_13 : decode b_Law_plan 13 = .ok (.astore 4, 2) := by decide +kernel
theorem d_Law_plan_15 : decode b_Law_plan 15 = .ok (.iconst 1, 1) := by decide +kernel
theorem d_Law_plan_16 : decode b_Law_plan 16 = .ok (.ireturn, 1) := by decide +kernel
theorem d_Law_plan_17 : decode b_Law_plan 17 = .ok (.astore 4, 2) := by decide +kernel
theorem d_Law_plan_19 : decode b_Law_plan 19 = .ok (.iconst 2, 1) := by decide +kernel
theorem d_Law_plan_20 : decode b_Law_plan 20 = .ok (.ireturn, 1) := by decide +kernel
theorem d_Law_plan_21 : decode b_Law_plan 21 = .ok (.astore 4, 2) := by decide +kernel
theorem d_Law_plan_23 : decode b_Law_plan 23 = .ok (.iconst 3, 1) := by decide +kernel
theorem d_Law_plan_24 : decode b_Law_plan 24 = .ok (.ireturn, 1) := by decide +kernel
theorem d_Law_plan_25 : decode b_Law_plan 25 = .ok (.iconst 0, 1) := by decide +kernel
theorem d_Law_plan_26 : decode b_Law_plan 26 = .ok (.ireturn, 1) := by decide +kernel
theorem d_Law_worth_0 : decode b_Law_worth 0 = .ok (.aload_n 2, 1) := by decide +kernel
theorem d_Law_worth_1 : decode b_Law_worth 1 = .ok (.iconst 0, 1) := by decide +kernel
theorem d_Law_worth_2 : decode b_Law_worth 2 = .ok (.aload_n 0, 1) := by decide +kernel
theorem d_Law_worth_3 : decode b_Law_worth 3 = .ok (.iload_n 1, 1) := by decide +kernel
theorem d_Law_worth_4 : decode b_Law_worth 4 = .ok (.invokevirtual 55, 3) := by decide +kernel
theorem d_Law_worth_7 : decode b_Law_worth 7 = .ok (.lastore, 1) := by decide +kernel
theorem d_Law_worth_8 : decode b_Law_worth 8 = .ok (.goto 9, 3) := by decide +kernel
theorem d_Law_worth_11 : decode b_Law_worth 11 = .ok (.astore_n 3, 1) := by decide +kernel
theorem d_Law_worth_12 : decode b_Law_worth 12 = .ok (.iconst 1, 1) := by decide +kernel
theorem d_Law_worth_13 : decode b_Law_worth 13 = .ok (.ireturn, 1) := by decide +kernel
theorem d_Law_worth_14 : decode b_Law_worth 14 = .ok (.astore_n 3, 1) := by decide +kernel
theorem d_Law_worth_15 : decode b_Law_worth 15 = .ok (.iconst 2, 1) := by decide +kernel
theorem d_Law_worth_16 : decode b_Law_worth 16 = .ok (.ireturn, 1) := by decide +kernel
theorem d_Law_worth_17 : decode b_Law_worth 17 = .ok (.iconst 0, 1) := by decide +kernel
theorem d_Law_worth_18 : decode b_Law_worth 18 = .ok (.ireturn, 1) := by decide +kernel
theorem d_Law_top_0 : decode b_Law_top 0 = .ok (.aload_n 3, 1) := by decide +kernel
theorem d_Law_top_1 : decode b_Law_top 1 = .ok (.iconst 0, 1) := by decide +kernel
theorem d_Law_top_2 : decode b_Law_top 2 = .ok (.aload_n 0, 1) := by decide +kernel
theorem d_Law_top_3 : decode b_Law_top 3 = .ok (.iload_n 1, 1) := by decide +kernel
theorem d_Law_top_4 : decode b_Law_top 4 = .ok (.iload_n 2, 1) := by decide +kernel
theorem d_Law_top_5 : decode b_Law_top 5 = .ok (.invokevirtual 59, 3) := by decide +kernel
theorem d_Law_top_8 : decode b_Law_top 8 = .ok (.i2l, 1) := by decide +kernel
theorem d_Law_top_9 : decode b_Law_top 9 = .ok (.lastore, 1) := by decide +kernel
theorem d_Law_top_10 : decode b_Law_top 10 = .ok (.goto 15, 3) := by decide +kernel
theorem d_Law_top_13 : decode b_Law_top 13 = .ok (.astore 4, 2) := by decide +kernel
theorem d_Law_top_15 : decode b_Law_top 15 = .ok (.iconst 1, 1) := by decide +kernel
theorem d_Law_top_16 : decode b_Law_top 16 = .ok (.ireturn, 1) := by decide +kernel
theorem d_Law_top_17 : decode b_Law_top 17 = .ok (.astore 4, 2) := by decide +kernel
theorem d_Law_top_19 : decode b_Law_top 19 = .ok (.iconst 2, 1) := by decide +kernel
theorem d_Law_top_20 : decode b_Law_top 20 = .ok (.ireturn, 1) := by decide +kernel
theorem d_Law_top_21 : decode b_Law_top 21 = .ok (.astore 4, 2) := by decide +kernel
theorem d_Law_top_23 : decode b_Law_top 23 = .ok (.iconst 3, 1) := by decide +kernel
theorem d_Law_top_24 : decode b_Law_top 24 = .ok (.ireturn, 1) := by decide +kernel
theorem d_Law_top_25 : decode b_Law_top 25 = .ok (.iconst 0, 1) := by decide +kernel
theorem d_Law_top_26 : decode b_Law_top 26 = .ok (.ireturn, 1) := by decide +kernel
theorem d_Law_place_0 : decode b_Law_place 0 = .ok (.aload_n 3, 1) := by decide +kernel
theorem d_Law_place_1 : decode b_Law_place 1 = .ok (.iconst 0, 1) := by decide +kernel
theorem d_Law_place_2 : decode b_Law_place 2 = .ok (.aload_n 0, 1) := by decide +kernel
theorem d_Law_place_3 : decode b_Law_place 3 = .ok (.iload_n 1, 1) := by decide +kernel
theorem d_Law_place_4 : decode b_Law_place 4 = .ok (.iload_n 2, 1) := by decide +kernel
theorem d_Law_place_5 : decode b_Law_place 5 = .ok (.invokevirtual 62, 3) := by decide +kernel
theorem d_Law_place_8 : decode b_Law_place 8 = .ok (.ifCond .eq 7, 3) := by decide +kernel
theorem d_Law_place_11 : decode b_Law_place 11 = .ok (.lconst 1, 1) := by decide +kernel
theorem d_Law_place_12 : decode b_Law_place 12 = .ok (.goto 4, 3) := by decide +kernel
theorem d_Law_place_15 : decode b_Law_place 15 = .ok (.lconst 0, 1) := by decide +kernel
theorem d_Law_place_16 : decode b_Law_place 16 = .ok (.lastore, 1) := by decide +kernel
theorem d_Law_place_17 : decode b_Law_place 17 = .ok (.goto 11, 3) := by decide +kernel
theorem d_Law_place_20 : decode b_Law_place 20 = .ok (.astore 4, 2) := by decide +kernel
theorem d_Law_place_22 : decode b_Law_place 22 = .ok (.iconst 1, 1) := by decide +kernel
theorem d_Law_place_23 : decode b_Law_place 23 = .ok (.ireturn, 1) := by decide +kernel
theorem d_Law_place_24 : decode b_Law_place 24 = .ok (.astore 4, 2) := by decide +kernel
theorem d_Law_place_26 : decode b_Law_place 26 = .ok (.iconst 2, 1) := by decide +kernel
theorem d_Law_place_27 : decode b_Law_place 27 = .ok (.ireturn, 1) := by decide +kernel
theorem d_Law_place_28 : decode b_Law_place 28 = .ok (.iconst 0, 1) := by decide +kernel
theorem d_Law_place_29 : decode b_Law_place 29 = .ok (.ireturn, 1) := by decide +kernel
abbrev w_Law_door : List Cond := .codeWith y_Law_door b_Law_door 5 (some .int) [((0 : Nat), (17 : Nat), (20 : Nat), (13 : Nat))] :: wsG
abbrev w_Law_pipe : List Cond := .codeWith y_Law_pipe b_Law_pipe 4 (some .int) [((0 : Nat), (16 : Nat), (19 : Nat), (13 : Nat))] :: wsG
abbrev w_Law_item : List Cond := .codeWith y_Law_item b_Law_item 8 (some .int) [((0 : Nat), (13 : Nat), (16 : Nat), (23 : Nat)), ((0 : Nat), (13 : Nat), (20 : Nat), (13 : Nat))] :: wsG
abbrev w_Law_need : List Cond := .codeWith y_Law_need b_Law_need 5 (some .int) [((0 : Nat), (17 : Nat), (20 : Nat), (28 : Nat)), ((0 : Nat), (17 : Nat), (24 : Nat), (13 : Nat))] :: wsG
abbrev w_Law_near : List Cond := .codeWith y_Law_near b_Law_near 7 (some .int) [((0 : Nat), (19 : Nat), (22 : Nat), (28 : Nat)), ((0 : Nat), (19 : Nat), (26 : Nat), (13 : Nat))] :: wsG
abbrev w_Law_bar : List Cond := .codeWith y_Law_bar b_Law_bar 5 (some .int) [((0 : Nat), (17 : Nat), (20 : Nat), (28 : Nat)), ((0 : Nat), (17 : Nat), (24 : Nat), (13 : Nat))] :: wsG
abbrev w_Law_must : List Cond := .codeWith y_Law_must b_Law_must 5 (some .int) [((0 : Nat), (17 : Nat), (20 : Nat), (28 : Nat))] :: wsG
abbrev w_Law_filler : List Cond := .codeWith y_Law_filler b_Law_filler 5 (some .int) [((0 : Nat), (17 : Nat), (20 : Nat), (13 : Nat))] :: wsG
abbrev w_Law_variant : List Cond := .codeWith y_Law_variant b_Law_variant 4 (some .int) [((0 : Nat), (9 : Nat), (12 : Nat), (23 : Nat)), ((0 : Nat), (9 : Nat), (15 : Nat), (13 : Nat))] :: wsG
abbrev w_Law_at : List Cond := .codeWith y_Law_at b_Law_at 4 (some .int) [((0 : Nat), (9 : Nat), (12 : Nat), (23 : Nat)), ((0 : Nat), (9 : Nat), (15 : Nat), (28 : Nat))] :: wsG
abbrev w_Law_plan : List Cond := .codeWith y_Law_plan b_Law_plan 5 (some .int) [((0 : Nat), (10 : Nat), (13 : Nat), (23 : Nat)), ((0 : Nat), (10 : Nat), (17 : Nat), (28 : Nat)), ((0 : Nat), (10 : Nat), (21 : Nat), (13 : Nat))] :: wsG
abbrev w_Law_worth : List Cond := .codeWith y_Law_worth b_Law_worth 4 (some .int) [((0 : Nat), (8 : Nat), (11 : Nat), (23 : Nat)), ((0 : Nat), (8 : Nat), (14 : Nat), (28 : Nat))] :: wsG
abbrev w_Law_top : List Cond := .codeWith y_Law_top b_Law_top 5 (some .int) [((0 : Nat), (10 : Nat), (13 : Nat), (23 : Nat)), ((0 : Nat), (10 : Nat), (17 : Nat), (28 : Nat)), ((0 : Nat), (10 : Nat), (21 : Nat), (13 : Nat))] :: wsG
abbrev w_Law_place : List Cond := .codeWith y_Law_place b_Law_place 5 (some .int) [((0 : Nat), (17 : Nat), (20 : Nat), (28 : Nat)), ((0 : Nat), (17 : Nat), (24 : Nat), (13 : Nat))] :: wsG
