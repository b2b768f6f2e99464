theorem d_L_store_0 : decode b_L_store 0 = .ok (.aload_n 1, 1) := by decide +kernel
theorem d_L_store_1 : decode b_L_store 1 = .ok (.iconst 0, 1) := by decide +kernel
theorem d_L_store_2 : decode b_L_store 2 = .ok (.aload_n 0, 1) := by decide +kernel
theorem d_L_store_3 : decode b_L_store 3 = .ok (.invokevirtual 7, 3) := by decide +kernel
theorem d_L_store_6 : decode b_L_store 6 = .ok (.i2l, 1) := by decide +kernel
theorem d_L_store_7 : decode b_L_store 7 = .ok (.lastore, 1) := by decide +kernel
theorem d_L_store_8 : decode b_L_store 8 = .ok (.goto 6, 3) := by decide +kernel
theorem d_L_store_11 : decode b_L_store 11 = .ok (.astore_n 2, 1) := by decide +kernel
theorem d_L_store_12 : decode b_L_store 12 = .ok (.iconst 1, 1) := by decide +kernel
theorem d_L_store_13 : decode b_L_store 13 = .ok (.ireturn, 1) := by decide +kernel
theorem d_L_store_14 : decode b_L_store 14 = .ok (.iconst 0, 1) := by decide +kernel
theorem d_L_store_15 : decode b_L_store 15 = .ok (.ireturn, 1) := by decide +kernel
theorem d_L_lot_0 : decode b_L_lot 0 = .ok (.aload_n 3, 1) := by decide +kernel
theorem d_L_lot_1 : decode b_L_lot 1 = .ok (.iconst 0, 1) := by decide +kernel
theorem d_L_lot_2 : decode b_L_lot 2 = .ok (.aload_n 0, 1) := by decide +kernel
theorem d_L_lot_3 : decode b_L_lot 3 = .ok (.iload_n 1, 1) := by decide +kernel
theorem d_L_lot_4 : decode b_L_lot 4 = .ok (.iload_n 2, 1) := by decide +kernel
theorem d_L_lot_5 : decode b_L_lot 5 = .ok (.invokevirtual 15, 3) := by decide +kernel
theorem d_L_lot_8 : decode b_L_lot 8 = .ok (.i2l, 1) := by decide +kernel
theorem d_L_lot_9 : decode b_L_lot 9 = .ok (.lastore, 1) := by decide +kernel
theorem d_L_lot_10 : decode b_L_lot 10 = .ok (.goto 15, 3) := by decide +kernel
theorem d_L_lot_13 : decode b_L_lot 13 = .ok (.astore 4, 2) := by decide +kernel
theorem d_L_lot_15 : decode b_L_lot 15 = .ok (.iconst 1, 1) := by decide +kernel
theorem d_L_lot_16 : decode b_L_lot 16 = .ok (.ireturn, 1) := by decide +kernel
theorem d_L_lot_17 : decode b_L_lot 17 = .ok (.astore 4, 2) := by decide +kernel
theorem d_L_lot_19 : decode b_L_lot 19 = .ok (.iconst 2, 1) := by decide +kernel
theorem d_L_lot_20 : decode b_L_lot 20 = .ok (.ireturn, 1) := by decide +kernel
theorem d_L_lot_21 : decode b_L_lot 21 = .ok (.astore 4, 2) := by decide +kernel
theorem d_L_lot_23 : decode b_L_lot 23 = .ok (.iconst 3, 1) := by decide +kernel
theorem d_L_lot_24 : decode b_L_lot 24 = .ok (.ireturn, 1) := by decide +kernel
theorem d_L_lot_25 : decode b_L_lot 25 = .ok (.iconst 0, 1) := by decide +kernel
theorem d_L_lot_26 : decode b_L_lot 26 = .ok (.ireturn, 1) := by decide +kernel
theorem d_L_bring_0 : decode b_L_bring 0 = .ok (.aload 4, 2) := by decide +kernel
theorem d_L_bring_2 : decode b_L_bring 2 = .ok (.iconst 0, 1) := by decide +kernel
theorem d_L_bring_3 : decode b_L_bring 3 = .ok (.aload_n 0, 1) := by decide +kernel
theorem d_L_bring_4 : decode b_L_bring 4 = .ok (.iload_n 1, 1) := by decide +kernel
theorem d_L_bring_5 : decode b_L_bring 5 = .ok (.iload_n 2, 1) := by decide +kernel
theorem d_L_bring_6 : decode b_L_bring 6 = .ok (.iload_n 3, 1) := by decide +kernel
theorem d_L_bring_7 : decode b_L_bring 7 = .ok (.invokevirtual 23, 3) := by decide +kernel
theorem d_L_bring_10 : decode b_L_bring 10 = .ok (.i2l, 1) := by decide +kernel
theorem d_L_bring_11 : decode b_L_bring 11 = .ok (.lastore, 1) := by decide +kernel
theorem d_L_bring_12 : decode b_L_bring 12 = .ok (.goto 15, 3) := by decide +kernel
theorem d_L_bring_15 : decode b_L_bring 15 = .ok (.astore 5, 2) := by decide +kernel
theorem d_L_bring_17 : decode b_L_bring 17 = .ok (.iconst 1, 1) := by decide +kernel
theorem d_L_bring_18 : decode b_L_bring 18 = .ok (.ireturn, 1) := by decide +kernel
theorem d_L_bring_19 : decode b_L_bring 19 = .ok (.astore 5, 2) := by decide +kernel
theorem d_L_bring_21 : decode b_L_bring 21 = .ok (.iconst 2, 1) := by decide +kernel
theorem d_L_bring_22 : decode b_L_bring 22 = .ok (.ireturn, 1) := by decide +kernel
theorem d_L_bring_23 : decode b_L_bring 23 = .ok (.astore 5, 2) := by decide +kernel
theorem d_L_bring_25 : decode b_L_bring 25 = .ok (.iconst 3, 1) := by decide +kernel
theorem d_L_bring_26 : decode b_L_bring 26 = .ok (.ireturn, 1) := by decide +kernel
theorem d_L_bring_27 : decode b_L_bring 27 = .ok (.iconst 0, 1) := by decide +kernel
theorem d_L_bring_28 : decode b_L_bring 28 = .ok (.ireturn, 1) := by decide +kernel
theorem d_L_move_0 : decode b_L_move 0 = .ok (.aload 6, 2) := by decide +kernel
theorem d_L_move_2 : decode b_L_move 2 = .ok (.iconst 0, 1) := by decide +kernel
theorem d_L_move_3 : decode b_L_move 3 = .ok (.aload_n 0, 1) := by decide +kernel
theorem d_L_move_4 : decode b_L_move 4 = .ok (.iload_n 1, 1) := by decide +kernel
theorem d_L_move_5 : decode b_L_move 5 = .ok (.iload_n 2, 1) := by decide +kernel
theorem d_L_move_6 : decode b_L_move 6 = .ok (.iload_n 3, 1) := by decide +kernel
theorem d_L_move_7 : decode b_L_move 7 = .ok (.iload 4, 2) := by decide +kernel
theorem d_L_move_9 : decode b_L_move 9 = .ok (.iload 5, 2) := by decide +kernel
theorem d_L_move_11 : decode b_L_move 11 = .ok (.invokevirtual 27, 3) := by decide +kernel
theorem d_L_move_14 : decode b_L_move 14 = .ok (.i2l, 1) := by decide +kernel
theorem d_L_move_15 : decode b_L_move 15 = .ok (.lastore, 1) := by decide +kernel
theorem d_L_move_16 : decode b_L_move 16 = .ok (.goto 19, 3) := by decide +kernel
theorem d_L_move_19 : decode b_L_move 19 = .ok (.astore 7, 2) := by decide +kernel
theorem d_L_move_21 : decode b_L_move 21 = .ok (.iconst 1, 1) := by decide +kernel
theorem d_L_move_22 : decode b_L_move 22 = .ok (.ireturn, 1) := by decide +kernel
theorem d_L_move_23 : decode b_L_move 23 = .ok (.astore 7, 2) := by decide +kernel
theorem d_L_move_25 : decode b_L_move 25 = .ok (.iconst 2, 1) := by decide +kernel
theorem d_L_move_26 : decode b_L_move 26 = .ok (.ireturn, 1) := by decide +kernel
theorem d_L_move_27 : decode b_L_move 27 = .ok (.astore 7, 2) := by decide +kernel
theorem d_L_move_29 : decode b_L_move 29 = .ok (.iconst 3, 1) := by decide +kernel
theorem d_L_move_30 : decode b_L_move 30 = .ok (.ireturn, 1) := by decide +kernel
theorem d_L_move_31 : decode b_L_move 31 = .ok (.astore 7, 2) := by decide +kernel
theorem d_L_move_33 : decode b_L_move 33 = .ok (.iconst 4, 1) := by decide +kernel
theorem d_L_move_34 : decode b_L_move 34 = .ok (.ireturn, 1) := by decide +kernel
theorem d_L_move_35 : decode b_L_move 35 = .ok (.iconst 0, 1) := by decide +kernel
theorem d_L_move_36 : decode b_L_move 36 = .ok (.ireturn, 1) := by decide +kernel
theorem d_L_use_0 : decode b_L_use 0 = .ok (.aload 4, 2) := by decide +kernel
theorem d_L_use_2 : decode b_L_use 2 = .ok (.iconst 0, 1) := by decide +kernel
theorem d_L_use_3 : decode b_L_use 3 = .ok (.aload_n 0, 1) := by decide +kernel
theorem d_L_use_4 : decode b_L_use 4 = .ok (.iload_n 1, 1) := by decide +kernel
theorem d_L_use_5 : decode b_L_use 5 = .ok (.iload_n 2, 1) := by decide +kernel
theorem d_L_use_6 : decode b_L_use 6 = .ok (.iload_n 3, 1) := by decide +kernel
theorem d_L_use_7 : decode b_L_use 7 = .ok (.invokevirtual 33, 3) := by decide +kernel
theorem d_L_use_10 : decode b_L_use 10 = .ok (.i2l, 1) := by decide +kernel
theorem d_L_use_11 : decode b_L_use 11 = .ok (.lastore, 1) := by decide +kernel
theorem d_L_use_12 : decode b_L_use 12 = .ok (.goto 15, 3) := by decide +kernel
theorem d_L_use_15 : decode b_L_use 15 = .ok (.astore 5, 2) := by decide +kernel
theorem d_L_use_17 : decode b_L_use 17 = .ok (.iconst 1, 1) := by decide +kernel
theorem d_L_use_18 : decode b_L_use 18 = .ok (.ireturn, 1) := by decide +kernel
theorem d_L_use_19 : decode b_L_use 19 = .ok (.astore 5, 2) := by decide +kernel
theorem d_L_use_21 : decode b_L_use 21 = .ok (.iconst 2, 1) := by decide +kernel
theorem d_L_use_22 : decode b_L_use 22 = .ok (.ireturn, 1) := by decide +kernel
theorem d_L_use_23 : decode b_L_use 23 = .ok (.astore 5, 2) := by decide +kernel
theorem d_L_use_25 : decode b_L_use 25 = .ok (.iconst 3, 1) := by decide +kernel
theorem d_L_use_26 : decode b_L_use 26 = .ok (.ireturn, 1) := by decide +kernel
theorem d_L_use_27 : decode b_L_use 27 = .ok (.iconst 0, 1) := by decide +kernel
theorem d_L_use_28 : decode b_L_use 28 = .ok (.ireturn, 1) := by decide +kernel
theorem d_L_sum_0 : decode b_L_sum 0 = .ok (.aload 4, 2) := by decide +kernel
theorem d_L_sum_2 : decode b_L_sum 2 = .ok (.iconst 0, 1) := by decide +kernel
theorem d_L_sum_3 : decode b_L_sum 3 = .ok (.aload_n 0, 1) := by decide +kernel
theorem d_L_sum_4 : decode b_L_sum 4 = .ok (.iload_n 1, 1) := by decide +kernel
theorem d_L_sum_5 : decode b_L_sum 5 = .ok (.iload_n 2, 1) := by decide +kernel
theorem d_L_sum_6 : decode b_L_sum 6 = .ok (.iload_n 3, 1) := by decide +kernel
theorem d_L_sum_7 : decode b_L_sum 7 = .ok (.invokevirtual 36, 3) := by decide +kernel
theorem d_L_sum_10 : decode b_L_sum 10 = .ok (.i2l, 1) := by decide +kernel
theorem d_L_sum_11 : decode b_L_sum 11 = .ok (.lastore, 1) := by decide +kernel
theorem d_L_sum_12 : decode b_L_sum 12 = .ok (.goto 7, 3) := by decide +kernel
theorem d_L_sum_15 : decode b_L_sum 15 = .ok (.astore 5, 2) := by decide +kernel
theorem d_L_sum_17 : decode b_L_sum 17 = .ok (.iconst 1, 1) := by decide +kernel
theorem d_L_sum_18 : decode b_L_sum 18 = .ok (.ireturn, 1) := by decide +kernel
theorem d_L_sum_19 : decode b_L_sum 19 = .ok (.iconst 0, 1) := by decide +kernel
theorem d_L_sum_20 : decode b_L_sum 20 = .ok (.ireturn, 1) := by decide +kernel
theorem d_L_has_0 : decode b_L_has 0 = .ok (.aload_n 3, 1) := by decide +kernel
theorem d_L_has_1 : decode b_L_has 1 = .ok (.iconst 0, 1) := by decide +kernel
theorem d_L_has_2 : decode b_L_has 2 = .ok (.aload_n 0, 1) := by decide +kernel
theorem d_L_has_3 : decode b_L_has 3 = .ok (.iload_n 1, 1) := by decide +kernel
theorem d_L_has_4 : decode b_L_has 4 = .ok (.iload_n 2, 1) := by decide +kernel
theorem d_L_has_5 : decode b_L_has 5 = .ok (.invokevirtual 39, 3) := by decide +kernel
theorem d_L_has_8 : decode b_L_has 8 = .ok (.i2l, 1) := by decide +kernel
theorem d_L_has_9 : decode b_L_has 9 = .ok (.lastore, 1) := by decide +kernel
theorem d_L_has_10 : decode b_L_has 10 = .ok (.goto 7, 3) := by decide +kernel
theorem d_L_has_13 : decode b_L_has 13 = .ok (.astore 4, 2) := by decide +kernel
theorem d_L_has_15 : decode b_L_has 15 = .ok (.iconst 1, 1) := by decide +kernel
theorem d_L_has_16 : decode b_L_has 16 = .ok (.ireturn, 1) := by decide +kernel
theorem d_L_has_17 : decode b_L_has 17 = .ok (.iconst 0, 1) := by decide +kernel
theorem d_L_has_18 : decode b_L_has 18 = .ok (.ireturn, 1) := by decide +kernel
theorem d_L_level_0 : decode b_L_level 0 = .ok (.aload_n 0, 1) := by decide +kernel
theorem d_L_level_1 : decode b_L_level 1 = .ok (.iload_n 1, 1) := by decide +kernel
theorem d_L_level_2 : decode b_L_level 2 = .ok (.iload_n 2, 1) := by decide +kernel
theorem d_L_level_3 : decode b_L_level 3 = .ok (.iload_n 3, 1) := by decide +kernel
theorem d_L_level_4 : decode b_L_level 4 = .ok (.iload 4, 2) := by decide +kernel
theorem d_L_level_6 : decode b_L_level 6 = .ok (.invokevirtual 42, 3) := by decide +kernel
theorem d_L_level_9 : decode b_L_level 9 = .ok (.goto 11, 3) := by decide +kernel
theorem d_L_level_12 : decode b_L_level 12 = .ok (.astore 5, 2) := by decide +kernel
theorem d_L_level_14 : decode b_L_level 14 = .ok (.iconst 1, 1) := by decide +kernel
theorem d_L_level_15 : decode b_L_level 15 = .ok (.ireturn, 1) := by decide +kernel
theorem d_L_level_16 : decode b_L_level 16 = .ok (.astore 5, 2) := by decide +kernel
theorem d_L_level_18 : decode b_L_level 18 = .ok (.iconst 2, 1) := by decide +kernel
theorem d_L_level_19 : decode b_L_level 19 = .ok (.ireturn, 1) := by decide +kernel
theorem d_L_level_20 : decode b_L_level 20 = .ok (.iconst 0, 1) := by decide +kernel
theorem d_L_level_21 : decode b_L_level 21 = .ok (.ireturn, 1) := by decide +kernel
theorem d_L_order_0 : decode b_L_order 0 = .ok (.aload_n 3, 1) := by decide +kernel
theorem d_L_order_1 : decode b_L_order 1 = .ok (.iconst 0, 1) := by decide +kernel
theorem d_L_order_2 : decode b_L_order 2 = .ok (.aload_n 0, 1) := by decide +kernel
theorem d_L_order_3 : decode b_L_order 3 = .ok (.iload_n 1, 1) := by decide +kernel
theorem d_L_order_4 : decode b_L_order 4 = .ok (.iload_n 2, 1) := by decide +kernel
theorem d_L_order_5 : decode b_L_order 5 = .ok (.invokevirtual 46, 3) := by decide +kernel
theorem d_L_order_8 : decode b_L_order 8 = .ok (.i2l, 1) := by decide +kernel
theorem d_L_order_9 : decode b_L_order 9 = .ok (.lastore, 1) := by decide +kernel
theorem d_L_order_10 : decode b_L_order 10 = .ok (.goto 7, 3) := by decide +kernel
theorem d_L_order_13 : decode b_L_order 13 = .ok (.astore 4, 2) := by decide +kernel
theorem d_L_order_15 : decode b_L_order 15 = .ok (.iconst 1, 1) := by decide +kernel
theorem d_L_order_16 : decode b_L_order 16 = .ok (.ireturn, 1) := by decide +kernel
theorem d_L_order_17 : decode b_L_order 17 = .ok (.iconst 0, 1) := by decide +kernel
theorem d_L_order_18 : decode b_L_order 18 = .ok (.ireturn, 1) := by decide +kernel
theorem d_L_deliver_0 : decode b_L_deliver 0 = .ok (.aload_n 3, 1) := by decide +kernel
theorem d_L_deliver_1 : decode b_L_deliver 1 = .ok (.iconst 0, 1) := by decide +kernel
theorem d_L_deliver_2 : decode b_L_deliver 2 = .ok (.aload_n 0, 1) := by decide +kernel
theorem d_L_deliver_3 : decode b_L_deliver 3 = .ok (.iload_n 1, 1) := by decide +kernel
theorem d_L_deliver_4 : decode b_L_deliver 4 = .ok (.iload_n 2, 1) := by decide +kernel
theorem d_L_deliver_5 : decode b_L_deliver 5 = .ok (.invokevirtual 49, 3) := by decide +kernel
theorem d_L_deliver_8 : decode b_L_deliver 8 = .ok (.i2l, 1) := by decide +kernel
theorem d_L_deliver_9 : decode b_L_deliver 9 = .ok (.lastore, 1) := by decide +kernel
theorem d_L_deliver_10 : decode b_L_deliver 10 = .ok (.goto 11, 3) := by decide +kernel
theorem d_L_deliver_13 : decode b_L_deliver 13 = .ok (.astore 4, 2) := by decide +kernel
theorem d_L_deliver_15 : decode b_L_deliver 15 = .ok (.iconst 1, 1) := by decide +kernel
theorem d_L_deliver_16 : decode b_L_deliver 16 = .ok (.ireturn, 1) := by decide +kernel
theorem d_L_deliver_17 : decode b_L_deliver 17 = .ok (.astore 4, 2) := by decide +kernel
theorem d_L_deliver_19 : decode b_L_deliver 19 = .ok (.iconst 2, 1) := by decide +kernel
theorem d_L_deliver_20 : decode b_L_deliver 20 = .ok (.ireturn, 1) := by decide +kernel
theorem d_L_deliver_21 : decode b_L_deliver 21 = .ok (.iconst 0, 1) := by decide +kernel
theorem d_L_deliver_22 : decode b_L_deliver 22 = .ok (.ireturn, 1) := by decide +kernel
theorem d_L_emergency_0 : decode b_L_emergency 0 = .ok (.aload 5, 2) := by decide +kernel
theorem d_L_emergency_2 : decode b_L_emergency 2 = .ok (.iconst 0, 1) := by decide +kernel
theorem d_L_emergency_3 : decode b_L_emergency 3 = .ok (.aload_n 0, 1) := by decide +kernel
theorem d_L_emergency_4 : decode b_L_emergency 4 = .ok (.iload_n 1, 1) := by decide +kernel
theorem d_L_emergency_5 : decode b_L_emergency 5 = .ok (.iload_n 2, 1) := by decide +kernel
theorem d_L_emergency_6 : decode b_L_emergency 6 = .ok (.iload_n 3, 1) := by decide +kernel
theorem d_L_emergency_7 : decode b_L_emergency 7 = .ok (.iload 4, 2) := by decide +kernel
theorem d_L_emergency_9 : decode b_L_emergency 9 = .ok (.invokevirtual 52, 3) := by decide +kernel
theorem d_L_emergency_12 : decode b_L_emergency 12 = .ok (.i2l, 1) := by decide +kernel
theorem d_L_emergency_13 : decode b_L_emergency 13 = .ok (.lastore, 1) := by decide +kernel
theorem d_L_emergency_14 : decode b_L_emergency 14 = .ok (.goto 15, 3) := by decide +kernel
theorem d_L_emergency_17 : decode b_L_emergency 17 = .ok (.astore 6, 2) := by decide +kernel
theorem d_L_emergency_19 : decode b_L_emergency 19 = .ok (.iconst 1, 1) := by decide +kernel
theorem d_L_emergency_20 : decode b_L_emergency 20 = .ok (.ireturn, 1) := by decide +kernel
theorem d_L_emergency_21 : decode b_L_emergency 21 = .ok (.astore 6, 2) := by decide +kernel
theorem d_L_emergency_23 : decode b_L_emergency 23 = .ok (.iconst 2, 1) := by decide +kernel
theorem d_L_emergency_24 : decode b_L_emergency 24 = .ok (.ireturn, 1) := by decide +kernel
theorem d_L_emergency_25 : decode b_L_emergency 25 = .ok (.astore 6, 2) := by decide +kernel
theorem d_L_emergency_27 : decode b_L_emergency 27 = .ok (.iconst 3, 1) := by decide +kernel
theorem d_L_emergency_28 : decode b_L_emergency 28 = .ok (.ireturn, 1) := by decide +kernel
theorem d_L_emergency_29 : decode b_L_emergency 29 = .ok (.iconst 0, 1) := by decide +kernel
theorem d_L_emergency_30 : decode b_L_emergency 30 = .ok (.ireturn, 1) := by decide +kernel
theorem d_L_second_0 : decode b_L_second 0 = .ok (.aload_n 3, 1) := by decide +kernel
theorem d_L_second_1 : decode b_L_second 1 = .ok (.iconst 0, 1) := by decide +kernel
theorem d_L_second_2 : decode b_L_second 2 = .ok (.aload_n 0, 1) := by decide +kernel
theorem d_L_second_3 : decode b_L_second 3 = .ok (.iload_n 1, 1) := by decide +kernel
theorem d_L_second_4 : decode b_L_second 4 = .ok (.iload_n 2, 1) := by decide +kernel
theorem d_L_second_5 : decode b_L_second 5 = .ok (.invokevirtual 56, 3) := by decide +kernel
theorem d_L_second_8 : decode b_L_second 8 = .ok (.i2l, 1) := by decide +kernel
theorem d_L_second_9 : decode b_L_second 9 = .ok (.lastore, 1) := by decide +kernel
theorem d_L_second_10 : decode b_L_second 10 = .ok (.goto 15, 3) := by decide +kernel
theorem d_L_second_13 : decode b_L_second 13 = .ok (.astore 4, 2) := by decide +kernel
theorem d_L_second_15 : decode b_L_second 15 = .ok (.iconst 1, 1) := by decide +kernel
theorem d_L_second_16 : decode b_L_second 16 = .ok (.ireturn, 1) := by decide +kernel
theorem d_L_second_17 : decode b_L_second 17 = .ok (.astore 4, 2) := by decide +kernel
theorem d_L_second_19 : decode b_L_second 19 = .ok (.iconst 2, 1) := by decide +kernel
theorem d_L_second_20 : decode b_L_second 20 = .ok (.ireturn, 1) := by decide +kernel
theorem d_L_second_21 : decode b_L_second 21 = .ok (.astore 4, 2) := by decide +kernel
theorem d_L_second_23 : decode b_L_second 23 = .ok (.iconst 3, 1) := by decide +kernel
theorem d_L_second_24 : decode b_L_second 24 = .ok (.ireturn, 1) := by decide +kernel
theorem d_L_second_25 : decode b_L_second 25 = .ok (.iconst 0, 1) := by decide +kernel
theorem d_L_second_26 : decode b_L_second 26 = .ok (.ireturn, 1) := by decide +kernel
theorem d_L_count_0 : decode b_L_count 0 = .ok (.aload 5, 2) := by decide +kernel
theorem d_L_count_2 : decode b_L_count 2 = .ok (.iconst 0, 1) := by decide +kernel
theorem d_L_count_3 : decode b_L_count 3 = .ok (.aload_n 0, 1) := by decide +kernel
theorem d_L_count_4 : decode b_L_count 4 = .ok (.iload_n 1, 1) := by decide +kernel
theorem d_L_count_5 : decode b_L_count 5 = .ok (.iload_n 2, 1) := by decide +kernel
theorem d_L_count_6 : decode b_L_count 6 = .ok (.iload_n 3, 1) := by decide +kernel
theorem d_L_count_7 : decode b_L_count 7 = .ok (.iload 4, 2) := by decide +kernel
theorem d_L_count_9 : decode b_L_count 9 = .ok (.invokevirtual 59, 3) := by decide +kernel
theorem d_L_count_12 : decode b_L_count 12 = .ok (.i2l, 1) := by decide +kernel
theorem d_L_count_13 : decode b_L_count 13 = .ok (.lastore, 1) := by decide +kernel
theorem d_L_count_14 : decode b_L_count 14 = .ok (.goto 15, 3) := by decide +kernel
theorem d_L_count_17 : decode b_L_count 17 = .ok (.astore 6, 2) := by decide +kernel
theorem d_L_count_19 : decode b_L_count 19 = .ok (.iconst 1, 1) := by decide +kernel
theorem d_L_count_20 : decode b_L_count 20 = .ok (.ireturn, 1) := by decide +kernel
theorem d_L_count_21 : decode b_L_count 21 = .ok (.astore 6, 2) := by decide +kernel
theorem d_L_count_23 : decode b_L_count 23 = .ok (.iconst 2, 1) := by decide +kernel
theorem d_L_count_24 : decode b_L_count 24 = .ok (.ireturn, 1) := by decide +kernel
theorem d_L_count_25 : decode b_L_count 25 = .ok (.astore 6, 2) := by decide +kernel
theorem d_L_count_27 : decode b_L_count 27 = .ok (.iconst 3, 1) := by decide +kernel
theorem d_L_count_28 : decode b_L_count 28 = .ok (.ireturn, 1) := by decide +kernel
theorem d_L_count_29 : decode b_L_count 29 = .ok (.iconst 0, 1) := by decide +kernel
theorem d_L_count_30 : decode b_L_count 30 = .ok (.ireturn, 1) := by decide +kernel
theorem d_L_difference_0 : decode b_L_difference 0 = .ok (.aload_n 3, 1) := by decide +kernel
theorem d_L_difference_1 : decode b_L_difference 1 = .ok (.iconst 0, 1) := by decide +kernel
theorem d_L_difference_2 : decode b_L_difference 2 = .ok (.aload_n 0, 1) := by decide +kernel
theorem d_L_difference_3 : decode b_L_difference 3 = .ok (.iload_n 1, 1) := by decide +kernel
theorem d_L_difference_4 : decode b_L_difference 4 = .ok (.iload_n 2, 1) := by decide +kernel
theorem d_L_difference_5 : decode b_L_difference 5 = .ok (.invokevirtual 62, 3) := by decide +kernel
theorem d_L_difference_8 : decode b_L_difference 8 = .ok (.i2l, 1) := by decide +kernel
theorem d_L_difference_9 : decode b_L_difference 9 = .ok (.lastore, 1) := by decide +kernel
theorem d_L_difference_10 : decode b_L_difference 10 = .ok (.goto 7, 3) := by decide +kernel
theorem d_L_difference_13 : decode b_L_difference 13 = .ok (.astore 4, 2) := by decide +kernel
theorem d_L_difference_15 : decode b_L_difference 15 = .ok (.iconst 1, 1) := by decide +kernel
theorem d_L_difference_16 : decode b_L_difference 16 = .ok (.ireturn, 1) := by decide +kernel
theorem d_L_difference_17 : decode b_L_difference 17 = .ok (.iconst 0, 1) := by decide +kernel
theorem d_L_difference_18 : decode b_L_difference 18 = .ok (.ireturn, 1) := by decide +kernel
theorem d_L_kit_0 : decode b_L_kit 0 = .ok (.aload_n 0, 1) := by decide +kernel
theorem d_L_kit_1 : decode b_L_kit 1 = .ok (.iload_n 1, 1) := by decide +kernel
theorem d_L_kit_2 : decode b_L_kit 2 = .ok (.iload_n 2, 1) := by decide +kernel
theorem d_L_kit_3 : decode b_L_kit 3 = .ok (.iload_n 3, 1) := by decide +kernel
theorem d_L_kit_4 : decode b_L_kit 4 = .ok (.invokevirtual 65, 3) := by decide +kernel
theorem d_L_kit_7 : decode b_L_kit 7 = .ok (.goto 11, 3) := by decide +kernel
theorem d_L_kit_10 : decode b_L_kit 10 = .ok (.astore 4, 2) := by decide +kernel
theorem d_L_kit_12 : decode b_L_kit 12 = .ok (.iconst 1, 1) := by decide +kernel
theorem d_L_kit_13 : decode b_L_kit 13 = .ok (.ireturn, 1) := by decide +kernel
theorem d_L_kit_14 : decode b_L_kit 14 = .ok (.astore 4, 2) := by decide +kernel
theorem d_L_kit_16 : decode b_L_kit 16 = .ok (.iconst 2, 1) := by decide +kernel
theorem d_L_kit_17 : decode b_L_kit 17 = .ok (.ireturn, 1) := by decide +kernel
theorem d_L_kit_18 : decode b_L_kit 18 = .ok (.iconst 0, 1) := by decide +kernel
theorem d_L_kit_19 : decode b_L_kit 19 = .ok (.ireturn, 1) := by decide +kernel
theorem d_L_give_0 : decode b_L_give 0 = .ok (.aload_n 3, 1) := by decide +kernel
theorem d_L_give_1 : decode b_L_give 1 = .ok (.iconst 0, 1) := by decide +kernel
theorem d_L_give_2 : decode b_L_give 2 = .ok (.aload_n 0, 1) := by decide +kernel
theorem d_L_give_3 : decode b_L_give 3 = .ok (.iload_n 1, 1) := by decide +kernel
theorem d_L_give_4 : decode b_L_give 4 = .ok (.iload_n 2, 1) := by decide +kernel
theorem d_L_give_5 : decode b_L_give 5 = .ok (.invokevirtual 69, 3) := by decide +kernel
theorem d_L_give_8 : decode b_L_give 8 = .ok (.i2l, 1) := by decide +kernel
theorem d_L_give_9 : decode b_L_give 9 = .ok (.lastore, 1) := by decide +kernel
theorem d_L_give_10 : decode b_L_give 10 = .ok (.goto 11, 3) := by decide +kernel
theorem d_L_give_13 : decode b_L_give 13 = .ok (.astore 4, 2) := by decide +kernel
theorem d_L_give_15 : decode b_L_give 15 = .ok (.iconst 1, 1) := by decide +kernel
theorem d_L_give_16 : decode b_L_give 16 = .ok (.ireturn, 1) := by decide +kernel
theorem d_L_give_17 : decode b_L_give 17 = .ok (.astore 4, 2) := by decide +kernel
theorem d_L_give_19 : decode b_L_give 19 = .ok (.iconst 2, 1) := by decide +kernel
theorem d_L_give_20 : decode b_L_give 20 = .ok (.ireturn, 1) := by decide +kernel
theorem d_L_give_21 : decode b_L_give 21 = .ok (.iconst 0, 1) := by decide +kernel
theorem d_L_give_22 : decode b_L_give 22 = .ok (.ireturn, 1) := by decide +kernel
theorem d_L_back_0 : decode b_L_back 0 = .ok (.aload 4, 2) := by decide +kernel
theorem d_L_back_2 : decode b_L_back 2 = .ok (.iconst 0, 1) := by decide +kernel
theorem d_L_back_3 : decode b_L_back 3 = .ok (.aload_n 0, 1) := by decide +kernel
theorem d_L_back_4 : decode b_L_back 4 = .ok (.iload_n 1, 1) := by decide +kernel
theorem d_L_back_5 : decode b_L_back 5 = .ok (.iload_n 2, 1) := by decide +kernel
theorem d_L_back_6 : decode b_L_back 6 = .ok (.iload_n 3, 1) := by decide +kernel
theorem d_L_back_7 : decode b_L_back 7 = .ok (.invokevirtual 72, 3) := by decide +kernel
theorem d_L_back_10 : decode b_L_back 10 = .ok (.ifCond .eq 7, 3) := by decide +kernel
theorem d_L_back_13 : decode b_L_back 13 = .ok (.lconst 1, 1) := by decide +kernel
theorem d_L_back_14 : decode b_L_back 14 = .ok (.goto 4, 3) := by decide +kernel
theorem d_L_back_17 : decode b_L_back 17 = .ok (.lconst 0, 1) := by decide +kernel
theorem d_L_back_18 : decode b_L_back 18 = .ok (.lastore, 1) := by decide +kernel
theorem d_L_back_19 : decode b_L_back 19 = .ok (.goto 15, 3) := by decide +kernel
theorem d_L_back_22 : decode b_L_back 22 = .ok (.astore 5, 2) := by decide +kernel
theorem d_L_back_24 : decode b_L_back 24 = .ok (.iconst 1, 1) := by decide +kernel
theorem d_L_back_25 : decode b_L_back 25 = .ok (.ireturn, 1) := by decide +kernel
theorem d_L_back_26 : decode b_L_back 26 = .ok (.astore 5, 2) := by decide +kernel
theorem d_L_back_28 : decode b_L_back 28 = .ok (.iconst 2, 1) := by decide +kernel
theorem d_L_back_29 : decode b_L_back 29 = .ok (.ireturn, 1) := by decide +kernel
theorem d_L_back_30 : decode b_L_back 30 = .ok (.astore 5, 2) := by decide +kernel
theorem d_L_back_32 : decode b_L_back 32 = .ok (.iconst 3, 1) := by decide +kernel
theorem d_L_back_33 : decode b_L_back 33 = .ok (.ireturn, 1) := by decide +kernel
theorem d_L_back_34 : decode b_L_back 34 = .ok (.iconst 0, 1) := by decide +kernel
theorem d_L_back_35 : decode b_L_back 35 = .ok (.ireturn, 1) := by decide +kernel
theorem d_L_waste_0 : decode b_L_waste 0 = .ok (.aload 5, 2) := by decide +kernel
theorem d_L_waste_2 : decode b_L_waste 2 = .ok (.iconst 0, 1) := by decide +kernel
theorem d_L_waste_3 : decode b_L_waste 3 = .ok (.aload_n 0, 1) := by decide +kernel
theorem d_L_waste_4 : decode b_L_waste 4 = .ok (.iload_n 1, 1) := by decide +kernel
theorem d_L_waste_5 : decode b_L_waste 5 = .ok (.iload_n 2, 1) := by decide +kernel
theorem d_L_waste_6 : decode b_L_waste 6 = .ok (.iload_n 3, 1) := by decide +kernel
theorem d_L_waste_7 : decode b_L_waste 7 = .ok (.iload 4, 2) := by decide +kernel
theorem d_L_waste_9 : decode b_L_waste 9 = .ok (.invokevirtual 76, 3) := by decide +kernel
theorem d_L_waste_12 : decode b_L_waste 12 = .ok (.i2l, 1) := by decide +kernel
theorem d_L_waste_13 : decode b_L_waste 13 = .ok (.lastore, 1) := by decide +kernel
theorem d_L_waste_14 : decode b_L_waste 14 = .ok (.goto 15, 3) := by decide +kernel
theorem d_L_waste_17 : decode b_L_waste 17 = .ok (.astore 6, 2) := by decide +kernel
theorem d_L_waste_19 : decode b_L_waste 19 = .ok (.iconst 1, 1) := by decide +kernel
theorem d_L_waste_20 : decode b_L_waste 20 = .ok (.ireturn, 1) := by decide +kernel
theorem d_L_waste_21 : decode b_L_waste 21 = .ok (.astore 6, 2) := by decide +kernel
theorem d_L_waste_23 : decode b_L_waste 23 = .ok (.iconst 2, 1) := by decide +kernel
theorem d_L_waste_24 : decode b_L_waste 24 = .ok (.ireturn, 1) := by decide +kernel
theorem d_L_waste_25 : decode b_L_waste 25 = .ok (.astore 6, 2) := by decide +kernel
theorem d_L_waste_27 : decode b_L_waste 27 = .ok (.iconst 3, 1) := by decide +kernel
theorem d_L_waste_28 : decode b_L_waste 28 = .ok (.ireturn, 1) := by decide +kernel
theorem d_L_waste_29 : decode b_L_waste 29 = .ok (.iconst 0, 1) := by decide +kernel
theorem d_L_waste_30 : decode b_L_waste 30 = .ok (.ireturn, 1) := by decide +kernel
theorem d_L_lotAt_0 : decode b_L_lotAt 0 = .ok (.aload_n 3, 1) := by decide +kernel
theorem d_L_lotAt_1 : decode b_L_lotAt 1 = .ok (.iconst 0, 1) := by decide +kernel
theorem d_L_lotAt_2 : decode b_L_lotAt 2 = .ok (.aload_n 0, 1) := by decide +kernel
theorem d_L_lotAt_3 : decode b_L_lotAt 3 = .ok (.iload_n 1, 1) := by decide +kernel
theorem d_L_lotAt_4 : decode b_L_lotAt 4 = .ok (.iload_n 2, 1) := by decide +kernel
theorem d_L_lotAt_5 : decode b_L_lotAt 5 = .ok (.invokevirtual 79, 3) := by decide +kernel
theorem d_L_lotAt_8 : decode b_L_lotAt 8 = .ok (.i2l, 1) := by decide +kernel
theorem d_L_lotAt_9 : decode b_L_lotAt 9 = .ok (.lastore, 1) := by decide +kernel
theorem d_L_lotAt_10 : decode b_L_lotAt 10 = .ok (.goto 7, 3) := by decide +kernel
theorem d_L_lotAt_13 : decode b_L_lotAt 13 = .ok (.astore 4, 2) := by decide +kernel
theorem d_L_lotAt_15 : decode b_L_lotAt 15 = .ok (.iconst 1, 1) := by decide +kernel
theorem d_L_lotAt_16 : decode b_L_lotAt 16 = .ok (.ireturn, 1) := by decide +kernel
theorem d_L_lotAt_17 : decode b_L_lotAt 17 = .ok (.iconst 0, 1) := by decide +kernel
theorem d_L_lotAt_18 : decode b_L_lotAt 18 = .ok (.ireturn, 1) := by decide +kernel
theorem d_L_row_0 : decode b_L_row 0 = .ok (.aload_n 3, 1) := by decide +kernel
theorem d_L_row_1 : decode b_L_row 1 = .ok (.iconst 0, 1) := by decide +kernel
theorem d_L_row_2 : decode b_L_row 2 = .ok (.aload_n 0, 1) := by decide +kernel
theorem d_L_row_3 : decode b_L_row 3 = .ok (.iload_n 1, 1) := by decide +kernel
theorem d_L_row_4 : decode b_L_row 4 = .ok (.iload_n 2, 1) := by decide +kernel
theorem d_L_row_5 : decode b_L_row 5 = .ok (.invokevirtual 82, 3) := by decide +kernel
theorem d_L_row_8 : decode b_L_row 8 = .ok (.i2l, 1) := by decide +kernel
theorem d_L_row_9 : decode b_L_row 9 = .ok (.lastore, 1) := by decide +kernel
theorem d_L_row_10 : decode b_L_row 10 = .ok (.goto 15, 3) := by decide +kernel
theorem d_L_row_13 : decode b_L_row 13 = .ok (.astore 4, 2) := by decide +kernel
theorem d_L_row_15 : decode b_L_row 15 = .ok (.iconst 1, 1) := by decide +kernel
theorem d_L_row_16 : decode b_L_row 16 = .ok (.ireturn, 1) := by decide +kernel
theorem d_L_row_17 : decode b_L_row 17 = .ok (.astore 4, 2) := by decide +kernel
theorem d_L_row_19 : decode b_L_row 19 = .ok (.iconst 2, 1) := by decide +kernel
theorem d_L_row_20 : decode b_L_row 20 = .ok (.ireturn, 1) := by decide +kernel
theorem d_L_row_21 : decode b_L_row 21 = .ok (.astore 4, 2) := by decide +kernel
theorem d_L_row_23 : decode b_L_row 23 = .ok (.iconst 3, 1) := by decide +kernel
theorem d_L_row_24 : decode b_L_row 24 = .ok (.ireturn, 1) := by decide +kernel
theorem d_L_row_25 : decode b_L_row 25 = .ok (.iconst 0, 1) := by decide +kernel
theorem d_L_row_26 : decode b_L_row 26 = .ok (.ireturn, 1) := by decide +kernel
theorem d_L_dip_0 : decode b_L_dip 0 = .ok (.aload_n 2, 1) := by decide +kernel
theorem d_L_dip_1 : decode b_L_dip 1 = .ok (.iconst 0, 1) := by decide +kernel
theorem d_L_dip_2 : decode b_L_dip 2 = .ok (.aload_n 0, 1) := by decide +kernel
theorem d_L_dip_3 : decode b_L_dip 3 = .ok (.iload_n 1, 1) := by decide +kernel
theorem d_L_dip_4 : decode b_L_dip 4 = .ok (.invokevirtual 85, 3) := by decide +kernel
theorem d_L_dip_7 : decode b_L_dip 7 = .ok (.i2l, 1) := by decide +kernel
theorem d_L_dip_8 : decode b_L_dip 8 = .ok (.lastore, 1) := by decide +kernel
theorem d_L_dip_9 : decode b_L_dip 9 = .ok (.goto 6, 3) := by decide +kernel
theorem d_L_dip_12 : decode b_L_dip 12 = .ok (.astore_n 3, 1) := by decide +kernel
theorem d_L_dip_13 : decode b_L_dip 13 = .ok (.iconst 1, 1) := by decide +kernel
theorem d_L_dip_14 : decode b_L_dip 14 = .ok (.ireturn, 1) := by decide +kernel
theorem d_L_dip_15 : decode b_L_dip 15 = .ok (.iconst 0, 1) := by decide +kernel
theorem d_L_dip_16 : decode b_L_dip 16 = .ok (.ireturn, 1) := by decide +kernel
theorem d_L_tick_0 : decode b_L_tick 0 = .ok (.aload_n 2, 1) := by decide +kernel
theorem d_L_tick_1 : decode b_L_tick 1 = .ok (.iconst 0, 1) := by decide +kernel
theorem d_L_tick_2 : decode b_L_tick 2 = .ok (.aload_n 0, 1) := by decide +kernel
theorem d_L_tick_3 : decode b_L_tick 3 = .ok (.iload_n 1, 1) := by decide +kernel
theorem d_L_tick_4 : decode b_L_tick 4 = .ok (.invokevirtual 89, 3) := by decide +kernel
theorem d_L_tick_7 : decode b_L_tick 7 = .ok (.i2l, 1) := by decide +kernel
theorem d_L_tick_8 : decode b_L_tick 8 = .ok (.lastore, 1) := by decide +kernel
theorem d_L_tick_9 : decode b_L_tick 9 = .ok (.goto 6, 3) := by decide +kernel
theorem d_L_tick_12 : decode b_L_tick 12 = .ok (.astore_n 3, 1) := by decide +kernel
theorem d_L_tick_13 : decode b_L_tick 13 = .ok (.iconst 1, 1) := by decide +kernel
theorem d_L_tick_14 : decode b_L_tick 14 = .ok (.ireturn, 1) := by decide +kernel
theorem d_L_tick_15 : decode b_L_tick 15 = .ok (.iconst 0, 1) := by decide +kernel
theorem d_L_tick_16 : decode b_L_tick 16 = .ok (.ireturn, 1) := by decide +kernel
