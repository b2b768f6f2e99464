theorem d_W_init_0 : decode b_W_init 0 = .ok (.aload_n 0, 1) := by decide +kernel
theorem d_W_init_1 : decode b_W_init 1 = .ok (.invokespecial 1, 3) := by decide +kernel
theorem d_W_init_4 : decode b_W_init 4 = .ok (.aload_n 0, 1) := by decide +kernel
theorem d_W_init_5 : decode b_W_init 5 = .ok (.iconst 0, 1) := by decide +kernel
theorem d_W_init_6 : decode b_W_init 6 = .ok (.iload_n 1, 1) := by decide +kernel
theorem d_W_init_7 : decode b_W_init 7 = .ok (.invokestatic 7, 3) := by decide +kernel
theorem d_W_init_10 : decode b_W_init 10 = .ok (.putfield 13, 3) := by decide +kernel
theorem d_W_init_13 : decode b_W_init 13 = .ok (.aload_n 0, 1) := by decide +kernel
theorem d_W_init_14 : decode b_W_init 14 = .ok (.aload_n 0, 1) := by decide +kernel
theorem d_W_init_15 : decode b_W_init 15 = .ok (.getfield 13, 3) := by decide +kernel
theorem d_W_init_18 : decode b_W_init 18 = .ok (.iconst 5, 1) := by decide +kernel
theorem d_W_init_19 : decode b_W_init 19 = .ok (.imul, 1) := by decide +kernel
theorem d_W_init_20 : decode b_W_init 20 = .ok (.newarray .int, 2) := by decide +kernel
theorem d_W_init_22 : decode b_W_init 22 = .ok (.putfield 19, 3) := by decide +kernel
theorem d_W_init_25 : decode b_W_init 25 = .ok (.return_, 1) := by decide +kernel
theorem d_W_made_0 : decode b_W_made 0 = .ok (.aload_n 0, 1) := by decide +kernel
theorem d_W_made_1 : decode b_W_made 1 = .ok (.getfield 23, 3) := by decide +kernel
theorem d_W_made_4 : decode b_W_made 4 = .ok (.ireturn, 1) := by decide +kernel
theorem d_W_isFull_0 : decode b_W_isFull 0 = .ok (.aload_n 0, 1) := by decide +kernel
theorem d_W_isFull_1 : decode b_W_isFull 1 = .ok (.getfield 23, 3) := by decide +kernel
theorem d_W_isFull_4 : decode b_W_isFull 4 = .ok (.aload_n 0, 1) := by decide +kernel
theorem d_W_isFull_5 : decode b_W_isFull 5 = .ok (.getfield 13, 3) := by decide +kernel
theorem d_W_isFull_8 : decode b_W_isFull 8 = .ok (.if_icmp .lt 7, 3) := by decide +kernel
theorem d_W_isFull_11 : decode b_W_isFull 11 = .ok (.iconst 1, 1) := by decide +kernel
theorem d_W_isFull_12 : decode b_W_isFull 12 = .ok (.goto 4, 3) := by decide +kernel
theorem d_W_isFull_15 : decode b_W_isFull 15 = .ok (.iconst 0, 1) := by decide +kernel
theorem d_W_isFull_16 : decode b_W_isFull 16 = .ok (.ireturn, 1) := by decide +kernel
theorem d_W_isMade_0 : decode b_W_isMade 0 = .ok (.iload_n 1, 1) := by decide +kernel
theorem d_W_isMade_1 : decode b_W_isMade 1 = .ok (.ifCond .lt 15, 3) := by decide +kernel
theorem d_W_isMade_4 : decode b_W_isMade 4 = .ok (.iload_n 1, 1) := by decide +kernel
theorem d_W_isMade_5 : decode b_W_isMade 5 = .ok (.aload_n 0, 1) := by decide +kernel
theorem d_W_isMade_6 : decode b_W_isMade 6 = .ok (.getfield 23, 3) := by decide +kernel
theorem d_W_isMade_9 : decode b_W_isMade 9 = .ok (.if_icmp .ge 7, 3) := by decide +kernel
theorem d_W_isMade_12 : decode b_W_isMade 12 = .ok (.iconst 1, 1) := by decide +kernel
theorem d_W_isMade_13 : decode b_W_isMade 13 = .ok (.goto 4, 3) := by decide +kernel
theorem d_W_isMade_16 : decode b_W_isMade 16 = .ok (.iconst 0, 1) := by decide +kernel
theorem d_W_isMade_17 : decode b_W_isMade 17 = .ok (.ireturn, 1) := by decide +kernel
theorem d_W_isColumn_0 : decode b_W_isColumn 0 = .ok (.iload_n 1, 1) := by decide +kernel
theorem d_W_isColumn_1 : decode b_W_isColumn 1 = .ok (.ifCond .lt 12, 3) := by decide +kernel
theorem d_W_isColumn_4 : decode b_W_isColumn 4 = .ok (.iload_n 1, 1) := by decide +kernel
theorem d_W_isColumn_5 : decode b_W_isColumn 5 = .ok (.iconst 5, 1) := by decide +kernel
theorem d_W_isColumn_6 : decode b_W_isColumn 6 = .ok (.if_icmp .ge 7, 3) := by decide +kernel
theorem d_W_isColumn_9 : decode b_W_isColumn 9 = .ok (.iconst 1, 1) := by decide +kernel
theorem d_W_isColumn_10 : decode b_W_isColumn 10 = .ok (.goto 4, 3) := by decide +kernel
theorem d_W_isColumn_13 : decode b_W_isColumn 13 = .ok (.iconst 0, 1) := by decide +kernel
theorem d_W_isColumn_14 : decode b_W_isColumn 14 = .ok (.ireturn, 1) := by decide +kernel
theorem d_W_at_0 : decode b_W_at 0 = .ok (.aload_n 0, 1) := by decide +kernel
theorem d_W_at_1 : decode b_W_at 1 = .ok (.getfield 19, 3) := by decide +kernel
theorem d_W_at_4 : decode b_W_at 4 = .ok (.iload_n 1, 1) := by decide +kernel
theorem d_W_at_5 : decode b_W_at 5 = .ok (.iconst 5, 1) := by decide +kernel
theorem d_W_at_6 : decode b_W_at 6 = .ok (.imul, 1) := by decide +kernel
theorem d_W_at_7 : decode b_W_at 7 = .ok (.iload_n 2, 1) := by decide +kernel
theorem d_W_at_8 : decode b_W_at 8 = .ok (.iadd, 1) := by decide +kernel
theorem d_W_at_9 : decode b_W_at 9 = .ok (.iaload, 1) := by decide +kernel
theorem d_W_at_10 : decode b_W_at 10 = .ok (.ireturn, 1) := by decide +kernel
theorem d_W_put_0 : decode b_W_put 0 = .ok (.aload_n 0, 1) := by decide +kernel
theorem d_W_put_1 : decode b_W_put 1 = .ok (.getfield 19, 3) := by decide +kernel
theorem d_W_put_4 : decode b_W_put 4 = .ok (.iload_n 1, 1) := by decide +kernel
theorem d_W_put_5 : decode b_W_put 5 = .ok (.iconst 5, 1) := by decide +kernel
theorem d_W_put_6 : decode b_W_put 6 = .ok (.imul, 1) := by decide +kernel
theorem d_W_put_7 : decode b_W_put 7 = .ok (.iload_n 2, 1) := by decide +kernel
theorem d_W_put_8 : decode b_W_put 8 = .ok (.iadd, 1) := by decide +kernel
theorem d_W_put_9 : decode b_W_put 9 = .ok (.iload_n 3, 1) := by decide +kernel
theorem d_W_put_10 : decode b_W_put 10 = .ok (.iastore, 1) := by decide +kernel
theorem d_W_put_11 : decode b_W_put 11 = .ok (.return_, 1) := by decide +kernel
theorem d_W_add_0 : decode b_W_add 0 = .ok (.aload_n 0, 1) := by decide +kernel
theorem d_W_add_1 : decode b_W_add 1 = .ok (.getfield 23, 3) := by decide +kernel
theorem d_W_add_4 : decode b_W_add 4 = .ok (.istore 6, 2) := by decide +kernel
theorem d_W_add_6 : decode b_W_add 6 = .ok (.aload_n 0, 1) := by decide +kernel
theorem d_W_add_7 : decode b_W_add 7 = .ok (.iload 6, 2) := by decide +kernel
theorem d_W_add_9 : decode b_W_add 9 = .ok (.iconst 0, 1) := by decide +kernel
theorem d_W_add_10 : decode b_W_add 10 = .ok (.iload_n 1, 1) := by decide +kernel
theorem d_W_add_11 : decode b_W_add 11 = .ok (.invokevirtual 26, 3) := by decide +kernel
theorem d_W_add_14 : decode b_W_add 14 = .ok (.aload_n 0, 1) := by decide +kernel
theorem d_W_add_15 : decode b_W_add 15 = .ok (.iload 6, 2) := by decide +kernel
theorem d_W_add_17 : decode b_W_add 17 = .ok (.iconst 1, 1) := by decide +kernel
theorem d_W_add_18 : decode b_W_add 18 = .ok (.iload_n 2, 1) := by decide +kernel
theorem d_W_add_19 : decode b_W_add 19 = .ok (.invokevirtual 26, 3) := by decide +kernel
theorem d_W_add_22 : decode b_W_add 22 = .ok (.aload_n 0, 1) := by decide +kernel
theorem d_W_add_23 : decode b_W_add 23 = .ok (.iload 6, 2) := by decide +kernel
theorem d_W_add_25 : decode b_W_add 25 = .ok (.iconst 2, 1) := by decide +kernel
theorem d_W_add_26 : decode b_W_add 26 = .ok (.iload_n 3, 1) := by decide +kernel
theorem d_W_add_27 : decode b_W_add 27 = .ok (.invokevirtual 26, 3) := by decide +kernel
theorem d_W_add_30 : decode b_W_add 30 = .ok (.aload_n 0, 1) := by decide +kernel
theorem d_W_add_31 : decode b_W_add 31 = .ok (.iload 6, 2) := by decide +kernel
theorem d_W_add_33 : decode b_W_add 33 = .ok (.iconst 3, 1) := by decide +kernel
theorem d_W_add_34 : decode b_W_add 34 = .ok (.iload 4, 2) := by decide +kernel
theorem d_W_add_36 : decode b_W_add 36 = .ok (.invokevirtual 26, 3) := by decide +kernel
theorem d_W_add_39 : decode b_W_add 39 = .ok (.aload_n 0, 1) := by decide +kernel
theorem d_W_add_40 : decode b_W_add 40 = .ok (.iload 6, 2) := by decide +kernel
theorem d_W_add_42 : decode b_W_add 42 = .ok (.iconst 4, 1) := by decide +kernel
theorem d_W_add_43 : decode b_W_add 43 = .ok (.iload 5, 2) := by decide +kernel
theorem d_W_add_45 : decode b_W_add 45 = .ok (.invokevirtual 26, 3) := by decide +kernel
theorem d_W_add_48 : decode b_W_add 48 = .ok (.aload_n 0, 1) := by decide +kernel
theorem d_W_add_49 : decode b_W_add 49 = .ok (.dup, 1) := by decide +kernel
theorem d_W_add_50 : decode b_W_add 50 = .ok (.getfield 23, 3) := by decide +kernel
theorem d_W_add_53 : decode b_W_add 53 = .ok (.iconst 1, 1) := by decide +kernel
theorem d_W_add_54 : decode b_W_add 54 = .ok (.iadd, 1) := by decide +kernel
theorem d_W_add_55 : decode b_W_add 55 = .ok (.putfield 23, 3) := by decide +kernel
theorem d_W_add_58 : decode b_W_add 58 = .ok (.iload 6, 2) := by decide +kernel
theorem d_W_add_60 : decode b_W_add 60 = .ok (.ireturn, 1) := by decide +kernel
theorem d_H_init_0 : decode b_H_init 0 = .ok (.aload_n 0, 1) := by decide +kernel
theorem d_H_init_1 : decode b_H_init 1 = .ok (.invokespecial 3, 3) := by decide +kernel
theorem d_H_init_4 : decode b_H_init 4 = .ok (.aload_n 0, 1) := by decide +kernel
theorem d_H_init_5 : decode b_H_init 5 = .ok (.bipush 10, 2) := by decide +kernel
theorem d_H_init_7 : decode b_H_init 7 = .ok (.newarray .int, 2) := by decide +kernel
theorem d_H_init_9 : decode b_H_init 9 = .ok (.putfield 9, 3) := by decide +kernel
theorem d_H_init_12 : decode b_H_init 12 = .ok (.aload_n 0, 1) := by decide +kernel
theorem d_H_init_13 : decode b_H_init 13 = .ok (.bipush 10, 2) := by decide +kernel
theorem d_H_init_15 : decode b_H_init 15 = .ok (.newarray .int, 2) := by decide +kernel
theorem d_H_init_17 : decode b_H_init 17 = .ok (.putfield 15, 3) := by decide +kernel
theorem d_H_init_20 : decode b_H_init 20 = .ok (.return_, 1) := by decide +kernel
theorem d_H_isFull_0 : decode b_H_isFull 0 = .ok (.aload_n 0, 1) := by decide +kernel
theorem d_H_isFull_1 : decode b_H_isFull 1 = .ok (.getfield 18, 3) := by decide +kernel
theorem d_H_isFull_4 : decode b_H_isFull 4 = .ok (.bipush 10, 2) := by decide +kernel
theorem d_H_isFull_6 : decode b_H_isFull 6 = .ok (.if_icmp .lt 7, 3) := by decide +kernel
theorem d_H_isFull_9 : decode b_H_isFull 9 = .ok (.iconst 1, 1) := by decide +kernel
theorem d_H_isFull_10 : decode b_H_isFull 10 = .ok (.goto 4, 3) := by decide +kernel
theorem d_H_isFull_13 : decode b_H_isFull 13 = .ok (.iconst 0, 1) := by decide +kernel
theorem d_H_isFull_14 : decode b_H_isFull 14 = .ok (.ireturn, 1) := by decide +kernel
theorem d_H_isBelow_0 : decode b_H_isBelow 0 = .ok (.aload_n 0, 1) := by decide +kernel
theorem d_H_isBelow_1 : decode b_H_isBelow 1 = .ok (.getfield 18, 3) := by decide +kernel
theorem d_H_isBelow_4 : decode b_H_isBelow 4 = .ok (.ifCond .eq 33, 3) := by decide +kernel
theorem d_H_isBelow_7 : decode b_H_isBelow 7 = .ok (.aload_n 0, 1) := by decide +kernel
theorem d_H_isBelow_8 : decode b_H_isBelow 8 = .ok (.getfield 9, 3) := by decide +kernel
theorem d_H_isBelow_11 : decode b_H_isBelow 11 = .ok (.aload_n 0, 1) := by decide +kernel
theorem d_H_isBelow_12 : decode b_H_isBelow 12 = .ok (.getfield 18, 3) := by decide +kernel
theorem d_H_isBelow_15 : decode b_H_isBelow 15 = .ok (.iconst 1, 1) := by decide +kernel
theorem d_H_isBelow_16 : decode b_H_isBelow 16 = .ok (.isub, 1) := by decide +kernel
theorem d_H_isBelow_17 : decode b_H_isBelow 17 = .ok (.iaload, 1) := by decide +kernel
theorem d_H_isBelow_18 : decode b_H_isBelow 18 = .ok (.iload_n 1, 1) := by decide +kernel
theorem d_H_isBelow_19 : decode b_H_isBelow 19 = .ok (.if_icmp .ge 22, 3) := by decide +kernel
theorem d_H_isBelow_22 : decode b_H_isBelow 22 = .ok (.aload_n 0, 1) := by decide +kernel
theorem d_H_isBelow_23 : decode b_H_isBelow 23 = .ok (.getfield 15, 3) := by decide +kernel
theorem d_H_isBelow_26 : decode b_H_isBelow 26 = .ok (.aload_n 0, 1) := by decide +kernel
theorem d_H_isBelow_27 : decode b_H_isBelow 27 = .ok (.getfield 18, 3) := by decide +kernel
theorem d_H_isBelow_30 : decode b_H_isBelow 30 = .ok (.iconst 1, 1) := by decide +kernel
theorem d_H_isBelow_31 : decode b_H_isBelow 31 = .ok (.isub, 1) := by decide +kernel
theorem d_H_isBelow_32 : decode b_H_isBelow 32 = .ok (.iaload, 1) := by decide +kernel
theorem d_H_isBelow_33 : decode b_H_isBelow 33 = .ok (.iload_n 2, 1) := by decide +kernel
theorem d_H_isBelow_34 : decode b_H_isBelow 34 = .ok (.if_icmp .ge 7, 3) := by decide +kernel
theorem d_H_isBelow_37 : decode b_H_isBelow 37 = .ok (.iconst 1, 1) := by decide +kernel
theorem d_H_isBelow_38 : decode b_H_isBelow 38 = .ok (.goto 4, 3) := by decide +kernel
theorem d_H_isBelow_41 : decode b_H_isBelow 41 = .ok (.iconst 0, 1) := by decide +kernel
theorem d_H_isBelow_42 : decode b_H_isBelow 42 = .ok (.ireturn, 1) := by decide +kernel
theorem d_H_add_0 : decode b_H_add 0 = .ok (.aload_n 0, 1) := by decide +kernel
theorem d_H_add_1 : decode b_H_add 1 = .ok (.getfield 9, 3) := by decide +kernel
theorem d_H_add_4 : decode b_H_add 4 = .ok (.aload_n 0, 1) := by decide +kernel
theorem d_H_add_5 : decode b_H_add 5 = .ok (.getfield 18, 3) := by decide +kernel
theorem d_H_add_8 : decode b_H_add 8 = .ok (.iload_n 1, 1) := by decide +kernel
theorem d_H_add_9 : decode b_H_add 9 = .ok (.iastore, 1) := by decide +kernel
theorem d_H_add_10 : decode b_H_add 10 = .ok (.aload_n 0, 1) := by decide +kernel
theorem d_H_add_11 : decode b_H_add 11 = .ok (.getfield 15, 3) := by decide +kernel
theorem d_H_add_14 : decode b_H_add 14 = .ok (.aload_n 0, 1) := by decide +kernel
theorem d_H_add_15 : decode b_H_add 15 = .ok (.getfield 18, 3) := by decide +kernel
theorem d_H_add_18 : decode b_H_add 18 = .ok (.iload_n 2, 1) := by decide +kernel
theorem d_H_add_19 : decode b_H_add 19 = .ok (.iastore, 1) := by decide +kernel
theorem d_H_add_20 : decode b_H_add 20 = .ok (.aload_n 0, 1) := by decide +kernel
theorem d_H_add_21 : decode b_H_add 21 = .ok (.dup, 1) := by decide +kernel
theorem d_H_add_22 : decode b_H_add 22 = .ok (.getfield 18, 3) := by decide +kernel
theorem d_H_add_25 : decode b_H_add 25 = .ok (.iconst 1, 1) := by decide +kernel
theorem d_H_add_26 : decode b_H_add 26 = .ok (.iadd, 1) := by decide +kernel
theorem d_H_add_27 : decode b_H_add 27 = .ok (.putfield 18, 3) := by decide +kernel
theorem d_H_add_30 : decode b_H_add 30 = .ok (.aload_n 0, 1) := by decide +kernel
theorem d_H_add_31 : decode b_H_add 31 = .ok (.getfield 18, 3) := by decide +kernel
theorem d_H_add_34 : decode b_H_add 34 = .ok (.ireturn, 1) := by decide +kernel
theorem d_H_litresAt_0 : decode b_H_litresAt 0 = .ok (.aload_n 0, 1) := by decide +kernel
theorem d_H_litresAt_1 : decode b_H_litresAt 1 = .ok (.iload_n 1, 1) := by decide +kernel
theorem d_H_litresAt_2 : decode b_H_litresAt 2 = .ok (.invokevirtual 22, 3) := by decide +kernel
theorem d_H_litresAt_5 : decode b_H_litresAt 5 = .ok (.istore_n 2, 1) := by decide +kernel
theorem d_H_litresAt_6 : decode b_H_litresAt 6 = .ok (.iload_n 2, 1) := by decide +kernel
theorem d_H_litresAt_7 : decode b_H_litresAt 7 = .ok (.ifCond .ge 5, 3) := by decide +kernel
theorem d_H_litresAt_10 : decode b_H_litresAt 10 = .ok (.iconst (-1), 1) := by decide +kernel
theorem d_H_litresAt_11 : decode b_H_litresAt 11 = .ok (.ireturn, 1) := by decide +kernel
theorem d_H_litresAt_12 : decode b_H_litresAt 12 = .ok (.aload_n 0, 1) := by decide +kernel
theorem d_H_litresAt_13 : decode b_H_litresAt 13 = .ok (.getfield 9, 3) := by decide +kernel
theorem d_H_litresAt_16 : decode b_H_litresAt 16 = .ok (.iload_n 2, 1) := by decide +kernel
theorem d_H_litresAt_17 : decode b_H_litresAt 17 = .ok (.iaload, 1) := by decide +kernel
theorem d_H_litresAt_18 : decode b_H_litresAt 18 = .ok (.iload_n 1, 1) := by decide +kernel
theorem d_H_litresAt_19 : decode b_H_litresAt 19 = .ok (.if_icmp .ne 10, 3) := by decide +kernel
theorem d_H_litresAt_22 : decode b_H_litresAt 22 = .ok (.aload_n 0, 1) := by decide +kernel
theorem d_H_litresAt_23 : decode b_H_litresAt 23 = .ok (.getfield 15, 3) := by decide +kernel
theorem d_H_litresAt_26 : decode b_H_litresAt 26 = .ok (.iload_n 2, 1) := by decide +kernel
theorem d_H_litresAt_27 : decode b_H_litresAt 27 = .ok (.iaload, 1) := by decide +kernel
theorem d_H_litresAt_28 : decode b_H_litresAt 28 = .ok (.ireturn, 1) := by decide +kernel
theorem d_H_litresAt_29 : decode b_H_litresAt 29 = .ok (.iload_n 2, 1) := by decide +kernel
theorem d_H_litresAt_30 : decode b_H_litresAt 30 = .ok (.iconst 1, 1) := by decide +kernel
theorem d_H_litresAt_31 : decode b_H_litresAt 31 = .ok (.iadd, 1) := by decide +kernel
theorem d_H_litresAt_32 : decode b_H_litresAt 32 = .ok (.aload_n 0, 1) := by decide +kernel
theorem d_H_litresAt_33 : decode b_H_litresAt 33 = .ok (.getfield 18, 3) := by decide +kernel
theorem d_H_litresAt_36 : decode b_H_litresAt 36 = .ok (.if_icmp .ge 15, 3) := by decide +kernel
theorem d_H_litresAt_39 : decode b_H_litresAt 39 = .ok (.aload_n 0, 1) := by decide +kernel
theorem d_H_litresAt_40 : decode b_H_litresAt 40 = .ok (.iload_n 2, 1) := by decide +kernel
theorem d_H_litresAt_41 : decode b_H_litresAt 41 = .ok (.iload_n 2, 1) := by decide +kernel
theorem d_H_litresAt_42 : decode b_H_litresAt 42 = .ok (.iconst 1, 1) := by decide +kernel
theorem d_H_litresAt_43 : decode b_H_litresAt 43 = .ok (.iadd, 1) := by decide +kernel
theorem d_H_litresAt_44 : decode b_H_litresAt 44 = .ok (.iload_n 1, 1) := by decide +kernel
theorem d_H_litresAt_45 : decode b_H_litresAt 45 = .ok (.invokevirtual 26, 3) := by decide +kernel
theorem d_H_litresAt_48 : decode b_H_litresAt 48 = .ok (.goto 4, 3) := by decide +kernel
theorem d_H_litresAt_51 : decode b_H_litresAt 51 = .ok (.iconst (-1), 1) := by decide +kernel
theorem d_H_litresAt_52 : decode b_H_litresAt 52 = .ok (.ireturn, 1) := by decide +kernel
theorem d_H_lastNotAbove_0 : decode b_H_lastNotAbove 0 = .ok (.iconst (-1), 1) := by decide +kernel
theorem d_H_lastNotAbove_1 : decode b_H_lastNotAbove 1 = .ok (.istore_n 2, 1) := by decide +kernel
theorem d_H_lastNotAbove_2 : decode b_H_lastNotAbove 2 = .ok (.iconst 0, 1) := by decide +kernel
theorem d_H_lastNotAbove_3 : decode b_H_lastNotAbove 3 = .ok (.istore_n 3, 1) := by decide +kernel
theorem d_H_lastNotAbove_4 : decode b_H_lastNotAbove 4 = .ok (.iload_n 3, 1) := by decide +kernel
theorem d_H_lastNotAbove_5 : decode b_H_lastNotAbove 5 = .ok (.aload_n 0, 1) := by decide +kernel
theorem d_H_lastNotAbove_6 : decode b_H_lastNotAbove 6 = .ok (.getfield 18, 3) := by decide +kernel
theorem d_H_lastNotAbove_9 : decode b_H_lastNotAbove 9 = .ok (.if_icmp .ge 21, 3) := by decide +kernel
theorem d_H_lastNotAbove_12 : decode b_H_lastNotAbove 12 = .ok (.aload_n 0, 1) := by decide +kernel
theorem d_H_lastNotAbove_13 : decode b_H_lastNotAbove 13 = .ok (.getfield 9, 3) := by decide +kernel
theorem d_H_lastNotAbove_16 : decode b_H_lastNotAbove 16 = .ok (.iload_n 3, 1) := by decide +kernel
theorem d_H_lastNotAbove_17 : decode b_H_lastNotAbove 17 = .ok (.iaload, 1) := by decide +kernel
theorem d_H_lastNotAbove_18 : decode b_H_lastNotAbove 18 = .ok (.iload_n 1, 1) := by decide +kernel
theorem d_H_lastNotAbove_19 : decode b_H_lastNotAbove 19 = .ok (.if_icmp .gt 5, 3) := by decide +kernel
theorem d_H_lastNotAbove_22 : decode b_H_lastNotAbove 22 = .ok (.iload_n 3, 1) := by decide +kernel
theorem d_H_lastNotAbove_23 : decode b_H_lastNotAbove 23 = .ok (.istore_n 2, 1) := by decide +kernel
theorem d_H_lastNotAbove_24 : decode b_H_lastNotAbove 24 = .ok (.iinc 3 1, 3) := by decide +kernel
theorem d_H_lastNotAbove_27 : decode b_H_lastNotAbove 27 = .ok (.goto (-23), 3) := by decide +kernel
theorem d_H_lastNotAbove_30 : decode b_H_lastNotAbove 30 = .ok (.iload_n 2, 1) := by decide +kernel
theorem d_H_lastNotAbove_31 : decode b_H_lastNotAbove 31 = .ok (.ireturn, 1) := by decide +kernel
theorem d_H_litresBetween_0 : decode b_H_litresBetween 0 = .ok (.aload_n 0, 1) := by decide +kernel
theorem d_H_litresBetween_1 : decode b_H_litresBetween 1 = .ok (.getfield 9, 3) := by decide +kernel
theorem d_H_litresBetween_4 : decode b_H_litresBetween 4 = .ok (.iload_n 2, 1) := by decide +kernel
theorem d_H_litresBetween_5 : decode b_H_litresBetween 5 = .ok (.iaload, 1) := by decide +kernel
theorem d_H_litresBetween_6 : decode b_H_litresBetween 6 = .ok (.aload_n 0, 1) := by decide +kernel
theorem d_H_litresBetween_7 : decode b_H_litresBetween 7 = .ok (.getfield 9, 3) := by decide +kernel
theorem d_H_litresBetween_10 : decode b_H_litresBetween 10 = .ok (.iload_n 1, 1) := by decide +kernel
theorem d_H_litresBetween_11 : decode b_H_litresBetween 11 = .ok (.iaload, 1) := by decide +kernel
theorem d_H_litresBetween_12 : decode b_H_litresBetween 12 = .ok (.isub, 1) := by decide +kernel
theorem d_H_litresBetween_13 : decode b_H_litresBetween 13 = .ok (.istore 4, 2) := by decide +kernel
theorem d_H_litresBetween_15 : decode b_H_litresBetween 15 = .ok (.iload 4, 2) := by decide +kernel
theorem d_H_litresBetween_17 : decode b_H_litresBetween 17 = .ok (.ifCond .gt 10, 3) := by decide +kernel
theorem d_H_litresBetween_20 : decode b_H_litresBetween 20 = .ok (.aload_n 0, 1) := by decide +kernel
theorem d_H_litresBetween_21 : decode b_H_litresBetween 21 = .ok (.getfield 15, 3) := by decide +kernel
theorem d_H_litresBetween_24 : decode b_H_litresBetween 24 = .ok (.iload_n 1, 1) := by decide +kernel
theorem d_H_litresBetween_25 : decode b_H_litresBetween 25 = .ok (.iaload, 1) := by decide +kernel
theorem d_H_litresBetween_26 : decode b_H_litresBetween 26 = .ok (.ireturn, 1) := by decide +kernel
theorem d_H_litresBetween_27 : decode b_H_litresBetween 27 = .ok (.aload_n 0, 1) := by decide +kernel
theorem d_H_litresBetween_28 : decode b_H_litresBetween 28 = .ok (.getfield 15, 3) := by decide +kernel
theorem d_H_litresBetween_31 : decode b_H_litresBetween 31 = .ok (.iload_n 2, 1) := by decide +kernel
theorem d_H_litresBetween_32 : decode b_H_litresBetween 32 = .ok (.iaload, 1) := by decide +kernel
theorem d_H_litresBetween_33 : decode b_H_litresBetween 33 = .ok (.aload_n 0, 1) := by decide +kernel
theorem d_H_litresBetween_34 : decode b_H_litresBetween 34 = .ok (.getfield 15, 3) := by decide +kernel
theorem d_H_litresBetween_37 : decode b_H_litresBetween 37 = .ok (.iload_n 1, 1) := by decide +kernel
theorem d_H_litresBetween_38 : decode b_H_litresBetween 38 = .ok (.iaload, 1) := by decide +kernel
theorem d_H_litresBetween_39 : decode b_H_litresBetween 39 = .ok (.isub, 1) := by decide +kernel
theorem d_H_litresBetween_40 : decode b_H_litresBetween 40 = .ok (.i2l, 1) := by decide +kernel
theorem d_H_litresBetween_41 : decode b_H_litresBetween 41 = .ok (.iload_n 3, 1) := by decide +kernel
theorem d_H_litresBetween_42 : decode b_H_litresBetween 42 = .ok (.aload_n 0, 1) := by decide +kernel
theorem d_H_litresBetween_43 : decode b_H_litresBetween 43 = .ok (.getfield 9, 3) := by decide +kernel
theorem d_H_litresBetween_46 : decode b_H_litresBetween 46 = .ok (.iload_n 1, 1) := by decide +kernel
theorem d_H_litresBetween_47 : decode b_H_litresBetween 47 = .ok (.iaload, 1) := by decide +kernel
theorem d_H_litresBetween_48 : decode b_H_litresBetween 48 = .ok (.isub, 1) := by decide +kernel
theorem d_H_litresBetween_49 : decode b_H_litresBetween 49 = .ok (.i2l, 1) := by decide +kernel
theorem d_H_litresBetween_50 : decode b_H_litresBetween 50 = .ok (.lmul, 1) := by decide +kernel
theorem d_H_litresBetween_51 : decode b_H_litresBetween 51 = .ok (.iload 4, 2) := by decide +kernel
theorem d_H_litresBetween_53 : decode b_H_litresBetween 53 = .ok (.i2l, 1) := by decide +kernel
theorem d_H_litresBetween_54 : decode b_H_litresBetween 54 = .ok (.ldiv, 1) := by decide +kernel
theorem d_H_litresBetween_55 : decode b_H_litresBetween 55 = .ok (.lstore 5, 2) := by decide +kernel
theorem d_H_litresBetween_57 : decode b_H_litresBetween 57 = .ok (.aload_n 0, 1) := by decide +kernel
theorem d_H_litresBetween_58 : decode b_H_litresBetween 58 = .ok (.getfield 15, 3) := by decide +kernel
theorem d_H_litresBetween_61 : decode b_H_litresBetween 61 = .ok (.iload_n 1, 1) := by decide +kernel
theorem d_H_litresBetween_62 : decode b_H_litresBetween 62 = .ok (.iaload, 1) := by decide +kernel
theorem d_H_litresBetween_63 : decode b_H_litresBetween 63 = .ok (.lload 5, 2) := by decide +kernel
theorem d_H_litresBetween_65 : decode b_H_litresBetween 65 = .ok (.l2i, 1) := by decide +kernel
theorem d_H_litresBetween_66 : decode b_H_litresBetween 66 = .ok (.iadd, 1) := by decide +kernel
theorem d_H_litresBetween_67 : decode b_H_litresBetween 67 = .ok (.ireturn, 1) := by decide +kernel
