theorem d_X_tick_52 : decode b_X_tick 52 = .ok (.invokevirtual 142, 3) := by decide +kernel
theorem d_X_tick_55 : decode b_X_tick 55 = .ok (.iconst 1, 1) := by decide +kernel
theorem d_X_tick_56 : decode b_X_tick 56 = .ok (.if_icmp .ne 27, 3) := by decide +kernel
theorem d_X_tick_59 : decode b_X_tick 59 = .ok (.aload_n 0, 1) := by decide +kernel
theorem d_X_tick_60 : decode b_X_tick 60 = .ok (.getfield 18, 3) := by decide +kernel
theorem d_X_tick_63 : decode b_X_tick 63 = .ok (.iload_n 3, 1) := by decide +kernel
theorem d_X_tick_64 : decode b_X_tick 64 = .ok (.iconst 3, 1) := by decide +kernel
theorem d_X_tick_65 : decode b_X_tick 65 = .ok (.invokevirtual 142, 3) := by decide +kernel
theorem d_X_tick_68 : decode b_X_tick 68 = .ok (.aload_n 0, 1) := by decide +kernel
theorem d_X_tick_69 : decode b_X_tick 69 = .ok (.getfield 100, 3) := by decide +kernel
theorem d_X_tick_72 : decode b_X_tick 72 = .ok (.if_icmp .gt 11, 3) := by decide +kernel
theorem d_X_tick_75 : decode b_X_tick 75 = .ok (.aload_n 0, 1) := by decide +kernel
theorem d_X_tick_76 : decode b_X_tick 76 = .ok (.iload_n 3, 1) := by decide +kernel
theorem d_X_tick_77 : decode b_X_tick 77 = .ok (.invokevirtual 103, 3) := by decide +kernel
theorem d_X_tick_80 : decode b_X_tick 80 = .ok (.iinc 2 1, 3) := by decide +kernel
theorem d_X_tick_83 : decode b_X_tick 83 = .ok (.iinc 3 1, 3) := by decide +kernel
theorem d_X_tick_86 : decode b_X_tick 86 = .ok (.goto (-51), 3) := by decide +kernel
theorem d_X_tick_89 : decode b_X_tick 89 = .ok (.iload_n 2, 1) := by decide +kernel
theorem d_X_tick_90 : decode b_X_tick 90 = .ok (.ireturn, 1) := by decide +kernel
theorem d_X_needStore_0 : decode b_X_needStore 0 = .ok (.iload_n 1, 1) := by decide +kernel
theorem d_X_needStore_1 : decode b_X_needStore 1 = .ok (.ifCond .lt 11, 3) := by decide +kernel
theorem d_X_needStore_4 : decode b_X_needStore 4 = .ok (.iload_n 1, 1) := by decide +kernel
theorem d_X_needStore_5 : decode b_X_needStore 5 = .ok (.aload_n 0, 1) := by decide +kernel
theorem d_X_needStore_6 : decode b_X_needStore 6 = .ok (.getfield 50, 3) := by decide +kernel
theorem d_X_needStore_9 : decode b_X_needStore 9 = .ok (.if_icmp .lt 13, 3) := by decide +kernel
theorem d_X_needStore_12 : decode b_X_needStore 12 = .ok (.new 92, 3) := by decide +kernel
theorem d_X_needStore_15 : decode b_X_needStore 15 = .ok (.dup, 1) := by decide +kernel
theorem d_X_needStore_16 : decode b_X_needStore 16 = .ok (.ldc 200, 2) := by decide +kernel
theorem d_X_needStore_18 : decode b_X_needStore 18 = .ok (.invokespecial 96, 3) := by decide +kernel
theorem d_X_needStore_21 : decode b_X_needStore 21 = .ok (.athrow, 1) := by decide +kernel
theorem d_X_needStore_22 : decode b_X_needStore 22 = .ok (.return_, 1) := by decide +kernel
theorem d_X_needLot_0 : decode b_X_needLot 0 = .ok (.aload_n 0, 1) := by decide +kernel
theorem d_X_needLot_1 : decode b_X_needLot 1 = .ok (.getfield 14, 3) := by decide +kernel
theorem d_X_needLot_4 : decode b_X_needLot 4 = .ok (.iload_n 1, 1) := by decide +kernel
theorem d_X_needLot_5 : decode b_X_needLot 5 = .ok (.invokestatic 138, 3) := by decide +kernel
theorem d_X_needLot_8 : decode b_X_needLot 8 = .ok (.return_, 1) := by decide +kernel
theorem d_X_needRow_0 : decode b_X_needRow 0 = .ok (.aload_n 0, 1) := by decide +kernel
theorem d_X_needRow_1 : decode b_X_needRow 1 = .ok (.iload_n 1, 1) := by decide +kernel
theorem d_X_needRow_2 : decode b_X_needRow 2 = .ok (.invokevirtual 202, 3) := by decide +kernel
theorem d_X_needRow_5 : decode b_X_needRow 5 = .ok (.ifCond .ne 13, 3) := by decide +kernel
theorem d_X_needRow_8 : decode b_X_needRow 8 = .ok (.new 92, 3) := by decide +kernel
theorem d_X_needRow_11 : decode b_X_needRow 11 = .ok (.dup, 1) := by decide +kernel
theorem d_X_needRow_12 : decode b_X_needRow 12 = .ok (.ldc 205, 2) := by decide +kernel
theorem d_X_needRow_14 : decode b_X_needRow 14 = .ok (.invokespecial 96, 3) := by decide +kernel
theorem d_X_needRow_17 : decode b_X_needRow 17 = .ok (.athrow, 1) := by decide +kernel
theorem d_X_needRow_18 : decode b_X_needRow 18 = .ok (.return_, 1) := by decide +kernel
theorem d_X_needKind_0 : decode b_X_needKind 0 = .ok (.iload_n 0, 1) := by decide +kernel
theorem d_X_needKind_1 : decode b_X_needKind 1 = .ok (.ifCond .lt 9, 3) := by decide +kernel
theorem d_X_needKind_4 : decode b_X_needKind 4 = .ok (.iload_n 0, 1) := by decide +kernel
theorem d_X_needKind_5 : decode b_X_needKind 5 = .ok (.bipush 10, 2) := by decide +kernel
theorem d_X_needKind_7 : decode b_X_needKind 7 = .ok (.if_icmp .lt 13, 3) := by decide +kernel
theorem d_X_needKind_10 : decode b_X_needKind 10 = .ok (.new 92, 3) := by decide +kernel
theorem d_X_needKind_13 : decode b_X_needKind 13 = .ok (.dup, 1) := by decide +kernel
theorem d_X_needKind_14 : decode b_X_needKind 14 = .ok (.ldc 207, 2) := by decide +kernel
theorem d_X_needKind_16 : decode b_X_needKind 16 = .ok (.invokespecial 96, 3) := by decide +kernel
theorem d_X_needKind_19 : decode b_X_needKind 19 = .ok (.athrow, 1) := by decide +kernel
theorem d_X_needKind_20 : decode b_X_needKind 20 = .ok (.return_, 1) := by decide +kernel
theorem d_X_needPerson_0 : decode b_X_needPerson 0 = .ok (.iload_n 0, 1) := by decide +kernel
theorem d_X_needPerson_1 : decode b_X_needPerson 1 = .ok (.ifCond .lt 9, 3) := by decide +kernel
theorem d_X_needPerson_4 : decode b_X_needPerson 4 = .ok (.iload_n 0, 1) := by decide +kernel
theorem d_X_needPerson_5 : decode b_X_needPerson 5 = .ok (.bipush 20, 2) := by decide +kernel
theorem d_X_needPerson_7 : decode b_X_needPerson 7 = .ok (.if_icmp .lt 13, 3) := by decide +kernel
theorem d_X_needPerson_10 : decode b_X_needPerson 10 = .ok (.new 92, 3) := by decide +kernel
theorem d_X_needPerson_13 : decode b_X_needPerson 13 = .ok (.dup, 1) := by decide +kernel
theorem d_X_needPerson_14 : decode b_X_needPerson 14 = .ok (.ldc 209, 2) := by decide +kernel
theorem d_X_needPerson_16 : decode b_X_needPerson 16 = .ok (.invokespecial 96, 3) := by decide +kernel
theorem d_X_needPerson_19 : decode b_X_needPerson 19 = .ok (.athrow, 1) := by decide +kernel
theorem d_X_needPerson_20 : decode b_X_needPerson 20 = .ok (.return_, 1) := by decide +kernel
theorem d_X_needKit_0 : decode b_X_needKit 0 = .ok (.iload_n 0, 1) := by decide +kernel
theorem d_X_needKit_1 : decode b_X_needKit 1 = .ok (.ifCond .lt 8, 3) := by decide +kernel
theorem d_X_needKit_4 : decode b_X_needKit 4 = .ok (.iload_n 0, 1) := by decide +kernel
theorem d_X_needKit_5 : decode b_X_needKit 5 = .ok (.iconst 5, 1) := by decide +kernel
theorem d_X_needKit_6 : decode b_X_needKit 6 = .ok (.if_icmp .lt 13, 3) := by decide +kernel
theorem d_X_needKit_9 : decode b_X_needKit 9 = .ok (.new 92, 3) := by decide +kernel
theorem d_X_needKit_12 : decode b_X_needKit 12 = .ok (.dup, 1) := by decide +kernel
theorem d_X_needKit_13 : decode b_X_needKit 13 = .ok (.ldc 211, 2) := by decide +kernel
theorem d_X_needKit_15 : decode b_X_needKit 15 = .ok (.invokespecial 96, 3) := by decide +kernel
theorem d_X_needKit_18 : decode b_X_needKit 18 = .ok (.athrow, 1) := by decide +kernel
theorem d_X_needKit_19 : decode b_X_needKit 19 = .ok (.return_, 1) := by decide +kernel
theorem d_X_needRange_0 : decode b_X_needRange 0 = .ok (.iload_n 0, 1) := by decide +kernel
theorem d_X_needRange_1 : decode b_X_needRange 1 = .ok (.iload_n 1, 1) := by decide +kernel
theorem d_X_needRange_2 : decode b_X_needRange 2 = .ok (.if_icmp .lt 8, 3) := by decide +kernel
theorem d_X_needRange_5 : decode b_X_needRange 5 = .ok (.iload_n 0, 1) := by decide +kernel
theorem d_X_needRange_6 : decode b_X_needRange 6 = .ok (.iload_n 2, 1) := by decide +kernel
theorem d_X_needRange_7 : decode b_X_needRange 7 = .ok (.if_icmp .le 13, 3) := by decide +kernel
theorem d_X_needRange_10 : decode b_X_needRange 10 = .ok (.new 213, 3) := by decide +kernel
theorem d_X_needRange_13 : decode b_X_needRange 13 = .ok (.dup, 1) := by decide +kernel
theorem d_X_needRange_14 : decode b_X_needRange 14 = .ok (.ldc 215, 2) := by decide +kernel
theorem d_X_needRange_16 : decode b_X_needRange 16 = .ok (.invokespecial 217, 3) := by decide +kernel
theorem d_X_needRange_19 : decode b_X_needRange 19 = .ok (.athrow, 1) := by decide +kernel
theorem d_X_needRange_20 : decode b_X_needRange 20 = .ok (.return_, 1) := by decide +kernel
theorem d_X_needThere_0 : decode b_X_needThere 0 = .ok (.aload_n 0, 1) := by decide +kernel
theorem d_X_needThere_1 : decode b_X_needThere 1 = .ok (.getfield 37, 3) := by decide +kernel
theorem d_X_needThere_4 : decode b_X_needThere 4 = .ok (.iload_n 1, 1) := by decide +kernel
theorem d_X_needThere_5 : decode b_X_needThere 5 = .ok (.iload_n 2, 1) := by decide +kernel
theorem d_X_needThere_6 : decode b_X_needThere 6 = .ok (.invokestatic 88, 3) := by decide +kernel
theorem d_X_needThere_9 : decode b_X_needThere 9 = .ok (.iaload, 1) := by decide +kernel
theorem d_X_needThere_10 : decode b_X_needThere 10 = .ok (.iload_n 3, 1) := by decide +kernel
theorem d_X_needThere_11 : decode b_X_needThere 11 = .ok (.if_icmp .ge 13, 3) := by decide +kernel
theorem d_X_needThere_14 : decode b_X_needThere 14 = .ok (.new 110, 3) := by decide +kernel
theorem d_X_needThere_17 : decode b_X_needThere 17 = .ok (.dup, 1) := by decide +kernel
theorem d_X_needThere_18 : decode b_X_needThere 18 = .ok (.ldc 218, 2) := by decide +kernel
theorem d_X_needThere_20 : decode b_X_needThere 20 = .ok (.invokespecial 114, 3) := by decide +kernel
theorem d_X_needThere_23 : decode b_X_needThere 23 = .ok (.athrow, 1) := by decide +kernel
theorem d_X_needThere_24 : decode b_X_needThere 24 = .ok (.return_, 1) := by decide +kernel
theorem d_X_needPlace_0 : decode b_X_needPlace 0 = .ok (.aload_n 0, 1) := by decide +kernel
theorem d_X_needPlace_1 : decode b_X_needPlace 1 = .ok (.getfield 37, 3) := by decide +kernel
theorem d_X_needPlace_4 : decode b_X_needPlace 4 = .ok (.iload_n 1, 1) := by decide +kernel
theorem d_X_needPlace_5 : decode b_X_needPlace 5 = .ok (.iload_n 2, 1) := by decide +kernel
theorem d_X_needPlace_6 : decode b_X_needPlace 6 = .ok (.invokestatic 88, 3) := by decide +kernel
theorem d_X_needPlace_9 : decode b_X_needPlace 9 = .ok (.iaload, 1) := by decide +kernel
theorem d_X_needPlace_10 : decode b_X_needPlace 10 = .ok (.iload_n 3, 1) := by decide +kernel
theorem d_X_needPlace_11 : decode b_X_needPlace 11 = .ok (.iadd, 1) := by decide +kernel
theorem d_X_needPlace_12 : decode b_X_needPlace 12 = .ok (.sipush 9999, 3) := by decide +kernel
theorem d_X_needPlace_15 : decode b_X_needPlace 15 = .ok (.if_icmp .le 13, 3) := by decide +kernel
theorem d_X_needPlace_18 : decode b_X_needPlace 18 = .ok (.new 54, 3) := by decide +kernel
theorem d_X_needPlace_21 : decode b_X_needPlace 21 = .ok (.dup, 1) := by decide +kernel
theorem d_X_needPlace_22 : decode b_X_needPlace 22 = .ok (.ldc 220, 2) := by decide +kernel
theorem d_X_needPlace_24 : decode b_X_needPlace 24 = .ok (.invokespecial 58, 3) := by decide +kernel
theorem d_X_needPlace_27 : decode b_X_needPlace 27 = .ok (.athrow, 1) := by decide +kernel
theorem d_X_needPlace_28 : decode b_X_needPlace 28 = .ok (.return_, 1) := by decide +kernel
theorem d_X_needRoom_0 : decode b_X_needRoom 0 = .ok (.aload_n 0, 1) := by decide +kernel
theorem d_X_needRoom_1 : decode b_X_needRoom 1 = .ok (.invokevirtual 222, 3) := by decide +kernel
theorem d_X_needRoom_4 : decode b_X_needRoom 4 = .ok (.ifCond .eq 13, 3) := by decide +kernel
theorem d_X_needRoom_7 : decode b_X_needRoom 7 = .ok (.new 54, 3) := by decide +kernel
theorem d_X_needRoom_10 : decode b_X_needRoom 10 = .ok (.dup, 1) := by decide +kernel
theorem d_X_needRoom_11 : decode b_X_needRoom 11 = .ok (.ldc 223, 2) := by decide +kernel
theorem d_X_needRoom_13 : decode b_X_needRoom 13 = .ok (.invokespecial 58, 3) := by decide +kernel
theorem d_X_needRoom_16 : decode b_X_needRoom 16 = .ok (.athrow, 1) := by decide +kernel
theorem d_X_needRoom_17 : decode b_X_needRoom 17 = .ok (.return_, 1) := by decide +kernel
theorem d_X_cell_0 : decode b_X_cell 0 = .ok (.aload_n 0, 1) := by decide +kernel
theorem d_X_cell_1 : decode b_X_cell 1 = .ok (.iload_n 1, 1) := by decide +kernel
theorem d_X_cell_2 : decode b_X_cell 2 = .ok (.invokestatic 138, 3) := by decide +kernel
theorem d_X_cell_5 : decode b_X_cell 5 = .ok (.aload_n 0, 1) := by decide +kernel
theorem d_X_cell_6 : decode b_X_cell 6 = .ok (.iload_n 2, 1) := by decide +kernel
theorem d_X_cell_7 : decode b_X_cell 7 = .ok (.invokevirtual 225, 3) := by decide +kernel
theorem d_X_cell_10 : decode b_X_cell 10 = .ok (.ifCond .ne 13, 3) := by decide +kernel
theorem d_X_cell_13 : decode b_X_cell 13 = .ok (.new 92, 3) := by decide +kernel
theorem d_X_cell_16 : decode b_X_cell 16 = .ok (.dup, 1) := by decide +kernel
theorem d_X_cell_17 : decode b_X_cell 17 = .ok (.ldc 121, 2) := by decide +kernel
theorem d_X_cell_19 : decode b_X_cell 19 = .ok (.invokespecial 96, 3) := by decide +kernel
theorem d_X_cell_22 : decode b_X_cell 22 = .ok (.athrow, 1) := by decide +kernel
theorem d_X_cell_23 : decode b_X_cell 23 = .ok (.aload_n 0, 1) := by decide +kernel
theorem d_X_cell_24 : decode b_X_cell 24 = .ok (.iload_n 1, 1) := by decide +kernel
theorem d_X_cell_25 : decode b_X_cell 25 = .ok (.iload_n 2, 1) := by decide +kernel
theorem d_X_cell_26 : decode b_X_cell 26 = .ok (.invokevirtual 142, 3) := by decide +kernel
theorem d_X_cell_29 : decode b_X_cell 29 = .ok (.ireturn, 1) := by decide +kernel
theorem d_X_place_0 : decode b_X_place 0 = .ok (.iload_n 0, 1) := by decide +kernel
theorem d_X_place_1 : decode b_X_place 1 = .ok (.bipush 60, 2) := by decide +kernel
theorem d_X_place_3 : decode b_X_place 3 = .ok (.imul, 1) := by decide +kernel
theorem d_X_place_4 : decode b_X_place 4 = .ok (.iload_n 1, 1) := by decide +kernel
theorem d_X_place_5 : decode b_X_place 5 = .ok (.iadd, 1) := by decide +kernel
theorem d_X_place_6 : decode b_X_place 6 = .ok (.ireturn, 1) := by decide +kernel
theorem d_X_pair_0 : decode b_X_pair 0 = .ok (.iload_n 0, 1) := by decide +kernel
theorem d_X_pair_1 : decode b_X_pair 1 = .ok (.bipush 10, 2) := by decide +kernel
theorem d_X_pair_3 : decode b_X_pair 3 = .ok (.imul, 1) := by decide +kernel
theorem d_X_pair_4 : decode b_X_pair 4 = .ok (.iload_n 1, 1) := by decide +kernel
theorem d_X_pair_5 : decode b_X_pair 5 = .ok (.iadd, 1) := by decide +kernel
theorem d_X_pair_6 : decode b_X_pair 6 = .ok (.ireturn, 1) := by decide +kernel
theorem d_X_change_0 : decode b_X_change 0 = .ok (.aload_n 0, 1) := by decide +kernel
theorem d_X_change_1 : decode b_X_change 1 = .ok (.getfield 37, 3) := by decide +kernel
theorem d_X_change_4 : decode b_X_change 4 = .ok (.iload_n 1, 1) := by decide +kernel
theorem d_X_change_5 : decode b_X_change 5 = .ok (.iload_n 2, 1) := by decide +kernel
theorem d_X_change_6 : decode b_X_change 6 = .ok (.invokestatic 88, 3) := by decide +kernel
theorem d_X_change_9 : decode b_X_change 9 = .ok (.dup2, 1) := by decide +kernel
theorem d_X_change_10 : decode b_X_change 10 = .ok (.iaload, 1) := by decide +kernel
theorem d_X_change_11 : decode b_X_change 11 = .ok (.iload_n 3, 1) := by decide +kernel
theorem d_X_change_12 : decode b_X_change 12 = .ok (.iadd, 1) := by decide +kernel
theorem d_X_change_13 : decode b_X_change 13 = .ok (.iastore, 1) := by decide +kernel
theorem d_X_change_14 : decode b_X_change 14 = .ok (.return_, 1) := by decide +kernel
theorem d_X_addUpToMost_0 : decode b_X_addUpToMost 0 = .ok (.iload_n 1, 1) := by decide +kernel
theorem d_X_addUpToMost_1 : decode b_X_addUpToMost 1 = .ok (.iload_n 2, 1) := by decide +kernel
theorem d_X_addUpToMost_2 : decode b_X_addUpToMost 2 = .ok (.invokestatic 88, 3) := by decide +kernel
theorem d_X_addUpToMost_5 : decode b_X_addUpToMost 5 = .ok (.istore 4, 2) := by decide +kernel
theorem d_X_addUpToMost_7 : decode b_X_addUpToMost 7 = .ok (.aload_n 0, 1) := by decide +kernel
theorem d_X_addUpToMost_8 : decode b_X_addUpToMost 8 = .ok (.getfield 37, 3) := by decide +kernel
theorem d_X_addUpToMost_11 : decode b_X_addUpToMost 11 = .ok (.iload 4, 2) := by decide +kernel
theorem d_X_addUpToMost_13 : decode b_X_addUpToMost 13 = .ok (.sipush 9999, 3) := by decide +kernel
theorem d_X_addUpToMost_16 : decode b_X_addUpToMost 16 = .ok (.aload_n 0, 1) := by decide +kernel
theorem d_X_addUpToMost_17 : decode b_X_addUpToMost 17 = .ok (.getfield 37, 3) := by decide +kernel
theorem d_X_addUpToMost_20 : decode b_X_addUpToMost 20 = .ok (.iload 4, 2) := by decide +kernel
theorem d_X_addUpToMost_22 : decode b_X_addUpToMost 22 = .ok (.iaload, 1) := by decide +kernel
theorem d_X_addUpToMost_23 : decode b_X_addUpToMost 23 = .ok (.iload_n 3, 1) := by decide +kernel
theorem d_X_addUpToMost_24 : decode b_X_addUpToMost 24 = .ok (.iadd, 1) := by decide +kernel
theorem d_X_addUpToMost_25 : decode b_X_addUpToMost 25 = .ok (.invokestatic 228, 3) := by decide +kernel
theorem d_X_addUpToMost_28 : decode b_X_addUpToMost 28 = .ok (.iastore, 1) := by decide +kernel
theorem d_X_addUpToMost_29 : decode b_X_addUpToMost 29 = .ok (.return_, 1) := by decide +kernel
theorem d_X_arrive_0 : decode b_X_arrive 0 = .ok (.aload_n 0, 1) := by decide +kernel
theorem d_X_arrive_1 : decode b_X_arrive 1 = .ok (.getfield 18, 3) := by decide +kernel
theorem d_X_arrive_4 : decode b_X_arrive 4 = .ok (.iload_n 1, 1) := by decide +kernel
theorem d_X_arrive_5 : decode b_X_arrive 5 = .ok (.iconst 4, 1) := by decide +kernel
theorem d_X_arrive_6 : decode b_X_arrive 6 = .ok (.iconst 0, 1) := by decide +kernel
theorem d_X_arrive_7 : decode b_X_arrive 7 = .ok (.invokevirtual 149, 3) := by decide +kernel
theorem d_X_arrive_10 : decode b_X_arrive 10 = .ok (.aload_n 0, 1) := by decide +kernel
theorem d_X_arrive_11 : decode b_X_arrive 11 = .ok (.aload_n 0, 1) := by decide +kernel
theorem d_X_arrive_12 : decode b_X_arrive 12 = .ok (.getfield 18, 3) := by decide +kernel
theorem d_X_arrive_15 : decode b_X_arrive 15 = .ok (.iload_n 1, 1) := by decide +kernel
theorem d_X_arrive_16 : decode b_X_arrive 16 = .ok (.iconst 0, 1) := by decide +kernel
theorem d_X_arrive_17 : decode b_X_arrive 17 = .ok (.invokevirtual 142, 3) := by decide +kernel
theorem d_X_arrive_20 : decode b_X_arrive 20 = .ok (.aload_n 0, 1) := by decide +kernel
theorem d_X_arrive_21 : decode b_X_arrive 21 = .ok (.getfield 18, 3) := by decide +kernel
theorem d_X_arrive_24 : decode b_X_arrive 24 = .ok (.iload_n 1, 1) := by decide +kernel
theorem d_X_arrive_25 : decode b_X_arrive 25 = .ok (.iconst 1, 1) := by decide +kernel
theorem d_X_arrive_26 : decode b_X_arrive 26 = .ok (.invokevirtual 142, 3) := by decide +kernel
theorem d_X_arrive_29 : decode b_X_arrive 29 = .ok (.aload_n 0, 1) := by decide +kernel
theorem d_X_arrive_30 : decode b_X_arrive 30 = .ok (.getfield 18, 3) := by decide +kernel
theorem d_X_arrive_33 : decode b_X_arrive 33 = .ok (.iload_n 1, 1) := by decide +kernel
theorem d_X_arrive_34 : decode b_X_arrive 34 = .ok (.iconst 2, 1) := by decide +kernel
theorem d_X_arrive_35 : decode b_X_arrive 35 = .ok (.invokevirtual 142, 3) := by decide +kernel
theorem d_X_arrive_38 : decode b_X_arrive 38 = .ok (.invokevirtual 152, 3) := by decide +kernel
theorem d_X_arrive_41 : decode b_X_arrive 41 = .ok (.return_, 1) := by decide +kernel
theorem d_X_isGoodOn_0 : decode b_X_isGoodOn 0 = .ok (.iload_n 2, 1) := by decide +kernel
theorem d_X_isGoodOn_1 : decode b_X_isGoodOn 1 = .ok (.aload_n 0, 1) := by decide +kernel
theorem d_X_isGoodOn_2 : decode b_X_isGoodOn 2 = .ok (.getfield 14, 3) := by decide +kernel
theorem d_X_isGoodOn_5 : decode b_X_isGoodOn 5 = .ok (.iload_n 1, 1) := by decide +kernel
theorem d_X_isGoodOn_6 : decode b_X_isGoodOn 6 = .ok (.iconst 1, 1) := by decide +kernel
theorem d_X_isGoodOn_7 : decode b_X_isGoodOn 7 = .ok (.invokevirtual 142, 3) := by decide +kernel
theorem d_X_isGoodOn_10 : decode b_X_isGoodOn 10 = .ok (.if_icmp .gt 7, 3) := by decide +kernel
theorem d_X_isGoodOn_13 : decode b_X_isGoodOn 13 = .ok (.iconst 1, 1) := by decide +kernel
theorem d_X_isGoodOn_14 : decode b_X_isGoodOn 14 = .ok (.goto 4, 3) := by decide +kernel
theorem d_X_isGoodOn_17 : decode b_X_isGoodOn 17 = .ok (.iconst 0, 1) := by decide +kernel
theorem d_X_isGoodOn_18 : decode b_X_isGoodOn 18 = .ok (.ireturn, 1) := by decide +kernel
theorem d_X_inStore_0 : decode b_X_inStore 0 = .ok (.iconst 0, 1) := by decide +kernel
theorem d_X_inStore_1 : decode b_X_inStore 1 = .ok (.istore 4, 2) := by decide +kernel
theorem d_X_inStore_3 : decode b_X_inStore 3 = .ok (.iconst 0, 1) := by decide +kernel
theorem d_X_inStore_4 : decode b_X_inStore 4 = .ok (.istore 5, 2) := by decide +kernel
theorem d_X_inStore_6 : decode b_X_inStore 6 = .ok (.iload 5, 2) := by decide +kernel
theorem d_X_inStore_8 : decode b_X_inStore 8 = .ok (.aload_n 0, 1) := by decide +kernel
theorem d_X_inStore_9 : decode b_X_inStore 9 = .ok (.getfield 14, 3) := by decide +kernel
theorem d_X_inStore_12 : decode b_X_inStore 12 = .ok (.invokevirtual 126, 3) := by decide +kernel
theorem d_X_inStore_15 : decode b_X_inStore 15 = .ok (.if_icmp .ge 53, 3) := by decide +kernel
theorem d_X_inStore_18 : decode b_X_inStore 18 = .ok (.aload_n 0, 1) := by decide +kernel
theorem d_X_inStore_19 : decode b_X_inStore 19 = .ok (.getfield 14, 3) := by decide +kernel
theorem d_X_inStore_22 : decode b_X_inStore 22 = .ok (.iload 5, 2) := by decide +kernel
theorem d_X_inStore_24 : decode b_X_inStore 24 = .ok (.iconst 0, 1) := by decide +kernel
theorem d_X_inStore_25 : decode b_X_inStore 25 = .ok (.invokevirtual 142, 3) := by decide +kernel
theorem d_X_inStore_28 : decode b_X_inStore 28 = .ok (.iload_n 2, 1) := by decide +kernel
theorem d_X_inStore_29 : decode b_X_inStore 29 = .ok (.if_icmp .ne 33, 3) := by decide +kernel
theorem d_X_inStore_32 : decode b_X_inStore 32 = .ok (.aload_n 0, 1) := by decide +kernel
theorem d_X_inStore_33 : decode b_X_inStore 33 = .ok (.iload 5, 2) := by decide +kernel
theorem d_X_inStore_35 : decode b_X_inStore 35 = .ok (.aload_n 0, 1) := by decide +kernel
theorem d_X_inStore_36 : decode b_X_inStore 36 = .ok (.getfield 100, 3) := by decide +kernel
theorem d_X_inStore_39 : decode b_X_inStore 39 = .ok (.invokevirtual 233, 3) := by decide +kernel
theorem d_X_inStore_42 : decode b_X_inStore 42 = .ok (.iload_n 3, 1) := by decide +kernel
theorem d_X_inStore_43 : decode b_X_inStore 43 = .ok (.if_icmp .ne 19, 3) := by decide +kernel
theorem d_X_inStore_46 : decode b_X_inStore 46 = .ok (.iload 4, 2) := by decide +kernel
theorem d_X_inStore_48 : decode b_X_inStore 48 = .ok (.aload_n 0, 1) := by decide +kernel
theorem d_X_inStore_49 : decode b_X_inStore 49 = .ok (.getfield 37, 3) := by decide +kernel
theorem d_X_inStore_52 : decode b_X_inStore 52 = .ok (.iload_n 1, 1) := by decide +kernel
theorem d_X_inStore_53 : decode b_X_inStore 53 = .ok (.iload 5, 2) := by decide +kernel
theorem d_X_inStore_55 : decode b_X_inStore 55 = .ok (.invokestatic 88, 3) := by decide +kernel
theorem d_X_inStore_58 : decode b_X_inStore 58 = .ok (.iaload, 1) := by decide +kernel
theorem d_X_inStore_59 : decode b_X_inStore 59 = .ok (.iadd, 1) := by decide +kernel
theorem d_X_inStore_60 : decode b_X_inStore 60 = .ok (.istore 4, 2) := by decide +kernel
theorem d_X_inStore_62 : decode b_X_inStore 62 = .ok (.iinc 5 1, 3) := by decide +kernel
theorem d_X_inStore_65 : decode b_X_inStore 65 = .ok (.goto (-59), 3) := by decide +kernel
theorem d_X_inStore_68 : decode b_X_inStore 68 = .ok (.iload 4, 2) := by decide +kernel
theorem d_X_inStore_70 : decode b_X_inStore 70 = .ok (.ireturn, 1) := by decide +kernel
theorem d_X_inAllStores_0 : decode b_X_inAllStores 0 = .ok (.iconst 0, 1) := by decide +kernel
theorem d_X_inAllStores_1 : decode b_X_inAllStores 1 = .ok (.istore_n 2, 1) := by decide +kernel
theorem d_X_inAllStores_2 : decode b_X_inAllStores 2 = .ok (.iconst 0, 1) := by decide +kernel
theorem d_X_inAllStores_3 : decode b_X_inAllStores 3 = .ok (.istore_n 3, 1) := by decide +kernel
theorem d_X_inAllStores_4 : decode b_X_inAllStores 4 = .ok (.iload_n 3, 1) := by decide +kernel
theorem d_X_inAllStores_5 : decode b_X_inAllStores 5 = .ok (.aload_n 0, 1) := by decide +kernel
theorem d_X_inAllStores_6 : decode b_X_inAllStores 6 = .ok (.getfield 50, 3) := by decide +kernel
theorem d_X_inAllStores_9 : decode b_X_inAllStores 9 = .ok (.if_icmp .ge 22, 3) := by decide +kernel
theorem d_X_inAllStores_12 : decode b_X_inAllStores 12 = .ok (.iload_n 2, 1) := by decide +kernel
theorem d_X_inAllStores_13 : decode b_X_inAllStores 13 = .ok (.aload_n 0, 1) := by decide +kernel
theorem d_X_inAllStores_14 : decode b_X_inAllStores 14 = .ok (.getfield 37, 3) := by decide +kernel
theorem d_X_inAllStores_17 : decode b_X_inAllStores 17 = .ok (.iload_n 3, 1) := by decide +kernel
theorem d_X_inAllStores_18 : decode b_X_inAllStores 18 = .ok (.iload_n 1, 1) := by decide +kernel
theorem d_X_inAllStores_19 : decode b_X_inAllStores 19 = .ok (.invokestatic 88, 3) := by decide +kernel
theorem d_X_inAllStores_22 : decode b_X_inAllStores 22 = .ok (.iaload, 1) := by decide +kernel
theorem d_X_inAllStores_23 : decode b_X_inAllStores 23 = .ok (.iadd, 1) := by decide +kernel
theorem d_X_inAllStores_24 : decode b_X_inAllStores 24 = .ok (.istore_n 2, 1) := by decide +kernel
theorem d_X_inAllStores_25 : decode b_X_inAllStores 25 = .ok (.iinc 3 1, 3) := by decide +kernel
theorem d_X_inAllStores_28 : decode b_X_inAllStores 28 = .ok (.goto (-24), 3) := by decide +kernel
theorem d_X_inAllStores_31 : decode b_X_inAllStores 31 = .ok (.iload_n 2, 1) := by decide +kernel
theorem d_X_inAllStores_32 : decode b_X_inAllStores 32 = .ok (.ireturn, 1) := by decide +kernel
theorem d_X_onTheWay_0 : decode b_X_onTheWay 0 = .ok (.iconst 0, 1) := by decide +kernel
theorem d_X_onTheWay_1 : decode b_X_onTheWay 1 = .ok (.istore 4, 2) := by decide +kernel
theorem d_X_onTheWay_3 : decode b_X_onTheWay 3 = .ok (.iconst 0, 1) := by decide +kernel
theorem d_X_onTheWay_4 : decode b_X_onTheWay 4 = .ok (.istore 5, 2) := by decide +kernel
theorem d_X_onTheWay_6 : decode b_X_onTheWay 6 = .ok (.iload 5, 2) := by decide +kernel
theorem d_X_onTheWay_8 : decode b_X_onTheWay 8 = .ok (.aload_n 0, 1) := by decide +kernel
theorem d_X_onTheWay_9 : decode b_X_onTheWay 9 = .ok (.getfield 18, 3) := by decide +kernel
theorem d_X_onTheWay_12 : decode b_X_onTheWay 12 = .ok (.invokevirtual 126, 3) := by decide +kernel
theorem d_X_onTheWay_15 : decode b_X_onTheWay 15 = .ok (.if_icmp .ge 101, 3) := by decide +kernel
theorem d_X_onTheWay_18 : decode b_X_onTheWay 18 = .ok (.aload_n 0, 1) := by decide +kernel
theorem d_X_onTheWay_19 : decode b_X_onTheWay 19 = .ok (.getfield 18, 3) := by decide +kernel
theorem d_X_onTheWay_22 : decode b_X_onTheWay 22 = .ok (.iload 5, 2) := by decide +kernel
theorem d_X_onTheWay_24 : decode b_X_onTheWay 24 = .ok (.iconst 1, 1) := by decide +kernel
theorem d_X_onTheWay_25 : decode b_X_onTheWay 25 = .ok (.invokevirtual 142, 3) := by decide +kernel
theorem d_X_onTheWay_28 : decode b_X_onTheWay 28 = .ok (.istore 6, 2) := by decide +kernel
theorem d_X_onTheWay_30 : decode b_X_onTheWay 30 = .ok (.aload_n 0, 1) := by decide +kernel
theorem d_X_onTheWay_31 : decode b_X_onTheWay 31 = .ok (.getfield 18, 3) := by decide +kernel
theorem d_X_onTheWay_34 : decode b_X_onTheWay 34 = .ok (.iload 5, 2) := by decide +kernel
theorem d_X_onTheWay_36 : decode b_X_onTheWay 36 = .ok (.iconst 4, 1) := by decide +kernel
theorem d_X_onTheWay_37 : decode b_X_onTheWay 37 = .ok (.invokevirtual 142, 3) := by decide +kernel
theorem d_X_onTheWay_40 : decode b_X_onTheWay 40 = .ok (.iconst 1, 1) := by decide +kernel
theorem d_X_onTheWay_41 : decode b_X_onTheWay 41 = .ok (.if_icmp .ne 69, 3) := by decide +kernel
theorem d_X_onTheWay_44 : decode b_X_onTheWay 44 = .ok (.aload_n 0, 1) := by decide +kernel
theorem d_X_onTheWay_45 : decode b_X_onTheWay 45 = .ok (.getfield 18, 3) := by decide +kernel
theorem d_X_onTheWay_48 : decode b_X_onTheWay 48 = .ok (.iload 5, 2) := by decide +kernel
theorem d_X_onTheWay_50 : decode b_X_onTheWay 50 = .ok (.iconst 0, 1) := by decide +kernel
theorem d_X_onTheWay_51 : decode b_X_onTheWay 51 = .ok (.invokevirtual 142, 3) := by decide +kernel
theorem d_X_onTheWay_54 : decode b_X_onTheWay 54 = .ok (.iload_n 1, 1) := by decide +kernel
theorem d_X_onTheWay_55 : decode b_X_onTheWay 55 = .ok (.if_icmp .ne 55, 3) := by decide +kernel
theorem d_X_onTheWay_58 : decode b_X_onTheWay 58 = .ok (.aload_n 0, 1) := by decide +kernel
theorem d_X_onTheWay_59 : decode b_X_onTheWay 59 = .ok (.getfield 14, 3) := by decide +kernel
theorem d_X_onTheWay_62 : decode b_X_onTheWay 62 = .ok (.iload 6, 2) := by decide +kernel
theorem d_X_onTheWay_64 : decode b_X_onTheWay 64 = .ok (.iconst 0, 1) := by decide +kernel
theorem d_X_onTheWay_65 : decode b_X_onTheWay 65 = .ok (.invokevirtual 142, 3) := by decide +kernel
theorem d_X_onTheWay_68 : decode b_X_onTheWay 68 = .ok (.iload_n 2, 1) := by decide +kernel
theorem d_X_onTheWay_69 : decode b_X_onTheWay 69 = .ok (.if_icmp .ne 41, 3) := by decide +kernel
theorem d_X_onTheWay_72 : decode b_X_onTheWay 72 = .ok (.iload_n 3, 1) := by decide +kernel
theorem d_X_onTheWay_73 : decode b_X_onTheWay 73 = .ok (.ifCond .eq 22, 3) := by decide +kernel
theorem d_X_onTheWay_76 : decode b_X_onTheWay 76 = .ok (.aload_n 0, 1) := by decide +kernel
theorem d_X_onTheWay_77 : decode b_X_onTheWay 77 = .ok (.iload 6, 2) := by decide +kernel
theorem d_X_onTheWay_79 : decode b_X_onTheWay 79 = .ok (.aload_n 0, 1) := by decide +kernel
theorem d_X_onTheWay_80 : decode b_X_onTheWay 80 = .ok (.getfield 18, 3) := by decide +kernel
theorem d_X_onTheWay_83 : decode b_X_onTheWay 83 = .ok (.iload 5, 2) := by decide +kernel
theorem d_X_onTheWay_85 : decode b_X_onTheWay 85 = .ok (.iconst 3, 1) := by decide +kernel
theorem d_X_onTheWay_86 : decode b_X_onTheWay 86 = .ok (.invokevirtual 142, 3) := by decide +kernel
theorem d_X_onTheWay_89 : decode b_X_onTheWay 89 = .ok (.invokevirtual 233, 3) := by decide +kernel
theorem d_X_onTheWay_92 : decode b_X_onTheWay 92 = .ok (.ifCond .eq 18, 3) := by decide +kernel
theorem d_X_onTheWay_95 : decode b_X_onTheWay 95 = .ok (.iload 4, 2) := by decide +kernel
theorem d_X_onTheWay_97 : decode b_X_onTheWay 97 = .ok (.aload_n 0, 1) := by decide +kernel
theorem d_X_onTheWay_98 : decode b_X_onTheWay 98 = .ok (.getfield 18, 3) := by decide +kernel
theorem d_X_onTheWay_101 : decode b_X_onTheWay 101 = .ok (.iload 5, 2) := by decide +kernel
theorem d_X_onTheWay_103 : decode b_X_onTheWay 103 = .ok (.iconst 2, 1) := by decide +kernel
theorem d_X_onTheWay_104 : decode b_X_onTheWay 104 = .ok (.invokevirtual 142, 3) := by decide +kernel
theorem d_X_onTheWay_107 : decode b_X_onTheWay 107 = .ok (.iadd, 1) := by decide +kernel
theorem d_X_onTheWay_108 : decode b_X_onTheWay 108 = .ok (.istore 4, 2) := by decide +kernel
theorem d_X_onTheWay_110 : decode b_X_onTheWay 110 = .ok (.iinc 5 1, 3) := by decide +kernel
theorem d_X_onTheWay_113 : decode b_X_onTheWay 113 = .ok (.goto (-107), 3) := by decide +kernel
theorem d_X_onTheWay_116 : decode b_X_onTheWay 116 = .ok (.iload 4, 2) := by decide +kernel
theorem d_X_onTheWay_118 : decode b_X_onTheWay 118 = .ok (.ireturn, 1) := by decide +kernel
theorem d_X_inOpenOrders_0 : decode b_X_inOpenOrders 0 = .ok (.iconst 0, 1) := by decide +kernel
theorem d_X_inOpenOrders_1 : decode b_X_inOpenOrders 1 = .ok (.istore_n 3, 1) := by decide +kernel
theorem d_X_inOpenOrders_2 : decode b_X_inOpenOrders 2 = .ok (.iconst 0, 1) := by decide +kernel
theorem d_X_inOpenOrders_3 : decode b_X_inOpenOrders 3 = .ok (.istore 4, 2) := by decide +kernel
theorem d_X_inOpenOrders_5 : decode b_X_inOpenOrders 5 = .ok (.iload 4, 2) := by decide +kernel
theorem d_X_inOpenOrders_7 : decode b_X_inOpenOrders 7 = .ok (.aload_n 0, 1) := by decide +kernel
theorem d_X_inOpenOrders_8 : decode b_X_inOpenOrders 8 = .ok (.getfield 21, 3) := by decide +kernel
theorem d_X_inOpenOrders_11 : decode b_X_inOpenOrders 11 = .ok (.invokevirtual 126, 3) := by decide +kernel
theorem d_X_inOpenOrders_14 : decode b_X_inOpenOrders 14 = .ok (.if_icmp .ge 64, 3) := by decide +kernel
theorem d_X_inOpenOrders_17 : decode b_X_inOpenOrders 17 = .ok (.aload_n 0, 1) := by decide +kernel
theorem d_X_inOpenOrders_18 : decode b_X_inOpenOrders 18 = .ok (.getfield 21, 3) := by decide +kernel
theorem d_X_inOpenOrders_21 : decode b_X_inOpenOrders 21 = .ok (.iload 4, 2) := by decide +kernel
theorem d_X_inOpenOrders_23 : decode b_X_inOpenOrders 23 = .ok (.iconst 4, 1) := by decide +kernel
theorem d_X_inOpenOrders_24 : decode b_X_inOpenOrders 24 = .ok (.invokevirtual 142, 3) := by decide +kernel
theorem d_X_inOpenOrders_27 : decode b_X_inOpenOrders 27 = .ok (.iconst 1, 1) := by decide +kernel
theorem d_X_inOpenOrders_28 : decode b_X_inOpenOrders 28 = .ok (.if_icmp .ne 44, 3) := by decide +kernel
theorem d_X_inOpenOrders_31 : decode b_X_inOpenOrders 31 = .ok (.aload_n 0, 1) := by decide +kernel
theorem d_X_inOpenOrders_32 : decode b_X_inOpenOrders 32 = .ok (.getfield 21, 3) := by decide +kernel
theorem d_X_inOpenOrders_35 : decode b_X_inOpenOrders 35 = .ok (.iload 4, 2) := by decide +kernel
theorem d_X_inOpenOrders_37 : decode b_X_inOpenOrders 37 = .ok (.iconst 0, 1) := by decide +kernel
theorem d_X_inOpenOrders_38 : decode b_X_inOpenOrders 38 = .ok (.invokevirtual 142, 3) := by decide +kernel
theorem d_X_inOpenOrders_41 : decode b_X_inOpenOrders 41 = .ok (.iload_n 1, 1) := by decide +kernel
theorem d_X_inOpenOrders_42 : decode b_X_inOpenOrders 42 = .ok (.if_icmp .ne 30, 3) := by decide +kernel
theorem d_X_inOpenOrders_45 : decode b_X_inOpenOrders 45 = .ok (.aload_n 0, 1) := by decide +kernel
theorem d_X_inOpenOrders_46 : decode b_X_inOpenOrders 46 = .ok (.getfield 21, 3) := by decide +kernel
theorem d_X_inOpenOrders_49 : decode b_X_inOpenOrders 49 = .ok (.iload 4, 2) := by decide +kernel
theorem d_X_inOpenOrders_51 : decode b_X_inOpenOrders 51 = .ok (.iconst 1, 1) := by decide +kernel
theorem d_X_inOpenOrders_52 : decode b_X_inOpenOrders 52 = .ok (.invokevirtual 142, 3) := by decide +kernel
theorem d_X_inOpenOrders_55 : decode b_X_inOpenOrders 55 = .ok (.iload_n 2, 1) := by decide +kernel
theorem d_X_inOpenOrders_56 : decode b_X_inOpenOrders 56 = .ok (.if_icmp .ne 16, 3) := by decide +kernel
theorem d_X_inOpenOrders_59 : decode b_X_inOpenOrders 59 = .ok (.iload_n 3, 1) := by decide +kernel
theorem d_X_inOpenOrders_60 : decode b_X_inOpenOrders 60 = .ok (.aload_n 0, 1) := by decide +kernel
theorem d_X_inOpenOrders_61 : decode b_X_inOpenOrders 61 = .ok (.getfield 21, 3) := by decide +kernel
theorem d_X_inOpenOrders_64 : decode b_X_inOpenOrders 64 = .ok (.iload 4, 2) := by decide +kernel
theorem d_X_inOpenOrders_66 : decode b_X_inOpenOrders 66 = .ok (.iconst 2, 1) := by decide +kernel
theorem d_X_inOpenOrders_67 : decode b_X_inOpenOrders 67 = .ok (.invokevirtual 142, 3) := by decide +kernel
theorem d_X_inOpenOrders_70 : decode b_X_inOpenOrders 70 = .ok (.iadd, 1) := by decide +kernel
theorem d_X_inOpenOrders_71 : decode b_X_inOpenOrders 71 = .ok (.istore_n 3, 1) := by decide +kernel
theorem d_X_inOpenOrders_72 : decode b_X_inOpenOrders 72 = .ok (.iinc 4 1, 3) := by decide +kernel
theorem d_X_inOpenOrders_75 : decode b_X_inOpenOrders 75 = .ok (.goto (-70), 3) := by decide +kernel
theorem d_X_inOpenOrders_78 : decode b_X_inOpenOrders 78 = .ok (.iload_n 3, 1) := by decide +kernel
theorem d_X_inOpenOrders_79 : decode b_X_inOpenOrders 79 = .ok (.ireturn, 1) := by decide +kernel
theorem d_X_orderByLevel_0 : decode b_X_orderByLevel 0 = .ok (.iload_n 1, 1) := by decide +kernel
theorem d_X_orderByLevel_1 : decode b_X_orderByLevel 1 = .ok (.iload_n 2, 1) := by decide +kernel
theorem d_X_orderByLevel_2 : decode b_X_orderByLevel 2 = .ok (.invokestatic 123, 3) := by decide +kernel
theorem d_X_orderByLevel_5 : decode b_X_orderByLevel 5 = .ok (.istore_n 3, 1) := by decide +kernel
theorem d_X_orderByLevel_6 : decode b_X_orderByLevel 6 = .ok (.aload_n 0, 1) := by decide +kernel
theorem d_X_orderByLevel_7 : decode b_X_orderByLevel 7 = .ok (.getfield 41, 3) := by decide +kernel
theorem d_X_orderByLevel_10 : decode b_X_orderByLevel 10 = .ok (.iload_n 3, 1) := by decide +kernel
theorem d_X_orderByLevel_11 : decode b_X_orderByLevel 11 = .ok (.iaload, 1) := by decide +kernel
theorem d_X_orderByLevel_12 : decode b_X_orderByLevel 12 = .ok (.ifCond .eq 13, 3) := by decide +kernel
theorem d_X_orderByLevel_15 : decode b_X_orderByLevel 15 = .ok (.aload_n 0, 1) := by decide +kernel
theorem d_X_orderByLevel_16 : decode b_X_orderByLevel 16 = .ok (.getfield 21, 3) := by decide +kernel
theorem d_X_orderByLevel_19 : decode b_X_orderByLevel 19 = .ok (.invokevirtual 222, 3) := by decide +kernel
theorem d_X_orderByLevel_22 : decode b_X_orderByLevel 22 = .ok (.ifCond .eq 4, 3) := by decide +kernel
theorem d_X_orderByLevel_25 : decode b_X_orderByLevel 25 = .ok (.return_, 1) := by decide +kernel
theorem d_X_orderByLevel_26 : decode b_X_orderByLevel 26 = .ok (.aload_n 0, 1) := by decide +kernel
theorem d_X_orderByLevel_27 : decode b_X_orderByLevel 27 = .ok (.iload_n 1, 1) := by decide +kernel
theorem d_X_orderByLevel_28 : decode b_X_orderByLevel 28 = .ok (.iload_n 2, 1) := by decide +kernel
theorem d_X_orderByLevel_29 : decode b_X_orderByLevel 29 = .ok (.iconst 1, 1) := by decide +kernel
theorem d_X_orderByLevel_30 : decode b_X_orderByLevel 30 = .ok (.invokevirtual 106, 3) := by decide +kernel
theorem d_X_orderByLevel_33 : decode b_X_orderByLevel 33 = .ok (.aload_n 0, 1) := by decide +kernel
theorem d_X_orderByLevel_34 : decode b_X_orderByLevel 34 = .ok (.iload_n 1, 1) := by decide +kernel
theorem d_X_orderByLevel_35 : decode b_X_orderByLevel 35 = .ok (.iload_n 2, 1) := by decide +kernel
theorem d_X_orderByLevel_36 : decode b_X_orderByLevel 36 = .ok (.iconst 1, 1) := by decide +kernel
theorem d_X_orderByLevel_37 : decode b_X_orderByLevel 37 = .ok (.invokevirtual 118, 3) := by decide +kernel
theorem d_X_orderByLevel_40 : decode b_X_orderByLevel 40 = .ok (.iadd, 1) := by decide +kernel
theorem d_X_orderByLevel_41 : decode b_X_orderByLevel 41 = .ok (.aload_n 0, 1) := by decide +kernel
theorem d_X_orderByLevel_42 : decode b_X_orderByLevel 42 = .ok (.iload_n 1, 1) := by decide +kernel
theorem d_X_orderByLevel_43 : decode b_X_orderByLevel 43 = .ok (.iload_n 2, 1) := by decide +kernel
theorem d_X_orderByLevel_44 : decode b_X_orderByLevel 44 = .ok (.invokevirtual 236, 3) := by decide +kernel
theorem d_X_orderByLevel_47 : decode b_X_orderByLevel 47 = .ok (.iadd, 1) := by decide +kernel
theorem d_X_orderByLevel_48 : decode b_X_orderByLevel 48 = .ok (.istore 4, 2) := by decide +kernel
theorem d_X_orderByLevel_50 : decode b_X_orderByLevel 50 = .ok (.iload 4, 2) := by decide +kernel
theorem d_X_orderByLevel_52 : decode b_X_orderByLevel 52 = .ok (.aload_n 0, 1) := by decide +kernel
theorem d_X_orderByLevel_53 : decode b_X_orderByLevel 53 = .ok (.getfield 41, 3) := by decide +kernel
theorem d_X_orderByLevel_56 : decode b_X_orderByLevel 56 = .ok (.iload_n 3, 1) := by decide +kernel
theorem d_X_orderByLevel_57 : decode b_X_orderByLevel 57 = .ok (.iaload, 1) := by decide +kernel
theorem d_X_orderByLevel_58 : decode b_X_orderByLevel 58 = .ok (.if_icmp .ge 19, 3) := by decide +kernel
theorem d_X_orderByLevel_61 : decode b_X_orderByLevel 61 = .ok (.aload_n 0, 1) := by decide +kernel
theorem d_X_orderByLevel_62 : decode b_X_orderByLevel 62 = .ok (.iload_n 1, 1) := by decide +kernel
theorem d_X_orderByLevel_63 : decode b_X_orderByLevel 63 = .ok (.iload_n 2, 1) := by decide +kernel
theorem d_X_orderByLevel_64 : decode b_X_orderByLevel 64 = .ok (.aload_n 0, 1) := by decide +kernel
theorem d_X_orderByLevel_65 : decode b_X_orderByLevel 65 = .ok (.getfield 44, 3) := by decide +kernel
theorem d_X_orderByLevel_68 : decode b_X_orderByLevel 68 = .ok (.iload_n 3, 1) := by decide +kernel
theorem d_X_orderByLevel_69 : decode b_X_orderByLevel 69 = .ok (.iaload, 1) := by decide +kernel
theorem d_X_orderByLevel_70 : decode b_X_orderByLevel 70 = .ok (.iload 4, 2) := by decide +kernel
theorem d_X_orderByLevel_72 : decode b_X_orderByLevel 72 = .ok (.isub, 1) := by decide +kernel
theorem d_X_orderByLevel_73 : decode b_X_orderByLevel 73 = .ok (.invokevirtual 162, 3) := by decide +kernel
theorem d_X_orderByLevel_76 : decode b_X_orderByLevel 76 = .ok (.pop, 1) := by decide +kernel
theorem d_X_orderByLevel_77 : decode b_X_orderByLevel 77 = .ok (.return_, 1) := by decide +kernel
theorem d_X_addOrder_0 : decode b_X_addOrder 0 = .ok (.aload_n 0, 1) := by decide +kernel
theorem d_X_addOrder_1 : decode b_X_addOrder 1 = .ok (.getfield 21, 3) := by decide +kernel
theorem d_X_addOrder_4 : decode b_X_addOrder 4 = .ok (.iload_n 1, 1) := by decide +kernel
theorem d_X_addOrder_5 : decode b_X_addOrder 5 = .ok (.iload_n 2, 1) := by decide +kernel
theorem d_X_addOrder_6 : decode b_X_addOrder 6 = .ok (.iload_n 3, 1) := by decide +kernel
theorem d_X_addOrder_7 : decode b_X_addOrder 7 = .ok (.aload_n 0, 1) := by decide +kernel
theorem d_X_addOrder_8 : decode b_X_addOrder 8 = .ok (.getfield 100, 3) := by decide +kernel
theorem d_X_addOrder_11 : decode b_X_addOrder 11 = .ok (.iconst 1, 1) := by decide +kernel
theorem d_X_addOrder_12 : decode b_X_addOrder 12 = .ok (.invokevirtual 72, 3) := by decide +kernel
theorem d_X_addOrder_15 : decode b_X_addOrder 15 = .ok (.ireturn, 1) := by decide +kernel
theorem d_X_take_0 : decode b_X_take 0 = .ok (.iload_n 3, 1) := by decide +kernel
theorem d_X_take_1 : decode b_X_take 1 = .ok (.istore 4, 2) := by decide +kernel
theorem d_X_take_3 : decode b_X_take 3 = .ok (.iconst 0, 1) := by decide +kernel
theorem d_X_take_4 : decode b_X_take 4 = .ok (.istore 5, 2) := by decide +kernel
theorem d_X_take_6 : decode b_X_take 6 = .ok (.iload 5, 2) := by decide +kernel
theorem d_X_take_8 : decode b_X_take 8 = .ok (.bipush 60, 2) := by decide +kernel
theorem d_X_take_10 : decode b_X_take 10 = .ok (.if_icmp .ge 86, 3) := by decide +kernel
theorem d_X_take_13 : decode b_X_take 13 = .ok (.iload 4, 2) := by decide +kernel
theorem d_X_take_15 : decode b_X_take 15 = .ok (.ifCond .le 81, 3) := by decide +kernel
theorem d_X_take_18 : decode b_X_take 18 = .ok (.aload_n 0, 1) := by decide +kernel
theorem d_X_take_19 : decode b_X_take 19 = .ok (.iload_n 1, 1) := by decide +kernel
theorem d_X_take_20 : decode b_X_take 20 = .ok (.iload_n 2, 1) := by decide +kernel
theorem d_X_take_21 : decode b_X_take 21 = .ok (.invokevirtual 239, 3) := by decide +kernel
theorem d_X_take_24 : decode b_X_take 24 = .ok (.istore 6, 2) := by decide +kernel
theorem d_X_take_26 : decode b_X_take 26 = .ok (.iload 6, 2) := by decide +kernel
theorem d_X_take_28 : decode b_X_take 28 = .ok (.ifCond .ge 4, 3) := by decide +kernel
theorem d_X_take_31 : decode b_X_take 31 = .ok (.return_, 1) := by decide +kernel
theorem d_X_take_32 : decode b_X_take 32 = .ok (.iload 4, 2) := by decide +kernel
theorem d_X_take_34 : decode b_X_take 34 = .ok (.aload_n 0, 1) := by decide +kernel
theorem d_X_take_35 : decode b_X_take 35 = .ok (.getfield 37, 3) := by decide +kernel
theorem d_X_take_38 : decode b_X_take 38 = .ok (.iload_n 1, 1) := by decide +kernel
theorem d_X_take_39 : decode b_X_take 39 = .ok (.iload 6, 2) := by decide +kernel
theorem d_X_take_41 : decode b_X_take 41 = .ok (.invokestatic 88, 3) := by decide +kernel
theorem d_X_take_44 : decode b_X_take 44 = .ok (.iaload, 1) := by decide +kernel
theorem d_X_take_45 : decode b_X_take 45 = .ok (.invokestatic 228, 3) := by decide +kernel
theorem d_X_take_48 : decode b_X_take 48 = .ok (.istore 7, 2) := by decide +kernel
theorem d_X_take_50 : decode b_X_take 50 = .ok (.aload_n 0, 1) := by decide +kernel
theorem d_X_take_51 : decode b_X_take 51 = .ok (.iload_n 1, 1) := by decide +kernel
theorem d_X_take_52 : decode b_X_take 52 = .ok (.iload 6, 2) := by decide +kernel
theorem d_X_take_54 : decode b_X_take 54 = .ok (.iload 7, 2) := by decide +kernel
theorem d_X_take_56 : decode b_X_take 56 = .ok (.ineg, 1) := by decide +kernel
theorem d_X_take_57 : decode b_X_take 57 = .ok (.invokevirtual 85, 3) := by decide +kernel
theorem d_X_take_60 : decode b_X_take 60 = .ok (.aload_n 0, 1) := by decide +kernel
theorem d_X_take_61 : decode b_X_take 61 = .ok (.getfield 14, 3) := by decide +kernel
theorem d_X_take_64 : decode b_X_take 64 = .ok (.iload 6, 2) := by decide +kernel
theorem d_X_take_66 : decode b_X_take 66 = .ok (.iconst 2, 1) := by decide +kernel
theorem d_X_take_67 : decode b_X_take 67 = .ok (.aload_n 0, 1) := by decide +kernel
theorem d_X_take_68 : decode b_X_take 68 = .ok (.getfield 14, 3) := by decide +kernel
theorem d_X_take_71 : decode b_X_take 71 = .ok (.iload 6, 2) := by decide +kernel
theorem d_X_take_73 : decode b_X_take 73 = .ok (.iconst 2, 1) := by decide +kernel
theorem d_X_take_74 : decode b_X_take 74 = .ok (.invokevirtual 142, 3) := by decide +kernel
theorem d_X_take_77 : decode b_X_take 77 = .ok (.iload 7, 2) := by decide +kernel
theorem d_X_take_79 : decode b_X_take 79 = .ok (.iadd, 1) := by decide +kernel
theorem d_X_take_80 : decode b_X_take 80 = .ok (.invokevirtual 149, 3) := by decide +kernel
theorem d_X_take_83 : decode b_X_take 83 = .ok (.iload 4, 2) := by decide +kernel
theorem d_X_take_85 : decode b_X_take 85 = .ok (.iload 7, 2) := by decide +kernel
theorem d_X_take_87 : decode b_X_take 87 = .ok (.isub, 1) := by decide +kernel
theorem d_X_take_88 : decode b_X_take 88 = .ok (.istore 4, 2) := by decide +kernel
theorem d_X_take_90 : decode b_X_take 90 = .ok (.iinc 5 1, 3) := by decide +kernel
theorem d_X_take_93 : decode b_X_take 93 = .ok (.goto (-87), 3) := by decide +kernel
theorem d_X_take_96 : decode b_X_take 96 = .ok (.return_, 1) := by decide +kernel
theorem d_X_firstToTake_0 : decode b_X_firstToTake 0 = .ok (.iconst (-1), 1) := by decide +kernel
theorem d_X_firstToTake_1 : decode b_X_firstToTake 1 = .ok (.istore_n 3, 1) := by decide +kernel
theorem d_X_firstToTake_2 : decode b_X_firstToTake 2 = .ok (.iconst 0, 1) := by decide +kernel
theorem d_X_firstToTake_3 : decode b_X_firstToTake 3 = .ok (.istore 4, 2) := by decide +kernel
theorem d_X_firstToTake_5 : decode b_X_firstToTake 5 = .ok (.iload 4, 2) := by decide +kernel
theorem d_X_firstToTake_7 : decode b_X_firstToTake 7 = .ok (.aload_n 0, 1) := by decide +kernel
theorem d_X_firstToTake_8 : decode b_X_firstToTake 8 = .ok (.getfield 14, 3) := by decide +kernel
theorem d_X_firstToTake_11 : decode b_X_firstToTake 11 = .ok (.invokevirtual 126, 3) := by decide +kernel
theorem d_X_firstToTake_14 : decode b_X_firstToTake 14 = .ok (.if_icmp .ge 68, 3) := by decide +kernel
theorem d_X_firstToTake_17 : decode b_X_firstToTake 17 = .ok (.aload_n 0, 1) := by decide +kernel
theorem d_X_firstToTake_18 : decode b_X_firstToTake 18 = .ok (.getfield 14, 3) := by decide +kernel
theorem d_X_firstToTake_21 : decode b_X_firstToTake 21 = .ok (.iload 4, 2) := by decide +kernel
theorem d_X_firstToTake_23 : decode b_X_firstToTake 23 = .ok (.iconst 0, 1) := by decide +kernel
theorem d_X_firstToTake_24 : decode b_X_firstToTake 24 = .ok (.invokevirtual 142, 3) := by decide +kernel
theorem d_X_firstToTake_27 : decode b_X_firstToTake 27 = .ok (.iload_n 2, 1) := by decide +kernel
theorem d_X_firstToTake_28 : decode b_X_firstToTake 28 = .ok (.if_icmp .ne 48, 3) := by decide +kernel
theorem d_X_firstToTake_31 : decode b_X_firstToTake 31 = .ok (.aload_n 0, 1) := by decide +kernel
theorem d_X_firstToTake_32 : decode b_X_firstToTake 32 = .ok (.iload 4, 2) := by decide +kernel
theorem d_X_firstToTake_34 : decode b_X_firstToTake 34 = .ok (.aload_n 0, 1) := by decide +kernel
theorem d_X_firstToTake_35 : decode b_X_firstToTake 35 = .ok (.getfield 100, 3) := by decide +kernel
theorem d_X_firstToTake_38 : decode b_X_firstToTake 38 = .ok (.invokevirtual 233, 3) := by decide +kernel
theorem d_X_firstToTake_41 : decode b_X_firstToTake 41 = .ok (.ifCond .eq 35, 3) := by decide +kernel
theorem d_X_firstToTake_44 : decode b_X_firstToTake 44 = .ok (.aload_n 0, 1) := by decide +kernel
theorem d_X_firstToTake_45 : decode b_X_firstToTake 45 = .ok (.getfield 37, 3) := by decide +kernel
theorem d_X_firstToTake_48 : decode b_X_firstToTake 48 = .ok (.iload_n 1, 1) := by decide +kernel
theorem d_X_firstToTake_49 : decode b_X_firstToTake 49 = .ok (.iload 4, 2) := by decide +kernel
theorem d_X_firstToTake_51 : decode b_X_firstToTake 51 = .ok (.invokestatic 88, 3) := by decide +kernel
theorem d_X_firstToTake_54 : decode b_X_firstToTake 54 = .ok (.iaload, 1) := by decide +kernel
theorem d_X_firstToTake_55 : decode b_X_firstToTake 55 = .ok (.ifCond .le 21, 3) := by decide +kernel
theorem d_X_firstToTake_58 : decode b_X_firstToTake 58 = .ok (.iload_n 3, 1) := by decide +kernel
theorem d_X_firstToTake_59 : decode b_X_firstToTake 59 = .ok (.ifCond .lt 14, 3) := by decide +kernel
theorem d_X_firstToTake_62 : decode b_X_firstToTake 62 = .ok (.aload_n 0, 1) := by decide +kernel
theorem d_X_firstToTake_63 : decode b_X_firstToTake 63 = .ok (.iload_n 1, 1) := by decide +kernel
theorem d_X_firstToTake_64 : decode b_X_firstToTake 64 = .ok (.iload 4, 2) := by decide +kernel
theorem d_X_firstToTake_66 : decode b_X_firstToTake 66 = .ok (.iload_n 3, 1) := by decide +kernel
theorem d_X_firstToTake_67 : decode b_X_firstToTake 67 = .ok (.invokevirtual 242, 3) := by decide +kernel
theorem d_X_firstToTake_70 : decode b_X_firstToTake 70 = .ok (.ifCond .eq 6, 3) := by decide +kernel
theorem d_X_firstToTake_73 : decode b_X_firstToTake 73 = .ok (.iload 4, 2) := by decide +kernel
theorem d_X_firstToTake_75 : decode b_X_firstToTake 75 = .ok (.istore_n 3, 1) := by decide +kernel
theorem d_X_firstToTake_76 : decode b_X_firstToTake 76 = .ok (.iinc 4 1, 3) := by decide +kernel
theorem d_X_firstToTake_79 : decode b_X_firstToTake 79 = .ok (.goto (-74), 3) := by decide +kernel
theorem d_X_firstToTake_82 : decode b_X_firstToTake 82 = .ok (.iload_n 3, 1) := by decide +kernel
theorem d_X_firstToTake_83 : decode b_X_firstToTake 83 = .ok (.ireturn, 1) := by decide +kernel
theorem d_X_isTakenBefore_0 : decode b_X_isTakenBefore 0 = .ok (.aload_n 0, 1) := by decide +kernel
theorem d_X_isTakenBefore_1 : decode b_X_isTakenBefore 1 = .ok (.getfield 14, 3) := by decide +kernel
theorem d_X_isTakenBefore_4 : decode b_X_isTakenBefore 4 = .ok (.iload_n 2, 1) := by decide +kernel
theorem d_X_isTakenBefore_5 : decode b_X_isTakenBefore 5 = .ok (.iconst 1, 1) := by decide +kernel
theorem d_X_isTakenBefore_6 : decode b_X_isTakenBefore 6 = .ok (.invokevirtual 142, 3) := by decide +kernel
theorem d_X_isTakenBefore_9 : decode b_X_isTakenBefore 9 = .ok (.istore 4, 2) := by decide +kernel
theorem d_X_isTakenBefore_11 : decode b_X_isTakenBefore 11 = .ok (.aload_n 0, 1) := by decide +kernel
theorem d_X_isTakenBefore_12 : decode b_X_isTakenBefore 12 = .ok (.getfield 14, 3) := by decide +kernel
theorem d_X_isTakenBefore_15 : decode b_X_isTakenBefore 15 = .ok (.iload_n 3, 1) := by decide +kernel
theorem d_X_isTakenBefore_16 : decode b_X_isTakenBefore 16 = .ok (.iconst 1, 1) := by decide +kernel
theorem d_X_isTakenBefore_17 : decode b_X_isTakenBefore 17 = .ok (.invokevirtual 142, 3) := by decide +kernel
theorem d_X_isTakenBefore_20 : decode b_X_isTakenBefore 20 = .ok (.istore 5, 2) := by decide +kernel
theorem d_X_isTakenBefore_22 : decode b_X_isTakenBefore 22 = .ok (.iload 4, 2) := by decide +kernel
theorem d_X_isTakenBefore_24 : decode b_X_isTakenBefore 24 = .ok (.iload 5, 2) := by decide +kernel
theorem d_X_isTakenBefore_26 : decode b_X_isTakenBefore 26 = .ok (.if_icmp .eq 16, 3) := by decide +kernel
theorem d_X_isTakenBefore_29 : decode b_X_isTakenBefore 29 = .ok (.iload 4, 2) := by decide +kernel
theorem d_X_isTakenBefore_31 : decode b_X_isTakenBefore 31 = .ok (.iload 5, 2) := by decide +kernel
theorem d_X_isTakenBefore_33 : decode b_X_isTakenBefore 33 = .ok (.if_icmp .ge 7, 3) := by decide +kernel
theorem d_X_isTakenBefore_36 : decode b_X_isTakenBefore 36 = .ok (.iconst 1, 1) := by decide +kernel
theorem d_X_isTakenBefore_37 : decode b_X_isTakenBefore 37 = .ok (.goto 4, 3) := by decide +kernel
theorem d_X_isTakenBefore_40 : decode b_X_isTakenBefore 40 = .ok (.iconst 0, 1) := by decide +kernel
theorem d_X_isTakenBefore_41 : decode b_X_isTakenBefore 41 = .ok (.ireturn, 1) := by decide +kernel
theorem d_X_isTakenBefore_42 : decode b_X_isTakenBefore 42 = .ok (.aload_n 0, 1) := by decide +kernel
theorem d_X_isTakenBefore_43 : decode b_X_isTakenBefore 43 = .ok (.getfield 37, 3) := by decide +kernel
theorem d_X_isTakenBefore_46 : decode b_X_isTakenBefore 46 = .ok (.iload_n 1, 1) := by decide +kernel
theorem d_X_isTakenBefore_47 : decode b_X_isTakenBefore 47 = .ok (.iload_n 2, 1) := by decide +kernel
theorem d_X_isTakenBefore_48 : decode b_X_isTakenBefore 48 = .ok (.invokestatic 88, 3) := by decide +kernel
theorem d_X_isTakenBefore_51 : decode b_X_isTakenBefore 51 = .ok (.iaload, 1) := by decide +kernel
theorem d_X_isTakenBefore_52 : decode b_X_isTakenBefore 52 = .ok (.aload_n 0, 1) := by decide +kernel
theorem d_X_isTakenBefore_53 : decode b_X_isTakenBefore 53 = .ok (.getfield 37, 3) := by decide +kernel
theorem d_X_isTakenBefore_56 : decode b_X_isTakenBefore 56 = .ok (.iload_n 1, 1) := by decide +kernel
theorem d_X_isTakenBefore_57 : decode b_X_isTakenBefore 57 = .ok (.iload_n 3, 1) := by decide +kernel
theorem d_X_isTakenBefore_58 : decode b_X_isTakenBefore 58 = .ok (.invokestatic 88, 3) := by decide +kernel
theorem d_X_isTakenBefore_61 : decode b_X_isTakenBefore 61 = .ok (.iaload, 1) := by decide +kernel
theorem d_X_isTakenBefore_62 : decode b_X_isTakenBefore 62 = .ok (.if_icmp .ge 7, 3) := by decide +kernel
theorem d_X_isTakenBefore_65 : decode b_X_isTakenBefore 65 = .ok (.iconst 1, 1) := by decide +kernel
theorem d_X_isTakenBefore_66 : decode b_X_isTakenBefore 66 = .ok (.goto 4, 3) := by decide +kernel
theorem d_X_isTakenBefore_69 : decode b_X_isTakenBefore 69 = .ok (.iconst 0, 1) := by decide +kernel
theorem d_X_isTakenBefore_70 : decode b_X_isTakenBefore 70 = .ok (.ireturn, 1) := by decide +kernel
theorem d_X_hasParts_0 : decode b_X_hasParts 0 = .ok (.iconst 0, 1) := by decide +kernel
theorem d_X_hasParts_1 : decode b_X_hasParts 1 = .ok (.istore_n 2, 1) := by decide +kernel
theorem d_X_hasParts_2 : decode b_X_hasParts 2 = .ok (.iload_n 2, 1) := by decide +kernel
theorem d_X_hasParts_3 : decode b_X_hasParts 3 = .ok (.bipush 10, 2) := by decide +kernel
theorem d_X_hasParts_5 : decode b_X_hasParts 5 = .ok (.if_icmp .ge 24, 3) := by decide +kernel
theorem d_X_hasParts_8 : decode b_X_hasParts 8 = .ok (.aload_n 0, 1) := by decide +kernel
theorem d_X_hasParts_9 : decode b_X_hasParts 9 = .ok (.getfield 47, 3) := by decide +kernel
theorem d_X_hasParts_12 : decode b_X_hasParts 12 = .ok (.iload_n 1, 1) := by decide +kernel
theorem d_X_hasParts_13 : decode b_X_hasParts 13 = .ok (.iload_n 2, 1) := by decide +kernel
theorem d_X_hasParts_14 : decode b_X_hasParts 14 = .ok (.invokestatic 123, 3) := by decide +kernel
theorem d_X_hasParts_17 : decode b_X_hasParts 17 = .ok (.iaload, 1) := by decide +kernel
theorem d_X_hasParts_18 : decode b_X_hasParts 18 = .ok (.ifCond .le 5, 3) := by decide +kernel
theorem d_X_hasParts_21 : decode b_X_hasParts 21 = .ok (.iconst 1, 1) := by decide +kernel
theorem d_X_hasParts_22 : decode b_X_hasParts 22 = .ok (.ireturn, 1) := by decide +kernel
theorem d_X_hasParts_23 : decode b_X_hasParts 23 = .ok (.iinc 2 1, 3) := by decide +kernel
theorem d_X_hasParts_26 : decode b_X_hasParts 26 = .ok (.goto (-24), 3) := by decide +kernel
theorem d_X_hasParts_29 : decode b_X_hasParts 29 = .ok (.iconst 0, 1) := by decide +kernel
theorem d_X_hasParts_30 : decode b_X_hasParts 30 = .ok (.ireturn, 1) := by decide +kernel
theorem d_X_lackingKind_0 : decode b_X_lackingKind 0 = .ok (.iconst 0, 1) := by decide +kernel
theorem d_X_lackingKind_1 : decode b_X_lackingKind 1 = .ok (.istore_n 3, 1) := by decide +kernel
theorem d_X_lackingKind_2 : decode b_X_lackingKind 2 = .ok (.iload_n 3, 1) := by decide +kernel
theorem d_X_lackingKind_3 : decode b_X_lackingKind 3 = .ok (.bipush 10, 2) := by decide +kernel
theorem d_X_lackingKind_5 : decode b_X_lackingKind 5 = .ok (.if_icmp .ge 40, 3) := by decide +kernel
theorem d_X_lackingKind_8 : decode b_X_lackingKind 8 = .ok (.aload_n 0, 1) := by decide +kernel
theorem d_X_lackingKind_9 : decode b_X_lackingKind 9 = .ok (.getfield 47, 3) := by decide +kernel
theorem d_X_lackingKind_12 : decode b_X_lackingKind 12 = .ok (.iload_n 2, 1) := by decide +kernel
theorem d_X_lackingKind_13 : decode b_X_lackingKind 13 = .ok (.iload_n 3, 1) := by decide +kernel
theorem d_X_lackingKind_14 : decode b_X_lackingKind 14 = .ok (.invokestatic 123, 3) := by decide +kernel
theorem d_X_lackingKind_17 : decode b_X_lackingKind 17 = .ok (.iaload, 1) := by decide +kernel
theorem d_X_lackingKind_18 : decode b_X_lackingKind 18 = .ok (.istore 4, 2) := by decide +kernel
theorem d_X_lackingKind_20 : decode b_X_lackingKind 20 = .ok (.iload 4, 2) := by decide +kernel
theorem d_X_lackingKind_22 : decode b_X_lackingKind 22 = .ok (.ifCond .le 17, 3) := by decide +kernel
theorem d_X_lackingKind_25 : decode b_X_lackingKind 25 = .ok (.aload_n 0, 1) := by decide +kernel
theorem d_X_lackingKind_26 : decode b_X_lackingKind 26 = .ok (.iload_n 1, 1) := by decide +kernel
theorem d_X_lackingKind_27 : decode b_X_lackingKind 27 = .ok (.iload_n 3, 1) := by decide +kernel
theorem d_X_lackingKind_28 : decode b_X_lackingKind 28 = .ok (.iconst 1, 1) := by decide +kernel
theorem d_X_lackingKind_29 : decode b_X_lackingKind 29 = .ok (.invokevirtual 106, 3) := by decide +kernel
theorem d_X_lackingKind_32 : decode b_X_lackingKind 32 = .ok (.iload 4, 2) := by decide +kernel
theorem d_X_lackingKind_34 : decode b_X_lackingKind 34 = .ok (.if_icmp .ge 5, 3) := by decide +kernel
theorem d_X_lackingKind_37 : decode b_X_lackingKind 37 = .ok (.iload_n 3, 1) := by decide +kernel
theorem d_X_lackingKind_38 : decode b_X_lackingKind 38 = .ok (.ireturn, 1) := by decide +kernel
theorem d_X_lackingKind_39 : decode b_X_lackingKind 39 = .ok (.iinc 3 1, 3) := by decide +kernel
theorem d_X_lackingKind_42 : decode b_X_lackingKind 42 = .ok (.goto (-40), 3) := by decide +kernel
theorem d_X_lackingKind_45 : decode b_X_lackingKind 45 = .ok (.iconst (-1), 1) := by decide +kernel
theorem d_X_lackingKind_46 : decode b_X_lackingKind 46 = .ok (.ireturn, 1) := by decide +kernel
