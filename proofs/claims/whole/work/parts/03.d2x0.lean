theorem d_X_init_0 : decode b_X_init 0 = .ok (.aload_n 0, 1) := by decide +kernel
theorem d_X_init_1 : decode b_X_init 1 = .ok (.invokespecial 1, 3) := by decide +kernel
theorem d_X_init_4 : decode b_X_init 4 = .ok (.aload_n 0, 1) := by decide +kernel
theorem d_X_init_5 : decode b_X_init 5 = .ok (.new 7, 3) := by decide +kernel
theorem d_X_init_8 : decode b_X_init 8 = .ok (.dup, 1) := by decide +kernel
theorem d_X_init_9 : decode b_X_init 9 = .ok (.bipush 60, 2) := by decide +kernel
theorem d_X_init_11 : decode b_X_init 11 = .ok (.invokespecial 11, 3) := by decide +kernel
theorem d_X_init_14 : decode b_X_init 14 = .ok (.putfield 14, 3) := by decide +kernel
theorem d_X_init_17 : decode b_X_init 17 = .ok (.aload_n 0, 1) := by decide +kernel
theorem d_X_init_18 : decode b_X_init 18 = .ok (.new 7, 3) := by decide +kernel
theorem d_X_init_21 : decode b_X_init 21 = .ok (.dup, 1) := by decide +kernel
theorem d_X_init_22 : decode b_X_init 22 = .ok (.bipush 60, 2) := by decide +kernel
theorem d_X_init_24 : decode b_X_init 24 = .ok (.invokespecial 11, 3) := by decide +kernel
theorem d_X_init_27 : decode b_X_init 27 = .ok (.putfield 18, 3) := by decide +kernel
theorem d_X_init_30 : decode b_X_init 30 = .ok (.aload_n 0, 1) := by decide +kernel
theorem d_X_init_31 : decode b_X_init 31 = .ok (.new 7, 3) := by decide +kernel
theorem d_X_init_34 : decode b_X_init 34 = .ok (.dup, 1) := by decide +kernel
theorem d_X_init_35 : decode b_X_init 35 = .ok (.bipush 80, 2) := by decide +kernel
theorem d_X_init_37 : decode b_X_init 37 = .ok (.invokespecial 11, 3) := by decide +kernel
theorem d_X_init_40 : decode b_X_init 40 = .ok (.putfield 21, 3) := by decide +kernel
theorem d_X_init_43 : decode b_X_init 43 = .ok (.aload_n 0, 1) := by decide +kernel
theorem d_X_init_44 : decode b_X_init 44 = .ok (.new 7, 3) := by decide +kernel
theorem d_X_init_47 : decode b_X_init 47 = .ok (.dup, 1) := by decide +kernel
theorem d_X_init_48 : decode b_X_init 48 = .ok (.bipush 20, 2) := by decide +kernel
theorem d_X_init_50 : decode b_X_init 50 = .ok (.invokespecial 11, 3) := by decide +kernel
theorem d_X_init_53 : decode b_X_init 53 = .ok (.putfield 24, 3) := by decide +kernel
theorem d_X_init_56 : decode b_X_init 56 = .ok (.aload_n 0, 1) := by decide +kernel
theorem d_X_init_57 : decode b_X_init 57 = .ok (.new 7, 3) := by decide +kernel
theorem d_X_init_60 : decode b_X_init 60 = .ok (.dup, 1) := by decide +kernel
theorem d_X_init_61 : decode b_X_init 61 = .ok (.bipush 80, 2) := by decide +kernel
theorem d_X_init_63 : decode b_X_init 63 = .ok (.invokespecial 11, 3) := by decide +kernel
theorem d_X_init_66 : decode b_X_init 66 = .ok (.putfield 27, 3) := by decide +kernel
theorem d_X_init_69 : decode b_X_init 69 = .ok (.aload_n 0, 1) := by decide +kernel
theorem d_X_init_70 : decode b_X_init 70 = .ok (.new 30, 3) := by decide +kernel
theorem d_X_init_73 : decode b_X_init 73 = .ok (.dup, 1) := by decide +kernel
theorem d_X_init_74 : decode b_X_init 74 = .ok (.invokespecial 32, 3) := by decide +kernel
theorem d_X_init_77 : decode b_X_init 77 = .ok (.putfield 33, 3) := by decide +kernel
theorem d_X_init_80 : decode b_X_init 80 = .ok (.aload_n 0, 1) := by decide +kernel
theorem d_X_init_81 : decode b_X_init 81 = .ok (.sipush 480, 3) := by decide +kernel
theorem d_X_init_84 : decode b_X_init 84 = .ok (.newarray .int, 2) := by decide +kernel
theorem d_X_init_86 : decode b_X_init 86 = .ok (.putfield 37, 3) := by decide +kernel
theorem d_X_init_89 : decode b_X_init 89 = .ok (.aload_n 0, 1) := by decide +kernel
theorem d_X_init_90 : decode b_X_init 90 = .ok (.bipush 80, 2) := by decide +kernel
theorem d_X_init_92 : decode b_X_init 92 = .ok (.newarray .int, 2) := by decide +kernel
theorem d_X_init_94 : decode b_X_init 94 = .ok (.putfield 41, 3) := by decide +kernel
theorem d_X_init_97 : decode b_X_init 97 = .ok (.aload_n 0, 1) := by decide +kernel
theorem d_X_init_98 : decode b_X_init 98 = .ok (.bipush 80, 2) := by decide +kernel
theorem d_X_init_100 : decode b_X_init 100 = .ok (.newarray .int, 2) := by decide +kernel
theorem d_X_init_102 : decode b_X_init 102 = .ok (.putfield 44, 3) := by decide +kernel
theorem d_X_init_105 : decode b_X_init 105 = .ok (.aload_n 0, 1) := by decide +kernel
theorem d_X_init_106 : decode b_X_init 106 = .ok (.bipush 50, 2) := by decide +kernel
theorem d_X_init_108 : decode b_X_init 108 = .ok (.newarray .int, 2) := by decide +kernel
theorem d_X_init_110 : decode b_X_init 110 = .ok (.putfield 47, 3) := by decide +kernel
theorem d_X_init_113 : decode b_X_init 113 = .ok (.return_, 1) := by decide +kernel
theorem d_X_store_0 : decode b_X_store 0 = .ok (.aload_n 0, 1) := by decide +kernel
theorem d_X_store_1 : decode b_X_store 1 = .ok (.getfield 50, 3) := by decide +kernel
theorem d_X_store_4 : decode b_X_store 4 = .ok (.bipush 8, 2) := by decide +kernel
theorem d_X_store_6 : decode b_X_store 6 = .ok (.if_icmp .lt 13, 3) := by decide +kernel
theorem d_X_store_9 : decode b_X_store 9 = .ok (.new 54, 3) := by decide +kernel
theorem d_X_store_12 : decode b_X_store 12 = .ok (.dup, 1) := by decide +kernel
theorem d_X_store_13 : decode b_X_store 13 = .ok (.ldc 56, 2) := by decide +kernel
theorem d_X_store_15 : decode b_X_store 15 = .ok (.invokespecial 58, 3) := by decide +kernel
theorem d_X_store_18 : decode b_X_store 18 = .ok (.athrow, 1) := by decide +kernel
theorem d_X_store_19 : decode b_X_store 19 = .ok (.aload_n 0, 1) := by decide +kernel
theorem d_X_store_20 : decode b_X_store 20 = .ok (.dup, 1) := by decide +kernel
theorem d_X_store_21 : decode b_X_store 21 = .ok (.getfield 50, 3) := by decide +kernel
theorem d_X_store_24 : decode b_X_store 24 = .ok (.iconst 1, 1) := by decide +kernel
theorem d_X_store_25 : decode b_X_store 25 = .ok (.iadd, 1) := by decide +kernel
theorem d_X_store_26 : decode b_X_store 26 = .ok (.putfield 50, 3) := by decide +kernel
theorem d_X_store_29 : decode b_X_store 29 = .ok (.aload_n 0, 1) := by decide +kernel
theorem d_X_store_30 : decode b_X_store 30 = .ok (.getfield 50, 3) := by decide +kernel
theorem d_X_store_33 : decode b_X_store 33 = .ok (.iconst 1, 1) := by decide +kernel
theorem d_X_store_34 : decode b_X_store 34 = .ok (.isub, 1) := by decide +kernel
theorem d_X_store_35 : decode b_X_store 35 = .ok (.ireturn, 1) := by decide +kernel
theorem d_X_lot_0 : decode b_X_lot 0 = .ok (.iload_n 1, 1) := by decide +kernel
theorem d_X_lot_1 : decode b_X_lot 1 = .ok (.invokestatic 61, 3) := by decide +kernel
theorem d_X_lot_4 : decode b_X_lot 4 = .ok (.iload_n 2, 1) := by decide +kernel
theorem d_X_lot_5 : decode b_X_lot 5 = .ok (.iconst 0, 1) := by decide +kernel
theorem d_X_lot_6 : decode b_X_lot 6 = .ok (.sipush 9999, 3) := by decide +kernel
theorem d_X_lot_9 : decode b_X_lot 9 = .ok (.invokestatic 64, 3) := by decide +kernel
theorem d_X_lot_12 : decode b_X_lot 12 = .ok (.aload_n 0, 1) := by decide +kernel
theorem d_X_lot_13 : decode b_X_lot 13 = .ok (.getfield 14, 3) := by decide +kernel
theorem d_X_lot_16 : decode b_X_lot 16 = .ok (.invokestatic 68, 3) := by decide +kernel
theorem d_X_lot_19 : decode b_X_lot 19 = .ok (.aload_n 0, 1) := by decide +kernel
theorem d_X_lot_20 : decode b_X_lot 20 = .ok (.getfield 14, 3) := by decide +kernel
theorem d_X_lot_23 : decode b_X_lot 23 = .ok (.iload_n 1, 1) := by decide +kernel
theorem d_X_lot_24 : decode b_X_lot 24 = .ok (.iload_n 2, 1) := by decide +kernel
theorem d_X_lot_25 : decode b_X_lot 25 = .ok (.iconst 0, 1) := by decide +kernel
theorem d_X_lot_26 : decode b_X_lot 26 = .ok (.iconst 0, 1) := by decide +kernel
theorem d_X_lot_27 : decode b_X_lot 27 = .ok (.iconst 0, 1) := by decide +kernel
theorem d_X_lot_28 : decode b_X_lot 28 = .ok (.invokevirtual 72, 3) := by decide +kernel
theorem d_X_lot_31 : decode b_X_lot 31 = .ok (.ireturn, 1) := by decide +kernel
theorem d_X_bring_0 : decode b_X_bring 0 = .ok (.aload_n 0, 1) := by decide +kernel
theorem d_X_bring_1 : decode b_X_bring 1 = .ok (.iload_n 1, 1) := by decide +kernel
theorem d_X_bring_2 : decode b_X_bring 2 = .ok (.invokevirtual 76, 3) := by decide +kernel
theorem d_X_bring_5 : decode b_X_bring 5 = .ok (.aload_n 0, 1) := by decide +kernel
theorem d_X_bring_6 : decode b_X_bring 6 = .ok (.iload_n 2, 1) := by decide +kernel
theorem d_X_bring_7 : decode b_X_bring 7 = .ok (.invokevirtual 79, 3) := by decide +kernel
theorem d_X_bring_10 : decode b_X_bring 10 = .ok (.iload_n 3, 1) := by decide +kernel
theorem d_X_bring_11 : decode b_X_bring 11 = .ok (.iconst 1, 1) := by decide +kernel
theorem d_X_bring_12 : decode b_X_bring 12 = .ok (.sipush 9999, 3) := by decide +kernel
theorem d_X_bring_15 : decode b_X_bring 15 = .ok (.invokestatic 64, 3) := by decide +kernel
theorem d_X_bring_18 : decode b_X_bring 18 = .ok (.aload_n 0, 1) := by decide +kernel
theorem d_X_bring_19 : decode b_X_bring 19 = .ok (.iload_n 1, 1) := by decide +kernel
theorem d_X_bring_20 : decode b_X_bring 20 = .ok (.iload_n 2, 1) := by decide +kernel
theorem d_X_bring_21 : decode b_X_bring 21 = .ok (.iload_n 3, 1) := by decide +kernel
theorem d_X_bring_22 : decode b_X_bring 22 = .ok (.invokevirtual 82, 3) := by decide +kernel
theorem d_X_bring_25 : decode b_X_bring 25 = .ok (.aload_n 0, 1) := by decide +kernel
theorem d_X_bring_26 : decode b_X_bring 26 = .ok (.iload_n 1, 1) := by decide +kernel
theorem d_X_bring_27 : decode b_X_bring 27 = .ok (.iload_n 2, 1) := by decide +kernel
theorem d_X_bring_28 : decode b_X_bring 28 = .ok (.iload_n 3, 1) := by decide +kernel
theorem d_X_bring_29 : decode b_X_bring 29 = .ok (.invokevirtual 85, 3) := by decide +kernel
theorem d_X_bring_32 : decode b_X_bring 32 = .ok (.aload_n 0, 1) := by decide +kernel
theorem d_X_bring_33 : decode b_X_bring 33 = .ok (.getfield 37, 3) := by decide +kernel
theorem d_X_bring_36 : decode b_X_bring 36 = .ok (.iload_n 1, 1) := by decide +kernel
theorem d_X_bring_37 : decode b_X_bring 37 = .ok (.iload_n 2, 1) := by decide +kernel
theorem d_X_bring_38 : decode b_X_bring 38 = .ok (.invokestatic 88, 3) := by decide +kernel
theorem d_X_bring_41 : decode b_X_bring 41 = .ok (.iaload, 1) := by decide +kernel
theorem d_X_bring_42 : decode b_X_bring 42 = .ok (.ireturn, 1) := by decide +kernel
theorem d_X_move_0 : decode b_X_move 0 = .ok (.aload_n 0, 1) := by decide +kernel
theorem d_X_move_1 : decode b_X_move 1 = .ok (.iload_n 1, 1) := by decide +kernel
theorem d_X_move_2 : decode b_X_move 2 = .ok (.invokevirtual 76, 3) := by decide +kernel
theorem d_X_move_5 : decode b_X_move 5 = .ok (.aload_n 0, 1) := by decide +kernel
theorem d_X_move_6 : decode b_X_move 6 = .ok (.iload_n 2, 1) := by decide +kernel
theorem d_X_move_7 : decode b_X_move 7 = .ok (.invokevirtual 76, 3) := by decide +kernel
theorem d_X_move_10 : decode b_X_move 10 = .ok (.iload_n 1, 1) := by decide +kernel
theorem d_X_move_11 : decode b_X_move 11 = .ok (.iload_n 2, 1) := by decide +kernel
theorem d_X_move_12 : decode b_X_move 12 = .ok (.if_icmp .ne 13, 3) := by decide +kernel
theorem d_X_move_15 : decode b_X_move 15 = .ok (.new 92, 3) := by decide +kernel
theorem d_X_move_18 : decode b_X_move 18 = .ok (.dup, 1) := by decide +kernel
theorem d_X_move_19 : decode b_X_move 19 = .ok (.ldc 94, 2) := by decide +kernel
theorem d_X_move_21 : decode b_X_move 21 = .ok (.invokespecial 96, 3) := by decide +kernel
theorem d_X_move_24 : decode b_X_move 24 = .ok (.athrow, 1) := by decide +kernel
theorem d_X_move_25 : decode b_X_move 25 = .ok (.aload_n 0, 1) := by decide +kernel
theorem d_X_move_26 : decode b_X_move 26 = .ok (.iload_n 3, 1) := by decide +kernel
theorem d_X_move_27 : decode b_X_move 27 = .ok (.invokevirtual 79, 3) := by decide +kernel
theorem d_X_move_30 : decode b_X_move 30 = .ok (.iload 4, 2) := by decide +kernel
theorem d_X_move_32 : decode b_X_move 32 = .ok (.iconst 1, 1) := by decide +kernel
theorem d_X_move_33 : decode b_X_move 33 = .ok (.sipush 9999, 3) := by decide +kernel
theorem d_X_move_36 : decode b_X_move 36 = .ok (.invokestatic 64, 3) := by decide +kernel
theorem d_X_move_39 : decode b_X_move 39 = .ok (.iload 5, 2) := by decide +kernel
theorem d_X_move_41 : decode b_X_move 41 = .ok (.iconst 0, 1) := by decide +kernel
theorem d_X_move_42 : decode b_X_move 42 = .ok (.bipush 30, 2) := by decide +kernel
theorem d_X_move_44 : decode b_X_move 44 = .ok (.invokestatic 64, 3) := by decide +kernel
theorem d_X_move_47 : decode b_X_move 47 = .ok (.aload_n 0, 1) := by decide +kernel
theorem d_X_move_48 : decode b_X_move 48 = .ok (.iload_n 1, 1) := by decide +kernel
theorem d_X_move_49 : decode b_X_move 49 = .ok (.iload_n 3, 1) := by decide +kernel
theorem d_X_move_50 : decode b_X_move 50 = .ok (.iload 4, 2) := by decide +kernel
theorem d_X_move_52 : decode b_X_move 52 = .ok (.invokevirtual 97, 3) := by decide +kernel
theorem d_X_move_55 : decode b_X_move 55 = .ok (.aload_n 0, 1) := by decide +kernel
theorem d_X_move_56 : decode b_X_move 56 = .ok (.getfield 18, 3) := by decide +kernel
theorem d_X_move_59 : decode b_X_move 59 = .ok (.invokestatic 68, 3) := by decide +kernel
theorem d_X_move_62 : decode b_X_move 62 = .ok (.aload_n 0, 1) := by decide +kernel
theorem d_X_move_63 : decode b_X_move 63 = .ok (.iload_n 1, 1) := by decide +kernel
theorem d_X_move_64 : decode b_X_move 64 = .ok (.iload_n 3, 1) := by decide +kernel
theorem d_X_move_65 : decode b_X_move 65 = .ok (.iload 4, 2) := by decide +kernel
theorem d_X_move_67 : decode b_X_move 67 = .ok (.ineg, 1) := by decide +kernel
theorem d_X_move_68 : decode b_X_move 68 = .ok (.invokevirtual 85, 3) := by decide +kernel
theorem d_X_move_71 : decode b_X_move 71 = .ok (.aload_n 0, 1) := by decide +kernel
theorem d_X_move_72 : decode b_X_move 72 = .ok (.getfield 18, 3) := by decide +kernel
theorem d_X_move_75 : decode b_X_move 75 = .ok (.iload_n 2, 1) := by decide +kernel
theorem d_X_move_76 : decode b_X_move 76 = .ok (.iload_n 3, 1) := by decide +kernel
theorem d_X_move_77 : decode b_X_move 77 = .ok (.iload 4, 2) := by decide +kernel
theorem d_X_move_79 : decode b_X_move 79 = .ok (.aload_n 0, 1) := by decide +kernel
theorem d_X_move_80 : decode b_X_move 80 = .ok (.getfield 100, 3) := by decide +kernel
theorem d_X_move_83 : decode b_X_move 83 = .ok (.iload 5, 2) := by decide +kernel
theorem d_X_move_85 : decode b_X_move 85 = .ok (.iadd, 1) := by decide +kernel
theorem d_X_move_86 : decode b_X_move 86 = .ok (.iconst 1, 1) := by decide +kernel
theorem d_X_move_87 : decode b_X_move 87 = .ok (.invokevirtual 72, 3) := by decide +kernel
theorem d_X_move_90 : decode b_X_move 90 = .ok (.istore 6, 2) := by decide +kernel
theorem d_X_move_92 : decode b_X_move 92 = .ok (.iload 5, 2) := by decide +kernel
theorem d_X_move_94 : decode b_X_move 94 = .ok (.ifCond .ne 9, 3) := by decide +kernel
theorem d_X_move_97 : decode b_X_move 97 = .ok (.aload_n 0, 1) := by decide +kernel
theorem d_X_move_98 : decode b_X_move 98 = .ok (.iload 6, 2) := by decide +kernel
theorem d_X_move_100 : decode b_X_move 100 = .ok (.invokevirtual 103, 3) := by decide +kernel
theorem d_X_move_103 : decode b_X_move 103 = .ok (.iload 6, 2) := by decide +kernel
theorem d_X_move_105 : decode b_X_move 105 = .ok (.ireturn, 1) := by decide +kernel
theorem d_X_use_0 : decode b_X_use 0 = .ok (.aload_n 0, 1) := by decide +kernel
theorem d_X_use_1 : decode b_X_use 1 = .ok (.iload_n 1, 1) := by decide +kernel
theorem d_X_use_2 : decode b_X_use 2 = .ok (.invokevirtual 76, 3) := by decide +kernel
theorem d_X_use_5 : decode b_X_use 5 = .ok (.iload_n 2, 1) := by decide +kernel
theorem d_X_use_6 : decode b_X_use 6 = .ok (.invokestatic 61, 3) := by decide +kernel
theorem d_X_use_9 : decode b_X_use 9 = .ok (.iload_n 3, 1) := by decide +kernel
theorem d_X_use_10 : decode b_X_use 10 = .ok (.iconst 1, 1) := by decide +kernel
theorem d_X_use_11 : decode b_X_use 11 = .ok (.sipush 9999, 3) := by decide +kernel
theorem d_X_use_14 : decode b_X_use 14 = .ok (.invokestatic 64, 3) := by decide +kernel
theorem d_X_use_17 : decode b_X_use 17 = .ok (.aload_n 0, 1) := by decide +kernel
theorem d_X_use_18 : decode b_X_use 18 = .ok (.iload_n 1, 1) := by decide +kernel
theorem d_X_use_19 : decode b_X_use 19 = .ok (.iload_n 2, 1) := by decide +kernel
theorem d_X_use_20 : decode b_X_use 20 = .ok (.iconst 1, 1) := by decide +kernel
theorem d_X_use_21 : decode b_X_use 21 = .ok (.invokevirtual 106, 3) := by decide +kernel
theorem d_X_use_24 : decode b_X_use 24 = .ok (.istore 4, 2) := by decide +kernel
theorem d_X_use_26 : decode b_X_use 26 = .ok (.iload 4, 2) := by decide +kernel
theorem d_X_use_28 : decode b_X_use 28 = .ok (.iload_n 3, 1) := by decide +kernel
theorem d_X_use_29 : decode b_X_use 29 = .ok (.if_icmp .ge 13, 3) := by decide +kernel
theorem d_X_use_32 : decode b_X_use 32 = .ok (.new 110, 3) := by decide +kernel
theorem d_X_use_35 : decode b_X_use 35 = .ok (.dup, 1) := by decide +kernel
theorem d_X_use_36 : decode b_X_use 36 = .ok (.ldc 112, 2) := by decide +kernel
theorem d_X_use_38 : decode b_X_use 38 = .ok (.invokespecial 114, 3) := by decide +kernel
theorem d_X_use_41 : decode b_X_use 41 = .ok (.athrow, 1) := by decide +kernel
theorem d_X_use_42 : decode b_X_use 42 = .ok (.aload_n 0, 1) := by decide +kernel
theorem d_X_use_43 : decode b_X_use 43 = .ok (.iload_n 1, 1) := by decide +kernel
theorem d_X_use_44 : decode b_X_use 44 = .ok (.iload_n 2, 1) := by decide +kernel
theorem d_X_use_45 : decode b_X_use 45 = .ok (.iload_n 3, 1) := by decide +kernel
theorem d_X_use_46 : decode b_X_use 46 = .ok (.invokevirtual 115, 3) := by decide +kernel
theorem d_X_use_49 : decode b_X_use 49 = .ok (.iload 4, 2) := by decide +kernel
theorem d_X_use_51 : decode b_X_use 51 = .ok (.iload_n 3, 1) := by decide +kernel
theorem d_X_use_52 : decode b_X_use 52 = .ok (.isub, 1) := by decide +kernel
theorem d_X_use_53 : decode b_X_use 53 = .ok (.ireturn, 1) := by decide +kernel
theorem d_X_sum_0 : decode b_X_sum 0 = .ok (.aload_n 0, 1) := by decide +kernel
theorem d_X_sum_1 : decode b_X_sum 1 = .ok (.iload_n 1, 1) := by decide +kernel
theorem d_X_sum_2 : decode b_X_sum 2 = .ok (.invokevirtual 76, 3) := by decide +kernel
theorem d_X_sum_5 : decode b_X_sum 5 = .ok (.iload_n 2, 1) := by decide +kernel
theorem d_X_sum_6 : decode b_X_sum 6 = .ok (.invokestatic 61, 3) := by decide +kernel
theorem d_X_sum_9 : decode b_X_sum 9 = .ok (.iload_n 3, 1) := by decide +kernel
theorem d_X_sum_10 : decode b_X_sum 10 = .ok (.tableswitch 50 0 2 #[26, 34, 42], 26) := by decide +kernel
theorem d_X_sum_36 : decode b_X_sum 36 = .ok (.aload_n 0, 1) := by decide +kernel
theorem d_X_sum_37 : decode b_X_sum 37 = .ok (.iload_n 1, 1) := by decide +kernel
theorem d_X_sum_38 : decode b_X_sum 38 = .ok (.iload_n 2, 1) := by decide +kernel
theorem d_X_sum_39 : decode b_X_sum 39 = .ok (.iconst 1, 1) := by decide +kernel
theorem d_X_sum_40 : decode b_X_sum 40 = .ok (.invokevirtual 106, 3) := by decide +kernel
theorem d_X_sum_43 : decode b_X_sum 43 = .ok (.ireturn, 1) := by decide +kernel
theorem d_X_sum_44 : decode b_X_sum 44 = .ok (.aload_n 0, 1) := by decide +kernel
theorem d_X_sum_45 : decode b_X_sum 45 = .ok (.iload_n 1, 1) := by decide +kernel
theorem d_X_sum_46 : decode b_X_sum 46 = .ok (.iload_n 2, 1) := by decide +kernel
theorem d_X_sum_47 : decode b_X_sum 47 = .ok (.iconst 0, 1) := by decide +kernel
theorem d_X_sum_48 : decode b_X_sum 48 = .ok (.invokevirtual 106, 3) := by decide +kernel
theorem d_X_sum_51 : decode b_X_sum 51 = .ok (.ireturn, 1) := by decide +kernel
theorem d_X_sum_52 : decode b_X_sum 52 = .ok (.aload_n 0, 1) := by decide +kernel
theorem d_X_sum_53 : decode b_X_sum 53 = .ok (.iload_n 1, 1) := by decide +kernel
theorem d_X_sum_54 : decode b_X_sum 54 = .ok (.iload_n 2, 1) := by decide +kernel
theorem d_X_sum_55 : decode b_X_sum 55 = .ok (.iconst 0, 1) := by decide +kernel
theorem d_X_sum_56 : decode b_X_sum 56 = .ok (.invokevirtual 118, 3) := by decide +kernel
theorem d_X_sum_59 : decode b_X_sum 59 = .ok (.ireturn, 1) := by decide +kernel
theorem d_X_sum_60 : decode b_X_sum 60 = .ok (.new 92, 3) := by decide +kernel
theorem d_X_sum_63 : decode b_X_sum 63 = .ok (.dup, 1) := by decide +kernel
theorem d_X_sum_64 : decode b_X_sum 64 = .ok (.ldc 121, 2) := by decide +kernel
theorem d_X_sum_66 : decode b_X_sum 66 = .ok (.invokespecial 96, 3) := by decide +kernel
theorem d_X_sum_69 : decode b_X_sum 69 = .ok (.athrow, 1) := by decide +kernel
theorem d_X_has_0 : decode b_X_has 0 = .ok (.aload_n 0, 1) := by decide +kernel
theorem d_X_has_1 : decode b_X_has 1 = .ok (.iload_n 1, 1) := by decide +kernel
theorem d_X_has_2 : decode b_X_has 2 = .ok (.invokevirtual 76, 3) := by decide +kernel
theorem d_X_has_5 : decode b_X_has 5 = .ok (.aload_n 0, 1) := by decide +kernel
theorem d_X_has_6 : decode b_X_has 6 = .ok (.iload_n 2, 1) := by decide +kernel
theorem d_X_has_7 : decode b_X_has 7 = .ok (.invokevirtual 79, 3) := by decide +kernel
theorem d_X_has_10 : decode b_X_has 10 = .ok (.aload_n 0, 1) := by decide +kernel
theorem d_X_has_11 : decode b_X_has 11 = .ok (.getfield 37, 3) := by decide +kernel
theorem d_X_has_14 : decode b_X_has 14 = .ok (.iload_n 1, 1) := by decide +kernel
theorem d_X_has_15 : decode b_X_has 15 = .ok (.iload_n 2, 1) := by decide +kernel
theorem d_X_has_16 : decode b_X_has 16 = .ok (.invokestatic 88, 3) := by decide +kernel
theorem d_X_has_19 : decode b_X_has 19 = .ok (.iaload, 1) := by decide +kernel
theorem d_X_has_20 : decode b_X_has 20 = .ok (.ireturn, 1) := by decide +kernel
theorem d_X_level_0 : decode b_X_level 0 = .ok (.aload_n 0, 1) := by decide +kernel
theorem d_X_level_1 : decode b_X_level 1 = .ok (.iload_n 1, 1) := by decide +kernel
theorem d_X_level_2 : decode b_X_level 2 = .ok (.invokevirtual 76, 3) := by decide +kernel
theorem d_X_level_5 : decode b_X_level 5 = .ok (.iload_n 2, 1) := by decide +kernel
theorem d_X_level_6 : decode b_X_level 6 = .ok (.invokestatic 61, 3) := by decide +kernel
theorem d_X_level_9 : decode b_X_level 9 = .ok (.iload 4, 2) := by decide +kernel
theorem d_X_level_11 : decode b_X_level 11 = .ok (.iconst 0, 1) := by decide +kernel
theorem d_X_level_12 : decode b_X_level 12 = .ok (.sipush 9999, 3) := by decide +kernel
theorem d_X_level_15 : decode b_X_level 15 = .ok (.invokestatic 64, 3) := by decide +kernel
theorem d_X_level_18 : decode b_X_level 18 = .ok (.iload_n 3, 1) := by decide +kernel
theorem d_X_level_19 : decode b_X_level 19 = .ok (.iconst 0, 1) := by decide +kernel
theorem d_X_level_20 : decode b_X_level 20 = .ok (.iload 4, 2) := by decide +kernel
theorem d_X_level_22 : decode b_X_level 22 = .ok (.invokestatic 64, 3) := by decide +kernel
theorem d_X_level_25 : decode b_X_level 25 = .ok (.aload_n 0, 1) := by decide +kernel
theorem d_X_level_26 : decode b_X_level 26 = .ok (.getfield 41, 3) := by decide +kernel
theorem d_X_level_29 : decode b_X_level 29 = .ok (.iload_n 1, 1) := by decide +kernel
theorem d_X_level_30 : decode b_X_level 30 = .ok (.iload_n 2, 1) := by decide +kernel
theorem d_X_level_31 : decode b_X_level 31 = .ok (.invokestatic 123, 3) := by decide +kernel
theorem d_X_level_34 : decode b_X_level 34 = .ok (.iload_n 3, 1) := by decide +kernel
theorem d_X_level_35 : decode b_X_level 35 = .ok (.iastore, 1) := by decide +kernel
theorem d_X_level_36 : decode b_X_level 36 = .ok (.aload_n 0, 1) := by decide +kernel
theorem d_X_level_37 : decode b_X_level 37 = .ok (.getfield 44, 3) := by decide +kernel
theorem d_X_level_40 : decode b_X_level 40 = .ok (.iload_n 1, 1) := by decide +kernel
theorem d_X_level_41 : decode b_X_level 41 = .ok (.iload_n 2, 1) := by decide +kernel
theorem d_X_level_42 : decode b_X_level 42 = .ok (.invokestatic 123, 3) := by decide +kernel
theorem d_X_level_45 : decode b_X_level 45 = .ok (.iload 4, 2) := by decide +kernel
theorem d_X_level_47 : decode b_X_level 47 = .ok (.iastore, 1) := by decide +kernel
theorem d_X_level_48 : decode b_X_level 48 = .ok (.return_, 1) := by decide +kernel
theorem d_X_orders_0 : decode b_X_orders 0 = .ok (.aload_n 0, 1) := by decide +kernel
theorem d_X_orders_1 : decode b_X_orders 1 = .ok (.getfield 21, 3) := by decide +kernel
theorem d_X_orders_4 : decode b_X_orders 4 = .ok (.invokevirtual 126, 3) := by decide +kernel
theorem d_X_orders_7 : decode b_X_orders 7 = .ok (.istore_n 1, 1) := by decide +kernel
theorem d_X_orders_8 : decode b_X_orders 8 = .ok (.iconst 0, 1) := by decide +kernel
theorem d_X_orders_9 : decode b_X_orders 9 = .ok (.istore_n 2, 1) := by decide +kernel
theorem d_X_orders_10 : decode b_X_orders 10 = .ok (.iload_n 2, 1) := by decide +kernel
theorem d_X_orders_11 : decode b_X_orders 11 = .ok (.aload_n 0, 1) := by decide +kernel
theorem d_X_orders_12 : decode b_X_orders 12 = .ok (.getfield 50, 3) := by decide +kernel
theorem d_X_orders_15 : decode b_X_orders 15 = .ok (.if_icmp .ge 29, 3) := by decide +kernel
theorem d_X_orders_18 : decode b_X_orders 18 = .ok (.iconst 0, 1) := by decide +kernel
theorem d_X_orders_19 : decode b_X_orders 19 = .ok (.istore_n 3, 1) := by decide +kernel
theorem d_X_orders_20 : decode b_X_orders 20 = .ok (.iload_n 3, 1) := by decide +kernel
theorem d_X_orders_21 : decode b_X_orders 21 = .ok (.bipush 10, 2) := by decide +kernel
theorem d_X_orders_23 : decode b_X_orders 23 = .ok (.if_icmp .ge 15, 3) := by decide +kernel
theorem d_X_orders_26 : decode b_X_orders 26 = .ok (.aload_n 0, 1) := by decide +kernel
theorem d_X_orders_27 : decode b_X_orders 27 = .ok (.iload_n 2, 1) := by decide +kernel
theorem d_X_orders_28 : decode b_X_orders 28 = .ok (.iload_n 3, 1) := by decide +kernel
theorem d_X_orders_29 : decode b_X_orders 29 = .ok (.invokevirtual 130, 3) := by decide +kernel
theorem d_X_orders_32 : decode b_X_orders 32 = .ok (.iinc 3 1, 3) := by decide +kernel
theorem d_X_orders_35 : decode b_X_orders 35 = .ok (.goto (-15), 3) := by decide +kernel
theorem d_X_orders_38 : decode b_X_orders 38 = .ok (.iinc 2 1, 3) := by decide +kernel
theorem d_X_orders_41 : decode b_X_orders 41 = .ok (.goto (-31), 3) := by decide +kernel
theorem d_X_orders_44 : decode b_X_orders 44 = .ok (.aload_n 0, 1) := by decide +kernel
theorem d_X_orders_45 : decode b_X_orders 45 = .ok (.getfield 21, 3) := by decide +kernel
theorem d_X_orders_48 : decode b_X_orders 48 = .ok (.invokevirtual 126, 3) := by decide +kernel
theorem d_X_orders_51 : decode b_X_orders 51 = .ok (.iload_n 1, 1) := by decide +kernel
theorem d_X_orders_52 : decode b_X_orders 52 = .ok (.isub, 1) := by decide +kernel
theorem d_X_orders_53 : decode b_X_orders 53 = .ok (.ireturn, 1) := by decide +kernel
theorem d_X_order_0 : decode b_X_order 0 = .ok (.aload_n 0, 1) := by decide +kernel
theorem d_X_order_1 : decode b_X_order 1 = .ok (.getfield 21, 3) := by decide +kernel
theorem d_X_order_4 : decode b_X_order 4 = .ok (.iload_n 1, 1) := by decide +kernel
theorem d_X_order_5 : decode b_X_order 5 = .ok (.iload_n 2, 1) := by decide +kernel
theorem d_X_order_6 : decode b_X_order 6 = .ok (.invokestatic 134, 3) := by decide +kernel
theorem d_X_order_9 : decode b_X_order 9 = .ok (.ireturn, 1) := by decide +kernel
theorem d_X_deliver_0 : decode b_X_deliver 0 = .ok (.aload_n 0, 1) := by decide +kernel
theorem d_X_deliver_1 : decode b_X_deliver 1 = .ok (.getfield 21, 3) := by decide +kernel
theorem d_X_deliver_4 : decode b_X_deliver 4 = .ok (.iload_n 1, 1) := by decide +kernel
theorem d_X_deliver_5 : decode b_X_deliver 5 = .ok (.invokestatic 138, 3) := by decide +kernel
theorem d_X_deliver_8 : decode b_X_deliver 8 = .ok (.aload_n 0, 1) := by decide +kernel
theorem d_X_deliver_9 : decode b_X_deliver 9 = .ok (.iload_n 2, 1) := by decide +kernel
theorem d_X_deliver_10 : decode b_X_deliver 10 = .ok (.invokevirtual 79, 3) := by decide +kernel
theorem d_X_deliver_13 : decode b_X_deliver 13 = .ok (.aload_n 0, 1) := by decide +kernel
theorem d_X_deliver_14 : decode b_X_deliver 14 = .ok (.getfield 21, 3) := by decide +kernel
theorem d_X_deliver_17 : decode b_X_deliver 17 = .ok (.iload_n 1, 1) := by decide +kernel
theorem d_X_deliver_18 : decode b_X_deliver 18 = .ok (.iconst 4, 1) := by decide +kernel
theorem d_X_deliver_19 : decode b_X_deliver 19 = .ok (.invokevirtual 142, 3) := by decide +kernel
theorem d_X_deliver_22 : decode b_X_deliver 22 = .ok (.iconst 1, 1) := by decide +kernel
theorem d_X_deliver_23 : decode b_X_deliver 23 = .ok (.if_icmp .eq 13, 3) := by decide +kernel
theorem d_X_deliver_26 : decode b_X_deliver 26 = .ok (.new 110, 3) := by decide +kernel
theorem d_X_deliver_29 : decode b_X_deliver 29 = .ok (.dup, 1) := by decide +kernel
theorem d_X_deliver_30 : decode b_X_deliver 30 = .ok (.ldc 145, 2) := by decide +kernel
theorem d_X_deliver_32 : decode b_X_deliver 32 = .ok (.invokespecial 114, 3) := by decide +kernel
theorem d_X_deliver_35 : decode b_X_deliver 35 = .ok (.athrow, 1) := by decide +kernel
theorem d_X_deliver_36 : decode b_X_deliver 36 = .ok (.aload_n 0, 1) := by decide +kernel
theorem d_X_deliver_37 : decode b_X_deliver 37 = .ok (.getfield 21, 3) := by decide +kernel
theorem d_X_deliver_40 : decode b_X_deliver 40 = .ok (.iload_n 1, 1) := by decide +kernel
theorem d_X_deliver_41 : decode b_X_deliver 41 = .ok (.iconst 1, 1) := by decide +kernel
theorem d_X_deliver_42 : decode b_X_deliver 42 = .ok (.invokevirtual 142, 3) := by decide +kernel
theorem d_X_deliver_45 : decode b_X_deliver 45 = .ok (.aload_n 0, 1) := by decide +kernel
theorem d_X_deliver_46 : decode b_X_deliver 46 = .ok (.getfield 14, 3) := by decide +kernel
theorem d_X_deliver_49 : decode b_X_deliver 49 = .ok (.iload_n 2, 1) := by decide +kernel
theorem d_X_deliver_50 : decode b_X_deliver 50 = .ok (.iconst 0, 1) := by decide +kernel
theorem d_X_deliver_51 : decode b_X_deliver 51 = .ok (.invokevirtual 142, 3) := by decide +kernel
theorem d_X_deliver_54 : decode b_X_deliver 54 = .ok (.if_icmp .eq 13, 3) := by decide +kernel
theorem d_X_deliver_57 : decode b_X_deliver 57 = .ok (.new 110, 3) := by decide +kernel
theorem d_X_deliver_60 : decode b_X_deliver 60 = .ok (.dup, 1) := by decide +kernel
theorem d_X_deliver_61 : decode b_X_deliver 61 = .ok (.ldc 147, 2) := by decide +kernel
theorem d_X_deliver_63 : decode b_X_deliver 63 = .ok (.invokespecial 114, 3) := by decide +kernel
theorem d_X_deliver_66 : decode b_X_deliver 66 = .ok (.athrow, 1) := by decide +kernel
theorem d_X_deliver_67 : decode b_X_deliver 67 = .ok (.aload_n 0, 1) := by decide +kernel
theorem d_X_deliver_68 : decode b_X_deliver 68 = .ok (.getfield 21, 3) := by decide +kernel
theorem d_X_deliver_71 : decode b_X_deliver 71 = .ok (.iload_n 1, 1) := by decide +kernel
theorem d_X_deliver_72 : decode b_X_deliver 72 = .ok (.iconst 0, 1) := by decide +kernel
theorem d_X_deliver_73 : decode b_X_deliver 73 = .ok (.invokevirtual 142, 3) := by decide +kernel
theorem d_X_deliver_76 : decode b_X_deliver 76 = .ok (.istore_n 3, 1) := by decide +kernel
theorem d_X_deliver_77 : decode b_X_deliver 77 = .ok (.aload_n 0, 1) := by decide +kernel
theorem d_X_deliver_78 : decode b_X_deliver 78 = .ok (.getfield 21, 3) := by decide +kernel
theorem d_X_deliver_81 : decode b_X_deliver 81 = .ok (.iload_n 1, 1) := by decide +kernel
theorem d_X_deliver_82 : decode b_X_deliver 82 = .ok (.iconst 4, 1) := by decide +kernel
theorem d_X_deliver_83 : decode b_X_deliver 83 = .ok (.iconst 0, 1) := by decide +kernel
theorem d_X_deliver_84 : decode b_X_deliver 84 = .ok (.invokevirtual 149, 3) := by decide +kernel
theorem d_X_deliver_87 : decode b_X_deliver 87 = .ok (.aload_n 0, 1) := by decide +kernel
theorem d_X_deliver_88 : decode b_X_deliver 88 = .ok (.iload_n 3, 1) := by decide +kernel
theorem d_X_deliver_89 : decode b_X_deliver 89 = .ok (.iload_n 2, 1) := by decide +kernel
theorem d_X_deliver_90 : decode b_X_deliver 90 = .ok (.aload_n 0, 1) := by decide +kernel
theorem d_X_deliver_91 : decode b_X_deliver 91 = .ok (.getfield 21, 3) := by decide +kernel
theorem d_X_deliver_94 : decode b_X_deliver 94 = .ok (.iload_n 1, 1) := by decide +kernel
theorem d_X_deliver_95 : decode b_X_deliver 95 = .ok (.iconst 2, 1) := by decide +kernel
theorem d_X_deliver_96 : decode b_X_deliver 96 = .ok (.invokevirtual 142, 3) := by decide +kernel
theorem d_X_deliver_99 : decode b_X_deliver 99 = .ok (.invokevirtual 152, 3) := by decide +kernel
theorem d_X_deliver_102 : decode b_X_deliver 102 = .ok (.aload_n 0, 1) := by decide +kernel
theorem d_X_deliver_103 : decode b_X_deliver 103 = .ok (.getfield 37, 3) := by decide +kernel
theorem d_X_deliver_106 : decode b_X_deliver 106 = .ok (.iload_n 3, 1) := by decide +kernel
theorem d_X_deliver_107 : decode b_X_deliver 107 = .ok (.iload_n 2, 1) := by decide +kernel
theorem d_X_deliver_108 : decode b_X_deliver 108 = .ok (.invokestatic 88, 3) := by decide +kernel
theorem d_X_deliver_111 : decode b_X_deliver 111 = .ok (.iaload, 1) := by decide +kernel
theorem d_X_deliver_112 : decode b_X_deliver 112 = .ok (.ireturn, 1) := by decide +kernel
theorem d_X_emergency_0 : decode b_X_emergency 0 = .ok (.aload_n 0, 1) := by decide +kernel
theorem d_X_emergency_1 : decode b_X_emergency 1 = .ok (.iload_n 1, 1) := by decide +kernel
theorem d_X_emergency_2 : decode b_X_emergency 2 = .ok (.invokevirtual 76, 3) := by decide +kernel
theorem d_X_emergency_5 : decode b_X_emergency 5 = .ok (.iload_n 2, 1) := by decide +kernel
theorem d_X_emergency_6 : decode b_X_emergency 6 = .ok (.invokestatic 61, 3) := by decide +kernel
theorem d_X_emergency_9 : decode b_X_emergency 9 = .ok (.iload 4, 2) := by decide +kernel
theorem d_X_emergency_11 : decode b_X_emergency 11 = .ok (.invokestatic 155, 3) := by decide +kernel
theorem d_X_emergency_14 : decode b_X_emergency 14 = .ok (.iload_n 3, 1) := by decide +kernel
theorem d_X_emergency_15 : decode b_X_emergency 15 = .ok (.iconst 1, 1) := by decide +kernel
theorem d_X_emergency_16 : decode b_X_emergency 16 = .ok (.sipush 9999, 3) := by decide +kernel
theorem d_X_emergency_19 : decode b_X_emergency 19 = .ok (.invokestatic 64, 3) := by decide +kernel
theorem d_X_emergency_22 : decode b_X_emergency 22 = .ok (.aload_n 0, 1) := by decide +kernel
theorem d_X_emergency_23 : decode b_X_emergency 23 = .ok (.getfield 24, 3) := by decide +kernel
theorem d_X_emergency_26 : decode b_X_emergency 26 = .ok (.invokestatic 68, 3) := by decide +kernel
theorem d_X_emergency_29 : decode b_X_emergency 29 = .ok (.aload_n 0, 1) := by decide +kernel
theorem d_X_emergency_30 : decode b_X_emergency 30 = .ok (.getfield 24, 3) := by decide +kernel
theorem d_X_emergency_33 : decode b_X_emergency 33 = .ok (.iload_n 1, 1) := by decide +kernel
theorem d_X_emergency_34 : decode b_X_emergency 34 = .ok (.iload_n 2, 1) := by decide +kernel
theorem d_X_emergency_35 : decode b_X_emergency 35 = .ok (.iload_n 3, 1) := by decide +kernel
theorem d_X_emergency_36 : decode b_X_emergency 36 = .ok (.iload 4, 2) := by decide +kernel
theorem d_X_emergency_38 : decode b_X_emergency 38 = .ok (.iconst 1, 1) := by decide +kernel
theorem d_X_emergency_39 : decode b_X_emergency 39 = .ok (.invokevirtual 72, 3) := by decide +kernel
theorem d_X_emergency_42 : decode b_X_emergency 42 = .ok (.ireturn, 1) := by decide +kernel
theorem d_X_second_0 : decode b_X_second 0 = .ok (.aload_n 0, 1) := by decide +kernel
theorem d_X_second_1 : decode b_X_second 1 = .ok (.getfield 24, 3) := by decide +kernel
theorem d_X_second_4 : decode b_X_second 4 = .ok (.iload_n 1, 1) := by decide +kernel
theorem d_X_second_5 : decode b_X_second 5 = .ok (.invokestatic 138, 3) := by decide +kernel
theorem d_X_second_8 : decode b_X_second 8 = .ok (.iload_n 2, 1) := by decide +kernel
theorem d_X_second_9 : decode b_X_second 9 = .ok (.invokestatic 155, 3) := by decide +kernel
theorem d_X_second_12 : decode b_X_second 12 = .ok (.aload_n 0, 1) := by decide +kernel
theorem d_X_second_13 : decode b_X_second 13 = .ok (.getfield 24, 3) := by decide +kernel
theorem d_X_second_16 : decode b_X_second 16 = .ok (.iload_n 1, 1) := by decide +kernel
theorem d_X_second_17 : decode b_X_second 17 = .ok (.iconst 4, 1) := by decide +kernel
theorem d_X_second_18 : decode b_X_second 18 = .ok (.invokevirtual 142, 3) := by decide +kernel
theorem d_X_second_21 : decode b_X_second 21 = .ok (.iconst 1, 1) := by decide +kernel
theorem d_X_second_22 : decode b_X_second 22 = .ok (.if_icmp .eq 13, 3) := by decide +kernel
theorem d_X_second_25 : decode b_X_second 25 = .ok (.new 110, 3) := by decide +kernel
theorem d_X_second_28 : decode b_X_second 28 = .ok (.dup, 1) := by decide +kernel
theorem d_X_second_29 : decode b_X_second 29 = .ok (.ldc 158, 2) := by decide +kernel
theorem d_X_second_31 : decode b_X_second 31 = .ok (.invokespecial 114, 3) := by decide +kernel
theorem d_X_second_34 : decode b_X_second 34 = .ok (.athrow, 1) := by decide +kernel
theorem d_X_second_35 : decode b_X_second 35 = .ok (.aload_n 0, 1) := by decide +kernel
theorem d_X_second_36 : decode b_X_second 36 = .ok (.getfield 24, 3) := by decide +kernel
theorem d_X_second_39 : decode b_X_second 39 = .ok (.iload_n 1, 1) := by decide +kernel
theorem d_X_second_40 : decode b_X_second 40 = .ok (.iconst 3, 1) := by decide +kernel
theorem d_X_second_41 : decode b_X_second 41 = .ok (.invokevirtual 142, 3) := by decide +kernel
theorem d_X_second_44 : decode b_X_second 44 = .ok (.iload_n 2, 1) := by decide +kernel
theorem d_X_second_45 : decode b_X_second 45 = .ok (.if_icmp .ne 13, 3) := by decide +kernel
theorem d_X_second_48 : decode b_X_second 48 = .ok (.new 110, 3) := by decide +kernel
theorem d_X_second_51 : decode b_X_second 51 = .ok (.dup, 1) := by decide +kernel
theorem d_X_second_52 : decode b_X_second 52 = .ok (.ldc 160, 2) := by decide +kernel
theorem d_X_second_54 : decode b_X_second 54 = .ok (.invokespecial 114, 3) := by decide +kernel
theorem d_X_second_57 : decode b_X_second 57 = .ok (.athrow, 1) := by decide +kernel
theorem d_X_second_58 : decode b_X_second 58 = .ok (.aload_n 0, 1) := by decide +kernel
theorem d_X_second_59 : decode b_X_second 59 = .ok (.getfield 21, 3) := by decide +kernel
theorem d_X_second_62 : decode b_X_second 62 = .ok (.invokestatic 68, 3) := by decide +kernel
theorem d_X_second_65 : decode b_X_second 65 = .ok (.aload_n 0, 1) := by decide +kernel
theorem d_X_second_66 : decode b_X_second 66 = .ok (.getfield 24, 3) := by decide +kernel
theorem d_X_second_69 : decode b_X_second 69 = .ok (.iload_n 1, 1) := by decide +kernel
theorem d_X_second_70 : decode b_X_second 70 = .ok (.iconst 4, 1) := by decide +kernel
theorem d_X_second_71 : decode b_X_second 71 = .ok (.iconst 0, 1) := by decide +kernel
theorem d_X_second_72 : decode b_X_second 72 = .ok (.invokevirtual 149, 3) := by decide +kernel
theorem d_X_second_75 : decode b_X_second 75 = .ok (.aload_n 0, 1) := by decide +kernel
theorem d_X_second_76 : decode b_X_second 76 = .ok (.aload_n 0, 1) := by decide +kernel
theorem d_X_second_77 : decode b_X_second 77 = .ok (.getfield 24, 3) := by decide +kernel
theorem d_X_second_80 : decode b_X_second 80 = .ok (.iload_n 1, 1) := by decide +kernel
theorem d_X_second_81 : decode b_X_second 81 = .ok (.iconst 0, 1) := by decide +kernel
theorem d_X_second_82 : decode b_X_second 82 = .ok (.invokevirtual 142, 3) := by decide +kernel
theorem d_X_second_85 : decode b_X_second 85 = .ok (.aload_n 0, 1) := by decide +kernel
theorem d_X_second_86 : decode b_X_second 86 = .ok (.getfield 24, 3) := by decide +kernel
theorem d_X_second_89 : decode b_X_second 89 = .ok (.iload_n 1, 1) := by decide +kernel
theorem d_X_second_90 : decode b_X_second 90 = .ok (.iconst 1, 1) := by decide +kernel
theorem d_X_second_91 : decode b_X_second 91 = .ok (.invokevirtual 142, 3) := by decide +kernel
theorem d_X_second_94 : decode b_X_second 94 = .ok (.aload_n 0, 1) := by decide +kernel
theorem d_X_second_95 : decode b_X_second 95 = .ok (.getfield 24, 3) := by decide +kernel
theorem d_X_second_98 : decode b_X_second 98 = .ok (.iload_n 1, 1) := by decide +kernel
theorem d_X_second_99 : decode b_X_second 99 = .ok (.iconst 2, 1) := by decide +kernel
theorem d_X_second_100 : decode b_X_second 100 = .ok (.invokevirtual 142, 3) := by decide +kernel
theorem d_X_second_103 : decode b_X_second 103 = .ok (.invokevirtual 162, 3) := by decide +kernel
theorem d_X_second_106 : decode b_X_second 106 = .ok (.ireturn, 1) := by decide +kernel
theorem d_X_count_0 : decode b_X_count 0 = .ok (.aload_n 0, 1) := by decide +kernel
theorem d_X_count_1 : decode b_X_count 1 = .ok (.iload_n 1, 1) := by decide +kernel
theorem d_X_count_2 : decode b_X_count 2 = .ok (.invokevirtual 76, 3) := by decide +kernel
theorem d_X_count_5 : decode b_X_count 5 = .ok (.aload_n 0, 1) := by decide +kernel
theorem d_X_count_6 : decode b_X_count 6 = .ok (.iload_n 2, 1) := by decide +kernel
theorem d_X_count_7 : decode b_X_count 7 = .ok (.invokevirtual 79, 3) := by decide +kernel
theorem d_X_count_10 : decode b_X_count 10 = .ok (.iload_n 3, 1) := by decide +kernel
theorem d_X_count_11 : decode b_X_count 11 = .ok (.iconst 0, 1) := by decide +kernel
theorem d_X_count_12 : decode b_X_count 12 = .ok (.sipush 9999, 3) := by decide +kernel
theorem d_X_count_15 : decode b_X_count 15 = .ok (.invokestatic 64, 3) := by decide +kernel
theorem d_X_count_18 : decode b_X_count 18 = .ok (.iload 4, 2) := by decide +kernel
theorem d_X_count_20 : decode b_X_count 20 = .ok (.iconst 1, 1) := by decide +kernel
theorem d_X_count_21 : decode b_X_count 21 = .ok (.bipush 99, 2) := by decide +kernel
theorem d_X_count_23 : decode b_X_count 23 = .ok (.invokestatic 64, 3) := by decide +kernel
theorem d_X_count_26 : decode b_X_count 26 = .ok (.iload_n 3, 1) := by decide +kernel
theorem d_X_count_27 : decode b_X_count 27 = .ok (.aload_n 0, 1) := by decide +kernel
theorem d_X_count_28 : decode b_X_count 28 = .ok (.getfield 37, 3) := by decide +kernel
theorem d_X_count_31 : decode b_X_count 31 = .ok (.iload_n 1, 1) := by decide +kernel
theorem d_X_count_32 : decode b_X_count 32 = .ok (.iload_n 2, 1) := by decide +kernel
theorem d_X_count_33 : decode b_X_count 33 = .ok (.invokestatic 88, 3) := by decide +kernel
theorem d_X_count_36 : decode b_X_count 36 = .ok (.iaload, 1) := by decide +kernel
theorem d_X_count_37 : decode b_X_count 37 = .ok (.isub, 1) := by decide +kernel
theorem d_X_count_38 : decode b_X_count 38 = .ok (.istore 5, 2) := by decide +kernel
theorem d_X_count_40 : decode b_X_count 40 = .ok (.iload 5, 2) := by decide +kernel
theorem d_X_count_42 : decode b_X_count 42 = .ok (.ifCond .ne 5, 3) := by decide +kernel
theorem d_X_count_45 : decode b_X_count 45 = .ok (.iconst 0, 1) := by decide +kernel
theorem d_X_count_46 : decode b_X_count 46 = .ok (.ireturn, 1) := by decide +kernel
theorem d_X_count_47 : decode b_X_count 47 = .ok (.aload_n 0, 1) := by decide +kernel
theorem d_X_count_48 : decode b_X_count 48 = .ok (.getfield 27, 3) := by decide +kernel
theorem d_X_count_51 : decode b_X_count 51 = .ok (.invokestatic 68, 3) := by decide +kernel
theorem d_X_count_54 : decode b_X_count 54 = .ok (.aload_n 0, 1) := by decide +kernel
theorem d_X_count_55 : decode b_X_count 55 = .ok (.iload_n 1, 1) := by decide +kernel
theorem d_X_count_56 : decode b_X_count 56 = .ok (.iload_n 2, 1) := by decide +kernel
theorem d_X_count_57 : decode b_X_count 57 = .ok (.iload 5, 2) := by decide +kernel
theorem d_X_count_59 : decode b_X_count 59 = .ok (.invokevirtual 85, 3) := by decide +kernel
theorem d_X_count_62 : decode b_X_count 62 = .ok (.aload_n 0, 1) := by decide +kernel
theorem d_X_count_63 : decode b_X_count 63 = .ok (.getfield 27, 3) := by decide +kernel
theorem d_X_count_66 : decode b_X_count 66 = .ok (.iload_n 1, 1) := by decide +kernel
theorem d_X_count_67 : decode b_X_count 67 = .ok (.iload_n 2, 1) := by decide +kernel
theorem d_X_count_68 : decode b_X_count 68 = .ok (.iload 5, 2) := by decide +kernel
theorem d_X_count_70 : decode b_X_count 70 = .ok (.iload 4, 2) := by decide +kernel
theorem d_X_count_72 : decode b_X_count 72 = .ok (.aload_n 0, 1) := by decide +kernel
theorem d_X_count_73 : decode b_X_count 73 = .ok (.getfield 100, 3) := by decide +kernel
theorem d_X_count_76 : decode b_X_count 76 = .ok (.invokevirtual 72, 3) := by decide +kernel
theorem d_X_count_79 : decode b_X_count 79 = .ok (.pop, 1) := by decide +kernel
theorem d_X_count_80 : decode b_X_count 80 = .ok (.iload 5, 2) := by decide +kernel
theorem d_X_count_82 : decode b_X_count 82 = .ok (.ireturn, 1) := by decide +kernel
theorem d_X_difference_0 : decode b_X_difference 0 = .ok (.aload_n 0, 1) := by decide +kernel
theorem d_X_difference_1 : decode b_X_difference 1 = .ok (.getfield 27, 3) := by decide +kernel
theorem d_X_difference_4 : decode b_X_difference 4 = .ok (.iload_n 1, 1) := by decide +kernel
theorem d_X_difference_5 : decode b_X_difference 5 = .ok (.iload_n 2, 1) := by decide +kernel
theorem d_X_difference_6 : decode b_X_difference 6 = .ok (.invokestatic 134, 3) := by decide +kernel
theorem d_X_difference_9 : decode b_X_difference 9 = .ok (.ireturn, 1) := by decide +kernel
theorem d_X_kit_0 : decode b_X_kit 0 = .ok (.iload_n 1, 1) := by decide +kernel
theorem d_X_kit_1 : decode b_X_kit 1 = .ok (.invokestatic 166, 3) := by decide +kernel
theorem d_X_kit_4 : decode b_X_kit 4 = .ok (.iload_n 2, 1) := by decide +kernel
theorem d_X_kit_5 : decode b_X_kit 5 = .ok (.invokestatic 61, 3) := by decide +kernel
theorem d_X_kit_8 : decode b_X_kit 8 = .ok (.iload_n 3, 1) := by decide +kernel
theorem d_X_kit_9 : decode b_X_kit 9 = .ok (.iconst 0, 1) := by decide +kernel
theorem d_X_kit_10 : decode b_X_kit 10 = .ok (.bipush 20, 2) := by decide +kernel
theorem d_X_kit_12 : decode b_X_kit 12 = .ok (.invokestatic 64, 3) := by decide +kernel
theorem d_X_kit_15 : decode b_X_kit 15 = .ok (.aload_n 0, 1) := by decide +kernel
theorem d_X_kit_16 : decode b_X_kit 16 = .ok (.getfield 47, 3) := by decide +kernel
theorem d_X_kit_19 : decode b_X_kit 19 = .ok (.iload_n 1, 1) := by decide +kernel
theorem d_X_kit_20 : decode b_X_kit 20 = .ok (.iload_n 2, 1) := by decide +kernel
theorem d_X_kit_21 : decode b_X_kit 21 = .ok (.invokestatic 123, 3) := by decide +kernel
theorem d_X_kit_24 : decode b_X_kit 24 = .ok (.iload_n 3, 1) := by decide +kernel
theorem d_X_kit_25 : decode b_X_kit 25 = .ok (.iastore, 1) := by decide +kernel
theorem d_X_kit_26 : decode b_X_kit 26 = .ok (.return_, 1) := by decide +kernel
theorem d_X_give_0 : decode b_X_give 0 = .ok (.aload_n 0, 1) := by decide +kernel
theorem d_X_give_1 : decode b_X_give 1 = .ok (.iload_n 1, 1) := by decide +kernel
theorem d_X_give_2 : decode b_X_give 2 = .ok (.invokevirtual 76, 3) := by decide +kernel
theorem d_X_give_5 : decode b_X_give 5 = .ok (.iload_n 2, 1) := by decide +kernel
theorem d_X_give_6 : decode b_X_give 6 = .ok (.invokestatic 166, 3) := by decide +kernel
theorem d_X_give_9 : decode b_X_give 9 = .ok (.aload_n 0, 1) := by decide +kernel
theorem d_X_give_10 : decode b_X_give 10 = .ok (.iload_n 2, 1) := by decide +kernel
theorem d_X_give_11 : decode b_X_give 11 = .ok (.invokevirtual 169, 3) := by decide +kernel
theorem d_X_give_14 : decode b_X_give 14 = .ok (.ifCond .ne 13, 3) := by decide +kernel
theorem d_X_give_17 : decode b_X_give 17 = .ok (.new 110, 3) := by decide +kernel
theorem d_X_give_20 : decode b_X_give 20 = .ok (.dup, 1) := by decide +kernel
theorem d_X_give_21 : decode b_X_give 21 = .ok (.ldc 173, 2) := by decide +kernel
theorem d_X_give_23 : decode b_X_give 23 = .ok (.invokespecial 114, 3) := by decide +kernel
theorem d_X_give_26 : decode b_X_give 26 = .ok (.athrow, 1) := by decide +kernel
theorem d_X_give_27 : decode b_X_give 27 = .ok (.aload_n 0, 1) := by decide +kernel
theorem d_X_give_28 : decode b_X_give 28 = .ok (.iload_n 1, 1) := by decide +kernel
theorem d_X_give_29 : decode b_X_give 29 = .ok (.iload_n 2, 1) := by decide +kernel
theorem d_X_give_30 : decode b_X_give 30 = .ok (.invokevirtual 175, 3) := by decide +kernel
theorem d_X_give_33 : decode b_X_give 33 = .ok (.istore_n 3, 1) := by decide +kernel
theorem d_X_give_34 : decode b_X_give 34 = .ok (.iload_n 3, 1) := by decide +kernel
theorem d_X_give_35 : decode b_X_give 35 = .ok (.ifCond .lt 5, 3) := by decide +kernel
theorem d_X_give_38 : decode b_X_give 38 = .ok (.iload_n 3, 1) := by decide +kernel
theorem d_X_give_39 : decode b_X_give 39 = .ok (.ireturn, 1) := by decide +kernel
theorem d_X_give_40 : decode b_X_give 40 = .ok (.iconst 0, 1) := by decide +kernel
theorem d_X_give_41 : decode b_X_give 41 = .ok (.istore 4, 2) := by decide +kernel
theorem d_X_give_43 : decode b_X_give 43 = .ok (.iload 4, 2) := by decide +kernel
theorem d_X_give_45 : decode b_X_give 45 = .ok (.bipush 10, 2) := by decide +kernel
theorem d_X_give_47 : decode b_X_give 47 = .ok (.if_icmp .ge 27, 3) := by decide +kernel
theorem d_X_give_50 : decode b_X_give 50 = .ok (.aload_n 0, 1) := by decide +kernel
theorem d_X_give_51 : decode b_X_give 51 = .ok (.iload_n 1, 1) := by decide +kernel
theorem d_X_give_52 : decode b_X_give 52 = .ok (.iload 4, 2) := by decide +kernel
theorem d_X_give_54 : decode b_X_give 54 = .ok (.aload_n 0, 1) := by decide +kernel
theorem d_X_give_55 : decode b_X_give 55 = .ok (.getfield 47, 3) := by decide +kernel
theorem d_X_give_58 : decode b_X_give 58 = .ok (.iload_n 2, 1) := by decide +kernel
theorem d_X_give_59 : decode b_X_give 59 = .ok (.iload 4, 2) := by decide +kernel
theorem d_X_give_61 : decode b_X_give 61 = .ok (.invokestatic 123, 3) := by decide +kernel
theorem d_X_give_64 : decode b_X_give 64 = .ok (.iaload, 1) := by decide +kernel
theorem d_X_give_65 : decode b_X_give 65 = .ok (.invokevirtual 115, 3) := by decide +kernel
theorem d_X_give_68 : decode b_X_give 68 = .ok (.iinc 4 1, 3) := by decide +kernel
theorem d_X_give_71 : decode b_X_give 71 = .ok (.goto (-28), 3) := by decide +kernel
theorem d_X_give_74 : decode b_X_give 74 = .ok (.iconst (-1), 1) := by decide +kernel
theorem d_X_give_75 : decode b_X_give 75 = .ok (.ireturn, 1) := by decide +kernel
theorem d_X_back_0 : decode b_X_back 0 = .ok (.aload_n 0, 1) := by decide +kernel
theorem d_X_back_1 : decode b_X_back 1 = .ok (.iload_n 1, 1) := by decide +kernel
theorem d_X_back_2 : decode b_X_back 2 = .ok (.invokevirtual 76, 3) := by decide +kernel
theorem d_X_back_5 : decode b_X_back 5 = .ok (.aload_n 0, 1) := by decide +kernel
theorem d_X_back_6 : decode b_X_back 6 = .ok (.iload_n 2, 1) := by decide +kernel
theorem d_X_back_7 : decode b_X_back 7 = .ok (.invokevirtual 79, 3) := by decide +kernel
theorem d_X_back_10 : decode b_X_back 10 = .ok (.iload_n 3, 1) := by decide +kernel
theorem d_X_back_11 : decode b_X_back 11 = .ok (.iconst 1, 1) := by decide +kernel
theorem d_X_back_12 : decode b_X_back 12 = .ok (.sipush 9999, 3) := by decide +kernel
theorem d_X_back_15 : decode b_X_back 15 = .ok (.invokestatic 64, 3) := by decide +kernel
theorem d_X_back_18 : decode b_X_back 18 = .ok (.aload_n 0, 1) := by decide +kernel
theorem d_X_back_19 : decode b_X_back 19 = .ok (.getfield 14, 3) := by decide +kernel
theorem d_X_back_22 : decode b_X_back 22 = .ok (.iload_n 2, 1) := by decide +kernel
theorem d_X_back_23 : decode b_X_back 23 = .ok (.iconst 2, 1) := by decide +kernel
theorem d_X_back_24 : decode b_X_back 24 = .ok (.invokevirtual 142, 3) := by decide +kernel
theorem d_X_back_27 : decode b_X_back 27 = .ok (.iload_n 3, 1) := by decide +kernel
theorem d_X_back_28 : decode b_X_back 28 = .ok (.if_icmp .ge 5, 3) := by decide +kernel
theorem d_X_back_31 : decode b_X_back 31 = .ok (.iconst 0, 1) := by decide +kernel
theorem d_X_back_32 : decode b_X_back 32 = .ok (.ireturn, 1) := by decide +kernel
theorem d_X_back_33 : decode b_X_back 33 = .ok (.aload_n 0, 1) := by decide +kernel
theorem d_X_back_34 : decode b_X_back 34 = .ok (.iload_n 1, 1) := by decide +kernel
theorem d_X_back_35 : decode b_X_back 35 = .ok (.iload_n 2, 1) := by decide +kernel
theorem d_X_back_36 : decode b_X_back 36 = .ok (.iload_n 3, 1) := by decide +kernel
theorem d_X_back_37 : decode b_X_back 37 = .ok (.invokevirtual 82, 3) := by decide +kernel
theorem d_X_back_40 : decode b_X_back 40 = .ok (.aload_n 0, 1) := by decide +kernel
theorem d_X_back_41 : decode b_X_back 41 = .ok (.getfield 14, 3) := by decide +kernel
theorem d_X_back_44 : decode b_X_back 44 = .ok (.iload_n 2, 1) := by decide +kernel
theorem d_X_back_45 : decode b_X_back 45 = .ok (.iconst 2, 1) := by decide +kernel
theorem d_X_back_46 : decode b_X_back 46 = .ok (.aload_n 0, 1) := by decide +kernel
theorem d_X_back_47 : decode b_X_back 47 = .ok (.getfield 14, 3) := by decide +kernel
theorem d_X_back_50 : decode b_X_back 50 = .ok (.iload_n 2, 1) := by decide +kernel
theorem d_X_back_51 : decode b_X_back 51 = .ok (.iconst 2, 1) := by decide +kernel
theorem d_X_back_52 : decode b_X_back 52 = .ok (.invokevirtual 142, 3) := by decide +kernel
theorem d_X_back_55 : decode b_X_back 55 = .ok (.iload_n 3, 1) := by decide +kernel
theorem d_X_back_56 : decode b_X_back 56 = .ok (.isub, 1) := by decide +kernel
theorem d_X_back_57 : decode b_X_back 57 = .ok (.invokevirtual 149, 3) := by decide +kernel
theorem d_X_back_60 : decode b_X_back 60 = .ok (.aload_n 0, 1) := by decide +kernel
theorem d_X_back_61 : decode b_X_back 61 = .ok (.iload_n 1, 1) := by decide +kernel
theorem d_X_back_62 : decode b_X_back 62 = .ok (.iload_n 2, 1) := by decide +kernel
theorem d_X_back_63 : decode b_X_back 63 = .ok (.iload_n 3, 1) := by decide +kernel
theorem d_X_back_64 : decode b_X_back 64 = .ok (.invokevirtual 85, 3) := by decide +kernel
theorem d_X_back_67 : decode b_X_back 67 = .ok (.iconst 1, 1) := by decide +kernel
theorem d_X_back_68 : decode b_X_back 68 = .ok (.ireturn, 1) := by decide +kernel
theorem d_X_waste_0 : decode b_X_waste 0 = .ok (.aload_n 0, 1) := by decide +kernel
theorem d_X_waste_1 : decode b_X_waste 1 = .ok (.iload_n 1, 1) := by decide +kernel
theorem d_X_waste_2 : decode b_X_waste 2 = .ok (.invokevirtual 76, 3) := by decide +kernel
theorem d_X_waste_5 : decode b_X_waste 5 = .ok (.aload_n 0, 1) := by decide +kernel
theorem d_X_waste_6 : decode b_X_waste 6 = .ok (.iload_n 2, 1) := by decide +kernel
theorem d_X_waste_7 : decode b_X_waste 7 = .ok (.invokevirtual 79, 3) := by decide +kernel
theorem d_X_waste_10 : decode b_X_waste 10 = .ok (.iload_n 3, 1) := by decide +kernel
theorem d_X_waste_11 : decode b_X_waste 11 = .ok (.iconst 1, 1) := by decide +kernel
theorem d_X_waste_12 : decode b_X_waste 12 = .ok (.sipush 9999, 3) := by decide +kernel
theorem d_X_waste_15 : decode b_X_waste 15 = .ok (.invokestatic 64, 3) := by decide +kernel
theorem d_X_waste_18 : decode b_X_waste 18 = .ok (.iload 4, 2) := by decide +kernel
theorem d_X_waste_20 : decode b_X_waste 20 = .ok (.iconst 1, 1) := by decide +kernel
theorem d_X_waste_21 : decode b_X_waste 21 = .ok (.sipush 9999, 3) := by decide +kernel
theorem d_X_waste_24 : decode b_X_waste 24 = .ok (.invokestatic 64, 3) := by decide +kernel
theorem d_X_waste_27 : decode b_X_waste 27 = .ok (.aload_n 0, 1) := by decide +kernel
theorem d_X_waste_28 : decode b_X_waste 28 = .ok (.iload_n 1, 1) := by decide +kernel
theorem d_X_waste_29 : decode b_X_waste 29 = .ok (.iload_n 2, 1) := by decide +kernel
theorem d_X_waste_30 : decode b_X_waste 30 = .ok (.iload_n 3, 1) := by decide +kernel
theorem d_X_waste_31 : decode b_X_waste 31 = .ok (.invokevirtual 97, 3) := by decide +kernel
theorem d_X_waste_34 : decode b_X_waste 34 = .ok (.aload_n 0, 1) := by decide +kernel
theorem d_X_waste_35 : decode b_X_waste 35 = .ok (.iload_n 1, 1) := by decide +kernel
theorem d_X_waste_36 : decode b_X_waste 36 = .ok (.iload_n 2, 1) := by decide +kernel
theorem d_X_waste_37 : decode b_X_waste 37 = .ok (.iload_n 3, 1) := by decide +kernel
theorem d_X_waste_38 : decode b_X_waste 38 = .ok (.ineg, 1) := by decide +kernel
theorem d_X_waste_39 : decode b_X_waste 39 = .ok (.invokevirtual 85, 3) := by decide +kernel
theorem d_X_waste_42 : decode b_X_waste 42 = .ok (.aload_n 0, 1) := by decide +kernel
theorem d_X_waste_43 : decode b_X_waste 43 = .ok (.getfield 14, 3) := by decide +kernel
theorem d_X_waste_46 : decode b_X_waste 46 = .ok (.iload_n 2, 1) := by decide +kernel
theorem d_X_waste_47 : decode b_X_waste 47 = .ok (.iconst 3, 1) := by decide +kernel
theorem d_X_waste_48 : decode b_X_waste 48 = .ok (.aload_n 0, 1) := by decide +kernel
theorem d_X_waste_49 : decode b_X_waste 49 = .ok (.getfield 14, 3) := by decide +kernel
theorem d_X_waste_52 : decode b_X_waste 52 = .ok (.iload_n 2, 1) := by decide +kernel
theorem d_X_waste_53 : decode b_X_waste 53 = .ok (.iconst 3, 1) := by decide +kernel
theorem d_X_waste_54 : decode b_X_waste 54 = .ok (.invokevirtual 142, 3) := by decide +kernel
theorem d_X_waste_57 : decode b_X_waste 57 = .ok (.iload_n 3, 1) := by decide +kernel
theorem d_X_waste_58 : decode b_X_waste 58 = .ok (.iadd, 1) := by decide +kernel
theorem d_X_waste_59 : decode b_X_waste 59 = .ok (.invokevirtual 149, 3) := by decide +kernel
theorem d_X_waste_62 : decode b_X_waste 62 = .ok (.aload_n 0, 1) := by decide +kernel
theorem d_X_waste_63 : decode b_X_waste 63 = .ok (.getfield 14, 3) := by decide +kernel
theorem d_X_waste_66 : decode b_X_waste 66 = .ok (.iload_n 2, 1) := by decide +kernel
theorem d_X_waste_67 : decode b_X_waste 67 = .ok (.iconst 4, 1) := by decide +kernel
theorem d_X_waste_68 : decode b_X_waste 68 = .ok (.iload 4, 2) := by decide +kernel
theorem d_X_waste_70 : decode b_X_waste 70 = .ok (.invokevirtual 149, 3) := by decide +kernel
theorem d_X_waste_73 : decode b_X_waste 73 = .ok (.aload_n 0, 1) := by decide +kernel
theorem d_X_waste_74 : decode b_X_waste 74 = .ok (.getfield 14, 3) := by decide +kernel
theorem d_X_waste_77 : decode b_X_waste 77 = .ok (.iload_n 2, 1) := by decide +kernel
theorem d_X_waste_78 : decode b_X_waste 78 = .ok (.iconst 3, 1) := by decide +kernel
theorem d_X_waste_79 : decode b_X_waste 79 = .ok (.invokevirtual 142, 3) := by decide +kernel
theorem d_X_waste_82 : decode b_X_waste 82 = .ok (.ireturn, 1) := by decide +kernel
theorem d_X_lotAt_0 : decode b_X_lotAt 0 = .ok (.aload_n 0, 1) := by decide +kernel
theorem d_X_lotAt_1 : decode b_X_lotAt 1 = .ok (.iload_n 1, 1) := by decide +kernel
theorem d_X_lotAt_2 : decode b_X_lotAt 2 = .ok (.invokevirtual 79, 3) := by decide +kernel
theorem d_X_lotAt_5 : decode b_X_lotAt 5 = .ok (.iload_n 2, 1) := by decide +kernel
theorem d_X_lotAt_6 : decode b_X_lotAt 6 = .ok (.iconst 5, 1) := by decide +kernel
theorem d_X_lotAt_7 : decode b_X_lotAt 7 = .ok (.if_icmp .ne 9, 3) := by decide +kernel
theorem d_X_lotAt_10 : decode b_X_lotAt 10 = .ok (.aload_n 0, 1) := by decide +kernel
theorem d_X_lotAt_11 : decode b_X_lotAt 11 = .ok (.iload_n 1, 1) := by decide +kernel
theorem d_X_lotAt_12 : decode b_X_lotAt 12 = .ok (.invokevirtual 178, 3) := by decide +kernel
theorem d_X_lotAt_15 : decode b_X_lotAt 15 = .ok (.ireturn, 1) := by decide +kernel
theorem d_X_lotAt_16 : decode b_X_lotAt 16 = .ok (.aload_n 0, 1) := by decide +kernel
theorem d_X_lotAt_17 : decode b_X_lotAt 17 = .ok (.getfield 14, 3) := by decide +kernel
theorem d_X_lotAt_20 : decode b_X_lotAt 20 = .ok (.iload_n 1, 1) := by decide +kernel
theorem d_X_lotAt_21 : decode b_X_lotAt 21 = .ok (.iload_n 2, 1) := by decide +kernel
theorem d_X_lotAt_22 : decode b_X_lotAt 22 = .ok (.invokestatic 134, 3) := by decide +kernel
theorem d_X_lotAt_25 : decode b_X_lotAt 25 = .ok (.ireturn, 1) := by decide +kernel
theorem d_X_row_0 : decode b_X_row 0 = .ok (.iload_n 1, 1) := by decide +kernel
theorem d_X_row_1 : decode b_X_row 1 = .ok (.iconst 0, 1) := by decide +kernel
theorem d_X_row_2 : decode b_X_row 2 = .ok (.ldc 182, 2) := by decide +kernel
theorem d_X_row_4 : decode b_X_row 4 = .ok (.invokestatic 64, 3) := by decide +kernel
theorem d_X_row_7 : decode b_X_row 7 = .ok (.iload_n 2, 1) := by decide +kernel
theorem d_X_row_8 : decode b_X_row 8 = .ok (.iconst 0, 1) := by decide +kernel
theorem d_X_row_9 : decode b_X_row 9 = .ok (.ldc 182, 2) := by decide +kernel
theorem d_X_row_11 : decode b_X_row 11 = .ok (.invokestatic 64, 3) := by decide +kernel
theorem d_X_row_14 : decode b_X_row 14 = .ok (.aload_n 0, 1) := by decide +kernel
theorem d_X_row_15 : decode b_X_row 15 = .ok (.getfield 33, 3) := by decide +kernel
theorem d_X_row_18 : decode b_X_row 18 = .ok (.iload_n 1, 1) := by decide +kernel
theorem d_X_row_19 : decode b_X_row 19 = .ok (.iload_n 2, 1) := by decide +kernel
theorem d_X_row_20 : decode b_X_row 20 = .ok (.invokevirtual 183, 3) := by decide +kernel
theorem d_X_row_23 : decode b_X_row 23 = .ok (.ifCond .ne 13, 3) := by decide +kernel
theorem d_X_row_26 : decode b_X_row 26 = .ok (.new 110, 3) := by decide +kernel
theorem d_X_row_29 : decode b_X_row 29 = .ok (.dup, 1) := by decide +kernel
theorem d_X_row_30 : decode b_X_row 30 = .ok (.ldc 187, 2) := by decide +kernel
theorem d_X_row_32 : decode b_X_row 32 = .ok (.invokespecial 114, 3) := by decide +kernel
theorem d_X_row_35 : decode b_X_row 35 = .ok (.athrow, 1) := by decide +kernel
theorem d_X_row_36 : decode b_X_row 36 = .ok (.aload_n 0, 1) := by decide +kernel
theorem d_X_row_37 : decode b_X_row 37 = .ok (.getfield 33, 3) := by decide +kernel
theorem d_X_row_40 : decode b_X_row 40 = .ok (.invokevirtual 189, 3) := by decide +kernel
theorem d_X_row_43 : decode b_X_row 43 = .ok (.ifCond .eq 13, 3) := by decide +kernel
theorem d_X_row_46 : decode b_X_row 46 = .ok (.new 54, 3) := by decide +kernel
theorem d_X_row_49 : decode b_X_row 49 = .ok (.dup, 1) := by decide +kernel
theorem d_X_row_50 : decode b_X_row 50 = .ok (.ldc 193, 2) := by decide +kernel
theorem d_X_row_52 : decode b_X_row 52 = .ok (.invokespecial 58, 3) := by decide +kernel
theorem d_X_row_55 : decode b_X_row 55 = .ok (.athrow, 1) := by decide +kernel
theorem d_X_row_56 : decode b_X_row 56 = .ok (.aload_n 0, 1) := by decide +kernel
theorem d_X_row_57 : decode b_X_row 57 = .ok (.getfield 33, 3) := by decide +kernel
theorem d_X_row_60 : decode b_X_row 60 = .ok (.iload_n 1, 1) := by decide +kernel
theorem d_X_row_61 : decode b_X_row 61 = .ok (.iload_n 2, 1) := by decide +kernel
theorem d_X_row_62 : decode b_X_row 62 = .ok (.invokevirtual 195, 3) := by decide +kernel
theorem d_X_row_65 : decode b_X_row 65 = .ok (.ireturn, 1) := by decide +kernel
theorem d_X_dip_0 : decode b_X_dip 0 = .ok (.iload_n 1, 1) := by decide +kernel
theorem d_X_dip_1 : decode b_X_dip 1 = .ok (.iconst 0, 1) := by decide +kernel
theorem d_X_dip_2 : decode b_X_dip 2 = .ok (.ldc 182, 2) := by decide +kernel
theorem d_X_dip_4 : decode b_X_dip 4 = .ok (.invokestatic 64, 3) := by decide +kernel
theorem d_X_dip_7 : decode b_X_dip 7 = .ok (.aload_n 0, 1) := by decide +kernel
theorem d_X_dip_8 : decode b_X_dip 8 = .ok (.getfield 33, 3) := by decide +kernel
theorem d_X_dip_11 : decode b_X_dip 11 = .ok (.iload_n 1, 1) := by decide +kernel
theorem d_X_dip_12 : decode b_X_dip 12 = .ok (.invokevirtual 197, 3) := by decide +kernel
theorem d_X_dip_15 : decode b_X_dip 15 = .ok (.ireturn, 1) := by decide +kernel
theorem d_X_tick_0 : decode b_X_tick 0 = .ok (.iload_n 1, 1) := by decide +kernel
theorem d_X_tick_1 : decode b_X_tick 1 = .ok (.iconst 1, 1) := by decide +kernel
theorem d_X_tick_2 : decode b_X_tick 2 = .ok (.sipush 1000, 3) := by decide +kernel
theorem d_X_tick_5 : decode b_X_tick 5 = .ok (.invokestatic 64, 3) := by decide +kernel
theorem d_X_tick_8 : decode b_X_tick 8 = .ok (.aload_n 0, 1) := by decide +kernel
theorem d_X_tick_9 : decode b_X_tick 9 = .ok (.getfield 100, 3) := by decide +kernel
theorem d_X_tick_12 : decode b_X_tick 12 = .ok (.iload_n 1, 1) := by decide +kernel
theorem d_X_tick_13 : decode b_X_tick 13 = .ok (.iadd, 1) := by decide +kernel
theorem d_X_tick_14 : decode b_X_tick 14 = .ok (.iconst 0, 1) := by decide +kernel
theorem d_X_tick_15 : decode b_X_tick 15 = .ok (.sipush 9999, 3) := by decide +kernel
theorem d_X_tick_18 : decode b_X_tick 18 = .ok (.invokestatic 64, 3) := by decide +kernel
theorem d_X_tick_21 : decode b_X_tick 21 = .ok (.aload_n 0, 1) := by decide +kernel
theorem d_X_tick_22 : decode b_X_tick 22 = .ok (.dup, 1) := by decide +kernel
theorem d_X_tick_23 : decode b_X_tick 23 = .ok (.getfield 100, 3) := by decide +kernel
theorem d_X_tick_26 : decode b_X_tick 26 = .ok (.iload_n 1, 1) := by decide +kernel
theorem d_X_tick_27 : decode b_X_tick 27 = .ok (.iadd, 1) := by decide +kernel
theorem d_X_tick_28 : decode b_X_tick 28 = .ok (.putfield 100, 3) := by decide +kernel
theorem d_X_tick_31 : decode b_X_tick 31 = .ok (.iconst 0, 1) := by decide +kernel
theorem d_X_tick_32 : decode b_X_tick 32 = .ok (.istore_n 2, 1) := by decide +kernel
theorem d_X_tick_33 : decode b_X_tick 33 = .ok (.iconst 0, 1) := by decide +kernel
theorem d_X_tick_34 : decode b_X_tick 34 = .ok (.istore_n 3, 1) := by decide +kernel
theorem d_X_tick_35 : decode b_X_tick 35 = .ok (.iload_n 3, 1) := by decide +kernel
theorem d_X_tick_36 : decode b_X_tick 36 = .ok (.aload_n 0, 1) := by decide +kernel
theorem d_X_tick_37 : decode b_X_tick 37 = .ok (.getfield 18, 3) := by decide +kernel
theorem d_X_tick_40 : decode b_X_tick 40 = .ok (.invokevirtual 126, 3) := by decide +kernel
theorem d_X_tick_43 : decode b_X_tick 43 = .ok (.if_icmp .ge 46, 3) := by decide +kernel
theorem d_X_tick_46 : decode b_X_tick 46 = .ok (.aload_n 0, 1) := by decide +kernel
theorem d_X_tick_47 : decode b_X_tick 47 = .ok (.getfield 18, 3) := by decide +kernel
theorem d_X_tick_50 : decode b_X_tick 50 = .ok (.iload_n 3, 1) := by decide +kernel
theorem d_X_tick_51 : decode b_X_tick 51 = .ok (.iconst 4, 1) := by decide +kernel
