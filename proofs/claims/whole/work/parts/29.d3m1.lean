theorem d_M_sum_144 : decode b_M_sum 144 = .ok (.iaload, 1) := by decide +kernel
theorem d_M_sum_145 : decode b_M_sum 145 = .ok (.iload_n 1, 1) := by decide +kernel
theorem d_M_sum_146 : decode b_M_sum 146 = .ok (.if_icmp .ne 31, 3) := by decide +kernel
theorem d_M_sum_149 : decode b_M_sum 149 = .ok (.aload_n 0, 1) := by decide +kernel
theorem d_M_sum_150 : decode b_M_sum 150 = .ok (.getfield 7, 3) := by decide +kernel
theorem d_M_sum_153 : decode b_M_sum 153 = .ok (.aload_n 0, 1) := by decide +kernel
theorem d_M_sum_154 : decode b_M_sum 154 = .ok (.getfield 31, 3) := by decide +kernel
theorem d_M_sum_157 : decode b_M_sum 157 = .ok (.iload 5, 2) := by decide +kernel
theorem d_M_sum_159 : decode b_M_sum 159 = .ok (.iaload, 1) := by decide +kernel
theorem d_M_sum_160 : decode b_M_sum 160 = .ok (.iaload, 1) := by decide +kernel
theorem d_M_sum_161 : decode b_M_sum 161 = .ok (.iload_n 2, 1) := by decide +kernel
theorem d_M_sum_162 : decode b_M_sum 162 = .ok (.if_icmp .ne 15, 3) := by decide +kernel
theorem d_M_sum_165 : decode b_M_sum 165 = .ok (.iload 4, 2) := by decide +kernel
theorem d_M_sum_167 : decode b_M_sum 167 = .ok (.aload_n 0, 1) := by decide +kernel
theorem d_M_sum_168 : decode b_M_sum 168 = .ok (.getfield 34, 3) := by decide +kernel
theorem d_M_sum_171 : decode b_M_sum 171 = .ok (.iload 5, 2) := by decide +kernel
theorem d_M_sum_173 : decode b_M_sum 173 = .ok (.iaload, 1) := by decide +kernel
theorem d_M_sum_174 : decode b_M_sum 174 = .ok (.iadd, 1) := by decide +kernel
theorem d_M_sum_175 : decode b_M_sum 175 = .ok (.istore 4, 2) := by decide +kernel
theorem d_M_sum_177 : decode b_M_sum 177 = .ok (.iinc 5 1, 3) := by decide +kernel
theorem d_M_sum_180 : decode b_M_sum 180 = .ok (.goto (-66), 3) := by decide +kernel
theorem d_M_sum_183 : decode b_M_sum 183 = .ok (.iload 4, 2) := by decide +kernel
theorem d_M_sum_185 : decode b_M_sum 185 = .ok (.ireturn, 1) := by decide +kernel
theorem d_M_has_0 : decode b_M_has 0 = .ok (.aload_n 0, 1) := by decide +kernel
theorem d_M_has_1 : decode b_M_has 1 = .ok (.iconst 1, 1) := by decide +kernel
theorem d_M_has_2 : decode b_M_has 2 = .ok (.aload_n 0, 1) := by decide +kernel
theorem d_M_has_3 : decode b_M_has 3 = .ok (.iload_n 1, 1) := by decide +kernel
theorem d_M_has_4 : decode b_M_has 4 = .ok (.invokevirtual 109, 3) := by decide +kernel
theorem d_M_has_7 : decode b_M_has 7 = .ok (.ifCond .eq 15, 3) := by decide +kernel
theorem d_M_has_10 : decode b_M_has 10 = .ok (.aload_n 0, 1) := by decide +kernel
theorem d_M_has_11 : decode b_M_has 11 = .ok (.iload_n 2, 1) := by decide +kernel
theorem d_M_has_12 : decode b_M_has 12 = .ok (.invokevirtual 113, 3) := by decide +kernel
theorem d_M_has_15 : decode b_M_has 15 = .ok (.ifCond .eq 7, 3) := by decide +kernel
theorem d_M_has_18 : decode b_M_has 18 = .ok (.iconst 1, 1) := by decide +kernel
theorem d_M_has_19 : decode b_M_has 19 = .ok (.goto 4, 3) := by decide +kernel
theorem d_M_has_22 : decode b_M_has 22 = .ok (.iconst 0, 1) := by decide +kernel
theorem d_M_has_23 : decode b_M_has 23 = .ok (.iconst 1, 1) := by decide +kernel
theorem d_M_has_24 : decode b_M_has 24 = .ok (.iconst 1, 1) := by decide +kernel
theorem d_M_has_25 : decode b_M_has 25 = .ok (.iconst 1, 1) := by decide +kernel
theorem d_M_has_26 : decode b_M_has 26 = .ok (.invokevirtual 116, 3) := by decide +kernel
theorem d_M_has_29 : decode b_M_has 29 = .ok (.ifCond .ne 5, 3) := by decide +kernel
theorem d_M_has_32 : decode b_M_has 32 = .ok (.iconst 0, 1) := by decide +kernel
theorem d_M_has_33 : decode b_M_has 33 = .ok (.ireturn, 1) := by decide +kernel
theorem d_M_has_34 : decode b_M_has 34 = .ok (.aload_n 0, 1) := by decide +kernel
theorem d_M_has_35 : decode b_M_has 35 = .ok (.iload_n 1, 1) := by decide +kernel
theorem d_M_has_36 : decode b_M_has 36 = .ok (.iload_n 2, 1) := by decide +kernel
theorem d_M_has_37 : decode b_M_has 37 = .ok (.invokevirtual 126, 3) := by decide +kernel
theorem d_M_has_40 : decode b_M_has 40 = .ok (.ireturn, 1) := by decide +kernel
theorem d_M_level_0 : decode b_M_level 0 = .ok (.aload_n 0, 1) := by decide +kernel
theorem d_M_level_1 : decode b_M_level 1 = .ok (.iconst 3, 1) := by decide +kernel
theorem d_M_level_2 : decode b_M_level 2 = .ok (.aload_n 0, 1) := by decide +kernel
theorem d_M_level_3 : decode b_M_level 3 = .ok (.iload_n 1, 1) := by decide +kernel
theorem d_M_level_4 : decode b_M_level 4 = .ok (.invokevirtual 109, 3) := by decide +kernel
theorem d_M_level_7 : decode b_M_level 7 = .ok (.ifCond .eq 14, 3) := by decide +kernel
theorem d_M_level_10 : decode b_M_level 10 = .ok (.iload_n 2, 1) := by decide +kernel
theorem d_M_level_11 : decode b_M_level 11 = .ok (.invokestatic 120, 3) := by decide +kernel
theorem d_M_level_14 : decode b_M_level 14 = .ok (.ifCond .eq 7, 3) := by decide +kernel
theorem d_M_level_17 : decode b_M_level 17 = .ok (.iconst 1, 1) := by decide +kernel
theorem d_M_level_18 : decode b_M_level 18 = .ok (.goto 4, 3) := by decide +kernel
theorem d_M_level_21 : decode b_M_level 21 = .ok (.iconst 0, 1) := by decide +kernel
theorem d_M_level_22 : decode b_M_level 22 = .ok (.iload_n 3, 1) := by decide +kernel
theorem d_M_level_23 : decode b_M_level 23 = .ok (.iconst 0, 1) := by decide +kernel
theorem d_M_level_24 : decode b_M_level 24 = .ok (.sipush 9999, 3) := by decide +kernel
theorem d_M_level_27 : decode b_M_level 27 = .ok (.invokestatic 102, 3) := by decide +kernel
theorem d_M_level_30 : decode b_M_level 30 = .ok (.ifCond .eq 19, 3) := by decide +kernel
theorem d_M_level_33 : decode b_M_level 33 = .ok (.iload 4, 2) := by decide +kernel
theorem d_M_level_35 : decode b_M_level 35 = .ok (.iload_n 3, 1) := by decide +kernel
theorem d_M_level_36 : decode b_M_level 36 = .ok (.sipush 9999, 3) := by decide +kernel
theorem d_M_level_39 : decode b_M_level 39 = .ok (.invokestatic 102, 3) := by decide +kernel
theorem d_M_level_42 : decode b_M_level 42 = .ok (.ifCond .eq 7, 3) := by decide +kernel
theorem d_M_level_45 : decode b_M_level 45 = .ok (.iconst 1, 1) := by decide +kernel
theorem d_M_level_46 : decode b_M_level 46 = .ok (.goto 4, 3) := by decide +kernel
theorem d_M_level_49 : decode b_M_level 49 = .ok (.iconst 0, 1) := by decide +kernel
theorem d_M_level_50 : decode b_M_level 50 = .ok (.iconst 1, 1) := by decide +kernel
theorem d_M_level_51 : decode b_M_level 51 = .ok (.iconst 1, 1) := by decide +kernel
theorem d_M_level_52 : decode b_M_level 52 = .ok (.invokevirtual 116, 3) := by decide +kernel
theorem d_M_level_55 : decode b_M_level 55 = .ok (.ifCond .ne 4, 3) := by decide +kernel
theorem d_M_level_58 : decode b_M_level 58 = .ok (.return_, 1) := by decide +kernel
theorem d_M_level_59 : decode b_M_level 59 = .ok (.aload_n 0, 1) := by decide +kernel
theorem d_M_level_60 : decode b_M_level 60 = .ok (.getfield 44, 3) := by decide +kernel
theorem d_M_level_63 : decode b_M_level 63 = .ok (.iload_n 1, 1) := by decide +kernel
theorem d_M_level_64 : decode b_M_level 64 = .ok (.bipush 10, 2) := by decide +kernel
theorem d_M_level_66 : decode b_M_level 66 = .ok (.imul, 1) := by decide +kernel
theorem d_M_level_67 : decode b_M_level 67 = .ok (.iload_n 2, 1) := by decide +kernel
theorem d_M_level_68 : decode b_M_level 68 = .ok (.iadd, 1) := by decide +kernel
theorem d_M_level_69 : decode b_M_level 69 = .ok (.iconst 1, 1) := by decide +kernel
theorem d_M_level_70 : decode b_M_level 70 = .ok (.bastore, 1) := by decide +kernel
theorem d_M_level_71 : decode b_M_level 71 = .ok (.aload_n 0, 1) := by decide +kernel
theorem d_M_level_72 : decode b_M_level 72 = .ok (.getfield 47, 3) := by decide +kernel
theorem d_M_level_75 : decode b_M_level 75 = .ok (.iload_n 1, 1) := by decide +kernel
theorem d_M_level_76 : decode b_M_level 76 = .ok (.bipush 10, 2) := by decide +kernel
theorem d_M_level_78 : decode b_M_level 78 = .ok (.imul, 1) := by decide +kernel
theorem d_M_level_79 : decode b_M_level 79 = .ok (.iload_n 2, 1) := by decide +kernel
theorem d_M_level_80 : decode b_M_level 80 = .ok (.iadd, 1) := by decide +kernel
theorem d_M_level_81 : decode b_M_level 81 = .ok (.iload_n 3, 1) := by decide +kernel
theorem d_M_level_82 : decode b_M_level 82 = .ok (.iastore, 1) := by decide +kernel
theorem d_M_level_83 : decode b_M_level 83 = .ok (.aload_n 0, 1) := by decide +kernel
theorem d_M_level_84 : decode b_M_level 84 = .ok (.getfield 50, 3) := by decide +kernel
theorem d_M_level_87 : decode b_M_level 87 = .ok (.iload_n 1, 1) := by decide +kernel
theorem d_M_level_88 : decode b_M_level 88 = .ok (.bipush 10, 2) := by decide +kernel
theorem d_M_level_90 : decode b_M_level 90 = .ok (.imul, 1) := by decide +kernel
theorem d_M_level_91 : decode b_M_level 91 = .ok (.iload_n 2, 1) := by decide +kernel
theorem d_M_level_92 : decode b_M_level 92 = .ok (.iadd, 1) := by decide +kernel
theorem d_M_level_93 : decode b_M_level 93 = .ok (.iload 4, 2) := by decide +kernel
theorem d_M_level_95 : decode b_M_level 95 = .ok (.iastore, 1) := by decide +kernel
theorem d_M_level_96 : decode b_M_level 96 = .ok (.return_, 1) := by decide +kernel
theorem d_M_makes_0 : decode b_M_makes 0 = .ok (.aload_n 0, 1) := by decide +kernel
theorem d_M_makes_1 : decode b_M_makes 1 = .ok (.getfield 53, 3) := by decide +kernel
theorem d_M_makes_4 : decode b_M_makes 4 = .ok (.aload_n 0, 1) := by decide +kernel
theorem d_M_makes_5 : decode b_M_makes 5 = .ok (.getfield 152, 3) := by decide +kernel
theorem d_M_makes_8 : decode b_M_makes 8 = .ok (.iload_n 1, 1) := by decide +kernel
theorem d_M_makes_9 : decode b_M_makes 9 = .ok (.iastore, 1) := by decide +kernel
theorem d_M_makes_10 : decode b_M_makes 10 = .ok (.aload_n 0, 1) := by decide +kernel
theorem d_M_makes_11 : decode b_M_makes 11 = .ok (.getfield 56, 3) := by decide +kernel
theorem d_M_makes_14 : decode b_M_makes 14 = .ok (.aload_n 0, 1) := by decide +kernel
theorem d_M_makes_15 : decode b_M_makes 15 = .ok (.getfield 152, 3) := by decide +kernel
theorem d_M_makes_18 : decode b_M_makes 18 = .ok (.iload_n 2, 1) := by decide +kernel
theorem d_M_makes_19 : decode b_M_makes 19 = .ok (.iastore, 1) := by decide +kernel
theorem d_M_makes_20 : decode b_M_makes 20 = .ok (.aload_n 0, 1) := by decide +kernel
theorem d_M_makes_21 : decode b_M_makes 21 = .ok (.getfield 59, 3) := by decide +kernel
theorem d_M_makes_24 : decode b_M_makes 24 = .ok (.aload_n 0, 1) := by decide +kernel
theorem d_M_makes_25 : decode b_M_makes 25 = .ok (.getfield 152, 3) := by decide +kernel
theorem d_M_makes_28 : decode b_M_makes 28 = .ok (.iload_n 3, 1) := by decide +kernel
theorem d_M_makes_29 : decode b_M_makes 29 = .ok (.iastore, 1) := by decide +kernel
theorem d_M_makes_30 : decode b_M_makes 30 = .ok (.aload_n 0, 1) := by decide +kernel
theorem d_M_makes_31 : decode b_M_makes 31 = .ok (.getfield 62, 3) := by decide +kernel
theorem d_M_makes_34 : decode b_M_makes 34 = .ok (.aload_n 0, 1) := by decide +kernel
theorem d_M_makes_35 : decode b_M_makes 35 = .ok (.getfield 152, 3) := by decide +kernel
theorem d_M_makes_38 : decode b_M_makes 38 = .ok (.aload_n 0, 1) := by decide +kernel
theorem d_M_makes_39 : decode b_M_makes 39 = .ok (.getfield 136, 3) := by decide +kernel
theorem d_M_makes_42 : decode b_M_makes 42 = .ok (.iastore, 1) := by decide +kernel
theorem d_M_makes_43 : decode b_M_makes 43 = .ok (.aload_n 0, 1) := by decide +kernel
theorem d_M_makes_44 : decode b_M_makes 44 = .ok (.getfield 65, 3) := by decide +kernel
theorem d_M_makes_47 : decode b_M_makes 47 = .ok (.aload_n 0, 1) := by decide +kernel
theorem d_M_makes_48 : decode b_M_makes 48 = .ok (.getfield 152, 3) := by decide +kernel
theorem d_M_makes_51 : decode b_M_makes 51 = .ok (.iconst 1, 1) := by decide +kernel
theorem d_M_makes_52 : decode b_M_makes 52 = .ok (.bastore, 1) := by decide +kernel
theorem d_M_makes_53 : decode b_M_makes 53 = .ok (.aload_n 0, 1) := by decide +kernel
theorem d_M_makes_54 : decode b_M_makes 54 = .ok (.dup, 1) := by decide +kernel
theorem d_M_makes_55 : decode b_M_makes 55 = .ok (.getfield 152, 3) := by decide +kernel
theorem d_M_makes_58 : decode b_M_makes 58 = .ok (.iconst 1, 1) := by decide +kernel
theorem d_M_makes_59 : decode b_M_makes 59 = .ok (.iadd, 1) := by decide +kernel
theorem d_M_makes_60 : decode b_M_makes 60 = .ok (.putfield 152, 3) := by decide +kernel
theorem d_M_makes_63 : decode b_M_makes 63 = .ok (.return_, 1) := by decide +kernel
theorem d_M_expected_0 : decode b_M_expected 0 = .ok (.aload_n 0, 1) := by decide +kernel
theorem d_M_expected_1 : decode b_M_expected 1 = .ok (.iload_n 1, 1) := by decide +kernel
theorem d_M_expected_2 : decode b_M_expected 2 = .ok (.iload_n 2, 1) := by decide +kernel
theorem d_M_expected_3 : decode b_M_expected 3 = .ok (.invokevirtual 146, 3) := by decide +kernel
theorem d_M_expected_6 : decode b_M_expected 6 = .ok (.istore_n 3, 1) := by decide +kernel
theorem d_M_expected_7 : decode b_M_expected 7 = .ok (.iconst 0, 1) := by decide +kernel
theorem d_M_expected_8 : decode b_M_expected 8 = .ok (.istore 4, 2) := by decide +kernel
theorem d_M_expected_10 : decode b_M_expected 10 = .ok (.iload 4, 2) := by decide +kernel
theorem d_M_expected_12 : decode b_M_expected 12 = .ok (.aload_n 0, 1) := by decide +kernel
theorem d_M_expected_13 : decode b_M_expected 13 = .ok (.getfield 133, 3) := by decide +kernel
theorem d_M_expected_16 : decode b_M_expected 16 = .ok (.if_icmp .ge 78, 3) := by decide +kernel
theorem d_M_expected_19 : decode b_M_expected 19 = .ok (.aload_n 0, 1) := by decide +kernel
theorem d_M_expected_20 : decode b_M_expected 20 = .ok (.getfield 40, 3) := by decide +kernel
theorem d_M_expected_23 : decode b_M_expected 23 = .ok (.iload 4, 2) := by decide +kernel
theorem d_M_expected_25 : decode b_M_expected 25 = .ok (.baload, 1) := by decide +kernel
theorem d_M_expected_26 : decode b_M_expected 26 = .ok (.ifCond .eq 62, 3) := by decide +kernel
theorem d_M_expected_29 : decode b_M_expected 29 = .ok (.aload_n 0, 1) := by decide +kernel
theorem d_M_expected_30 : decode b_M_expected 30 = .ok (.getfield 28, 3) := by decide +kernel
theorem d_M_expected_33 : decode b_M_expected 33 = .ok (.iload 4, 2) := by decide +kernel
theorem d_M_expected_35 : decode b_M_expected 35 = .ok (.iaload, 1) := by decide +kernel
theorem d_M_expected_36 : decode b_M_expected 36 = .ok (.iload_n 1, 1) := by decide +kernel
theorem d_M_expected_37 : decode b_M_expected 37 = .ok (.if_icmp .ne 51, 3) := by decide +kernel
theorem d_M_expected_40 : decode b_M_expected 40 = .ok (.aload_n 0, 1) := by decide +kernel
theorem d_M_expected_41 : decode b_M_expected 41 = .ok (.getfield 7, 3) := by decide +kernel
theorem d_M_expected_44 : decode b_M_expected 44 = .ok (.aload_n 0, 1) := by decide +kernel
theorem d_M_expected_45 : decode b_M_expected 45 = .ok (.getfield 31, 3) := by decide +kernel
theorem d_M_expected_48 : decode b_M_expected 48 = .ok (.iload 4, 2) := by decide +kernel
theorem d_M_expected_50 : decode b_M_expected 50 = .ok (.iaload, 1) := by decide +kernel
theorem d_M_expected_51 : decode b_M_expected 51 = .ok (.iaload, 1) := by decide +kernel
theorem d_M_expected_52 : decode b_M_expected 52 = .ok (.iload_n 2, 1) := by decide +kernel
theorem d_M_expected_53 : decode b_M_expected 53 = .ok (.if_icmp .ne 35, 3) := by decide +kernel
theorem d_M_expected_56 : decode b_M_expected 56 = .ok (.aload_n 0, 1) := by decide +kernel
theorem d_M_expected_57 : decode b_M_expected 57 = .ok (.getfield 13, 3) := by decide +kernel
theorem d_M_expected_60 : decode b_M_expected 60 = .ok (.aload_n 0, 1) := by decide +kernel
theorem d_M_expected_61 : decode b_M_expected 61 = .ok (.getfield 31, 3) := by decide +kernel
theorem d_M_expected_64 : decode b_M_expected 64 = .ok (.iload 4, 2) := by decide +kernel
theorem d_M_expected_66 : decode b_M_expected 66 = .ok (.iaload, 1) := by decide +kernel
theorem d_M_expected_67 : decode b_M_expected 67 = .ok (.iaload, 1) := by decide +kernel
theorem d_M_expected_68 : decode b_M_expected 68 = .ok (.aload_n 0, 1) := by decide +kernel
theorem d_M_expected_69 : decode b_M_expected 69 = .ok (.getfield 37, 3) := by decide +kernel
theorem d_M_expected_72 : decode b_M_expected 72 = .ok (.iload 4, 2) := by decide +kernel
theorem d_M_expected_74 : decode b_M_expected 74 = .ok (.iaload, 1) := by decide +kernel
theorem d_M_expected_75 : decode b_M_expected 75 = .ok (.if_icmp .lt 13, 3) := by decide +kernel
theorem d_M_expected_78 : decode b_M_expected 78 = .ok (.iload_n 3, 1) := by decide +kernel
theorem d_M_expected_79 : decode b_M_expected 79 = .ok (.aload_n 0, 1) := by decide +kernel
theorem d_M_expected_80 : decode b_M_expected 80 = .ok (.getfield 34, 3) := by decide +kernel
theorem d_M_expected_83 : decode b_M_expected 83 = .ok (.iload 4, 2) := by decide +kernel
theorem d_M_expected_85 : decode b_M_expected 85 = .ok (.iaload, 1) := by decide +kernel
theorem d_M_expected_86 : decode b_M_expected 86 = .ok (.iadd, 1) := by decide +kernel
theorem d_M_expected_87 : decode b_M_expected 87 = .ok (.istore_n 3, 1) := by decide +kernel
theorem d_M_expected_88 : decode b_M_expected 88 = .ok (.iinc 4 1, 3) := by decide +kernel
theorem d_M_expected_91 : decode b_M_expected 91 = .ok (.goto (-81), 3) := by decide +kernel
theorem d_M_expected_94 : decode b_M_expected 94 = .ok (.iconst 0, 1) := by decide +kernel
theorem d_M_expected_95 : decode b_M_expected 95 = .ok (.istore 4, 2) := by decide +kernel
theorem d_M_expected_97 : decode b_M_expected 97 = .ok (.iload 4, 2) := by decide +kernel
theorem d_M_expected_99 : decode b_M_expected 99 = .ok (.aload_n 0, 1) := by decide +kernel
theorem d_M_expected_100 : decode b_M_expected 100 = .ok (.getfield 152, 3) := by decide +kernel
theorem d_M_expected_103 : decode b_M_expected 103 = .ok (.if_icmp .ge 51, 3) := by decide +kernel
theorem d_M_expected_106 : decode b_M_expected 106 = .ok (.aload_n 0, 1) := by decide +kernel
theorem d_M_expected_107 : decode b_M_expected 107 = .ok (.getfield 65, 3) := by decide +kernel
theorem d_M_expected_110 : decode b_M_expected 110 = .ok (.iload 4, 2) := by decide +kernel
theorem d_M_expected_112 : decode b_M_expected 112 = .ok (.baload, 1) := by decide +kernel
theorem d_M_expected_113 : decode b_M_expected 113 = .ok (.ifCond .eq 35, 3) := by decide +kernel
theorem d_M_expected_116 : decode b_M_expected 116 = .ok (.aload_n 0, 1) := by decide +kernel
theorem d_M_expected_117 : decode b_M_expected 117 = .ok (.getfield 53, 3) := by decide +kernel
theorem d_M_expected_120 : decode b_M_expected 120 = .ok (.iload 4, 2) := by decide +kernel
theorem d_M_expected_122 : decode b_M_expected 122 = .ok (.iaload, 1) := by decide +kernel
theorem d_M_expected_123 : decode b_M_expected 123 = .ok (.iload_n 1, 1) := by decide +kernel
theorem d_M_expected_124 : decode b_M_expected 124 = .ok (.if_icmp .ne 24, 3) := by decide +kernel
theorem d_M_expected_127 : decode b_M_expected 127 = .ok (.aload_n 0, 1) := by decide +kernel
theorem d_M_expected_128 : decode b_M_expected 128 = .ok (.getfield 56, 3) := by decide +kernel
theorem d_M_expected_131 : decode b_M_expected 131 = .ok (.iload 4, 2) := by decide +kernel
theorem d_M_expected_133 : decode b_M_expected 133 = .ok (.iaload, 1) := by decide +kernel
theorem d_M_expected_134 : decode b_M_expected 134 = .ok (.iload_n 2, 1) := by decide +kernel
theorem d_M_expected_135 : decode b_M_expected 135 = .ok (.if_icmp .ne 13, 3) := by decide +kernel
theorem d_M_expected_138 : decode b_M_expected 138 = .ok (.iload_n 3, 1) := by decide +kernel
theorem d_M_expected_139 : decode b_M_expected 139 = .ok (.aload_n 0, 1) := by decide +kernel
theorem d_M_expected_140 : decode b_M_expected 140 = .ok (.getfield 59, 3) := by decide +kernel
theorem d_M_expected_143 : decode b_M_expected 143 = .ok (.iload 4, 2) := by decide +kernel
theorem d_M_expected_145 : decode b_M_expected 145 = .ok (.iaload, 1) := by decide +kernel
theorem d_M_expected_146 : decode b_M_expected 146 = .ok (.iadd, 1) := by decide +kernel
theorem d_M_expected_147 : decode b_M_expected 147 = .ok (.istore_n 3, 1) := by decide +kernel
theorem d_M_expected_148 : decode b_M_expected 148 = .ok (.iinc 4 1, 3) := by decide +kernel
theorem d_M_expected_151 : decode b_M_expected 151 = .ok (.goto (-54), 3) := by decide +kernel
theorem d_M_expected_154 : decode b_M_expected 154 = .ok (.iload_n 3, 1) := by decide +kernel
theorem d_M_expected_155 : decode b_M_expected 155 = .ok (.ireturn, 1) := by decide +kernel
theorem d_M_orders_0 : decode b_M_orders 0 = .ok (.aload_n 0, 1) := by decide +kernel
theorem d_M_orders_1 : decode b_M_orders 1 = .ok (.iconst 0, 1) := by decide +kernel
theorem d_M_orders_2 : decode b_M_orders 2 = .ok (.putfield 95, 3) := by decide +kernel
theorem d_M_orders_5 : decode b_M_orders 5 = .ok (.iconst 0, 1) := by decide +kernel
theorem d_M_orders_6 : decode b_M_orders 6 = .ok (.istore_n 1, 1) := by decide +kernel
theorem d_M_orders_7 : decode b_M_orders 7 = .ok (.iconst 0, 1) := by decide +kernel
theorem d_M_orders_8 : decode b_M_orders 8 = .ok (.istore_n 2, 1) := by decide +kernel
theorem d_M_orders_9 : decode b_M_orders 9 = .ok (.iload_n 2, 1) := by decide +kernel
theorem d_M_orders_10 : decode b_M_orders 10 = .ok (.aload_n 0, 1) := by decide +kernel
theorem d_M_orders_11 : decode b_M_orders 11 = .ok (.getfield 99, 3) := by decide +kernel
theorem d_M_orders_14 : decode b_M_orders 14 = .ok (.if_icmp .ge 96, 3) := by decide +kernel
theorem d_M_orders_17 : decode b_M_orders 17 = .ok (.iconst 0, 1) := by decide +kernel
theorem d_M_orders_18 : decode b_M_orders 18 = .ok (.istore_n 3, 1) := by decide +kernel
theorem d_M_orders_19 : decode b_M_orders 19 = .ok (.iload_n 3, 1) := by decide +kernel
theorem d_M_orders_20 : decode b_M_orders 20 = .ok (.bipush 10, 2) := by decide +kernel
theorem d_M_orders_22 : decode b_M_orders 22 = .ok (.if_icmp .ge 82, 3) := by decide +kernel
theorem d_M_orders_25 : decode b_M_orders 25 = .ok (.aload_n 0, 1) := by decide +kernel
theorem d_M_orders_26 : decode b_M_orders 26 = .ok (.iload_n 2, 1) := by decide +kernel
theorem d_M_orders_27 : decode b_M_orders 27 = .ok (.iload_n 3, 1) := by decide +kernel
theorem d_M_orders_28 : decode b_M_orders 28 = .ok (.invokevirtual 155, 3) := by decide +kernel
theorem d_M_orders_31 : decode b_M_orders 31 = .ok (.istore 4, 2) := by decide +kernel
theorem d_M_orders_33 : decode b_M_orders 33 = .ok (.aload_n 0, 1) := by decide +kernel
theorem d_M_orders_34 : decode b_M_orders 34 = .ok (.getfield 44, 3) := by decide +kernel
theorem d_M_orders_37 : decode b_M_orders 37 = .ok (.iload_n 2, 1) := by decide +kernel
theorem d_M_orders_38 : decode b_M_orders 38 = .ok (.bipush 10, 2) := by decide +kernel
theorem d_M_orders_40 : decode b_M_orders 40 = .ok (.imul, 1) := by decide +kernel
theorem d_M_orders_41 : decode b_M_orders 41 = .ok (.iload_n 3, 1) := by decide +kernel
theorem d_M_orders_42 : decode b_M_orders 42 = .ok (.iadd, 1) := by decide +kernel
theorem d_M_orders_43 : decode b_M_orders 43 = .ok (.baload, 1) := by decide +kernel
theorem d_M_orders_44 : decode b_M_orders 44 = .ok (.ifCond .eq 54, 3) := by decide +kernel
theorem d_M_orders_47 : decode b_M_orders 47 = .ok (.iload 4, 2) := by decide +kernel
theorem d_M_orders_49 : decode b_M_orders 49 = .ok (.aload_n 0, 1) := by decide +kernel
theorem d_M_orders_50 : decode b_M_orders 50 = .ok (.getfield 47, 3) := by decide +kernel
theorem d_M_orders_53 : decode b_M_orders 53 = .ok (.iload_n 2, 1) := by decide +kernel
theorem d_M_orders_54 : decode b_M_orders 54 = .ok (.bipush 10, 2) := by decide +kernel
theorem d_M_orders_56 : decode b_M_orders 56 = .ok (.imul, 1) := by decide +kernel
theorem d_M_orders_57 : decode b_M_orders 57 = .ok (.iload_n 3, 1) := by decide +kernel
theorem d_M_orders_58 : decode b_M_orders 58 = .ok (.iadd, 1) := by decide +kernel
theorem d_M_orders_59 : decode b_M_orders 59 = .ok (.iaload, 1) := by decide +kernel
theorem d_M_orders_60 : decode b_M_orders 60 = .ok (.if_icmp .ge 38, 3) := by decide +kernel
theorem d_M_orders_63 : decode b_M_orders 63 = .ok (.aload_n 0, 1) := by decide +kernel
theorem d_M_orders_64 : decode b_M_orders 64 = .ok (.getfield 152, 3) := by decide +kernel
theorem d_M_orders_67 : decode b_M_orders 67 = .ok (.bipush 80, 2) := by decide +kernel
theorem d_M_orders_69 : decode b_M_orders 69 = .ok (.if_icmp .ne 6, 3) := by decide +kernel
theorem d_M_orders_72 : decode b_M_orders 72 = .ok (.goto 26, 3) := by decide +kernel
theorem d_M_orders_75 : decode b_M_orders 75 = .ok (.aload_n 0, 1) := by decide +kernel
theorem d_M_orders_76 : decode b_M_orders 76 = .ok (.iload_n 2, 1) := by decide +kernel
theorem d_M_orders_77 : decode b_M_orders 77 = .ok (.iload_n 3, 1) := by decide +kernel
theorem d_M_orders_78 : decode b_M_orders 78 = .ok (.aload_n 0, 1) := by decide +kernel
theorem d_M_orders_79 : decode b_M_orders 79 = .ok (.getfield 50, 3) := by decide +kernel
theorem d_M_orders_82 : decode b_M_orders 82 = .ok (.iload_n 2, 1) := by decide +kernel
theorem d_M_orders_83 : decode b_M_orders 83 = .ok (.bipush 10, 2) := by decide +kernel
theorem d_M_orders_85 : decode b_M_orders 85 = .ok (.imul, 1) := by decide +kernel
theorem d_M_orders_86 : decode b_M_orders 86 = .ok (.iload_n 3, 1) := by decide +kernel
theorem d_M_orders_87 : decode b_M_orders 87 = .ok (.iadd, 1) := by decide +kernel
theorem d_M_orders_88 : decode b_M_orders 88 = .ok (.iaload, 1) := by decide +kernel
theorem d_M_orders_89 : decode b_M_orders 89 = .ok (.iload 4, 2) := by decide +kernel
theorem d_M_orders_91 : decode b_M_orders 91 = .ok (.isub, 1) := by decide +kernel
theorem d_M_orders_92 : decode b_M_orders 92 = .ok (.invokevirtual 158, 3) := by decide +kernel
theorem d_M_orders_95 : decode b_M_orders 95 = .ok (.iinc 1 1, 3) := by decide +kernel
theorem d_M_orders_98 : decode b_M_orders 98 = .ok (.iinc 3 1, 3) := by decide +kernel
theorem d_M_orders_101 : decode b_M_orders 101 = .ok (.goto (-82), 3) := by decide +kernel
theorem d_M_orders_104 : decode b_M_orders 104 = .ok (.iinc 2 1, 3) := by decide +kernel
theorem d_M_orders_107 : decode b_M_orders 107 = .ok (.goto (-98), 3) := by decide +kernel
theorem d_M_orders_110 : decode b_M_orders 110 = .ok (.iload_n 1, 1) := by decide +kernel
theorem d_M_orders_111 : decode b_M_orders 111 = .ok (.ireturn, 1) := by decide +kernel
theorem d_M_order_0 : decode b_M_order 0 = .ok (.aload_n 0, 1) := by decide +kernel
theorem d_M_order_1 : decode b_M_order 1 = .ok (.iconst 1, 1) := by decide +kernel
theorem d_M_order_2 : decode b_M_order 2 = .ok (.iload_n 1, 1) := by decide +kernel
theorem d_M_order_3 : decode b_M_order 3 = .ok (.iconst 0, 1) := by decide +kernel
theorem d_M_order_4 : decode b_M_order 4 = .ok (.aload_n 0, 1) := by decide +kernel
theorem d_M_order_5 : decode b_M_order 5 = .ok (.getfield 152, 3) := by decide +kernel
theorem d_M_order_8 : decode b_M_order 8 = .ok (.iconst 1, 1) := by decide +kernel
theorem d_M_order_9 : decode b_M_order 9 = .ok (.isub, 1) := by decide +kernel
theorem d_M_order_10 : decode b_M_order 10 = .ok (.invokestatic 102, 3) := by decide +kernel
theorem d_M_order_13 : decode b_M_order 13 = .ok (.ifCond .eq 16, 3) := by decide +kernel
theorem d_M_order_16 : decode b_M_order 16 = .ok (.iload_n 2, 1) := by decide +kernel
theorem d_M_order_17 : decode b_M_order 17 = .ok (.iconst 0, 1) := by decide +kernel
theorem d_M_order_18 : decode b_M_order 18 = .ok (.iconst 4, 1) := by decide +kernel
theorem d_M_order_19 : decode b_M_order 19 = .ok (.invokestatic 102, 3) := by decide +kernel
theorem d_M_order_22 : decode b_M_order 22 = .ok (.ifCond .eq 7, 3) := by decide +kernel
theorem d_M_order_25 : decode b_M_order 25 = .ok (.iconst 1, 1) := by decide +kernel
theorem d_M_order_26 : decode b_M_order 26 = .ok (.goto 4, 3) := by decide +kernel
theorem d_M_order_29 : decode b_M_order 29 = .ok (.iconst 0, 1) := by decide +kernel
theorem d_M_order_30 : decode b_M_order 30 = .ok (.iconst 1, 1) := by decide +kernel
theorem d_M_order_31 : decode b_M_order 31 = .ok (.iconst 1, 1) := by decide +kernel
theorem d_M_order_32 : decode b_M_order 32 = .ok (.iconst 1, 1) := by decide +kernel
theorem d_M_order_33 : decode b_M_order 33 = .ok (.invokevirtual 116, 3) := by decide +kernel
theorem d_M_order_36 : decode b_M_order 36 = .ok (.ifCond .ne 5, 3) := by decide +kernel
theorem d_M_order_39 : decode b_M_order 39 = .ok (.iconst 0, 1) := by decide +kernel
theorem d_M_order_40 : decode b_M_order 40 = .ok (.ireturn, 1) := by decide +kernel
theorem d_M_order_41 : decode b_M_order 41 = .ok (.iload_n 2, 1) := by decide +kernel
theorem d_M_order_42 : decode b_M_order 42 = .ok (.ifCond .ne 12, 3) := by decide +kernel
theorem d_M_order_45 : decode b_M_order 45 = .ok (.aload_n 0, 1) := by decide +kernel
theorem d_M_order_46 : decode b_M_order 46 = .ok (.getfield 53, 3) := by decide +kernel
theorem d_M_order_49 : decode b_M_order 49 = .ok (.iload_n 1, 1) := by decide +kernel
theorem d_M_order_50 : decode b_M_order 50 = .ok (.iaload, 1) := by decide +kernel
theorem d_M_order_51 : decode b_M_order 51 = .ok (.goto 59, 3) := by decide +kernel
theorem d_M_order_54 : decode b_M_order 54 = .ok (.iload_n 2, 1) := by decide +kernel
theorem d_M_order_55 : decode b_M_order 55 = .ok (.iconst 1, 1) := by decide +kernel
theorem d_M_order_56 : decode b_M_order 56 = .ok (.if_icmp .ne 12, 3) := by decide +kernel
theorem d_M_order_59 : decode b_M_order 59 = .ok (.aload_n 0, 1) := by decide +kernel
theorem d_M_order_60 : decode b_M_order 60 = .ok (.getfield 56, 3) := by decide +kernel
theorem d_M_order_63 : decode b_M_order 63 = .ok (.iload_n 1, 1) := by decide +kernel
theorem d_M_order_64 : decode b_M_order 64 = .ok (.iaload, 1) := by decide +kernel
theorem d_M_order_65 : decode b_M_order 65 = .ok (.goto 45, 3) := by decide +kernel
theorem d_M_order_68 : decode b_M_order 68 = .ok (.iload_n 2, 1) := by decide +kernel
theorem d_M_order_69 : decode b_M_order 69 = .ok (.iconst 2, 1) := by decide +kernel
theorem d_M_order_70 : decode b_M_order 70 = .ok (.if_icmp .ne 12, 3) := by decide +kernel
theorem d_M_order_73 : decode b_M_order 73 = .ok (.aload_n 0, 1) := by decide +kernel
theorem d_M_order_74 : decode b_M_order 74 = .ok (.getfield 59, 3) := by decide +kernel
theorem d_M_order_77 : decode b_M_order 77 = .ok (.iload_n 1, 1) := by decide +kernel
theorem d_M_order_78 : decode b_M_order 78 = .ok (.iaload, 1) := by decide +kernel
theorem d_M_order_79 : decode b_M_order 79 = .ok (.goto 31, 3) := by decide +kernel
theorem d_M_order_82 : decode b_M_order 82 = .ok (.iload_n 2, 1) := by decide +kernel
theorem d_M_order_83 : decode b_M_order 83 = .ok (.iconst 3, 1) := by decide +kernel
theorem d_M_order_84 : decode b_M_order 84 = .ok (.if_icmp .ne 12, 3) := by decide +kernel
theorem d_M_order_87 : decode b_M_order 87 = .ok (.aload_n 0, 1) := by decide +kernel
theorem d_M_order_88 : decode b_M_order 88 = .ok (.getfield 62, 3) := by decide +kernel
theorem d_M_order_91 : decode b_M_order 91 = .ok (.iload_n 1, 1) := by decide +kernel
theorem d_M_order_92 : decode b_M_order 92 = .ok (.iaload, 1) := by decide +kernel
theorem d_M_order_93 : decode b_M_order 93 = .ok (.goto 17, 3) := by decide +kernel
theorem d_M_order_96 : decode b_M_order 96 = .ok (.aload_n 0, 1) := by decide +kernel
theorem d_M_order_97 : decode b_M_order 97 = .ok (.getfield 65, 3) := by decide +kernel
theorem d_M_order_100 : decode b_M_order 100 = .ok (.iload_n 1, 1) := by decide +kernel
theorem d_M_order_101 : decode b_M_order 101 = .ok (.baload, 1) := by decide +kernel
theorem d_M_order_102 : decode b_M_order 102 = .ok (.ifCond .eq 7, 3) := by decide +kernel
theorem d_M_order_105 : decode b_M_order 105 = .ok (.iconst 1, 1) := by decide +kernel
theorem d_M_order_106 : decode b_M_order 106 = .ok (.goto 4, 3) := by decide +kernel
theorem d_M_order_109 : decode b_M_order 109 = .ok (.iconst 0, 1) := by decide +kernel
theorem d_M_order_110 : decode b_M_order 110 = .ok (.ireturn, 1) := by decide +kernel
theorem d_M_deliver_0 : decode b_M_deliver 0 = .ok (.iload_n 1, 1) := by decide +kernel
theorem d_M_deliver_1 : decode b_M_deliver 1 = .ok (.iconst 0, 1) := by decide +kernel
theorem d_M_deliver_2 : decode b_M_deliver 2 = .ok (.aload_n 0, 1) := by decide +kernel
theorem d_M_deliver_3 : decode b_M_deliver 3 = .ok (.getfield 152, 3) := by decide +kernel
theorem d_M_deliver_6 : decode b_M_deliver 6 = .ok (.iconst 1, 1) := by decide +kernel
theorem d_M_deliver_7 : decode b_M_deliver 7 = .ok (.isub, 1) := by decide +kernel
theorem d_M_deliver_8 : decode b_M_deliver 8 = .ok (.invokestatic 102, 3) := by decide +kernel
theorem d_M_deliver_11 : decode b_M_deliver 11 = .ok (.ifCond .eq 15, 3) := by decide +kernel
theorem d_M_deliver_14 : decode b_M_deliver 14 = .ok (.aload_n 0, 1) := by decide +kernel
theorem d_M_deliver_15 : decode b_M_deliver 15 = .ok (.iload_n 2, 1) := by decide +kernel
theorem d_M_deliver_16 : decode b_M_deliver 16 = .ok (.invokevirtual 113, 3) := by decide +kernel
theorem d_M_deliver_19 : decode b_M_deliver 19 = .ok (.ifCond .eq 7, 3) := by decide +kernel
theorem d_M_deliver_22 : decode b_M_deliver 22 = .ok (.iconst 1, 1) := by decide +kernel
theorem d_M_deliver_23 : decode b_M_deliver 23 = .ok (.goto 4, 3) := by decide +kernel
theorem d_M_deliver_26 : decode b_M_deliver 26 = .ok (.iconst 0, 1) := by decide +kernel
theorem d_M_deliver_27 : decode b_M_deliver 27 = .ok (.istore_n 3, 1) := by decide +kernel
theorem d_M_deliver_28 : decode b_M_deliver 28 = .ok (.aload_n 0, 1) := by decide +kernel
theorem d_M_deliver_29 : decode b_M_deliver 29 = .ok (.iconst 5, 1) := by decide +kernel
theorem d_M_deliver_30 : decode b_M_deliver 30 = .ok (.iload_n 3, 1) := by decide +kernel
theorem d_M_deliver_31 : decode b_M_deliver 31 = .ok (.iconst 1, 1) := by decide +kernel
theorem d_M_deliver_32 : decode b_M_deliver 32 = .ok (.iload_n 3, 1) := by decide +kernel
theorem d_M_deliver_33 : decode b_M_deliver 33 = .ok (.ifCond .eq 31, 3) := by decide +kernel
theorem d_M_deliver_36 : decode b_M_deliver 36 = .ok (.aload_n 0, 1) := by decide +kernel
theorem d_M_deliver_37 : decode b_M_deliver 37 = .ok (.getfield 65, 3) := by decide +kernel
theorem d_M_deliver_40 : decode b_M_deliver 40 = .ok (.iload_n 1, 1) := by decide +kernel
theorem d_M_deliver_41 : decode b_M_deliver 41 = .ok (.baload, 1) := by decide +kernel
theorem d_M_deliver_42 : decode b_M_deliver 42 = .ok (.ifCond .eq 22, 3) := by decide +kernel
theorem d_M_deliver_45 : decode b_M_deliver 45 = .ok (.aload_n 0, 1) := by decide +kernel
theorem d_M_deliver_46 : decode b_M_deliver 46 = .ok (.getfield 7, 3) := by decide +kernel
theorem d_M_deliver_49 : decode b_M_deliver 49 = .ok (.iload_n 2, 1) := by decide +kernel
theorem d_M_deliver_50 : decode b_M_deliver 50 = .ok (.iaload, 1) := by decide +kernel
theorem d_M_deliver_51 : decode b_M_deliver 51 = .ok (.aload_n 0, 1) := by decide +kernel
theorem d_M_deliver_52 : decode b_M_deliver 52 = .ok (.getfield 56, 3) := by decide +kernel
theorem d_M_deliver_55 : decode b_M_deliver 55 = .ok (.iload_n 1, 1) := by decide +kernel
theorem d_M_deliver_56 : decode b_M_deliver 56 = .ok (.iaload, 1) := by decide +kernel
theorem d_M_deliver_57 : decode b_M_deliver 57 = .ok (.if_icmp .ne 7, 3) := by decide +kernel
theorem d_M_deliver_60 : decode b_M_deliver 60 = .ok (.iconst 1, 1) := by decide +kernel
theorem d_M_deliver_61 : decode b_M_deliver 61 = .ok (.goto 4, 3) := by decide +kernel
theorem d_M_deliver_64 : decode b_M_deliver 64 = .ok (.iconst 0, 1) := by decide +kernel
theorem d_M_deliver_65 : decode b_M_deliver 65 = .ok (.iconst 1, 1) := by decide +kernel
theorem d_M_deliver_66 : decode b_M_deliver 66 = .ok (.invokevirtual 116, 3) := by decide +kernel
theorem d_M_deliver_69 : decode b_M_deliver 69 = .ok (.ifCond .ne 5, 3) := by decide +kernel
theorem d_M_deliver_72 : decode b_M_deliver 72 = .ok (.iconst 0, 1) := by decide +kernel
theorem d_M_deliver_73 : decode b_M_deliver 73 = .ok (.ireturn, 1) := by decide +kernel
theorem d_M_deliver_74 : decode b_M_deliver 74 = .ok (.aload_n 0, 1) := by decide +kernel
theorem d_M_deliver_75 : decode b_M_deliver 75 = .ok (.getfield 65, 3) := by decide +kernel
theorem d_M_deliver_78 : decode b_M_deliver 78 = .ok (.iload_n 1, 1) := by decide +kernel
theorem d_M_deliver_79 : decode b_M_deliver 79 = .ok (.iconst 0, 1) := by decide +kernel
theorem d_M_deliver_80 : decode b_M_deliver 80 = .ok (.bastore, 1) := by decide +kernel
theorem d_M_deliver_81 : decode b_M_deliver 81 = .ok (.aload_n 0, 1) := by decide +kernel
theorem d_M_deliver_82 : decode b_M_deliver 82 = .ok (.aload_n 0, 1) := by decide +kernel
theorem d_M_deliver_83 : decode b_M_deliver 83 = .ok (.getfield 53, 3) := by decide +kernel
theorem d_M_deliver_86 : decode b_M_deliver 86 = .ok (.iload_n 1, 1) := by decide +kernel
theorem d_M_deliver_87 : decode b_M_deliver 87 = .ok (.iaload, 1) := by decide +kernel
theorem d_M_deliver_88 : decode b_M_deliver 88 = .ok (.iload_n 2, 1) := by decide +kernel
theorem d_M_deliver_89 : decode b_M_deliver 89 = .ok (.aload_n 0, 1) := by decide +kernel
theorem d_M_deliver_90 : decode b_M_deliver 90 = .ok (.getfield 59, 3) := by decide +kernel
theorem d_M_deliver_93 : decode b_M_deliver 93 = .ok (.iload_n 1, 1) := by decide +kernel
theorem d_M_deliver_94 : decode b_M_deliver 94 = .ok (.iaload, 1) := by decide +kernel
theorem d_M_deliver_95 : decode b_M_deliver 95 = .ok (.invokevirtual 139, 3) := by decide +kernel
theorem d_M_deliver_98 : decode b_M_deliver 98 = .ok (.aload_n 0, 1) := by decide +kernel
theorem d_M_deliver_99 : decode b_M_deliver 99 = .ok (.aload_n 0, 1) := by decide +kernel
theorem d_M_deliver_100 : decode b_M_deliver 100 = .ok (.getfield 53, 3) := by decide +kernel
theorem d_M_deliver_103 : decode b_M_deliver 103 = .ok (.iload_n 1, 1) := by decide +kernel
theorem d_M_deliver_104 : decode b_M_deliver 104 = .ok (.iaload, 1) := by decide +kernel
theorem d_M_deliver_105 : decode b_M_deliver 105 = .ok (.iload_n 2, 1) := by decide +kernel
theorem d_M_deliver_106 : decode b_M_deliver 106 = .ok (.invokevirtual 126, 3) := by decide +kernel
theorem d_M_deliver_109 : decode b_M_deliver 109 = .ok (.ireturn, 1) := by decide +kernel
theorem d_M_emergency_0 : decode b_M_emergency 0 = .ok (.aload_n 0, 1) := by decide +kernel
theorem d_M_emergency_1 : decode b_M_emergency 1 = .ok (.bipush 11, 2) := by decide +kernel
theorem d_M_emergency_3 : decode b_M_emergency 3 = .ok (.aload_n 0, 1) := by decide +kernel
theorem d_M_emergency_4 : decode b_M_emergency 4 = .ok (.iload_n 1, 1) := by decide +kernel
theorem d_M_emergency_5 : decode b_M_emergency 5 = .ok (.invokevirtual 109, 3) := by decide +kernel
theorem d_M_emergency_8 : decode b_M_emergency 8 = .ok (.ifCond .eq 25, 3) := by decide +kernel
theorem d_M_emergency_11 : decode b_M_emergency 11 = .ok (.iload_n 2, 1) := by decide +kernel
theorem d_M_emergency_12 : decode b_M_emergency 12 = .ok (.invokestatic 120, 3) := by decide +kernel
theorem d_M_emergency_15 : decode b_M_emergency 15 = .ok (.ifCond .eq 18, 3) := by decide +kernel
theorem d_M_emergency_18 : decode b_M_emergency 18 = .ok (.iload 4, 2) := by decide +kernel
theorem d_M_emergency_20 : decode b_M_emergency 20 = .ok (.iconst 0, 1) := by decide +kernel
theorem d_M_emergency_21 : decode b_M_emergency 21 = .ok (.bipush 19, 2) := by decide +kernel
theorem d_M_emergency_23 : decode b_M_emergency 23 = .ok (.invokestatic 102, 3) := by decide +kernel
theorem d_M_emergency_26 : decode b_M_emergency 26 = .ok (.ifCond .eq 7, 3) := by decide +kernel
theorem d_M_emergency_29 : decode b_M_emergency 29 = .ok (.iconst 1, 1) := by decide +kernel
theorem d_M_emergency_30 : decode b_M_emergency 30 = .ok (.goto 4, 3) := by decide +kernel
theorem d_M_emergency_33 : decode b_M_emergency 33 = .ok (.iconst 0, 1) := by decide +kernel
theorem d_M_emergency_34 : decode b_M_emergency 34 = .ok (.iload_n 3, 1) := by decide +kernel
theorem d_M_emergency_35 : decode b_M_emergency 35 = .ok (.invokestatic 123, 3) := by decide +kernel
theorem d_M_emergency_38 : decode b_M_emergency 38 = .ok (.iconst 1, 1) := by decide +kernel
theorem d_M_emergency_39 : decode b_M_emergency 39 = .ok (.aload_n 0, 1) := by decide +kernel
theorem d_M_emergency_40 : decode b_M_emergency 40 = .ok (.getfield 161, 3) := by decide +kernel
theorem d_M_emergency_43 : decode b_M_emergency 43 = .ok (.bipush 20, 2) := by decide +kernel
theorem d_M_emergency_45 : decode b_M_emergency 45 = .ok (.if_icmp .ge 7, 3) := by decide +kernel
theorem d_M_emergency_48 : decode b_M_emergency 48 = .ok (.iconst 1, 1) := by decide +kernel
theorem d_M_emergency_49 : decode b_M_emergency 49 = .ok (.goto 4, 3) := by decide +kernel
theorem d_M_emergency_52 : decode b_M_emergency 52 = .ok (.iconst 0, 1) := by decide +kernel
theorem d_M_emergency_53 : decode b_M_emergency 53 = .ok (.invokevirtual 116, 3) := by decide +kernel
theorem d_M_emergency_56 : decode b_M_emergency 56 = .ok (.ifCond .ne 5, 3) := by decide +kernel
theorem d_M_emergency_59 : decode b_M_emergency 59 = .ok (.iconst 0, 1) := by decide +kernel
theorem d_M_emergency_60 : decode b_M_emergency 60 = .ok (.ireturn, 1) := by decide +kernel
theorem d_M_emergency_61 : decode b_M_emergency 61 = .ok (.aload_n 0, 1) := by decide +kernel
theorem d_M_emergency_62 : decode b_M_emergency 62 = .ok (.getfield 68, 3) := by decide +kernel
theorem d_M_emergency_65 : decode b_M_emergency 65 = .ok (.aload_n 0, 1) := by decide +kernel
theorem d_M_emergency_66 : decode b_M_emergency 66 = .ok (.getfield 161, 3) := by decide +kernel
theorem d_M_emergency_69 : decode b_M_emergency 69 = .ok (.iload_n 1, 1) := by decide +kernel
theorem d_M_emergency_70 : decode b_M_emergency 70 = .ok (.iastore, 1) := by decide +kernel
theorem d_M_emergency_71 : decode b_M_emergency 71 = .ok (.aload_n 0, 1) := by decide +kernel
theorem d_M_emergency_72 : decode b_M_emergency 72 = .ok (.getfield 71, 3) := by decide +kernel
theorem d_M_emergency_75 : decode b_M_emergency 75 = .ok (.aload_n 0, 1) := by decide +kernel
theorem d_M_emergency_76 : decode b_M_emergency 76 = .ok (.getfield 161, 3) := by decide +kernel
theorem d_M_emergency_79 : decode b_M_emergency 79 = .ok (.iload_n 2, 1) := by decide +kernel
theorem d_M_emergency_80 : decode b_M_emergency 80 = .ok (.iastore, 1) := by decide +kernel
theorem d_M_emergency_81 : decode b_M_emergency 81 = .ok (.aload_n 0, 1) := by decide +kernel
theorem d_M_emergency_82 : decode b_M_emergency 82 = .ok (.getfield 74, 3) := by decide +kernel
theorem d_M_emergency_85 : decode b_M_emergency 85 = .ok (.aload_n 0, 1) := by decide +kernel
theorem d_M_emergency_86 : decode b_M_emergency 86 = .ok (.getfield 161, 3) := by decide +kernel
theorem d_M_emergency_89 : decode b_M_emergency 89 = .ok (.iload_n 3, 1) := by decide +kernel
theorem d_M_emergency_90 : decode b_M_emergency 90 = .ok (.iastore, 1) := by decide +kernel
theorem d_M_emergency_91 : decode b_M_emergency 91 = .ok (.aload_n 0, 1) := by decide +kernel
theorem d_M_emergency_92 : decode b_M_emergency 92 = .ok (.getfield 77, 3) := by decide +kernel
theorem d_M_emergency_95 : decode b_M_emergency 95 = .ok (.aload_n 0, 1) := by decide +kernel
theorem d_M_emergency_96 : decode b_M_emergency 96 = .ok (.getfield 161, 3) := by decide +kernel
theorem d_M_emergency_99 : decode b_M_emergency 99 = .ok (.iload 4, 2) := by decide +kernel
theorem d_M_emergency_101 : decode b_M_emergency 101 = .ok (.iastore, 1) := by decide +kernel
theorem d_M_emergency_102 : decode b_M_emergency 102 = .ok (.aload_n 0, 1) := by decide +kernel
theorem d_M_emergency_103 : decode b_M_emergency 103 = .ok (.dup, 1) := by decide +kernel
theorem d_M_emergency_104 : decode b_M_emergency 104 = .ok (.getfield 161, 3) := by decide +kernel
theorem d_M_emergency_107 : decode b_M_emergency 107 = .ok (.iconst 1, 1) := by decide +kernel
theorem d_M_emergency_108 : decode b_M_emergency 108 = .ok (.iadd, 1) := by decide +kernel
theorem d_M_emergency_109 : decode b_M_emergency 109 = .ok (.putfield 161, 3) := by decide +kernel
theorem d_M_emergency_112 : decode b_M_emergency 112 = .ok (.aload_n 0, 1) := by decide +kernel
theorem d_M_emergency_113 : decode b_M_emergency 113 = .ok (.getfield 161, 3) := by decide +kernel
theorem d_M_emergency_116 : decode b_M_emergency 116 = .ok (.iconst 1, 1) := by decide +kernel
theorem d_M_emergency_117 : decode b_M_emergency 117 = .ok (.isub, 1) := by decide +kernel
theorem d_M_emergency_118 : decode b_M_emergency 118 = .ok (.ireturn, 1) := by decide +kernel
theorem d_M_second_0 : decode b_M_second 0 = .ok (.iload_n 1, 1) := by decide +kernel
theorem d_M_second_1 : decode b_M_second 1 = .ok (.iconst 0, 1) := by decide +kernel
theorem d_M_second_2 : decode b_M_second 2 = .ok (.aload_n 0, 1) := by decide +kernel
theorem d_M_second_3 : decode b_M_second 3 = .ok (.getfield 161, 3) := by decide +kernel
theorem d_M_second_6 : decode b_M_second 6 = .ok (.iconst 1, 1) := by decide +kernel
theorem d_M_second_7 : decode b_M_second 7 = .ok (.isub, 1) := by decide +kernel
theorem d_M_second_8 : decode b_M_second 8 = .ok (.invokestatic 102, 3) := by decide +kernel
theorem d_M_second_11 : decode b_M_second 11 = .ok (.ifCond .eq 17, 3) := by decide +kernel
theorem d_M_second_14 : decode b_M_second 14 = .ok (.iload_n 2, 1) := by decide +kernel
theorem d_M_second_15 : decode b_M_second 15 = .ok (.iconst 0, 1) := by decide +kernel
theorem d_M_second_16 : decode b_M_second 16 = .ok (.bipush 19, 2) := by decide +kernel
theorem d_M_second_18 : decode b_M_second 18 = .ok (.invokestatic 102, 3) := by decide +kernel
theorem d_M_second_21 : decode b_M_second 21 = .ok (.ifCond .eq 7, 3) := by decide +kernel
theorem d_M_second_24 : decode b_M_second 24 = .ok (.iconst 1, 1) := by decide +kernel
theorem d_M_second_25 : decode b_M_second 25 = .ok (.goto 4, 3) := by decide +kernel
theorem d_M_second_28 : decode b_M_second 28 = .ok (.iconst 0, 1) := by decide +kernel
theorem d_M_second_29 : decode b_M_second 29 = .ok (.istore_n 3, 1) := by decide +kernel
theorem d_M_second_30 : decode b_M_second 30 = .ok (.aload_n 0, 1) := by decide +kernel
theorem d_M_second_31 : decode b_M_second 31 = .ok (.bipush 13, 2) := by decide +kernel
theorem d_M_second_33 : decode b_M_second 33 = .ok (.iload_n 3, 1) := by decide +kernel
theorem d_M_second_34 : decode b_M_second 34 = .ok (.iconst 1, 1) := by decide +kernel
theorem d_M_second_35 : decode b_M_second 35 = .ok (.iload_n 3, 1) := by decide +kernel
theorem d_M_second_36 : decode b_M_second 36 = .ok (.ifCond .eq 26, 3) := by decide +kernel
theorem d_M_second_39 : decode b_M_second 39 = .ok (.aload_n 0, 1) := by decide +kernel
theorem d_M_second_40 : decode b_M_second 40 = .ok (.getfield 80, 3) := by decide +kernel
theorem d_M_second_43 : decode b_M_second 43 = .ok (.iload_n 1, 1) := by decide +kernel
theorem d_M_second_44 : decode b_M_second 44 = .ok (.baload, 1) := by decide +kernel
theorem d_M_second_45 : decode b_M_second 45 = .ok (.ifCond .ne 17, 3) := by decide +kernel
theorem d_M_second_48 : decode b_M_second 48 = .ok (.aload_n 0, 1) := by decide +kernel
theorem d_M_second_49 : decode b_M_second 49 = .ok (.getfield 77, 3) := by decide +kernel
theorem d_M_second_52 : decode b_M_second 52 = .ok (.iload_n 1, 1) := by decide +kernel
theorem d_M_second_53 : decode b_M_second 53 = .ok (.iaload, 1) := by decide +kernel
theorem d_M_second_54 : decode b_M_second 54 = .ok (.iload_n 2, 1) := by decide +kernel
theorem d_M_second_55 : decode b_M_second 55 = .ok (.if_icmp .eq 7, 3) := by decide +kernel
theorem d_M_second_58 : decode b_M_second 58 = .ok (.iconst 1, 1) := by decide +kernel
theorem d_M_second_59 : decode b_M_second 59 = .ok (.goto 4, 3) := by decide +kernel
theorem d_M_second_62 : decode b_M_second 62 = .ok (.iconst 0, 1) := by decide +kernel
theorem d_M_second_63 : decode b_M_second 63 = .ok (.aload_n 0, 1) := by decide +kernel
theorem d_M_second_64 : decode b_M_second 64 = .ok (.getfield 152, 3) := by decide +kernel
theorem d_M_second_67 : decode b_M_second 67 = .ok (.bipush 80, 2) := by decide +kernel
theorem d_M_second_69 : decode b_M_second 69 = .ok (.if_icmp .ge 7, 3) := by decide +kernel
theorem d_M_second_72 : decode b_M_second 72 = .ok (.iconst 1, 1) := by decide +kernel
theorem d_M_second_73 : decode b_M_second 73 = .ok (.goto 4, 3) := by decide +kernel
theorem d_M_second_76 : decode b_M_second 76 = .ok (.iconst 0, 1) := by decide +kernel
theorem d_M_second_77 : decode b_M_second 77 = .ok (.invokevirtual 116, 3) := by decide +kernel
theorem d_M_second_80 : decode b_M_second 80 = .ok (.ifCond .ne 5, 3) := by decide +kernel
theorem d_M_second_83 : decode b_M_second 83 = .ok (.iconst 0, 1) := by decide +kernel
theorem d_M_second_84 : decode b_M_second 84 = .ok (.ireturn, 1) := by decide +kernel
theorem d_M_second_85 : decode b_M_second 85 = .ok (.aload_n 0, 1) := by decide +kernel
theorem d_M_second_86 : decode b_M_second 86 = .ok (.getfield 80, 3) := by decide +kernel
theorem d_M_second_89 : decode b_M_second 89 = .ok (.iload_n 1, 1) := by decide +kernel
theorem d_M_second_90 : decode b_M_second 90 = .ok (.iconst 1, 1) := by decide +kernel
theorem d_M_second_91 : decode b_M_second 91 = .ok (.bastore, 1) := by decide +kernel
theorem d_M_second_92 : decode b_M_second 92 = .ok (.aload_n 0, 1) := by decide +kernel
theorem d_M_second_93 : decode b_M_second 93 = .ok (.aload_n 0, 1) := by decide +kernel
theorem d_M_second_94 : decode b_M_second 94 = .ok (.getfield 68, 3) := by decide +kernel
theorem d_M_second_97 : decode b_M_second 97 = .ok (.iload_n 1, 1) := by decide +kernel
theorem d_M_second_98 : decode b_M_second 98 = .ok (.iaload, 1) := by decide +kernel
theorem d_M_second_99 : decode b_M_second 99 = .ok (.aload_n 0, 1) := by decide +kernel
theorem d_M_second_100 : decode b_M_second 100 = .ok (.getfield 71, 3) := by decide +kernel
theorem d_M_second_103 : decode b_M_second 103 = .ok (.iload_n 1, 1) := by decide +kernel
theorem d_M_second_104 : decode b_M_second 104 = .ok (.iaload, 1) := by decide +kernel
theorem d_M_second_105 : decode b_M_second 105 = .ok (.aload_n 0, 1) := by decide +kernel
theorem d_M_second_106 : decode b_M_second 106 = .ok (.getfield 74, 3) := by decide +kernel
theorem d_M_second_109 : decode b_M_second 109 = .ok (.iload_n 1, 1) := by decide +kernel
theorem d_M_second_110 : decode b_M_second 110 = .ok (.iaload, 1) := by decide +kernel
theorem d_M_second_111 : decode b_M_second 111 = .ok (.invokevirtual 158, 3) := by decide +kernel
theorem d_M_second_114 : decode b_M_second 114 = .ok (.aload_n 0, 1) := by decide +kernel
theorem d_M_second_115 : decode b_M_second 115 = .ok (.getfield 152, 3) := by decide +kernel
theorem d_M_second_118 : decode b_M_second 118 = .ok (.iconst 1, 1) := by decide +kernel
theorem d_M_second_119 : decode b_M_second 119 = .ok (.isub, 1) := by decide +kernel
theorem d_M_second_120 : decode b_M_second 120 = .ok (.ireturn, 1) := by decide +kernel
theorem d_M_count_0 : decode b_M_count 0 = .ok (.aload_n 0, 1) := by decide +kernel
theorem d_M_count_1 : decode b_M_count 1 = .ok (.iload_n 1, 1) := by decide +kernel
theorem d_M_count_2 : decode b_M_count 2 = .ok (.invokevirtual 109, 3) := by decide +kernel
theorem d_M_count_5 : decode b_M_count 5 = .ok (.ifCond .eq 15, 3) := by decide +kernel
theorem d_M_count_8 : decode b_M_count 8 = .ok (.aload_n 0, 1) := by decide +kernel
theorem d_M_count_9 : decode b_M_count 9 = .ok (.iload_n 2, 1) := by decide +kernel
theorem d_M_count_10 : decode b_M_count 10 = .ok (.invokevirtual 113, 3) := by decide +kernel
theorem d_M_count_13 : decode b_M_count 13 = .ok (.ifCond .eq 7, 3) := by decide +kernel
theorem d_M_count_16 : decode b_M_count 16 = .ok (.iconst 1, 1) := by decide +kernel
theorem d_M_count_17 : decode b_M_count 17 = .ok (.goto 4, 3) := by decide +kernel
theorem d_M_count_20 : decode b_M_count 20 = .ok (.iconst 0, 1) := by decide +kernel
theorem d_M_count_21 : decode b_M_count 21 = .ok (.istore 5, 2) := by decide +kernel
theorem d_M_count_23 : decode b_M_count 23 = .ok (.iload_n 3, 1) := by decide +kernel
theorem d_M_count_24 : decode b_M_count 24 = .ok (.aload_n 0, 1) := by decide +kernel
theorem d_M_count_25 : decode b_M_count 25 = .ok (.iload_n 1, 1) := by decide +kernel
theorem d_M_count_26 : decode b_M_count 26 = .ok (.iload_n 2, 1) := by decide +kernel
theorem d_M_count_27 : decode b_M_count 27 = .ok (.invokevirtual 126, 3) := by decide +kernel
theorem d_M_count_30 : decode b_M_count 30 = .ok (.isub, 1) := by decide +kernel
theorem d_M_count_31 : decode b_M_count 31 = .ok (.istore 6, 2) := by decide +kernel
theorem d_M_count_33 : decode b_M_count 33 = .ok (.aload_n 0, 1) := by decide +kernel
theorem d_M_count_34 : decode b_M_count 34 = .ok (.bipush 11, 2) := by decide +kernel
theorem d_M_count_36 : decode b_M_count 36 = .ok (.iload 5, 2) := by decide +kernel
theorem d_M_count_38 : decode b_M_count 38 = .ok (.iload_n 3, 1) := by decide +kernel
theorem d_M_count_39 : decode b_M_count 39 = .ok (.iconst 0, 1) := by decide +kernel
theorem d_M_count_40 : decode b_M_count 40 = .ok (.sipush 9999, 3) := by decide +kernel
theorem d_M_count_43 : decode b_M_count 43 = .ok (.invokestatic 102, 3) := by decide +kernel
theorem d_M_count_46 : decode b_M_count 46 = .ok (.ifCond .eq 18, 3) := by decide +kernel
theorem d_M_count_49 : decode b_M_count 49 = .ok (.iload 4, 2) := by decide +kernel
theorem d_M_count_51 : decode b_M_count 51 = .ok (.iconst 1, 1) := by decide +kernel
theorem d_M_count_52 : decode b_M_count 52 = .ok (.bipush 99, 2) := by decide +kernel
theorem d_M_count_54 : decode b_M_count 54 = .ok (.invokestatic 102, 3) := by decide +kernel
theorem d_M_count_57 : decode b_M_count 57 = .ok (.ifCond .eq 7, 3) := by decide +kernel
theorem d_M_count_60 : decode b_M_count 60 = .ok (.iconst 1, 1) := by decide +kernel
theorem d_M_count_61 : decode b_M_count 61 = .ok (.goto 4, 3) := by decide +kernel
theorem d_M_count_64 : decode b_M_count 64 = .ok (.iconst 0, 1) := by decide +kernel
theorem d_M_count_65 : decode b_M_count 65 = .ok (.iconst 1, 1) := by decide +kernel
theorem d_M_count_66 : decode b_M_count 66 = .ok (.iload 6, 2) := by decide +kernel
theorem d_M_count_68 : decode b_M_count 68 = .ok (.ifCond .eq 12, 3) := by decide +kernel
theorem d_M_count_71 : decode b_M_count 71 = .ok (.aload_n 0, 1) := by decide +kernel
theorem d_M_count_72 : decode b_M_count 72 = .ok (.getfield 164, 3) := by decide +kernel
theorem d_M_count_75 : decode b_M_count 75 = .ok (.bipush 80, 2) := by decide +kernel
theorem d_M_count_77 : decode b_M_count 77 = .ok (.if_icmp .ge 7, 3) := by decide +kernel
theorem d_M_count_80 : decode b_M_count 80 = .ok (.iconst 1, 1) := by decide +kernel
theorem d_M_count_81 : decode b_M_count 81 = .ok (.goto 4, 3) := by decide +kernel
theorem d_M_count_84 : decode b_M_count 84 = .ok (.iconst 0, 1) := by decide +kernel
theorem d_M_count_85 : decode b_M_count 85 = .ok (.invokevirtual 116, 3) := by decide +kernel
theorem d_M_count_88 : decode b_M_count 88 = .ok (.ifCond .ne 5, 3) := by decide +kernel
theorem d_M_count_91 : decode b_M_count 91 = .ok (.iconst 0, 1) := by decide +kernel
theorem d_M_count_92 : decode b_M_count 92 = .ok (.ireturn, 1) := by decide +kernel
theorem d_M_count_93 : decode b_M_count 93 = .ok (.aload_n 0, 1) := by decide +kernel
theorem d_M_count_94 : decode b_M_count 94 = .ok (.getfield 25, 3) := by decide +kernel
theorem d_M_count_97 : decode b_M_count 97 = .ok (.iload_n 1, 1) := by decide +kernel
theorem d_M_count_98 : decode b_M_count 98 = .ok (.bipush 60, 2) := by decide +kernel
theorem d_M_count_100 : decode b_M_count 100 = .ok (.imul, 1) := by decide +kernel
theorem d_M_count_101 : decode b_M_count 101 = .ok (.iload_n 2, 1) := by decide +kernel
theorem d_M_count_102 : decode b_M_count 102 = .ok (.iadd, 1) := by decide +kernel
theorem d_M_count_103 : decode b_M_count 103 = .ok (.iload_n 3, 1) := by decide +kernel
theorem d_M_count_104 : decode b_M_count 104 = .ok (.iastore, 1) := by decide +kernel
theorem d_M_count_105 : decode b_M_count 105 = .ok (.iload 6, 2) := by decide +kernel
theorem d_M_count_107 : decode b_M_count 107 = .ok (.ifCond .ne 5, 3) := by decide +kernel
theorem d_M_count_110 : decode b_M_count 110 = .ok (.iconst 0, 1) := by decide +kernel
theorem d_M_count_111 : decode b_M_count 111 = .ok (.ireturn, 1) := by decide +kernel
theorem d_M_count_112 : decode b_M_count 112 = .ok (.aload_n 0, 1) := by decide +kernel
theorem d_M_count_113 : decode b_M_count 113 = .ok (.getfield 83, 3) := by decide +kernel
theorem d_M_count_116 : decode b_M_count 116 = .ok (.iconst 5, 1) := by decide +kernel
theorem d_M_count_117 : decode b_M_count 117 = .ok (.aload_n 0, 1) := by decide +kernel
theorem d_M_count_118 : decode b_M_count 118 = .ok (.getfield 164, 3) := by decide +kernel
theorem d_M_count_121 : decode b_M_count 121 = .ok (.imul, 1) := by decide +kernel
theorem d_M_count_122 : decode b_M_count 122 = .ok (.iload_n 1, 1) := by decide +kernel
theorem d_M_count_123 : decode b_M_count 123 = .ok (.iastore, 1) := by decide +kernel
theorem d_M_count_124 : decode b_M_count 124 = .ok (.aload_n 0, 1) := by decide +kernel
theorem d_M_count_125 : decode b_M_count 125 = .ok (.getfield 83, 3) := by decide +kernel
theorem d_M_count_128 : decode b_M_count 128 = .ok (.iconst 5, 1) := by decide +kernel
theorem d_M_count_129 : decode b_M_count 129 = .ok (.aload_n 0, 1) := by decide +kernel
theorem d_M_count_130 : decode b_M_count 130 = .ok (.getfield 164, 3) := by decide +kernel
theorem d_M_count_133 : decode b_M_count 133 = .ok (.imul, 1) := by decide +kernel
theorem d_M_count_134 : decode b_M_count 134 = .ok (.iconst 1, 1) := by decide +kernel
theorem d_M_count_135 : decode b_M_count 135 = .ok (.iadd, 1) := by decide +kernel
theorem d_M_count_136 : decode b_M_count 136 = .ok (.iload_n 2, 1) := by decide +kernel
theorem d_M_count_137 : decode b_M_count 137 = .ok (.iastore, 1) := by decide +kernel
theorem d_M_count_138 : decode b_M_count 138 = .ok (.aload_n 0, 1) := by decide +kernel
theorem d_M_count_139 : decode b_M_count 139 = .ok (.getfield 83, 3) := by decide +kernel
theorem d_M_count_142 : decode b_M_count 142 = .ok (.iconst 5, 1) := by decide +kernel
theorem d_M_count_143 : decode b_M_count 143 = .ok (.aload_n 0, 1) := by decide +kernel
theorem d_M_count_144 : decode b_M_count 144 = .ok (.getfield 164, 3) := by decide +kernel
theorem d_M_count_147 : decode b_M_count 147 = .ok (.imul, 1) := by decide +kernel
theorem d_M_count_148 : decode b_M_count 148 = .ok (.iconst 2, 1) := by decide +kernel
theorem d_M_count_149 : decode b_M_count 149 = .ok (.iadd, 1) := by decide +kernel
theorem d_M_count_150 : decode b_M_count 150 = .ok (.iload 6, 2) := by decide +kernel
theorem d_M_count_152 : decode b_M_count 152 = .ok (.iastore, 1) := by decide +kernel
theorem d_M_count_153 : decode b_M_count 153 = .ok (.aload_n 0, 1) := by decide +kernel
theorem d_M_count_154 : decode b_M_count 154 = .ok (.getfield 83, 3) := by decide +kernel
theorem d_M_count_157 : decode b_M_count 157 = .ok (.iconst 5, 1) := by decide +kernel
theorem d_M_count_158 : decode b_M_count 158 = .ok (.aload_n 0, 1) := by decide +kernel
theorem d_M_count_159 : decode b_M_count 159 = .ok (.getfield 164, 3) := by decide +kernel
theorem d_M_count_162 : decode b_M_count 162 = .ok (.imul, 1) := by decide +kernel
theorem d_M_count_163 : decode b_M_count 163 = .ok (.iconst 3, 1) := by decide +kernel
theorem d_M_count_164 : decode b_M_count 164 = .ok (.iadd, 1) := by decide +kernel
theorem d_M_count_165 : decode b_M_count 165 = .ok (.iload 4, 2) := by decide +kernel
theorem d_M_count_167 : decode b_M_count 167 = .ok (.iastore, 1) := by decide +kernel
theorem d_M_count_168 : decode b_M_count 168 = .ok (.aload_n 0, 1) := by decide +kernel
theorem d_M_count_169 : decode b_M_count 169 = .ok (.getfield 83, 3) := by decide +kernel
theorem d_M_count_172 : decode b_M_count 172 = .ok (.iconst 5, 1) := by decide +kernel
theorem d_M_count_173 : decode b_M_count 173 = .ok (.aload_n 0, 1) := by decide +kernel
theorem d_M_count_174 : decode b_M_count 174 = .ok (.getfield 164, 3) := by decide +kernel
theorem d_M_count_177 : decode b_M_count 177 = .ok (.imul, 1) := by decide +kernel
theorem d_M_count_178 : decode b_M_count 178 = .ok (.iconst 4, 1) := by decide +kernel
theorem d_M_count_179 : decode b_M_count 179 = .ok (.iadd, 1) := by decide +kernel
theorem d_M_count_180 : decode b_M_count 180 = .ok (.aload_n 0, 1) := by decide +kernel
theorem d_M_count_181 : decode b_M_count 181 = .ok (.getfield 136, 3) := by decide +kernel
theorem d_M_count_184 : decode b_M_count 184 = .ok (.iastore, 1) := by decide +kernel
theorem d_M_count_185 : decode b_M_count 185 = .ok (.aload_n 0, 1) := by decide +kernel
theorem d_M_count_186 : decode b_M_count 186 = .ok (.dup, 1) := by decide +kernel
theorem d_M_count_187 : decode b_M_count 187 = .ok (.getfield 164, 3) := by decide +kernel
theorem d_M_count_190 : decode b_M_count 190 = .ok (.iconst 1, 1) := by decide +kernel
theorem d_M_count_191 : decode b_M_count 191 = .ok (.iadd, 1) := by decide +kernel
theorem d_M_count_192 : decode b_M_count 192 = .ok (.putfield 164, 3) := by decide +kernel
theorem d_M_count_195 : decode b_M_count 195 = .ok (.iload 6, 2) := by decide +kernel
theorem d_M_count_197 : decode b_M_count 197 = .ok (.ireturn, 1) := by decide +kernel
theorem d_M_difference_0 : decode b_M_difference 0 = .ok (.aload_n 0, 1) := by decide +kernel
theorem d_M_difference_1 : decode b_M_difference 1 = .ok (.iconst 1, 1) := by decide +kernel
theorem d_M_difference_2 : decode b_M_difference 2 = .ok (.iload_n 1, 1) := by decide +kernel
theorem d_M_difference_3 : decode b_M_difference 3 = .ok (.iconst 0, 1) := by decide +kernel
theorem d_M_difference_4 : decode b_M_difference 4 = .ok (.aload_n 0, 1) := by decide +kernel
theorem d_M_difference_5 : decode b_M_difference 5 = .ok (.getfield 164, 3) := by decide +kernel
theorem d_M_difference_8 : decode b_M_difference 8 = .ok (.iconst 1, 1) := by decide +kernel
theorem d_M_difference_9 : decode b_M_difference 9 = .ok (.isub, 1) := by decide +kernel
theorem d_M_difference_10 : decode b_M_difference 10 = .ok (.invokestatic 102, 3) := by decide +kernel
theorem d_M_difference_13 : decode b_M_difference 13 = .ok (.ifCond .eq 16, 3) := by decide +kernel
theorem d_M_difference_16 : decode b_M_difference 16 = .ok (.iload_n 2, 1) := by decide +kernel
theorem d_M_difference_17 : decode b_M_difference 17 = .ok (.iconst 0, 1) := by decide +kernel
theorem d_M_difference_18 : decode b_M_difference 18 = .ok (.iconst 4, 1) := by decide +kernel
theorem d_M_difference_19 : decode b_M_difference 19 = .ok (.invokestatic 102, 3) := by decide +kernel
theorem d_M_difference_22 : decode b_M_difference 22 = .ok (.ifCond .eq 7, 3) := by decide +kernel
theorem d_M_difference_25 : decode b_M_difference 25 = .ok (.iconst 1, 1) := by decide +kernel
theorem d_M_difference_26 : decode b_M_difference 26 = .ok (.goto 4, 3) := by decide +kernel
theorem d_M_difference_29 : decode b_M_difference 29 = .ok (.iconst 0, 1) := by decide +kernel
theorem d_M_difference_30 : decode b_M_difference 30 = .ok (.iconst 1, 1) := by decide +kernel
theorem d_M_difference_31 : decode b_M_difference 31 = .ok (.iconst 1, 1) := by decide +kernel
theorem d_M_difference_32 : decode b_M_difference 32 = .ok (.iconst 1, 1) := by decide +kernel
theorem d_M_difference_33 : decode b_M_difference 33 = .ok (.invokevirtual 116, 3) := by decide +kernel
theorem d_M_difference_36 : decode b_M_difference 36 = .ok (.ifCond .ne 5, 3) := by decide +kernel
theorem d_M_difference_39 : decode b_M_difference 39 = .ok (.iconst 0, 1) := by decide +kernel
theorem d_M_difference_40 : decode b_M_difference 40 = .ok (.ireturn, 1) := by decide +kernel
theorem d_M_difference_41 : decode b_M_difference 41 = .ok (.aload_n 0, 1) := by decide +kernel
theorem d_M_difference_42 : decode b_M_difference 42 = .ok (.getfield 83, 3) := by decide +kernel
theorem d_M_difference_45 : decode b_M_difference 45 = .ok (.iconst 5, 1) := by decide +kernel
theorem d_M_difference_46 : decode b_M_difference 46 = .ok (.iload_n 1, 1) := by decide +kernel
theorem d_M_difference_47 : decode b_M_difference 47 = .ok (.imul, 1) := by decide +kernel
theorem d_M_difference_48 : decode b_M_difference 48 = .ok (.iload_n 2, 1) := by decide +kernel
theorem d_M_difference_49 : decode b_M_difference 49 = .ok (.iadd, 1) := by decide +kernel
theorem d_M_difference_50 : decode b_M_difference 50 = .ok (.iaload, 1) := by decide +kernel
theorem d_M_difference_51 : decode b_M_difference 51 = .ok (.ireturn, 1) := by decide +kernel
theorem d_M_kit_0 : decode b_M_kit 0 = .ok (.aload_n 0, 1) := by decide +kernel
theorem d_M_kit_1 : decode b_M_kit 1 = .ok (.iconst 3, 1) := by decide +kernel
theorem d_M_kit_2 : decode b_M_kit 2 = .ok (.iload_n 1, 1) := by decide +kernel
theorem d_M_kit_3 : decode b_M_kit 3 = .ok (.iconst 0, 1) := by decide +kernel
theorem d_M_kit_4 : decode b_M_kit 4 = .ok (.iconst 4, 1) := by decide +kernel
theorem d_M_kit_5 : decode b_M_kit 5 = .ok (.invokestatic 102, 3) := by decide +kernel
theorem d_M_kit_8 : decode b_M_kit 8 = .ok (.ifCond .eq 14, 3) := by decide +kernel
theorem d_M_kit_11 : decode b_M_kit 11 = .ok (.iload_n 2, 1) := by decide +kernel
theorem d_M_kit_12 : decode b_M_kit 12 = .ok (.invokestatic 120, 3) := by decide +kernel
theorem d_M_kit_15 : decode b_M_kit 15 = .ok (.ifCond .eq 7, 3) := by decide +kernel
theorem d_M_kit_18 : decode b_M_kit 18 = .ok (.iconst 1, 1) := by decide +kernel
theorem d_M_kit_19 : decode b_M_kit 19 = .ok (.goto 4, 3) := by decide +kernel
theorem d_M_kit_22 : decode b_M_kit 22 = .ok (.iconst 0, 1) := by decide +kernel
theorem d_M_kit_23 : decode b_M_kit 23 = .ok (.iload_n 3, 1) := by decide +kernel
theorem d_M_kit_24 : decode b_M_kit 24 = .ok (.iconst 0, 1) := by decide +kernel
theorem d_M_kit_25 : decode b_M_kit 25 = .ok (.bipush 20, 2) := by decide +kernel
theorem d_M_kit_27 : decode b_M_kit 27 = .ok (.invokestatic 102, 3) := by decide +kernel
theorem d_M_kit_30 : decode b_M_kit 30 = .ok (.iconst 1, 1) := by decide +kernel
theorem d_M_kit_31 : decode b_M_kit 31 = .ok (.iconst 1, 1) := by decide +kernel
theorem d_M_kit_32 : decode b_M_kit 32 = .ok (.invokevirtual 116, 3) := by decide +kernel
theorem d_M_kit_35 : decode b_M_kit 35 = .ok (.ifCond .eq 15, 3) := by decide +kernel
theorem d_M_kit_38 : decode b_M_kit 38 = .ok (.aload_n 0, 1) := by decide +kernel
theorem d_M_kit_39 : decode b_M_kit 39 = .ok (.getfield 86, 3) := by decide +kernel
theorem d_M_kit_42 : decode b_M_kit 42 = .ok (.iload_n 1, 1) := by decide +kernel
theorem d_M_kit_43 : decode b_M_kit 43 = .ok (.bipush 10, 2) := by decide +kernel
theorem d_M_kit_45 : decode b_M_kit 45 = .ok (.imul, 1) := by decide +kernel
theorem d_M_kit_46 : decode b_M_kit 46 = .ok (.iload_n 2, 1) := by decide +kernel
theorem d_M_kit_47 : decode b_M_kit 47 = .ok (.iadd, 1) := by decide +kernel
theorem d_M_kit_48 : decode b_M_kit 48 = .ok (.iload_n 3, 1) := by decide +kernel
theorem d_M_kit_49 : decode b_M_kit 49 = .ok (.iastore, 1) := by decide +kernel
